/-! both sides together: what keeps what -/
theorem mkS_pi {R : Ru} {S : Sx} (hok : rok (3 + S.2.2.2.length) R) (pi : PI S) : PI (mkS R S).2 := by
  unfold mkS
  cases hm : mkOK R S with
  | false => rw [if_neg (by decide)]; exact pi
  | true =>
    rw [if_pos rfl]
    intro i hi
    have hi : i < 3 + (S.2.2.2 ++ [R]).length := hi
    rw [List.length_append, List.length_singleton] at hi
    show Srt (updL S.1 (3 + S.2.2.2.length) (nz (rfill R S.1)) i) ∧ ∀ r ∈ updL S.1 (3 + S.2.2.2.length) (nz (rfill R S.1)) i, r.2 ≠ 0
    unfold updL
    by_cases e : i = 3 + S.2.2.2.length
    · rw [if_pos e]; exact ⟨nz_srt (rfill_srt13 hok pi.srt), fun r hr => (nz_mem.mp hr).2⟩
    · rw [if_neg e]; exact pi i (by omega)
theorem tabS_pi {v : Int32} {S : Sx} (pi : PI S) : PI (tabS v S).2 := by
  unfold tabS; split
  · next h => exact mkS_pi (show cl v < 3 from (inR_c (n := 3) (by decide) h).2) pi
  · exact pi
theorem filS_pi {v c t n : Int32} {S : Sx} (hn : S.2.2.2.length ≤ 10) (pi : PI S) : PI (filS v c t n S).2 := by
  unfold filS; split
  · next h =>
    simp only [Bool.and_eq_true] at h
    have h1 := (inR_c (n := S.2.2.2.length) (by omega) h.1).2
    have h2 := (inR_c (n := 3) (by decide) h.2.1).2
    have h3 := (inR_c (n := 4) (by decide) h.2.2).2
    exact mkS_pi (show 3 ≤ 3 + cl v ∧ 3 + cl v < 3 + S.2.2.2.length ∧ cl c < 3 ∧ cl t < 4 from ⟨by omega, by omega, h2, h3⟩) pi
  · exact pi
theorem mapS_pi {v x y z : Int32} {S : Sx} (hn : S.2.2.2.length ≤ 10) (pi : PI S) : PI (mapS v x y z S).2 := by
  unfold mapS; split
  · next h =>
    simp only [Bool.and_eq_true] at h
    have h1 := (inR_c (n := S.2.2.2.length) (by omega) h.1).2
    have h2 := (inR_c (n := 6) (by decide) h.2.1).2
    have h3 := (inR_c (n := 6) (by decide) h.2.2.1).2
    have h4 := (inR_c (n := 6) (by decide) h.2.2.2).2
    exact mkS_pi (show 3 ≤ 3 + cl v ∧ 3 + cl v < 3 + S.2.2.2.length ∧ cl x < 6 ∧ cl y < 6 ∧ cl z < 6 from ⟨by omega, by omega, h2, h3, h4⟩) pi
  · exact pi
theorem joiS_pi {v w c d p : Int32} {S : Sx} (hn : S.2.2.2.length ≤ 10) (pi : PI S) : PI (joiS v w c d p S).2 := by
  unfold joiS; split
  · next h =>
    simp only [Bool.and_eq_true] at h
    have h1 := (inR_c (n := S.2.2.2.length) (by omega) h.1).2
    have h2 := (inR_c (n := S.2.2.2.length) (by omega) h.2.1).2
    have h3 := (inR_c (n := 3) (by decide) h.2.2.1).2
    have h4 := (inR_c (n := 3) (by decide) h.2.2.2.1).2
    have h5 := (inR_c (n := 216) (by decide) h.2.2.2.2).2
    exact mkS_pi (show 3 ≤ 3 + cl v ∧ 3 + cl v < 3 + S.2.2.2.length ∧ 3 ≤ 3 + cl w ∧ 3 + cl w < 3 + S.2.2.2.length ∧ cl c < 3 ∧ cl d < 3 ∧ cl p < 216 from ⟨by omega, by omega, by omega, by omega, h3, h4, h5⟩) pi
  · exact pi
theorem comS_pi {v w k : Int32} {S : Sx} (hn : S.2.2.2.length ≤ 10) (pi : PI S) : PI (comS v w k S).2 := by
  unfold comS; split
  · next h =>
    simp only [Bool.and_eq_true] at h
    have h1 := (inR_c (n := S.2.2.2.length) (by omega) h.1).2
    have h2 := (inR_c (n := S.2.2.2.length) (by omega) h.2.1).2
    have h3 := (inR_c (n := 2) (by decide) h.2.2).2
    exact mkS_pi (show 3 ≤ 3 + cl v ∧ 3 + cl v < 3 + S.2.2.2.length ∧ 3 ≤ 3 + cl w ∧ 3 + cl w < 3 + S.2.2.2.length ∧ cl k < 2 from ⟨by omega, by omega, by omega, by omega, h3⟩) pi
  · exact pi
theorem disS_pi {v : Int32} {S : Sx} (hn : S.2.2.2.length ≤ 10) (pi : PI S) : PI (disS v S).2 := by
  unfold disS; split
  · next h =>
    have h1 := (inR_c (n := S.2.2.2.length) (by omega) h).2
    exact mkS_pi (show 3 ≤ 3 + cl v ∧ 3 + cl v < 3 + S.2.2.2.length from ⟨by omega, by omega⟩) pi
  · exact pi
theorem groS_pi {v k c d : Int32} {S : Sx} (hn : S.2.2.2.length ≤ 10) (pi : PI S) : PI (groS v k c d S).2 := by
  unfold groS; split
  · next h =>
    simp only [Bool.and_eq_true] at h
    have h1 := (inR_c (n := S.2.2.2.length) (by omega) h.1).2
    have h2 := (inR_c (n := 3) (by decide) h.2.1).2
    have h3 := (inR_c (n := 3) (by decide) h.2.2.1).2
    have h4 := (inR_c (n := 4) (by decide) h.2.2.2).2
    exact mkS_pi (show 3 ≤ 3 + cl v ∧ 3 + cl v < 3 + S.2.2.2.length ∧ cl k < 3 ∧ cl c < 3 ∧ cl d < 4 from ⟨by omega, by omega, h2, h3, h4⟩) pi
  · exact pi
theorem chaS_pi {t a b c y : Int32} {S : Sx} (pi : PI S) : PI (chaS t a b c y S).2 := by
  unfold chaS; split
  · split
    · exact pi
    · exact pi
  · exact pi
theorem droS_pi {S : Sx} (pi : PI S) : PI (droS S).2 := pi
theorem stpS_pi {S : Sx} (hok : ∀ (j : Nat) (R : Ru), S.2.2.2[j]? = some R → rok (3 + j) R) (pi : PI S) : PI (stpS S).2 := by
  unfold stpS; split
  · exact pi
  · split
    · exact pi
    · split
      · exact pi
      · exact nwS_si hok (fun i hi => ⟨nz_srt (addP_srt _ (pi.srt i (by omega))), fun r hr => (nz_mem.mp hr).2⟩) _ (Nat.le_refl _)
abbrev rokM (j : Nat) (R : Ru) : Prop := rok j R
theorem MH.some {o : Om} {h : AH} {m : Nat} {ad : Nat → Nat} {MI : Nat → Nat → Int32} {ML : Nat → Nat → Int64} {MV : Nat → Int32} (hM : MH o h m ad MI ML MV) {q : Nat} (hq : mown m ad q) : (∃ e, h q = Option.some (.inl e)) ∨ ∃ fs, h q = Option.some (.inr (10, fs)) := by
  rcases hq with e | ⟨k, hk, e⟩
  · subst e; exact Or.inr ⟨_, hM.1⟩
  · subst e
    cases hi : intK k with
    | true => exact Or.inl ⟨_, hM.2.1 k hi⟩
    | false => rw [hi] at hk; exact Or.inl ⟨_, hM.2.2.1 k hk⟩
theorem MS.some {o : Om} {h : AH} {m : Nat} {ad : Nat → Nat} {S : Sx} (hs : MS o h m ad S) {q : Nat} (hq : mown m ad q) : (∃ e, h q = Option.some (.inl e)) ∨ ∃ fs, h q = Option.some (.inr (10, fs)) := by
  obtain ⟨MI, ML, MV, hM, -⟩ := hs
  exact hM.some hq
theorem MS.obj {o : Om} {h : AH} {m : Nat} {ad : Nat → Nat} {S : Sx} (hs : MS o h m ad S) : ∃ fs, h m = Option.some (.inr (10, fs)) := by
  obtain ⟨MI, ML, MV, hM, -⟩ := hs
  exact ⟨_, hM.1⟩
theorem MS.rks {o : Om} {h : AH} {m : Nat} {ad : Nat → Nat} {S : Sx} (hs : MS o h m ad S) : ∀ (j : Nat) (R : Ru), S.2.2.2[j]? = Option.some R → rokM (3 + j) R := by
  obtain ⟨MI, ML, MV, hM, -, -, -, -, hR, -⟩ := hs
  exact fun j R hj => (hR j R hj).2
theorem MS.frm {o : Om} {h h' : AH} {m : Nat} {ad : Nat → Nat} {S : Sx} {X : Nat → Prop} (hs : MS o h m ad S) (hX : ∀ q, mown m ad q → ¬ X q) (hf : Frm X h h') : MS o h' m ad S := by
  obtain ⟨MI, ML, MV, ⟨a1, a2, a3, a4⟩, hrest⟩ := hs
  exact ⟨MI, ML, MV, ⟨(hf _ (hX _ (Or.inl rfl))).trans a1, fun k hk => (hf _ (hX _ (Or.inr ⟨k, by rw [hk]; rfl, rfl⟩))).trans (a2 k hk), fun k hk => (hf _ (hX _ (Or.inr ⟨k, by rw [hk, Bool.or_true], rfl⟩))).trans (a3 k hk), a4⟩, hrest⟩
theorem CI.frm {o : Om} {h h' : AH} {x : Nat} {G : Gh} {S : Sx} {X : Nat → Prop} (hc : CI o h x G S) (hx : ¬ X x) (hX : ∀ q, ownG G q → ¬ X q) (hr : ∀ (a ci : Nat) (fs : List Value), h a = some (.inr (ci, fs)) → ci ≠ 10 → ¬ X a) (hf : Frm X h h') : CI o h' x G S := by
  obtain ⟨g, hx0, hn, Ls, Ns, wl, rf, cf, hd, rest⟩ := hc
  exact ⟨g, (hf x hx).trans hx0, hn, Ls, Ns, wl, rf, cf, hd.frm hX (fun a ci fs ha _ _ _ n10 => hr a ci fs ha n10) hf, rest⟩
theorem CI.own {o : Om} {h : AH} {x : Nat} {G : Gh} {S : Sx} (hc : CI o h x G S) {q : Nat} (hq : q = x ∨ ownG G q) : ∃ e, h q = some e := by
  obtain ⟨g, hx0, hn, Ls, Ns, wl, rf, cf, hd, rest⟩ := hc
  rcases hq with e | hq
  · subst e; exact ⟨_, hx0⟩
  · obtain ⟨e, he, -⟩ := hd.kind hq
    exact ⟨e, he⟩
def Apt (x : Nat) (G : Gh) (m : Nat) (ad : Nat → Nat) : Prop := ∀ q, mown m ad q → ¬ (q = x ∨ ownG G q)
def JI (o : Om) (h : AH) (x : Nat) (G : Gh) (m : Nat) (ad : Nat → Nat) (S : Sx) : Prop := CI o h x G S ∧ MS o h m ad S ∧ PI S ∧ Apt x G m ad
theorem JI.cls {o : Om} {h h' : AH} {x : Nat} {G : Gh} {m : Nat} {ad : Nat → Nat} {S S' : Sx} (j : JI o h x G m ad S) (u : Upd o h h' x G S') : ∃ G', CI o h' x G' S' ∧ MS o h' m ad S ∧ Apt x G' m ad := by
  obtain ⟨jc, jm, jp, ja⟩ := j
  obtain ⟨G', c', hsub, hf⟩ := u
  refine ⟨G', c', jm.frm (fun q hq hx => ?_) hf, fun q hq z => ja q hq (z.imp id (hsub q))⟩
  rcases hx with e | e | e
  · exact ja q hq (Or.inl e)
  · exact ja q hq (Or.inr e)
  · rcases jm.some hq with ⟨_, z⟩ | ⟨_, z⟩ <;> rw [e] at z <;> cases z
theorem JI.mod {o : Om} {h h' : AH} {x : Nat} {G : Gh} {m : Nat} {ad : Nat → Nat} {S S' : Sx} (c : CI o h x G S') (jm : MS o h m ad S) (ja : Apt x G m ad) (u : MUp o h h' m ad S') (pi : PI S') : JI o h' x G m ad S' := by
  obtain ⟨m', hf⟩ := u
  refine ⟨c.frm (fun z => ja x z (Or.inl rfl)) (fun q hq z => ja q z (Or.inr hq)) (fun a ci fs ha n10 z => ?_) hf, m', pi, ja⟩
  rcases jm.some z with ⟨_, w⟩ | ⟨_, w⟩ <;> rw [ha] at w
  · cases w
  · have : ci = 10 := by injection w with w; injection w with w; injection w
    exact n10 this
