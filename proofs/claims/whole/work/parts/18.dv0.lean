/-! DELTAVIEWS: its cells (a layout G), its state -/
theorem r_aastO {K : Kx} {h : AH} {cells slots : Nat} {Q : State → Prop} {pc n : Nat} {ls : List (Nat × Value)} {st : List Value} {cc : ByteArray} {nL : Nat} {own nm : String} {rm : Room} {ret : Option FieldType} {i : Int32} {a N t0 ci v : Nat} {cA : ClassId} {E : String} {r : vw_C} {vs : List Value} {f : Nat → Option Nat} (C : Cx K cc nL own rm ret nm) (d : decode cc pc = .ok (.aastore, 1)) (hn : pc + 1 = n) (ha : h a = some (.inl (cA, N, .inr (.inr (.inr (.inr f)))))) (hv : h v = some (.inr (ci, vs))) (hc : vwCl[ci]? = some r) (ht : (xk_tys (Ko K))[t0]? = some (cA, .object E)) (hca : va_Nw (.castable r.1 E) (Ks K)) (j : Nat) (hi : i = nI j) (hj : j < N) (hN : N < 2147483648) (k : V K (hu h a (.inl (cA, N, .inr (.inr (.inr (.inr (va_up f j (some v)))))))) cells slots Q n ls st) : V K h cells slots Q pc ls (.ref v :: .int i :: .ref a :: st) := by
  subst hn
  intro H locs la hp hS hl
  obtain ⟨ws, hP, hD, hh⟩ := id hp
  obtain ⟨q0, hq⟩ := hh a _ ha
  obtain ⟨q1, hq1⟩ := hh v _ hv
  refine va_astqO C.1.1 C.1.2.1 C.2.1 hP hD hS q0 t0 q1 ci hq ht hca hq1 hc (xk_in hi hj hN) d (fun H1 locs1 hP1 hD1 hS1 => ?_)
  rw [xk_cl hi hj hN] at hP1 hD1
  exact k H1 locs1 la ⟨_, hP1, hD1, Hp.set hD hq hh⟩ hS1 hl
abbrev Qd : Type := Nat × Nat × Nat × Nat
def ownA (A : Qd) (q : Nat) : Prop := q = A.1 ∨ q = A.2.1 ∨ q = A.2.2.1
def ownP (P : Qd) (q : Nat) : Prop := q = P.1 ∨ q = P.2.1 ∨ q = P.2.2.1 ∨ q = P.2.2.2
def Frm (X : Nat → Prop) (h h' : AH) : Prop := ∀ q : Nat, ¬ X q → h' q = h q
theorem Frm.rf {X : Nat → Prop} {h : AH} : Frm X h h := fun _ _ => rfl
theorem Frm.tr {X : Nat → Prop} {h h1 h2 : AH} (a : Frm X h h1) (b : Frm X h1 h2) : Frm X h h2 := fun q hq => (b q hq).trans (a q hq)
theorem Frm.mono {X Y : Nat → Prop} {h h1 : AH} (a : Frm X h h1) (hXY : ∀ q, X q → Y q) : Frm Y h h1 := fun q hq => a q (fun z => hq (hXY q z))
theorem Off.frm {A : Qd} {h h' : AH} (off : Off A h h') : Frm (ownA A) h h' := fun q hq => off q (fun e => hq (Or.inl e)) (fun e => hq (Or.inr (Or.inl e))) (fun e => hq (Or.inr (Or.inr e)))
theorem POff.frm {P : Qd} {h h' : AH} (off : POff P h h') : Frm (ownP P) h h' := fun q hq => off q (fun e => hq (Or.inl e)) (fun e => hq (Or.inr (Or.inl e))) (fun e => hq (Or.inr (Or.inr (Or.inl e)))) (fun e => hq (Or.inr (Or.inr (Or.inr e))))
theorem hu_frm {h : AH} {a : Nat} {x : va_E} : Frm (fun q => q = a) h (hu h a x) := fun _ hq => hu_ne _ _ hq
section NOWN
variable {o : Om} {h h' : AH} {A B P : Qd} {L M : List Rw} {pl : List Pn} {r ci n : Nat} {fs : List Value} {c : ClassId} {X : Nat → Prop}
theorem nown_obj (hA : RA o h A L) (hr : h r = some (.inr (ci, fs))) (hc : ci ≠ 0) : ¬ ownA A r := by
  obtain ⟨f, g, a1, a2, a3, -, -, -⟩ := hA
  rintro (e | e | e)
  · rw [e, a1] at hr; simp at hr; exact hc hr.1.symm
  · rw [e, a2] at hr; simp at hr
  · rw [e, a3] at hr; simp at hr
theorem nown_q {f : Nat → Option Nat} (hA : RA o h A L) (hr : h r = some (.inl (c, n, .inr (.inr (.inr (.inr f)))))) : ¬ ownA A r := by
  obtain ⟨f, g, a1, a2, a3, -, -, -⟩ := hA
  rintro (e | e | e)
  · rw [e, a1] at hr; simp at hr
  · rw [e, a2] at hr; simp at hr
  · rw [e, a3] at hr; simp at hr
theorem nown_i {f : Nat → Int32} (hA : RA o h A L) (hr : h r = some (.inl (c, n, .inl f))) (ne : r ≠ A.2.1) : ¬ ownA A r := by
  obtain ⟨f, g, a1, a2, a3, -, -, -⟩ := hA
  rintro (e | e | e)
  · rw [e, a1] at hr; simp at hr
  · exact ne e
  · rw [e, a3] at hr; simp at hr
theorem RA.nown (hA : RA o h A L) (hB : RA o h B M) (dj : Dj A B) : ∀ q, ownA B q → ¬ ownA A q := by
  obtain ⟨f, g, a1, a2, a3, -, -, -⟩ := hA
  obtain ⟨f', g', b1, b2, b3, -, -, -⟩ := hB
  rintro q (e | e | e) (z | z | z) <;> rw [e] at z
  · exact dj.1 z.symm
  · rw [z, a2] at b1; simp at b1
  · rw [z, a3] at b1; simp at b1
  · rw [z, a1] at b2; simp at b2
  · exact dj.2.1 z.symm
  · rw [z, a3] at b2; simp at b2
  · rw [z, a1] at b3; simp at b3
  · rw [z, a2] at b3; simp at b3
  · exact dj.2.2 z.symm
theorem RA.nownP (hA : RA o h A L) (hP : PA o h P pl) (d : PD P A) : ∀ q, ownP P q → ¬ ownA A q := by
  obtain ⟨f, g, a1, a2, a3, -, -, -⟩ := hA
  obtain ⟨_, _, _, b1, b2, b3, b4, -, -, -⟩ := hP
  rintro q (e | e | e | e) (z | z | z) <;> rw [e] at z
  · rw [z, a1] at b1; simp at b1
  · rw [z, a2] at b1; simp at b1
  · rw [z, a3] at b1; simp at b1
  · rw [z, a1] at b2; simp at b2
  · exact d.1 z
  · rw [z, a3] at b2; simp at b2
  · rw [z, a1] at b3; simp at b3
  · exact d.2.1 z
  · rw [z, a3] at b3; simp at b3
  · rw [z, a1] at b4; simp at b4
  · exact d.2.2 z
  · rw [z, a3] at b4; simp at b4
theorem nownP_obj (hP : PA o h P pl) (hr : h r = some (.inr (ci, fs))) (hc : ci ≠ 1) : ¬ ownP P r := by
  obtain ⟨_, _, _, b1, b2, b3, b4, -, -, -⟩ := hP
  rintro (e | e | e | e)
  · rw [e, b1] at hr; simp at hr; exact hc hr.1.symm
  · rw [e, b2] at hr; simp at hr
  · rw [e, b3] at hr; simp at hr
  · rw [e, b4] at hr; simp at hr
theorem nownP_q {f : Nat → Option Nat} (hP : PA o h P pl) (hr : h r = some (.inl (c, n, .inr (.inr (.inr (.inr f)))))) : ¬ ownP P r := by
  obtain ⟨_, _, _, b1, b2, b3, b4, -, -, -⟩ := hP
  rintro (e | e | e | e)
  · rw [e, b1] at hr; simp at hr
  · rw [e, b2] at hr; simp at hr
  · rw [e, b3] at hr; simp at hr
  · rw [e, b4] at hr; simp at hr
theorem RA.frm (hB : RA o h B M) (hX : ∀ q, ownA B q → ¬ X q) (hf : Frm X h h') : RA o h' B M := by
  obtain ⟨f, g, b1, b2, b3, b4⟩ := hB
  exact ⟨f, g, (hf _ (hX _ (Or.inl rfl))).trans b1, (hf _ (hX _ (Or.inr (Or.inl rfl)))).trans b2, (hf _ (hX _ (Or.inr (Or.inr rfl)))).trans b3, b4⟩
theorem PA.frm (hP : PA o h P pl) (hX : ∀ q, ownP P q → ¬ X q) (hf : Frm X h h') : PA o h' P pl := by
  obtain ⟨f, g, k, b1, b2, b3, b4, b5⟩ := hP
  exact ⟨f, g, k, (hf _ (hX _ (Or.inl rfl))).trans b1, (hf _ (hX _ (Or.inr (Or.inl rfl)))).trans b2, (hf _ (hX _ (Or.inr (Or.inr (Or.inl rfl))))).trans b3, (hf _ (hX _ (Or.inr (Or.inr (Or.inr rfl))))).trans b4, b5⟩
theorem SA.frm {s : Nat} {S : Nat → Qd} {Ls : Nat → List Rw} (hS : SA o h s S Ls) (hs : ¬ X s) (hX : ∀ i, i < 13 → ∀ q, ownA (S i) q → ¬ X q) (hf : Frm X h h') : SA o h' s S Ls := by
  obtain ⟨fs, h1, h2⟩ := hS
  exact ⟨fs, (hf _ hs).trans h1, fun i hi => ⟨(h2 i hi).1, (h2 i hi).2.frm (hX i hi) hf⟩⟩
end NOWN
theorem Dj.symm {A B : Qd} (h : Dj A B) : Dj B A := ⟨h.1.symm, h.2.1.symm, h.2.2.symm⟩
def updL (Ls : Nat → List Rw) (k : Nat) (N : List Rw) : Nat → List Rw := fun i => if i = k then N else Ls i
/-- a rule: its kind, numbers, and the number of a filter -/
abbrev Ru : Type := Nat × Nat × Nat × Nat × Nat × Nat × Int32
def rcell (R : Ru) : va_E := match R with
  | (0, a, _, _, _, _, _) => .inr (2, [.int (nI a)])
  | (1, a, b, c, _, _, n) => .inr (3, [.int (nI a), .int (nI b), .int (nI c), .int n])
  | (2, a, b, c, d, _, _) => .inr (4, [.int (nI a), .int (nI b), .int (nI c), .int (nI d)])
  | (3, a, b, c, d, e, _) => .inr (5, [.int (nI a), .int (nI b), .int (nI c), .int (nI d), .int (nI e)])
  | (4, a, b, c, _, _, _) => .inr (6, [.int (nI a), .int (nI b), .int (nI c)])
  | (5, a, _, _, _, _, _) => .inr (7, [.int (nI a)])
  | (_, a, b, c, d, _, _) => .inr (8, [.int (nI a), .int (nI b), .int (nI c), .int (nI d)])
/-- its numbers are in range; its inputs are slots before j -/
def rok (j : Nat) (R : Ru) : Prop := match R with
  | (0, a, _, _, _, _, _) => a < 3
  | (1, a, b, c, _, _, _) => 3 ≤ a ∧ a < j ∧ b < 3 ∧ c < 4
  | (2, a, b, c, d, _, _) => 3 ≤ a ∧ a < j ∧ b < 6 ∧ c < 6 ∧ d < 6
  | (3, a, b, c, d, e, _) => 3 ≤ a ∧ a < j ∧ 3 ≤ b ∧ b < j ∧ c < 3 ∧ d < 3 ∧ e < 216
  | (4, a, b, c, _, _, _) => 3 ≤ a ∧ a < j ∧ 3 ≤ b ∧ b < j ∧ c < 2
  | (5, a, _, _, _, _, _) => 3 ≤ a ∧ a < j
  | (6, a, b, c, d, _, _) => 3 ≤ a ∧ a < j ∧ b < 3 ∧ c < 3 ∧ d < 4
  | _ => False
def rfill (R : Ru) (Ls : Nat → List Rw) : List Rw := match R with
  | (0, a, _, _, _, _, _) => Ls a
  | (1, a, b, c, _, _, n) => (Ls a).foldl (FRf b c n) []
  | (2, a, b, c, d, _, _) => (Ls a).foldl (MRf b c d) []
  | (3, a, b, c, d, e, _) => (Ls a).foldl (JO c d (e / 36) (e / 6 % 6) (e % 6) (Ls b)) []
  | (4, a, b, c, _, _, _) => (Ls b).foldl (CRf (sgF c)) (Ls a)
  | (5, a, _, _, _, _, _) => (Ls a).foldl DRf []
  | (_, a, b, c, d, _, _) => GRi d b c (Ls a) (Ls a).length
/-- the layout: the slots' arrays, the rules' array, changedRows, work, pending, the slots of both sides -/
abbrev Gh : Type := Nat × Nat × Nat × Nat × Qd × Qd × (Nat → Qd) × (Nat → Qd)
abbrev gnw (G : Gh) : Nat := G.1
abbrev gnx (G : Gh) : Nat := G.2.1
abbrev gru (G : Gh) : Nat := G.2.2.1
abbrev gch (G : Gh) : Nat := G.2.2.2.1
abbrev gwk (G : Gh) : Qd := G.2.2.2.2.1
abbrev gP (G : Gh) : Qd := G.2.2.2.2.2.1
abbrev gS (G : Gh) : Nat → Qd := G.2.2.2.2.2.2.1
abbrev gT (G : Gh) : Nat → Qd := G.2.2.2.2.2.2.2
def sw (G : Gh) : Gh := (gnx G, gnw G, gru G, gch G, gwk G, gP G, gT G, gS G)
def capOf (i : Nat) : Nat := if i < 3 then 12 else 24
/-- its cells are apart -/
def GD (G : Gh) : Prop := (∀ i, i < 13 → ∀ j, j < 13 → i ≠ j → Dj (gS G i) (gS G j)) ∧ (∀ i, i < 13 → ∀ j, j < 13 → i ≠ j → Dj (gT G i) (gT G j)) ∧ (∀ i, i < 13 → ∀ j, j < 13 → Dj (gS G i) (gT G j)) ∧ (∀ i, i < 13 → Dj (gwk G) (gS G i)) ∧ (∀ i, i < 13 → Dj (gwk G) (gT G i)) ∧ PD (gP G) (gwk G) ∧ (∀ i, i < 13 → PD (gP G) (gS G i)) ∧ (∀ i, i < 13 → PD (gP G) (gT G i)) ∧ (gch G ≠ (gwk G).2.1 ∧ (∀ i, i < 13 → gch G ≠ (gS G i).2.1) ∧ (∀ i, i < 13 → gch G ≠ (gT G i).2.1) ∧ ¬ ownP (gP G) (gch G)) ∧ (gnw G ≠ gnx G ∧ gru G ≠ gnw G ∧ gru G ≠ gnx G) ∧ (gwk G).2.2.2 = 576 ∧ (∀ i, i < 13 → (gS G i).2.2.2 = capOf i) ∧ (∀ i, i < 13 → (gT G i).2.2.2 = capOf i)
theorem GD.sw {G : Gh} (g : GD G) : GD (sw G) := by
  obtain ⟨a1, a2, a3, a4, a5, a6, a7, a8, ⟨a9, a10, a11, a12⟩, ⟨a13, a14, a15⟩, a16, a17, a18⟩ := g
  exact ⟨a2, a1, fun i hi j hj => (a3 j hj i hi).symm, a5, a4, a6, a8, a7, ⟨a9, a11, a10, a12⟩, ⟨a13.symm, a15, a14⟩, a16, a18, a17⟩
def ownG (G : Gh) (q : Nat) : Prop := q = gnw G ∨ q = gnx G ∨ q = gru G ∨ q = gch G ∨ ownA (gwk G) q ∨ ownP (gP G) q ∨ (∃ i, i < 13 ∧ ownA (gS G i) q) ∨ (∃ i, i < 13 ∧ ownA (gT G i) q)
theorem ownG.sw {G : Gh} {q : Nat} (h : ownG (sw G) q) : ownG G q := by
  rcases h with h | h | h | h | h | h | h | h
  · exact Or.inr (Or.inl h)
  · exact Or.inl h
  · exact Or.inr (Or.inr (Or.inl h))
  · exact Or.inr (Or.inr (Or.inr (Or.inl h)))
  · exact Or.inr (Or.inr (Or.inr (Or.inr (Or.inl h))))
  · exact Or.inr (Or.inr (Or.inr (Or.inr (Or.inr (Or.inl h)))))
  · exact Or.inr (Or.inr (Or.inr (Or.inr (Or.inr (Or.inr (Or.inr h))))))
  · exact Or.inr (Or.inr (Or.inr (Or.inr (Or.inr (Or.inr (Or.inl h))))))
theorem ownG.wk {G : Gh} {q : Nat} (h : ownA (gwk G) q) : ownG G q := Or.inr (Or.inr (Or.inr (Or.inr (Or.inl h))))
theorem ownG.P {G : Gh} {q : Nat} (h : ownP (gP G) q) : ownG G q := Or.inr (Or.inr (Or.inr (Or.inr (Or.inr (Or.inl h)))))
theorem ownG.S {G : Gh} {q i : Nat} (hi : i < 13) (h : ownA (gS G i) q) : ownG G q := Or.inr (Or.inr (Or.inr (Or.inr (Or.inr (Or.inr (Or.inl ⟨i, hi, h⟩))))))
def RL (h : AH) (rf : Nat → Option Nat) (Rl : List Ru) : Prop := ∀ (j : Nat) (R : Ru), Rl[j]? = some R → ∃ a, rf j = some a ∧ h a = some (rcell R) ∧ rok (3 + j) R
theorem rcell_obj (R : Ru) : ∃ ci fs, rcell R = .inr (ci, fs) ∧ ci ≠ 0 ∧ ci ≠ 1 ∧ ci ≠ 9 ∧ ci ≠ 10 := by
  unfold rcell
  split <;> exact ⟨_, _, rfl, by decide, by decide, by decide, by decide⟩
theorem RL.frm {h h' : AH} {rf : Nat → Option Nat} {Rl : List Ru} {X : Nat → Prop} (hR : RL h rf Rl) (hX : ∀ (a ci : Nat) (fs : List Value), h a = some (.inr (ci, fs)) → ci ≠ 0 → ci ≠ 1 → ci ≠ 9 → ci ≠ 10 → ¬ X a) (hf : Frm X h h') : RL h' rf Rl := fun j R hj => by
  obtain ⟨a, h1, h2, h3⟩ := hR j R hj
  obtain ⟨ci, fs, e, n0, n1, n9, n10⟩ := rcell_obj R
  exact ⟨a, h1, (hf a (hX a ci fs (by rw [h2, e]) n0 n1 n9 n10)).trans h2, h3⟩
def DB (o : Om) (h : AH) (G : Gh) (Ls Ns : Nat → List Rw) (wl : List Rw) (pl : List Pn) (rf : Nat → Option Nat) (cf : Nat → Int32) (Rl : List Ru) : Prop := SA o h (gnw G) (gS G) Ls ∧ SA o h (gnx G) (gT G) Ns ∧ RA o h (gwk G) wl ∧ PA o h (gP G) pl ∧ h (gru G) = some (.inl (o.2.1 3, 10, .inr (.inr (.inr (.inr rf))))) ∧ h (gch G) = some (.inl (o.2.1 0, 10, .inl cf)) ∧ RL h rf Rl
section DBS
variable {o : Om} {h h' : AH} {G : Gh} {Ls Ns : Nat → List Rw} {wl : List Rw} {pl : List Pn} {rf : Nat → Option Nat} {cf : Nat → Int32} {Rl : List Ru}
theorem DB.sw (hd : DB o h G Ls Ns wl pl rf cf Rl) : DB o h (sw G) Ns Ls wl pl rf cf Rl := ⟨hd.2.1, hd.1, hd.2.2⟩
theorem SA.slot {s : Nat} {S : Nat → Qd} (hS : SA o h s S Ls) {i : Nat} (hi : i < 13) : RA o h (S i) (Ls i) := by
  obtain ⟨fs, h1, h2⟩ := hS
  exact (h2 i hi).2
theorem DB.wk (hd : DB o h G Ls Ns wl pl rf cf Rl) (g : GD G) (hf : Frm (ownA (gwk G)) h h') {wl' : List Rw} (hr : RA o h' (gwk G) wl') : DB o h' G Ls Ns wl' pl rf cf Rl := by
  obtain ⟨d1, d2, d3, d4, d5, d6, d7⟩ := hd
  obtain ⟨a1, a2, a3, a4, a5, a6, a7, a8, ⟨a9, a10, a11, a12⟩, ⟨a13, a14, a15⟩, a16, a17, a18⟩ := g
  refine ⟨d1.frm ?_ (fun i hi => d3.nown (d1.slot hi) (a4 i hi)) hf, d2.frm ?_ (fun i hi => d3.nown (d2.slot hi) (a5 i hi)) hf, hr, d4.frm (d3.nownP d4 a6) hf, (hf _ (nown_q d3 d5)).trans d5, (hf _ (nown_i d3 d6 a9)).trans d6, d7.frm (fun a ci fs he n0 _ _ _ => nown_obj d3 he n0) hf⟩
  · obtain ⟨fs, e1, -⟩ := d1; exact nown_q d3 e1
  · obtain ⟨fs, e1, -⟩ := d2; exact nown_q d3 e1
theorem DB.slot (hd : DB o h G Ls Ns wl pl rf cf Rl) (g : GD G) {k : Nat} (hk : k < 13) (hf : Frm (ownA (gS G k)) h h') {N : List Rw} (hr : RA o h' (gS G k) N) : DB o h' G (updL Ls k N) Ns wl pl rf cf Rl := by
  obtain ⟨d1, d2, d3, d4, d5, d6, d7⟩ := hd
  obtain ⟨a1, a2, a3, a4, a5, a6, a7, a8, ⟨a9, a10, a11, a12⟩, ⟨a13, a14, a15⟩, a16, a17, a18⟩ := g
  have dk := d1.slot hk
  refine ⟨?_, d2.frm ?_ (fun i hi => dk.nown (d2.slot hi) (a3 k hk i hi)) hf, d3.frm (dk.nown d3 (a4 k hk).symm) hf, d4.frm (dk.nownP d4 (a7 k hk)) hf, (hf _ (nown_q dk d5)).trans d5, (hf _ (nown_i dk d6 (a10 k hk))).trans d6, d7.frm (fun a ci fs he n0 _ _ _ => nown_obj dk he n0) hf⟩
  · obtain ⟨fs, e1, e2⟩ := d1
    refine ⟨fs, (hf _ (nown_q dk e1)).trans e1, fun i hi => ⟨(e2 i hi).1, ?_⟩⟩
    unfold updL
    by_cases e : i = k
    · subst e; rw [if_pos rfl]; exact hr
    · rw [if_neg e]; exact (e2 i hi).2.frm (dk.nown (e2 i hi).2 (a1 k hk i hi (Ne.symm e))) hf
  · obtain ⟨fs, e1, -⟩ := d2; exact nown_q dk e1
theorem DB.pd (hd : DB o h G Ls Ns wl pl rf cf Rl) (g : GD G) (hf : Frm (ownP (gP G)) h h') {pl' : List Pn} (hr : PA o h' (gP G) pl') : DB o h' G Ls Ns wl pl' rf cf Rl := by
  obtain ⟨d1, d2, d3, d4, d5, d6, d7⟩ := hd
  obtain ⟨a1, a2, a3, a4, a5, a6, a7, a8, ⟨a9, a10, a11, a12⟩, ⟨a13, a14, a15⟩, a16, a17, a18⟩ := g
  refine ⟨d1.frm ?_ (fun i hi q hq z => (d1.slot hi).nownP d4 (a7 i hi) q z hq) hf, d2.frm ?_ (fun i hi q hq z => (d2.slot hi).nownP d4 (a8 i hi) q z hq) hf, d3.frm (fun q hq z => d3.nownP d4 a6 q z hq) hf, hr, (hf _ (nownP_q d4 d5)).trans d5, (hf _ a12).trans d6, d7.frm (fun a ci fs he _ n1 _ _ => nownP_obj d4 he n1) hf⟩
  · obtain ⟨fs, e1, -⟩ := d1; exact nownP_q d4 e1
  · obtain ⟨fs, e1, -⟩ := d2; exact nownP_q d4 e1
end DBS
theorem b01_n (b : Bool) : narrow .boolean (.int (b01 b)) = .int (b01 b) := by cases b <;> rfl
def inR (v n : Int32) : Bool := decide (¬ v < 0) && decide (¬ n ≤ v)
theorem inR_t {v : Int32} {n : Nat} (hn : n < 2147483648) (h : inR v (nI n) = true) : ∃ j, j < n ∧ v = nI j := by
  unfold inR at h
  simp only [Bool.and_eq_true, decide_eq_true_eq] at h
  rcases pk_ix v hn with e | e | e
  · exact absurd e h.1
  · exact absurd e h.2
  · exact e
def fitB (cap : Nat) (N : List Rw) : Bool := decide (N.length ≤ cap) && N.all (fun r => okW r.2)
/-- the object's own cell -/
def DX (h : AH) (x : Nat) (G : Gh) (nn : Int32) : Prop := h x = some (.inr (9, [.ref (gnw G), .ref (gnx G), .ref (gwk G).1, .ref (gP G).1, .ref (gru G), .ref (gch G), .int nn]))
set_option maxHeartbeats 4000000 in
set_option maxRecDepth 100000 in
/-- isBelow -/
theorem c_DV_isBelow (l : Launch) (o : Om) (h : AH) (v n : Int32)  : Mt l o yDV_isBelow cDV_isBelow 2 (some .boolean) ({ frames := 0, cells := 0, slots := 0, locals := 0 } : Room) [.int v, .int n] h (QI o (fun x h' => x = b01 (inR v n) ∧ h' = h)) (0) (0) := by
  refine Met.ofV (by decide) (Nat.le_of_ble_eq_true rfl) (fun K hl ho C => ?_)
  subst hl; subst ho
  refine r_iload_n (n := 1) C dDV_isBelow_0 rfl rfl ?_
  refine r_if_lt (tgt := 13) (n := 4) C dDV_isBelow_1 (by decide) rfl (fun c_1 => ?_) (fun c_1 => ?_)
  · have hz : inR v n = false := by unfold inR; rw [decide_eq_false (p := ¬ v < 0) (fun q => q c_1)]; rfl
    refine r_iconst (v := 0) (n := 14) C dDV_isBelow_13 rfl (by decide) ?_
    exact r_zret C dDV_isBelow_14 rfl (Nat.le_refl _) (Nat.le_refl _) ⟨by rw [hz]; rfl, rfl⟩
  · refine r_iload_n (n := 5) C dDV_isBelow_4 rfl rfl ?_
    refine r_iload_n (n := 6) C dDV_isBelow_5 rfl rfl ?_
    refine r_icmp_ge (tgt := 13) (n := 9) C dDV_isBelow_6 (by decide) rfl (fun c_6 => ?_) (fun c_6 => ?_)
    · have hz : inR v n = false := by unfold inR; rw [decide_eq_false (p := ¬ n ≤ v) (fun q => q c_6), Bool.and_false]
      refine r_iconst (v := 0) (n := 14) C dDV_isBelow_13 rfl (by decide) ?_
      exact r_zret C dDV_isBelow_14 rfl (Nat.le_refl _) (Nat.le_refl _) ⟨by rw [hz]; rfl, rfl⟩
    · have hz : inR v n = true := by unfold inR; rw [decide_eq_true c_6, decide_eq_true c_1]; rfl
      refine r_iconst (v := 1) (n := 10) C dDV_isBelow_9 rfl (by decide) ?_
      refine r_goto (tgt := 14) C dDV_isBelow_10 (by decide) ?_
      exact r_zret C dDV_isBelow_14 rfl (Nat.le_refl _) (Nat.le_refl _) ⟨by rw [hz]; rfl, rfl⟩
set_option maxHeartbeats 4000000 in
set_option maxRecDepth 100000 in
/-- isColumn -/
theorem c_DV_isColumn (l : Launch) (o : Om) (h : AH) (v : Int32)  : Mt l o yDV_isColumn cDV_isColumn 1 (some .boolean) ({ frames := 1, cells := 0, slots := 0, locals := 21 } : Room) [.int v] h (QI o (fun x h' => x = b01 (inR v 3) ∧ h' = h)) (0) (0) := by
  refine Met.ofV (by decide) (Nat.le_of_ble_eq_true rfl) (fun K hl ho C => ?_)
  subst hl; subst ho
  refine r_iload_n (n := 1) C dDV_isColumn_0 rfl rfl ?_
  refine r_iconst (v := 3) (n := 2) C dDV_isColumn_1 rfl (by decide) ?_
  refine r_ci (n := 5) (rn_S (z := 2) C (c_DV_isBelow (Kl K) (Ko K) h v 3) tw_95 tw_96 tw_1 tw_97 rfl rfl ndDV_isBelow.2 ⟨Nat.le_of_ble_eq_true rfl, Nat.le_of_ble_eq_true rfl⟩ rfl rfl (Nat.le_of_ble_eq_true rfl) dDV_isColumn_2 ⟨Nat.le_of_ble_eq_true rfl, Nat.le_of_ble_eq_true rfl⟩) rfl (fun x ah hq => ?_)
  obtain ⟨e1, e2⟩ := hq
  subst e1
  rw [e2]
  exact r_zret C dDV_isColumn_5 (b01_n _) (Nat.le_refl _) (Nat.le_refl _) ⟨rfl, rfl⟩
set_option maxHeartbeats 4000000 in
set_option maxRecDepth 100000 in
/-- isTable -/
theorem c_DV_isTable (l : Launch) (o : Om) (h : AH) (v : Int32)  : Mt l o yDV_isTable cDV_isTable 1 (some .boolean) ({ frames := 1, cells := 0, slots := 0, locals := 21 } : Room) [.int v] h (QI o (fun x h' => x = b01 (inR v 3) ∧ h' = h)) (0) (0) := by
  refine Met.ofV (by decide) (Nat.le_of_ble_eq_true rfl) (fun K hl ho C => ?_)
  subst hl; subst ho
  refine r_iload_n (n := 1) C dDV_isTable_0 rfl rfl ?_
  refine r_iconst (v := 3) (n := 2) C dDV_isTable_1 rfl (by decide) ?_
  refine r_ci (n := 5) (rn_S (z := 2) C (c_DV_isBelow (Kl K) (Ko K) h v 3) tw_95 tw_96 tw_1 tw_97 rfl rfl ndDV_isBelow.2 ⟨Nat.le_of_ble_eq_true rfl, Nat.le_of_ble_eq_true rfl⟩ rfl rfl (Nat.le_of_ble_eq_true rfl) dDV_isTable_2 ⟨Nat.le_of_ble_eq_true rfl, Nat.le_of_ble_eq_true rfl⟩) rfl (fun x ah hq => ?_)
  obtain ⟨e1, e2⟩ := hq
  subst e1
  rw [e2]
  exact r_zret C dDV_isTable_5 (b01_n _) (Nat.le_refl _) (Nat.le_refl _) ⟨rfl, rfl⟩
set_option maxHeartbeats 4000000 in
set_option maxRecDepth 100000 in
/-- isNode -/
theorem c_DV_isNode (l : Launch) (o : Om) (h : AH) (x : Nat) (fs : List Value) (v nn : Int32) (hx : h x = some (.inr (9, fs))) (hf : fs[6]? = some (.int nn)) : Mt l o yDV_isNode cDV_isNode 2 (some .boolean) ({ frames := 1, cells := 0, slots := 0, locals := 21 } : Room) [.ref x, .int v] h (QI o (fun r h' => r = b01 (inR v nn) ∧ h' = h)) (0) (0) := by
  refine Met.ofV (by decide) (Nat.le_of_ble_eq_true rfl) (fun K hl ho C => ?_)
  subst hl; subst ho
  refine r_iload_n (n := 1) C dDV_isNode_0 rfl rfl ?_
  refine r_aload_n (n := 2) C dDV_isNode_1 rfl rfl ?_
  refine r_get (ci := 9) (n := 5) C hinDV rfl 6 (by decide) tw_72 rfl dDV_isNode_2 rfl (by assumption) hf ?_
  refine r_ci (n := 8) (rn_S (z := 2) C (c_DV_isBelow (Kl K) (Ko K) h v nn) tw_95 tw_96 tw_1 tw_97 rfl rfl ndDV_isBelow.2 ⟨Nat.le_of_ble_eq_true rfl, Nat.le_of_ble_eq_true rfl⟩ rfl rfl (Nat.le_of_ble_eq_true rfl) dDV_isNode_5 ⟨Nat.le_of_ble_eq_true rfl, Nat.le_of_ble_eq_true rfl⟩) rfl (fun y ah hq => ?_)
  obtain ⟨e1, e2⟩ := hq
  subst e1
  rw [e2]
  exact r_zret C dDV_isNode_8 (b01_n _) (Nat.le_refl _) (Nat.le_refl _) ⟨rfl, rfl⟩
set_option maxHeartbeats 4000000 in
set_option maxRecDepth 100000 in
/-- slotOf -/
theorem c_DV_slotOf (l : Launch) (o : Om) (h : AH) (j : Nat)  : Mt l o yDV_slotOf cDV_slotOf 1 (some .int) ({ frames := 0, cells := 0, slots := 0, locals := 0 } : Room) [.int (nI j)] h (QI o (fun r h' => r = nI (3 + j) ∧ h' = h)) (0) (0) := by
  refine Met.ofV (by decide) (Nat.le_of_ble_eq_true rfl) (fun K hl ho C => ?_)
  subst hl; subst ho
  refine r_iconst (v := 3) (n := 1) C dDV_slotOf_0 rfl (by decide) ?_
  refine r_iload_n (n := 2) C dDV_slotOf_1 rfl rfl ?_
  refine r_iadd (n := 3) C dDV_slotOf_2 rfl ?_
  exact r_iret C dDV_slotOf_3 (Nat.le_refl _) (Nat.le_refl _) ⟨nI_add 3 j, rfl⟩
