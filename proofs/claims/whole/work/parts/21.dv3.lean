/-! DELTAVIEWS: the state that its calls show, make and the calls that make a node -/
abbrev Sx : Type := (Nat → List Rw) × List Pn × (Nat → Int32) × List Ru
def CI (o : Om) (h : AH) (x : Nat) (G : Gh) (S : Sx) : Prop := GD G ∧ DX h x G (nI S.2.2.2.length) ∧ S.2.2.2.length ≤ 10 ∧ ∃ (Ls Ns : Nat → List Rw) (wl : List Rw) (rf : Nat → Option Nat) (cf : Nat → Int32), DB o h G Ls Ns wl S.2.1 rf cf S.2.2.2 ∧ (∀ i, i < 13 → Srt (Ls i)) ∧ (∀ i, i < 13 → Srt (Ns i)) ∧ (∀ i, i < 3 + S.2.2.2.length → Ls i = S.1 i) ∧ (∀ j, j < S.2.2.2.length → cf j = S.2.2.1 j)
def xown (h : AH) (x : Nat) (G : Gh) (q : Nat) : Prop := q = x ∨ ownG G q ∨ h q = none
def Upd (o : Om) (h h' : AH) (x : Nat) (G : Gh) (S : Sx) : Prop := ∃ G', CI o h' x G' S ∧ (∀ q, ownG G' q → ownG G q) ∧ Frm (xown h x G) h h'
theorem Upd.rf {o : Om} {h : AH} {x : Nat} {G : Gh} {S : Sx} (hc : CI o h x G S) : Upd o h h x G S := ⟨G, hc, fun _ h => h, Frm.rf⟩
theorem Frm.x {h h' : AH} {x : Nat} {G : Gh} (hf : Frm (ownG G) h h') : Frm (xown h x G) h h' := hf.mono (fun _ hq => Or.inr (Or.inl hq))
theorem rfill_congr {R : Ru} {j : Nat} (hok : rok j R) {Ls Ms : Nat → List Rw} (h3 : 3 ≤ j) (e : ∀ i, i < j → Ls i = Ms i) : rfill R Ls = rfill R Ms := by
  obtain ⟨kd, a, b, c, d, f, n⟩ := R
  rcases kd with _ | _ | _ | _ | _ | _ | _ | kd
  · have k1 : a < 3 := hok
    show Ls a = Ms a
    rw [e a (by omega)]
  · obtain ⟨k1, k2, -⟩ : 3 ≤ a ∧ a < j ∧ b < 3 ∧ c < 4 := hok
    show (Ls a).foldl _ [] = (Ms a).foldl _ []
    rw [e a k2]
  · obtain ⟨k1, k2, -⟩ : 3 ≤ a ∧ a < j ∧ b < 6 ∧ c < 6 ∧ d < 6 := hok
    show (Ls a).foldl _ [] = (Ms a).foldl _ []
    rw [e a k2]
  · obtain ⟨k1, k2, k3, k4, -⟩ : 3 ≤ a ∧ a < j ∧ 3 ≤ b ∧ b < j ∧ c < 3 ∧ d < 3 ∧ f < 216 := hok
    show (Ls a).foldl (JO c d (f / 36) (f / 6 % 6) (f % 6) (Ls b)) [] = (Ms a).foldl (JO c d (f / 36) (f / 6 % 6) (f % 6) (Ms b)) []
    rw [e a k2, e b k4]
  · obtain ⟨k1, k2, k3, k4, -⟩ : 3 ≤ a ∧ a < j ∧ 3 ≤ b ∧ b < j ∧ c < 2 := hok
    show (Ls b).foldl _ (Ls a) = (Ms b).foldl _ (Ms a)
    rw [e a k2, e b k4]
  · obtain ⟨k1, k2⟩ : 3 ≤ a ∧ a < j := hok
    show (Ls a).foldl _ [] = (Ms a).foldl _ []
    rw [e a k2]
  · obtain ⟨k1, k2, -⟩ : 3 ≤ a ∧ a < j ∧ b < 3 ∧ c < 3 ∧ d < 4 := hok
    show GRi d b c (Ls a) (Ls a).length = GRi d b c (Ms a) (Ms a).length
    rw [e a k2]
  · exact absurd hok id
theorem Gd.srt0 {F : List Rw → Rw → List Rw} (hF : Gd F) (M : List Rw) : Srt (M.foldl F []) := hF.srt M List.Pairwise.nil
theorem rfill_srt {R : Ru} {j : Nat} (hok : rok j R) {Ls : Nat → List Rw} (hj : j ≤ 13) (h3 : 3 ≤ j) (hs : ∀ i, i < 13 → Srt (Ls i)) : Srt (rfill R Ls) := by
  obtain ⟨kd, a, b, c, d, f, n⟩ := R
  rcases kd with _ | _ | _ | _ | _ | _ | _ | kd
  · have k1 : a < 3 := hok
    exact hs a (by omega)
  · exact (gdF b c n).srt0 _
  · exact (gdM b c d).srt0 _
  · exact JO_srt _ List.Pairwise.nil
  · obtain ⟨k1, k2, k3, k4, -⟩ : 3 ≤ a ∧ a < j ∧ 3 ≤ b ∧ b < j ∧ c < 2 := hok
    exact (gdC (sgF c)).srt _ (hs a (by omega))
  · exact gdD.srt0 _
  · exact GRi_srt _ _ _ _ _
  · exact absurd hok id
def mkOK (R : Ru) (S : Sx) : Bool := decide (S.2.2.2.length < 10) && fitB 24 (nz (rfill R S.1))
def mkS (R : Ru) (S : Sx) : Int32 × Sx := if mkOK R S = true then (nI S.2.2.2.length, (updL S.1 (3 + S.2.2.2.length) (nz (rfill R S.1)), S.2.1, upd S.2.2.1 S.2.2.2.length 0, S.2.2.2 ++ [R])) else (-2, S)
theorem castR {K : Kx} {cc : ByteArray} {nL : Nat} {own nm : String} {rm : Room} {ret : Option FieldType} (C : Cx K cc nL own rm ret nm) {R : Ru} {j : Nat} (hok : rok j R) : ∃ (ci : Nat) (fs : List Value) (r : vw_C), rcell R = .inr (ci, fs) ∧ vwCl[ci]? = some r ∧ va_Nw (.castable r.1 "DeltaViews$Rule") (Ks K) := by
  have hx := C.2.2.2.2.2.2.2.2.2.2.2
  obtain ⟨kd, a, b, c, d, f, n⟩ := R
  rcases kd with _ | _ | _ | _ | _ | _ | _ | kd
  · exact ⟨_, _, _, rfl, rfl, (hx ("DeltaViews$TableRule", yTR_fill) (by decide +kernel)).2.2.2.2⟩
  · exact ⟨_, _, _, rfl, rfl, (hx ("DeltaViews$FilterRule", yFR_fill) (by decide +kernel)).2.2.2.2⟩
  · exact ⟨_, _, _, rfl, rfl, (hx ("DeltaViews$MapRule", yMR_fill) (by decide +kernel)).2.2.2.2⟩
  · exact ⟨_, _, _, rfl, rfl, (hx ("DeltaViews$JoinRule", yJR_fill) (by decide +kernel)).2.2.2.2⟩
  · exact ⟨_, _, _, rfl, rfl, (hx ("DeltaViews$CombineRule", yCR_fill) (by decide +kernel)).2.2.2.2⟩
  · exact ⟨_, _, _, rfl, rfl, (hx ("DeltaViews$DistinctRule", yDR_fill) (by decide +kernel)).2.2.2.2⟩
  · exact ⟨_, _, _, rfl, rfl, (hx ("DeltaViews$GroupRule", yGR_fill) (by decide +kernel)).2.2.2.2⟩
  · exact absurd hok id
theorem DB.nrule {o : Om} {h : AH} {G : Gh} {Ls Ns : Nat → List Rw} {wl : List Rw} {pl : List Pn} {rf : Nat → Option Nat} {cf : Nat → Int32} {Rl : List Ru} (hd : DB o h G Ls Ns wl pl rf cf Rl) {rr : Nat} {R : Ru} (hr : h rr = some (rcell R)) : ¬ ownG G rr := fun hq => by
  obtain ⟨e, h1, h2⟩ := hd.kind hq
  obtain ⟨ci, fs, e3, n0, n1, -, -⟩ := rcell_obj R
  rw [hr, e3] at h1
  cases h1
  rcases h2 with h2 | h2
  · exact n0 h2
  · exact n1 h2
theorem DB.n9 {o : Om} {h : AH} {G : Gh} {Ls Ns : Nat → List Rw} {wl : List Rw} {pl : List Pn} {rf : Nat → Option Nat} {cf : Nat → Int32} {Rl : List Ru} (hd : DB o h G Ls Ns wl pl rf cf Rl) {x : Nat} {fs : List Value} (hx : h x = some (.inr (9, fs))) : ¬ ownG G x := fun hq => by
  obtain ⟨e, h1, h2⟩ := hd.kind hq
  rw [hx] at h1
  cases h1
  rcases h2 with h2 | h2 <;> cases h2
theorem CI.fresh {o : Om} {h : AH} {x : Nat} {G : Gh} {S : Sx} (hc : CI o h x G S) {rr : Nat} (hr : h rr = none) (y : va_E) : CI o (hu h rr y) x G S := by
  obtain ⟨g, hx, hn, Ls, Ns, wl, rf, cf, hd, h1⟩ := hc
  refine ⟨g, ?_, hn, Ls, Ns, wl, rf, cf, hd.fresh hr y, h1⟩
  unfold DX at hx ⊢
  rw [hu_ne _ _ (fun e => by rw [e, hr] at hx; cases hx)]
  exact hx
set_option maxHeartbeats 4000000 in
set_option maxRecDepth 100000 in
/-- make -/
theorem c_DV_make (l : Launch) (o : Om) (h : AH) (x rr : Nat) (R : Ru) (G : Gh) (S : Sx) (hc : CI o h x G S) (hrr : h rr = some (rcell R)) (hok : rok (3 + S.2.2.2.length) R) : Mt l o yDV_make cDV_make 3 (some .int) ({ frames := 6, cells := 0, slots := 0, locals := 174 } : Room) [.ref x, .ref rr] h (QI o (fun r h' => r = (mkS R S).1 ∧ Upd o h h' x G (mkS R S).2)) (0) (0) := by
  refine Met.ofV (by decide) (Nat.le_of_ble_eq_true rfl) (fun K hl ho C => ?_)
  subst hl; subst ho
  obtain ⟨g, hx, hn, Ls, Ns, wl, rf, cf, hd, hsL, hsN, hag, hcf⟩ := id hc
  unfold DX at hx
  refine r_aload_n (n := 1) C dDV_make_0 rfl rfl ?_
  refine r_get (ci := 9) (n := 4) C hinDV rfl 6 (by decide) tw_72 rfl dDV_make_1 rfl hx rfl ?_
  refine r_bipush (v := 10) (n := 6) C dDV_make_4 rfl (by decide) ?_
  refine r_icmp_ge (tgt := 25) (n := 9) C dDV_make_6 (by decide) rfl (fun c_6 => ?_) (fun c_6 => ?_)
  · have hz : mkOK R S = false := by
      have : ¬ S.2.2.2.length < 10 := by have := (nI_leI (a := 10) (b := S.2.2.2.length) (by omega) (by omega)).mp c_6; omega
      unfold mkOK; rw [decide_eq_false this]; rfl
    refine r_bipush (v := -2) (n := 27) C dDV_make_25 rfl (by decide) ?_
    exact r_iret C dDV_make_27 (Nat.le_refl _) (Nat.le_refl _) ⟨by unfold mkS; rw [hz]; rfl, by unfold mkS; rw [hz]; exact Upd.rf hc⟩
  · have hnd : S.2.2.2.length < 10 := by
      rcases Nat.lt_or_ge S.2.2.2.length 10 with q | q
      · exact q
      · exact absurd (nI_le (a := 10) (b := S.2.2.2.length) q (by omega)) c_6
    have hrc := rfill_congr hok (by omega) hag
    refine r_aload_n (n := 10) C dDV_make_9 rfl rfl ?_
    refine r_aload_n (n := 11) C dDV_make_10 rfl rfl ?_
    refine r_aload_n (n := 12) C dDV_make_11 rfl rfl ?_
    refine r_get (ci := 9) (n := 15) C hinDV rfl 0 (by decide) tw_66 rfl dDV_make_12 rfl hx rfl ?_
    refine r_aload_n (n := 16) C dDV_make_15 rfl rfl ?_
    refine r_get (ci := 9) (n := 19) C hinDV rfl 6 (by decide) tw_72 rfl dDV_make_16 rfl hx rfl ?_
    refine r_ci (n := 22) (rn_V (z := 3) (ci := 9) (T := TDV) C (c_DV_fillNode (Kl K) (Ko K) h x rr S.2.2.2.length _ R G Ls Ns wl S.2.1 rf cf S.2.2.2 hd g hx rfl hnd hrr hok hsL) tw_115 tw_117 ts_1 tw_1 tw_118 rfl rfl ndDV_fillNode ⟨Nat.le_of_ble_eq_true rfl, Nat.le_of_ble_eq_true rfl⟩ hx rfl rfl rfl (Nat.le_of_ble_eq_true rfl) dDV_make_19 ⟨Nat.le_of_ble_eq_true rfl, Nat.le_of_ble_eq_true rfl⟩) rfl (fun y h1 hq => ?_)
    rw [hrc] at hq
    obtain ⟨e1, hd1, hxe, hF1⟩ := hq
    subst e1
    have hx1 : h1 x = _ := hxe.trans hx
    refine r_if_ne (tgt := 28) (n := 25) C dDV_make_22 (by decide) rfl (fun c_22 => ?_) (fun c_22 => ?_)
    · have hz0 : fitB 24 (nz (rfill R S.1)) = true := b01_t c_22
      have hz : mkOK R S = true := by unfold mkOK; rw [hz0, decide_eq_true hnd]; rfl
      rw [hz0, if_pos rfl] at hd1
      have hrr1 : h1 rr = some (rcell R) := (hF1 rr (hd.nrule hrr)).trans hrr
      obtain ⟨ci, fsr, rc, ecell, ecl, hcast⟩ := castR C hok
      have hrr1c : h1 rr = some (.inr (ci, fsr)) := hrr1.trans (by rw [ecell])
      have hru := hd1.2.2.2.2.1
      refine r_aload_n (n := 29) C dDV_make_28 rfl rfl ?_
      refine r_get (ci := 9) (n := 32) C hinDV rfl 6 (by decide) tw_72 rfl dDV_make_29 rfl hx1 rfl ?_
      refine r_istore_n (n := 33) C dDV_make_32 rfl (by decide) ?_
      refine r_aload_n (n := 34) C dDV_make_33 rfl rfl ?_
      refine r_get (ci := 9) (n := 37) C hinDV rfl 4 (by decide) tw_70 rfl dDV_make_34 rfl hx1 rfl ?_
      refine r_iload_n (n := 38) C dDV_make_37 rfl rfl ?_
      refine r_aload_n (n := 39) C dDV_make_38 rfl rfl ?_
      refine r_aastO (n := 40) (t0 := 3) C dDV_make_39 rfl hru hrr1c ecl rfl hcast S.2.2.2.length rfl (by omega) (by omega) ?_
      have hRL : RL h1 (va_up rf S.2.2.2.length (some rr)) (S.2.2.2 ++ [R]) := by
        intro j R0 hj
        by_cases hjl : j < S.2.2.2.length
        · rw [List.getElem?_append_left hjl] at hj
          obtain ⟨a, ha1, ha2, ha3⟩ := hd1.2.2.2.2.2.2 j R0 hj
          exact ⟨a, by rw [va_up_ne _ _ (by omega)]; exact ha1, ha2, ha3⟩
        · rw [List.getElem?_append_right (by omega)] at hj
          have hz1 := (List.getElem?_eq_some_iff.mp hj).1
          have ej : j = S.2.2.2.length := by simp at hz1; omega
          subst ej
          rw [Nat.sub_self] at hj
          cases hj
          exact ⟨rr, va_up_self _ _ _, hrr1, hok⟩
      have hd2 := hd1.ru g _ _ hRL
      have hrux : gru G ≠ x := fun e => by rw [e, hx1] at hru; simp at hru
      generalize eh2 : hu h1 (gru G) _ = h2 at hd2
      have hx2 : h2 x = _ := ((congrFun eh2.symm x).trans (hu_ne _ _ (Ne.symm hrux))).trans hx1
      have hF2 : Frm (ownG G) h h2 := hF1.tr (eh2 ▸ hu_frm.mono (fun q e => Or.inr (Or.inr (Or.inl e))))
      have hch := hd2.2.2.2.2.2.1
      refine r_aload_n (n := 41) C dDV_make_40 rfl rfl ?_
      refine r_get (ci := 9) (n := 44) C hinDV rfl 5 (by decide) tw_71 rfl dDV_make_41 rfl hx2 rfl ?_
      refine r_iload_n (n := 45) C dDV_make_44 rfl rfl ?_
      refine r_iconst (v := 0) (n := 46) C dDV_make_45 rfl (by decide) ?_
      refine r_iast (n := 47) C dDV_make_46 rfl hch S.2.2.2.length rfl (by omega) (by omega) ?_
      have hd3 := hd2.ch g (upd cf S.2.2.2.length 0)
      have hchx : gch G ≠ x := fun e => by rw [e, hx2] at hch; simp at hch
      generalize eh3 : hu h2 (gch G) _ = h3 at hd3
      have hx3 : h3 x = _ := ((congrFun eh3.symm x).trans (hu_ne _ _ (Ne.symm hchx))).trans hx2
      have hF3 : Frm (ownG G) h h3 := hF2.tr (eh3 ▸ hu_frm.mono (fun q e => Or.inr (Or.inr (Or.inr (Or.inl e)))))
      refine r_aload_n (n := 48) C dDV_make_47 rfl rfl ?_
      refine r_dup (n := 49) C dDV_make_48 rfl rfl ?_
      refine r_get (ci := 9) (n := 52) C hinDV rfl 6 (by decide) tw_72 rfl dDV_make_49 rfl hx3 rfl ?_
      refine r_iconst (v := 1) (n := 53) C dDV_make_52 rfl (by decide) ?_
      refine r_iadd (n := 54) C dDV_make_53 rfl ?_
      refine V.eqi (nI_1 _) ?_
      refine r_put (ci := 9) (n := 57) C hinDV tyDV okDV nmDV rfl 6 (by decide) tw_72 rfl rfl (okDV 6 (by decide)) rfl rfl dDV_make_54 rfl hx3 (Nat.le_of_ble_eq_true rfl) ?_
      have hd4 := hd3.own9 hx3 (.inr (9, [.ref (gnw G), .ref (gnx G), .ref (gwk G).1, .ref (gP G).1, .ref (gru G), .ref (gch G), .int (nI (S.2.2.2.length + 1))]))
      refine r_iload_n (n := 58) C dDV_make_57 rfl rfl ?_
      exact r_iret C dDV_make_58 (Nat.le_refl _) (Nat.le_refl _) ⟨by unfold mkS; rw [hz]; rfl, by
            unfold mkS; rw [hz]
            refine ⟨G, ⟨g, ?_, ?_, _, Ns, _, _, _, hd4, updL_srt hsL (nz_srt (hrc ▸ rfill_srt hok (by omega) (by omega) hsL)), hsN, fun i hi => ?_, fun j hj => ?_⟩, fun _ h => h, hF3.x.tr (hu_frm.mono (fun q e => Or.inl e))⟩
            · show hu h3 x _ x = _
              rw [hu_eq]
              simp only [if_pos]
              rw [List.length_append]; rfl
            · simp only [if_pos]; rw [List.length_append]; exact hnd
            · simp only [if_pos] at hi ⊢
              rw [List.length_append] at hi
              unfold updL
              by_cases e : i = 3 + S.2.2.2.length
              · rw [if_pos e, if_pos e]
              · rw [if_neg e, if_neg e]
                exact hag i (by simp at hi; omega)
            · simp only [if_pos] at hj ⊢
              rw [List.length_append] at hj
              by_cases e : j = S.2.2.2.length
              · subst e; rw [pk_us, pk_us]
              · rw [pk_un e, pk_un e]
                exact hcf j (by simp at hj; omega)⟩
    · have hz0 : fitB 24 (nz (rfill R S.1)) = false := b01_f c_22
      have hz : mkOK R S = false := by unfold mkOK; rw [hz0, Bool.and_false]
      rw [hz0] at hd1
      refine r_bipush (v := -2) (n := 27) C dDV_make_25 rfl (by decide) ?_
      exact r_iret C dDV_make_27 (Nat.le_refl _) (Nat.le_refl _) ⟨by unfold mkS; rw [hz]; rfl, by unfold mkS; rw [hz]; exact ⟨G, ⟨g, hx1, hn, Ls, Ns, _, rf, cf, hd1, hsL, hsN, hag, hcf⟩, fun _ h => h, hF1.x⟩⟩
