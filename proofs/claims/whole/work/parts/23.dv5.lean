/-! DELTAVIEWS: reads, change, drop -/
theorem mean_ok {s t : Int64} (ht : t ≠ 0) : vf_n64 (FP.ddiv (FP.l2d s) (FP.l2d t)) := by
  have h0 : FP.Core.dIsNaN (FP.Core.l2d s) = false := (FP.Core.notNaN_iff _).mpr (by obtain ⟨a, b, c, e⟩ := FP.Core.l2d_fin s; rw [e]; exact fun z => by cases z)
  have h1 : FP.Core.dIsNaN (FP.Core.ddiv (FP.Core.l2d s) (FP.Core.l2d t)) = false := FP.Core.ddiv_out h0 (FP.Core.l2d_fin t) (fun hz => FP.Core.l2d_ne_zero ht ((FP.Core.zero_bits2 _).mp hz))
  have h2 : ¬ 9218868437227405312 < (FP.Core.ddiv (FP.Core.l2d s) (FP.Core.l2d t)).toNat % 2 ^ 63 := fun z => by
    rw [(FP.Core.isNaN_bits _).mpr z] at h1; cases h1
  show (FP.Core.ddiv (FP.Core.l2d s) (FP.Core.l2d t)) &&& 0x7fffffffffffffff ≤ 0x7ff0000000000000
  rw [UInt64.le_iff_toNat_le, FP.Core.mask_toNat]
  exact Nat.le_of_not_lt h2
abbrev NON : Int64 := -1000000000000
def weiS (v a b c : Int32) (S : Sx) : Int64 := if inR v (nod S) = true then wt (S.1 (3 + cl v)) (a, b, c) else NON
def intS (v a b c : Int32) (S : Sx) : Int64 := if inR v 3 = true then wt (S.1 (cl v)) (a, b, c) else NON
def rowS (v : Int32) (S : Sx) : Int32 := if inR v (nod S) = true then nI (S.1 (3 + cl v)).length else -1
def celS (v i c : Int32) (S : Sx) : Int64 := if (inR v (nod S) && (inR c 3 && inR i (nI (S.1 (3 + cl v)).length))) = true then (match (S.1 (3 + cl v))[cl i]? with
  | some r => (colv r.1 (cl c)).toInt64
  | none => NON) else NON
def totS (v : Int32) (S : Sx) : Int64 := if inR v (nod S) = true then sumW (S.1 (3 + cl v)) else NON
def chgS (v : Int32) (S : Sx) : Int32 := if inR v (nod S) = true then S.2.2.1 (cl v) else -1
def meaS (v c : Int32) (S : Sx) : UInt64 := if (inR v (nod S) && inR c 3) = true then (if sumW (S.1 (3 + cl v)) = 0 then FP.dconst0 else FP.ddiv (FP.l2d (sumC (cl c) (S.1 (3 + cl v)))) (FP.l2d (sumW (S.1 (3 + cl v))))) else FP.dconst0
def couS (v : Int32) (S : Sx) : Int32 := if v = 0 then nod S else if v = 1 then nI S.2.1.length else if 2 ≤ v ∧ v < 5 then nI (S.1 (cl (v - 2))).length else -1
def chaS (t a b c y : Int32) (S : Sx) : Int32 × Sx := if inR t 3 = true ∧ ¬ y < -3 ∧ ¬ 3 < y ∧ ¬ y = 0 then (if S.2.1.length < 12 then (nI (S.2.1.length + 1), (S.1, S.2.1 ++ [(t, (a, b, c), y)], S.2.2)) else (-2, S)) else (-1, S)
def droS (S : Sx) : Int32 × Sx := (nI S.2.1.length, (S.1, [], S.2.2))
theorem CI.slot {o : Om} {h : AH} {x : Nat} {G : Gh} {S : Sx} (hc : CI o h x G S) {i : Nat} (hi : i < 3 + S.2.2.2.length) : (∃ f g, RA0 o h (gS G i) f g (S.1 i)) ∧ Srt (S.1 i) := by
  obtain ⟨g, hx, hn, Ls, Ns, wl, rf, cf, hd, hsL, hsN, hag, hcf⟩ := hc
  rw [← hag i hi]
  exact ⟨hd.1.slot (by omega), hsL i (by omega)⟩
theorem CI.pd {o : Om} {h h' : AH} {x : Nat} {G : Gh} {S : Sx} {pl : List Pn} (hc : CI o h x G S) (hp : PA o h' (gP G) pl) (hf : Frm (ownP (gP G)) h h') : Upd o h h' x G (S.1, pl, S.2.2) := by
  obtain ⟨g, hx, hn, Ls, Ns, wl, rf, cf, hd, hsL, hsN, hag, hcf⟩ := hc
  exact ⟨G, ⟨g, (hf x (nownP_obj hd.2.2.2.1 hx (by decide))).trans hx, hn, Ls, Ns, wl, rf, cf, hd.pd g hf hp, hsL, hsN, hag, hcf⟩, fun _ h => h, (hf.mono (fun _ => ownG.P)).x⟩
set_option maxHeartbeats 4000000 in
set_option maxRecDepth 100000 in
/-- weight -/
theorem c_DV_weight (l : Launch) (o : Om) (h : AH) (x : Nat) (v a b c : Int32) (G : Gh) (S : Sx) (hc : CI o h x G S) : Mt l o yDV_weight cDV_weight 5 (some .long) ({ frames := 3, cells := 0, slots := 0, locals := 75 } : Room) [.ref x, .int v, .int a, .int b, .int c] h (QL o (fun r h' => r = weiS v a b c S ∧ h' = h)) (0) (0) := by
  refine Met.ofV (by decide) (Nat.le_of_ble_eq_true rfl) (fun K hl ho C => ?_)
  subst hl; subst ho
  obtain ⟨g, hx, hn, Ls, Ns, wl, rf, cf, hd, hsL, hsN, hag, hcf⟩ := id hc
  unfold DX at hx
  refine r_aload_n (n := 1) C dDV_weight_0 rfl rfl ?_
  refine r_iload_n (n := 2) C dDV_weight_1 rfl rfl ?_
  refine r_ci (n := 5) (rn_V (z := 1) (ci := 9) (T := TDV) C (c_DV_isNode (Kl K) (Ko K) h x _ v (nod S) hx rfl) tw_294 tw_296 ts_13 tw_1 tw_297 rfl rfl ndDV_isNode ⟨Nat.le_of_ble_eq_true rfl, Nat.le_of_ble_eq_true rfl⟩ hx rfl rfl rfl (Nat.le_of_ble_eq_true rfl) dDV_weight_2 ⟨Nat.le_of_ble_eq_true rfl, Nat.le_of_ble_eq_true rfl⟩) rfl (fun y ah hq => ?_)
  obtain ⟨e1, e2⟩ := hq
  subst e1
  rw [e2]
  refine r_if_eq (tgt := 23) (n := 8) C dDV_weight_5 (by decide) rfl (fun c_5 => ?_) (fun c_5 => ?_)
  · have hz0 : inR v (nod S) = false := b01_f c_5
    refine r_ldc2 (n := 26) C tw_490 dDV_weight_23 rfl ?_
    exact r_lret C dDV_weight_26 (Nat.le_refl _) (Nat.le_refl _) ⟨by unfold weiS; rw [if_neg (by simp [hz0])], rfl⟩
  · have hy0 : inR v (nod S) = true := b01_t c_5
    obtain ⟨ev, lv⟩ := inR_c (n := S.2.2.2.length) (by omega) hy0
    obtain ⟨⟨fk, gk, hRk⟩, hsk⟩ := hc.slot (i := 3 + cl v) (by omega)
    refine r_aload_n (n := 9) C dDV_weight_8 rfl rfl ?_
    refine r_iload_n (n := 10) C dDV_weight_9 rfl rfl ?_
    refine V.eqi ev ?_
    refine r_cr (n := 13) (rn_V (z := 1) (ci := 9) (T := TDV) C (c_DV_rowsOf (Kl K) (Ko K) h x (cl v) (nod S) G Ls Ns wl S.2.1 rf cf S.2.2.2 hd g hx (by omega)) tw_485 tw_487 ts_18 tw_1 tw_488 rfl rfl ndDV_rowsOf ⟨Nat.le_of_ble_eq_true rfl, Nat.le_of_ble_eq_true rfl⟩ hx rfl rfl rfl (Nat.le_of_ble_eq_true rfl) dDV_weight_10 ⟨Nat.le_of_ble_eq_true rfl, Nat.le_of_ble_eq_true rfl⟩) rfl (fun ah va hq => ?_)
    obtain ⟨e1, e2⟩ := Prod.mk.inj hq
    subst e2
    rw [e1]
    refine r_iload_n (n := 14) C dDV_weight_13 rfl rfl ?_
    refine r_iload_n (n := 15) C dDV_weight_14 rfl rfl ?_
    refine r_iload (n := 17) C dDV_weight_15 rfl rfl ?_
    refine r_cl (n := 20) (rn_V (z := 3) (ci := 0) (T := TRW) C (c_RW_weightOf (Kl K) (Ko K) h (gS G (3 + cl v)) fk gk _ a b c hRk hsk) tw_489 tw_474 tw_475 tw_2 tw_476 rfl rfl ndRW_weightOf ⟨Nat.le_of_ble_eq_true rfl, Nat.le_of_ble_eq_true rfl⟩ hRk.1 rfl rfl rfl (Nat.le_of_ble_eq_true rfl) dDV_weight_17 ⟨Nat.le_of_ble_eq_true rfl, Nat.le_of_ble_eq_true rfl⟩) rfl (fun y ah hq => ?_)
    obtain ⟨e1, e2⟩ := hq
    subst e1
    rw [e2]
    refine r_goto (tgt := 26) C dDV_weight_20 (by decide) ?_
    exact r_lret C dDV_weight_26 (Nat.le_refl _) (Nat.le_refl _) ⟨by unfold weiS; rw [if_pos hy0], rfl⟩
set_option maxHeartbeats 4000000 in
set_option maxRecDepth 100000 in
/-- inTable -/
theorem c_DV_inTable (l : Launch) (o : Om) (h : AH) (x : Nat) (v a b c : Int32) (G : Gh) (S : Sx) (hc : CI o h x G S) : Mt l o yDV_inTable cDV_inTable 5 (some .long) ({ frames := 3, cells := 0, slots := 0, locals := 75 } : Room) [.ref x, .int v, .int a, .int b, .int c] h (QL o (fun r h' => r = intS v a b c S ∧ h' = h)) (0) (0) := by
  refine Met.ofV (by decide) (Nat.le_of_ble_eq_true rfl) (fun K hl ho C => ?_)
  subst hl; subst ho
  obtain ⟨g, hx, hn, Ls, Ns, wl, rf, cf, hd, hsL, hsN, hag, hcf⟩ := id hc
  unfold DX at hx
  refine r_iload_n (n := 1) C dDV_inTable_0 rfl rfl ?_
  refine r_ci (n := 4) (rn_S (z := 1) C (c_DV_isTable (Kl K) (Ko K) h v) tw_92 tw_93 tw_1 tw_94 rfl rfl ndDV_isTable.2 ⟨Nat.le_of_ble_eq_true rfl, Nat.le_of_ble_eq_true rfl⟩ rfl rfl (Nat.le_of_ble_eq_true rfl) dDV_inTable_1 ⟨Nat.le_of_ble_eq_true rfl, Nat.le_of_ble_eq_true rfl⟩) rfl (fun y ah hq => ?_)
  obtain ⟨e1, e2⟩ := hq
  subst e1
  rw [e2]
  refine r_if_eq (tgt := 23) (n := 7) C dDV_inTable_4 (by decide) rfl (fun c_4 => ?_) (fun c_4 => ?_)
  · have hz0 : inR v (3) = false := b01_f c_4
    refine r_ldc2 (n := 26) C tw_490 dDV_inTable_23 rfl ?_
    exact r_lret C dDV_inTable_26 (Nat.le_refl _) (Nat.le_refl _) ⟨by unfold intS; rw [if_neg (by simp [hz0])], rfl⟩
  · have hy0 : inR v (3) = true := b01_t c_4
    obtain ⟨ev, lv⟩ := inR_c (n := 3) (by omega) hy0
    obtain ⟨⟨fk, gk, hRk⟩, hsk⟩ := hc.slot (i := cl v) (by omega)
    obtain ⟨fs0, hs0, hsl⟩ := hd.1
    refine r_aload_n (n := 8) C dDV_inTable_7 rfl rfl ?_
    refine r_get (ci := 9) (n := 11) C hinDV rfl 0 (by decide) tw_66 rfl dDV_inTable_8 rfl hx rfl ?_
    refine r_iload_n (n := 12) C dDV_inTable_11 rfl rfl ?_
    refine r_aald (n := 13) (t0 := 2) C dDV_inTable_12 rfl hs0 rfl (cl v) ev (by omega) (by omega) (hsl (cl v) (by omega)).1 ?_
    refine r_iload_n (n := 14) C dDV_inTable_13 rfl rfl ?_
    refine r_iload_n (n := 15) C dDV_inTable_14 rfl rfl ?_
    refine r_iload (n := 17) C dDV_inTable_15 rfl rfl ?_
    refine r_cl (n := 20) (rn_V (z := 3) (ci := 0) (T := TRW) C (c_RW_weightOf (Kl K) (Ko K) h (gS G (cl v)) fk gk _ a b c hRk hsk) tw_489 tw_474 tw_475 tw_2 tw_476 rfl rfl ndRW_weightOf ⟨Nat.le_of_ble_eq_true rfl, Nat.le_of_ble_eq_true rfl⟩ hRk.1 rfl rfl rfl (Nat.le_of_ble_eq_true rfl) dDV_inTable_17 ⟨Nat.le_of_ble_eq_true rfl, Nat.le_of_ble_eq_true rfl⟩) rfl (fun y ah hq => ?_)
    obtain ⟨e1, e2⟩ := hq
    subst e1
    rw [e2]
    refine r_goto (tgt := 26) C dDV_inTable_20 (by decide) ?_
    exact r_lret C dDV_inTable_26 (Nat.le_refl _) (Nat.le_refl _) ⟨by unfold intS; rw [if_pos hy0], rfl⟩
set_option maxHeartbeats 4000000 in
set_option maxRecDepth 100000 in
/-- rows -/
theorem c_DV_rows (l : Launch) (o : Om) (h : AH) (x : Nat) (v : Int32) (G : Gh) (S : Sx) (hc : CI o h x G S) : Mt l o yDV_rows cDV_rows 2 (some .int) ({ frames := 2, cells := 0, slots := 0, locals := 42 } : Room) [.ref x, .int v] h (QI o (fun r h' => r = rowS v S ∧ h' = h)) (0) (0) := by
  refine Met.ofV (by decide) (Nat.le_of_ble_eq_true rfl) (fun K hl ho C => ?_)
  subst hl; subst ho
  obtain ⟨g, hx, hn, Ls, Ns, wl, rf, cf, hd, hsL, hsN, hag, hcf⟩ := id hc
  unfold DX at hx
  refine r_aload_n (n := 1) C dDV_rows_0 rfl rfl ?_
  refine r_iload_n (n := 2) C dDV_rows_1 rfl rfl ?_
  refine r_ci (n := 5) (rn_V (z := 1) (ci := 9) (T := TDV) C (c_DV_isNode (Kl K) (Ko K) h x _ v (nod S) hx rfl) tw_294 tw_296 ts_13 tw_1 tw_297 rfl rfl ndDV_isNode ⟨Nat.le_of_ble_eq_true rfl, Nat.le_of_ble_eq_true rfl⟩ hx rfl rfl rfl (Nat.le_of_ble_eq_true rfl) dDV_rows_2 ⟨Nat.le_of_ble_eq_true rfl, Nat.le_of_ble_eq_true rfl⟩) rfl (fun y ah hq => ?_)
  obtain ⟨e1, e2⟩ := hq
  subst e1
  rw [e2]
  refine r_if_eq (tgt := 19) (n := 8) C dDV_rows_5 (by decide) rfl (fun c_5 => ?_) (fun c_5 => ?_)
  · have hz0 : inR v (nod S) = false := b01_f c_5
    refine r_iconst (v := -1) (n := 20) C dDV_rows_19 rfl (by decide) ?_
    exact r_iret C dDV_rows_20 (Nat.le_refl _) (Nat.le_refl _) ⟨by unfold rowS; rw [if_neg (by simp [hz0])], rfl⟩
  · have hy0 : inR v (nod S) = true := b01_t c_5
    obtain ⟨ev, lv⟩ := inR_c (n := S.2.2.2.length) (by omega) hy0
    obtain ⟨⟨fk, gk, hRk⟩, hsk⟩ := hc.slot (i := 3 + cl v) (by omega)
    refine r_aload_n (n := 9) C dDV_rows_8 rfl rfl ?_
    refine r_iload_n (n := 10) C dDV_rows_9 rfl rfl ?_
    refine V.eqi ev ?_
    refine r_cr (n := 13) (rn_V (z := 1) (ci := 9) (T := TDV) C (c_DV_rowsOf (Kl K) (Ko K) h x (cl v) (nod S) G Ls Ns wl S.2.1 rf cf S.2.2.2 hd g hx (by omega)) tw_485 tw_487 ts_18 tw_1 tw_488 rfl rfl ndDV_rowsOf ⟨Nat.le_of_ble_eq_true rfl, Nat.le_of_ble_eq_true rfl⟩ hx rfl rfl rfl (Nat.le_of_ble_eq_true rfl) dDV_rows_10 ⟨Nat.le_of_ble_eq_true rfl, Nat.le_of_ble_eq_true rfl⟩) rfl (fun ah va hq => ?_)
    obtain ⟨e1, e2⟩ := Prod.mk.inj hq
    subst e2
    rw [e1]
    refine r_ci (n := 16) (rn_V (z := 0) (ci := 0) (T := TRW) C (c_RW_size (Kl K) (Ko K) h (gS G (3 + cl v)) fk gk _ hRk) tw_499 tw_145 tw_146 tw_2 tw_147 rfl rfl ndRW_size ⟨Nat.le_of_ble_eq_true rfl, Nat.le_of_ble_eq_true rfl⟩ hRk.1 rfl rfl rfl (Nat.le_of_ble_eq_true rfl) dDV_rows_13 ⟨Nat.le_of_ble_eq_true rfl, Nat.le_of_ble_eq_true rfl⟩) rfl (fun y ah hq => ?_)
    obtain ⟨e1, e2⟩ := hq
    subst e1
    rw [e2]
    refine r_goto (tgt := 20) C dDV_rows_16 (by decide) ?_
    exact r_iret C dDV_rows_20 (Nat.le_refl _) (Nat.le_refl _) ⟨by unfold rowS; rw [if_pos hy0], rfl⟩
set_option maxHeartbeats 4000000 in
set_option maxRecDepth 100000 in
/-- total -/
theorem c_DV_total (l : Launch) (o : Om) (h : AH) (x : Nat) (v : Int32) (G : Gh) (S : Sx) (hc : CI o h x G S) : Mt l o yDV_total cDV_total 2 (some .long) ({ frames := 2, cells := 0, slots := 0, locals := 42 } : Room) [.ref x, .int v] h (QL o (fun r h' => r = totS v S ∧ h' = h)) (0) (0) := by
  refine Met.ofV (by decide) (Nat.le_of_ble_eq_true rfl) (fun K hl ho C => ?_)
  subst hl; subst ho
  obtain ⟨g, hx, hn, Ls, Ns, wl, rf, cf, hd, hsL, hsN, hag, hcf⟩ := id hc
  unfold DX at hx
  refine r_aload_n (n := 1) C dDV_total_0 rfl rfl ?_
  refine r_iload_n (n := 2) C dDV_total_1 rfl rfl ?_
  refine r_ci (n := 5) (rn_V (z := 1) (ci := 9) (T := TDV) C (c_DV_isNode (Kl K) (Ko K) h x _ v (nod S) hx rfl) tw_294 tw_296 ts_13 tw_1 tw_297 rfl rfl ndDV_isNode ⟨Nat.le_of_ble_eq_true rfl, Nat.le_of_ble_eq_true rfl⟩ hx rfl rfl rfl (Nat.le_of_ble_eq_true rfl) dDV_total_2 ⟨Nat.le_of_ble_eq_true rfl, Nat.le_of_ble_eq_true rfl⟩) rfl (fun y ah hq => ?_)
  obtain ⟨e1, e2⟩ := hq
  subst e1
  rw [e2]
  refine r_if_eq (tgt := 19) (n := 8) C dDV_total_5 (by decide) rfl (fun c_5 => ?_) (fun c_5 => ?_)
  · have hz0 : inR v (nod S) = false := b01_f c_5
    refine r_ldc2 (n := 22) C tw_490 dDV_total_19 rfl ?_
    exact r_lret C dDV_total_22 (Nat.le_refl _) (Nat.le_refl _) ⟨by unfold totS; rw [if_neg (by simp [hz0])], rfl⟩
  · have hy0 : inR v (nod S) = true := b01_t c_5
    obtain ⟨ev, lv⟩ := inR_c (n := S.2.2.2.length) (by omega) hy0
    obtain ⟨⟨fk, gk, hRk⟩, hsk⟩ := hc.slot (i := 3 + cl v) (by omega)
    refine r_aload_n (n := 9) C dDV_total_8 rfl rfl ?_
    refine r_iload_n (n := 10) C dDV_total_9 rfl rfl ?_
    refine V.eqi ev ?_
    refine r_cr (n := 13) (rn_V (z := 1) (ci := 9) (T := TDV) C (c_DV_rowsOf (Kl K) (Ko K) h x (cl v) (nod S) G Ls Ns wl S.2.1 rf cf S.2.2.2 hd g hx (by omega)) tw_485 tw_487 ts_18 tw_1 tw_488 rfl rfl ndDV_rowsOf ⟨Nat.le_of_ble_eq_true rfl, Nat.le_of_ble_eq_true rfl⟩ hx rfl rfl rfl (Nat.le_of_ble_eq_true rfl) dDV_total_10 ⟨Nat.le_of_ble_eq_true rfl, Nat.le_of_ble_eq_true rfl⟩) rfl (fun ah va hq => ?_)
    obtain ⟨e1, e2⟩ := Prod.mk.inj hq
    subst e2
    rw [e1]
    refine r_cl (n := 16) (rn_V (z := 0) (ci := 0) (T := TRW) C (c_RW_sumOfWeights (Kl K) (Ko K) h (gS G (3 + cl v)) fk gk _ hRk) tw_509 tw_510 tw_511 tw_2 tw_512 rfl rfl ndRW_sumOfWeights ⟨Nat.le_of_ble_eq_true rfl, Nat.le_of_ble_eq_true rfl⟩ hRk.1 rfl rfl rfl (Nat.le_of_ble_eq_true rfl) dDV_total_13 ⟨Nat.le_of_ble_eq_true rfl, Nat.le_of_ble_eq_true rfl⟩) rfl (fun y ah hq => ?_)
    obtain ⟨e1, e2⟩ := hq
    subst e1
    rw [e2]
    refine r_goto (tgt := 22) C dDV_total_16 (by decide) ?_
    exact r_lret C dDV_total_22 (Nat.le_refl _) (Nat.le_refl _) ⟨by unfold totS; rw [if_pos hy0], rfl⟩
set_option maxHeartbeats 4000000 in
set_option maxRecDepth 100000 in
/-- changed -/
theorem c_DV_changed (l : Launch) (o : Om) (h : AH) (x : Nat) (v : Int32) (G : Gh) (S : Sx) (hc : CI o h x G S) : Mt l o yDV_changed cDV_changed 2 (some .int) ({ frames := 2, cells := 0, slots := 0, locals := 42 } : Room) [.ref x, .int v] h (QI o (fun r h' => r = chgS v S ∧ h' = h)) (0) (0) := by
  refine Met.ofV (by decide) (Nat.le_of_ble_eq_true rfl) (fun K hl ho C => ?_)
  subst hl; subst ho
  obtain ⟨g, hx, hn, Ls, Ns, wl, rf, cf, hd, hsL, hsN, hag, hcf⟩ := id hc
  unfold DX at hx
  refine r_aload_n (n := 1) C dDV_changed_0 rfl rfl ?_
  refine r_iload_n (n := 2) C dDV_changed_1 rfl rfl ?_
  refine r_ci (n := 5) (rn_V (z := 1) (ci := 9) (T := TDV) C (c_DV_isNode (Kl K) (Ko K) h x _ v (nod S) hx rfl) tw_294 tw_296 ts_13 tw_1 tw_297 rfl rfl ndDV_isNode ⟨Nat.le_of_ble_eq_true rfl, Nat.le_of_ble_eq_true rfl⟩ hx rfl rfl rfl (Nat.le_of_ble_eq_true rfl) dDV_changed_2 ⟨Nat.le_of_ble_eq_true rfl, Nat.le_of_ble_eq_true rfl⟩) rfl (fun y ah hq => ?_)
  obtain ⟨e1, e2⟩ := hq
  subst e1
  rw [e2]
  refine r_if_eq (tgt := 17) (n := 8) C dDV_changed_5 (by decide) rfl (fun c_5 => ?_) (fun c_5 => ?_)
  · have hz0 : inR v (nod S) = false := b01_f c_5
    refine r_iconst (v := -1) (n := 18) C dDV_changed_17 rfl (by decide) ?_
    exact r_iret C dDV_changed_18 (Nat.le_refl _) (Nat.le_refl _) ⟨by unfold chgS; rw [if_neg (by simp [hz0])], rfl⟩
  · have hy0 : inR v (nod S) = true := b01_t c_5
    obtain ⟨ev, lv⟩ := inR_c (n := S.2.2.2.length) (by omega) hy0
    have hch := hd.2.2.2.2.2.1
    refine r_aload_n (n := 9) C dDV_changed_8 rfl rfl ?_
    refine r_get (ci := 9) (n := 12) C hinDV rfl 5 (by decide) tw_71 rfl dDV_changed_9 rfl hx rfl ?_
    refine r_iload_n (n := 13) C dDV_changed_12 rfl rfl ?_
    refine r_iald (n := 14) C dDV_changed_13 rfl hch (cl v) ev (by omega) (by omega) ?_
    refine r_goto (tgt := 18) C dDV_changed_14 (by decide) ?_
    exact r_iret C dDV_changed_18 (Nat.le_refl _) (Nat.le_refl _) ⟨by unfold chgS; rw [if_pos hy0]; exact hcf _ lv, rfl⟩
set_option maxHeartbeats 4000000 in
set_option maxRecDepth 100000 in
/-- cell -/
theorem c_DV_cell (l : Launch) (o : Om) (h : AH) (x : Nat) (v i c : Int32) (G : Gh) (S : Sx) (hc : CI o h x G S) : Mt l o yDV_cell cDV_cell 4 (some .long) ({ frames := 2, cells := 0, slots := 0, locals := 42 } : Room) [.ref x, .int v, .int i, .int c] h (QL o (fun r h' => r = celS v i c S ∧ h' = h)) (0) (0) := by
  refine Met.ofV (by decide) (Nat.le_of_ble_eq_true rfl) (fun K hl ho C => ?_)
  subst hl; subst ho
  obtain ⟨g, hx, hn, Ls, Ns, wl, rf, cf, hd, hsL, hsN, hag, hcf⟩ := id hc
  unfold DX at hx
  refine r_aload_n (n := 1) C dDV_cell_0 rfl rfl ?_
  refine r_iload_n (n := 2) C dDV_cell_1 rfl rfl ?_
  refine r_ci (n := 5) (rn_V (z := 1) (ci := 9) (T := TDV) C (c_DV_isNode (Kl K) (Ko K) h x _ v (nod S) hx rfl) tw_294 tw_296 ts_13 tw_1 tw_297 rfl rfl ndDV_isNode ⟨Nat.le_of_ble_eq_true rfl, Nat.le_of_ble_eq_true rfl⟩ hx rfl rfl rfl (Nat.le_of_ble_eq_true rfl) dDV_cell_2 ⟨Nat.le_of_ble_eq_true rfl, Nat.le_of_ble_eq_true rfl⟩) rfl (fun y ah hq => ?_)
  obtain ⟨e1, e2⟩ := hq
  subst e1
  rw [e2]
  refine r_if_eq (tgt := 30) (n := 8) C dDV_cell_5 (by decide) rfl (fun c_5 => ?_) (fun c_5 => ?_)
  · have hz0 : inR v (nod S) = false := b01_f c_5
    refine r_ldc2 (n := 33) C tw_490 dDV_cell_30 rfl ?_
    exact r_lret C dDV_cell_33 (Nat.le_refl _) (Nat.le_refl _) ⟨by unfold celS; rw [if_neg (by simp [hz0])], rfl⟩
  · have hy0 : inR v (nod S) = true := b01_t c_5
    obtain ⟨ev, lv⟩ := inR_c (n := S.2.2.2.length) (by omega) hy0
    obtain ⟨⟨fk, gk, hRk⟩, hsk⟩ := hc.slot (i := 3 + cl v) (by omega)
    have hlk : (S.1 (3 + cl v)).length ≤ 576 := Nat.le_trans hRk.2.2.2.1 hRk.2.2.2.2.1
    refine r_iload_n (n := 9) C dDV_cell_8 rfl rfl ?_
    refine r_ci (n := 12) (rn_S (z := 1) C (c_DV_isColumn (Kl K) (Ko K) h c) tw_298 tw_299 tw_1 tw_300 rfl rfl ndDV_isColumn.2 ⟨Nat.le_of_ble_eq_true rfl, Nat.le_of_ble_eq_true rfl⟩ rfl rfl (Nat.le_of_ble_eq_true rfl) dDV_cell_9 ⟨Nat.le_of_ble_eq_true rfl, Nat.le_of_ble_eq_true rfl⟩) rfl (fun y ah hq => ?_)
    obtain ⟨e1, e2⟩ := hq
    subst e1
    rw [e2]
    refine r_if_eq (tgt := 30) (n := 15) C dDV_cell_12 (by decide) rfl (fun c_12 => ?_) (fun c_12 => ?_)
    · have hz1 : inR c (3) = false := b01_f c_12
      refine r_ldc2 (n := 33) C tw_490 dDV_cell_30 rfl ?_
      exact r_lret C dDV_cell_33 (Nat.le_refl _) (Nat.le_refl _) ⟨by unfold celS; rw [if_neg (by simp [hz1])], rfl⟩
    · have hy1 : inR c (3) = true := b01_t c_12
      obtain ⟨ec, lc⟩ := inR_c (n := 3) (by omega) hy1
      refine r_iload_n (n := 16) C dDV_cell_15 rfl rfl ?_
      refine r_aload_n (n := 17) C dDV_cell_16 rfl rfl ?_
      refine r_iload_n (n := 18) C dDV_cell_17 rfl rfl ?_
      refine V.eqi ev ?_
      refine r_cr (n := 21) (rn_V (z := 1) (ci := 9) (T := TDV) C (c_DV_rowsOf (Kl K) (Ko K) h x (cl v) (nod S) G Ls Ns wl S.2.1 rf cf S.2.2.2 hd g hx (by omega)) tw_485 tw_487 ts_18 tw_1 tw_488 rfl rfl ndDV_rowsOf ⟨Nat.le_of_ble_eq_true rfl, Nat.le_of_ble_eq_true rfl⟩ hx rfl rfl rfl (Nat.le_of_ble_eq_true rfl) dDV_cell_18 ⟨Nat.le_of_ble_eq_true rfl, Nat.le_of_ble_eq_true rfl⟩) rfl (fun ah va hq => ?_)
      obtain ⟨e1, e2⟩ := Prod.mk.inj hq
      subst e2
      rw [e1]
      refine r_ci (n := 24) (rn_V (z := 0) (ci := 0) (T := TRW) C (c_RW_size (Kl K) (Ko K) h (gS G (3 + cl v)) fk gk _ hRk) tw_499 tw_145 tw_146 tw_2 tw_147 rfl rfl ndRW_size ⟨Nat.le_of_ble_eq_true rfl, Nat.le_of_ble_eq_true rfl⟩ hRk.1 rfl rfl rfl (Nat.le_of_ble_eq_true rfl) dDV_cell_21 ⟨Nat.le_of_ble_eq_true rfl, Nat.le_of_ble_eq_true rfl⟩) rfl (fun y ah hq => ?_)
      obtain ⟨e1, e2⟩ := hq
      subst e1
      rw [e2]
      refine r_ci (n := 27) (rn_S (z := 2) C (c_DV_isBelow (Kl K) (Ko K) h i (nI (S.1 (3 + cl v)).length)) tw_95 tw_96 tw_1 tw_97 rfl rfl ndDV_isBelow.2 ⟨Nat.le_of_ble_eq_true rfl, Nat.le_of_ble_eq_true rfl⟩ rfl rfl (Nat.le_of_ble_eq_true rfl) dDV_cell_24 ⟨Nat.le_of_ble_eq_true rfl, Nat.le_of_ble_eq_true rfl⟩) rfl (fun y ah hq => ?_)
      obtain ⟨e1, e2⟩ := hq
      subst e1
      rw [e2]
      refine r_if_ne (tgt := 34) (n := 30) C dDV_cell_27 (by decide) rfl (fun c_27 => ?_) (fun c_27 => ?_)
      · have hy2 : inR i (nI (S.1 (3 + cl v)).length) = true := b01_t c_27
        obtain ⟨ei, li⟩ := inR_c (n := (S.1 (3 + cl v)).length) (by omega) hy2
        obtain ⟨r, hr⟩ : ∃ r, (S.1 (3 + cl v))[cl i]? = some r := ⟨_, List.getElem?_eq_getElem li⟩
        refine r_aload_n (n := 35) C dDV_cell_34 rfl rfl ?_
        refine r_iload_n (n := 36) C dDV_cell_35 rfl rfl ?_
        refine V.eqi ev ?_
        refine r_cr (n := 39) (rn_V (z := 1) (ci := 9) (T := TDV) C (c_DV_rowsOf (Kl K) (Ko K) h x (cl v) (nod S) G Ls Ns wl S.2.1 rf cf S.2.2.2 hd g hx (by omega)) tw_485 tw_487 ts_18 tw_1 tw_488 rfl rfl ndDV_rowsOf ⟨Nat.le_of_ble_eq_true rfl, Nat.le_of_ble_eq_true rfl⟩ hx rfl rfl rfl (Nat.le_of_ble_eq_true rfl) dDV_cell_36 ⟨Nat.le_of_ble_eq_true rfl, Nat.le_of_ble_eq_true rfl⟩) rfl (fun ah va hq => ?_)
        obtain ⟨e1, e2⟩ := Prod.mk.inj hq
        subst e2
        rw [e1]
        refine r_iload_n (n := 40) C dDV_cell_39 rfl rfl ?_
        refine V.eqi ei ?_
        refine r_iload_n (n := 41) C dDV_cell_40 rfl rfl ?_
        refine V.eqi ec ?_
        refine r_ci (n := 44) (rn_V (z := 2) (ci := 0) (T := TRW) C (c_RW_valueAt (Kl K) (Ko K) h (gS G (3 + cl v)) fk gk _ (cl i) (cl c) r hRk hr lc) tw_504 tw_157 tw_158 tw_2 tw_159 rfl rfl ndRW_valueAt ⟨Nat.le_of_ble_eq_true rfl, Nat.le_of_ble_eq_true rfl⟩ hRk.1 rfl rfl rfl (Nat.le_of_ble_eq_true rfl) dDV_cell_41 ⟨Nat.le_of_ble_eq_true rfl, Nat.le_of_ble_eq_true rfl⟩) rfl (fun y ah hq => ?_)
        obtain ⟨e1, e2⟩ := hq
        subst e1
        rw [e2]
        refine r_i2l (n := 45) C dDV_cell_44 rfl ?_
        exact r_lret C dDV_cell_45 (Nat.le_refl _) (Nat.le_refl _) ⟨by unfold celS; rw [if_pos (by simp [hy0, hy1, hy2]), hr], rfl⟩
      · have hz2 : inR i (nI (S.1 (3 + cl v)).length) = false := b01_f c_27
        refine r_ldc2 (n := 33) C tw_490 dDV_cell_30 rfl ?_
        exact r_lret C dDV_cell_33 (Nat.le_refl _) (Nat.le_refl _) ⟨by unfold celS; rw [if_neg (by simp [hz2])], rfl⟩
set_option maxHeartbeats 4000000 in
set_option maxRecDepth 100000 in
/-- mean -/
theorem c_DV_mean (l : Launch) (o : Om) (h : AH) (x : Nat) (v c : Int32) (G : Gh) (S : Sx) (hc : CI o h x G S) : Mt l o yDV_mean cDV_mean 5 (some .double) ({ frames := 2, cells := 0, slots := 0, locals := 46 } : Room) [.ref x, .int v, .int c] h (QD o (fun r h' => r = meaS v c S ∧ h' = h)) (0) (0) := by
  refine Met.ofV (by decide) (Nat.le_of_ble_eq_true rfl) (fun K hl ho C => ?_)
  subst hl; subst ho
  obtain ⟨g, hx, hn, Ls, Ns, wl, rf, cf, hd, hsL, hsN, hag, hcf⟩ := id hc
  unfold DX at hx
  refine r_aload_n (n := 1) C dDV_mean_0 rfl rfl ?_
  refine r_iload_n (n := 2) C dDV_mean_1 rfl rfl ?_
  refine r_ci (n := 5) (rn_V (z := 1) (ci := 9) (T := TDV) C (c_DV_isNode (Kl K) (Ko K) h x _ v (nod S) hx rfl) tw_294 tw_296 ts_13 tw_1 tw_297 rfl rfl ndDV_isNode ⟨Nat.le_of_ble_eq_true rfl, Nat.le_of_ble_eq_true rfl⟩ hx rfl rfl rfl (Nat.le_of_ble_eq_true rfl) dDV_mean_2 ⟨Nat.le_of_ble_eq_true rfl, Nat.le_of_ble_eq_true rfl⟩) rfl (fun y ah hq => ?_)
  obtain ⟨e1, e2⟩ := hq
  subst e1
  rw [e2]
  refine r_if_eq (tgt := 15) (n := 8) C dDV_mean_5 (by decide) rfl (fun c_5 => ?_) (fun c_5 => ?_)
  · have hz0 : inR v (nod S) = false := b01_f c_5
    refine r_dconst0 (n := 16) C dDV_mean_15 rfl ?_
    exact r_dret C dDV_mean_16 (Nat.le_refl _) (Nat.le_refl _) ⟨by unfold meaS; rw [if_neg (by simp [hz0])], rfl⟩
  · have hy0 : inR v (nod S) = true := b01_t c_5
    obtain ⟨ev, lv⟩ := inR_c (n := S.2.2.2.length) (by omega) hy0
    obtain ⟨⟨fk, gk, hRk⟩, hsk⟩ := hc.slot (i := 3 + cl v) (by omega)
    refine r_iload_n (n := 9) C dDV_mean_8 rfl rfl ?_
    refine r_ci (n := 12) (rn_S (z := 1) C (c_DV_isColumn (Kl K) (Ko K) h c) tw_298 tw_299 tw_1 tw_300 rfl rfl ndDV_isColumn.2 ⟨Nat.le_of_ble_eq_true rfl, Nat.le_of_ble_eq_true rfl⟩ rfl rfl (Nat.le_of_ble_eq_true rfl) dDV_mean_9 ⟨Nat.le_of_ble_eq_true rfl, Nat.le_of_ble_eq_true rfl⟩) rfl (fun y ah hq => ?_)
    obtain ⟨e1, e2⟩ := hq
    subst e1
    rw [e2]
    refine r_if_ne (tgt := 17) (n := 15) C dDV_mean_12 (by decide) rfl (fun c_12 => ?_) (fun c_12 => ?_)
    · have hy1 : inR c (3) = true := b01_t c_12
      obtain ⟨ec, lc⟩ := inR_c (n := 3) (by omega) hy1
      refine r_aload_n (n := 18) C dDV_mean_17 rfl rfl ?_
      refine r_iload_n (n := 19) C dDV_mean_18 rfl rfl ?_
      refine V.eqi ev ?_
      refine r_cr (n := 22) (rn_V (z := 1) (ci := 9) (T := TDV) C (c_DV_rowsOf (Kl K) (Ko K) h x (cl v) (nod S) G Ls Ns wl S.2.1 rf cf S.2.2.2 hd g hx (by omega)) tw_485 tw_487 ts_18 tw_1 tw_488 rfl rfl ndDV_rowsOf ⟨Nat.le_of_ble_eq_true rfl, Nat.le_of_ble_eq_true rfl⟩ hx rfl rfl rfl (Nat.le_of_ble_eq_true rfl) dDV_mean_19 ⟨Nat.le_of_ble_eq_true rfl, Nat.le_of_ble_eq_true rfl⟩) rfl (fun ah va hq => ?_)
      obtain ⟨e1, e2⟩ := Prod.mk.inj hq
      subst e2
      rw [e1]
      refine r_cl (n := 25) (rn_V (z := 0) (ci := 0) (T := TRW) C (c_RW_sumOfWeights (Kl K) (Ko K) h (gS G (3 + cl v)) fk gk _ hRk) tw_509 tw_510 tw_511 tw_2 tw_512 rfl rfl ndRW_sumOfWeights ⟨Nat.le_of_ble_eq_true rfl, Nat.le_of_ble_eq_true rfl⟩ hRk.1 rfl rfl rfl (Nat.le_of_ble_eq_true rfl) dDV_mean_22 ⟨Nat.le_of_ble_eq_true rfl, Nat.le_of_ble_eq_true rfl⟩) rfl (fun y ah hq => ?_)
      obtain ⟨e1, e2⟩ := hq
      subst e1
      rw [e2]
      refine r_lstore_n (n := 26) C dDV_mean_25 rfl (by decide) ?_
      refine r_lload_n (n := 27) C dDV_mean_26 rfl rfl ?_
      refine r_lconst (v := 0) (n := 28) C dDV_mean_27 rfl (by decide) ?_
      refine r_lcmp (n := 29) C dDV_mean_28 rfl ?_
      refine r_if_ne (tgt := 34) (n := 32) C dDV_mean_29 (by decide) rfl (fun c_29 => ?_) (fun c_29 => ?_)
      · have hz : ¬ sumW (S.1 (3 + cl v)) = 0 := fun e => c_29 ((lg_cmp_eq _ _).mpr e)
        refine r_aload_n (n := 35) C dDV_mean_34 rfl rfl ?_
        refine r_iload_n (n := 36) C dDV_mean_35 rfl rfl ?_
        refine V.eqi ev ?_
        refine r_cr (n := 39) (rn_V (z := 1) (ci := 9) (T := TDV) C (c_DV_rowsOf (Kl K) (Ko K) h x (cl v) (nod S) G Ls Ns wl S.2.1 rf cf S.2.2.2 hd g hx (by omega)) tw_485 tw_487 ts_18 tw_1 tw_488 rfl rfl ndDV_rowsOf ⟨Nat.le_of_ble_eq_true rfl, Nat.le_of_ble_eq_true rfl⟩ hx rfl rfl rfl (Nat.le_of_ble_eq_true rfl) dDV_mean_36 ⟨Nat.le_of_ble_eq_true rfl, Nat.le_of_ble_eq_true rfl⟩) rfl (fun ah va hq => ?_)
        obtain ⟨e1, e2⟩ := Prod.mk.inj hq
        subst e2
        rw [e1]
        refine r_iload_n (n := 40) C dDV_mean_39 rfl rfl ?_
        refine V.eqi ec ?_
        refine r_cl (n := 43) (rn_V (z := 1) (ci := 0) (T := TRW) C (c_RW_weightedSum (Kl K) (Ko K) h (gS G (3 + cl v)) fk gk _ (cl c) hRk lc) tw_521 tw_522 tw_523 tw_2 tw_524 rfl rfl ndRW_weightedSum ⟨Nat.le_of_ble_eq_true rfl, Nat.le_of_ble_eq_true rfl⟩ hRk.1 rfl rfl rfl (Nat.le_of_ble_eq_true rfl) dDV_mean_40 ⟨Nat.le_of_ble_eq_true rfl, Nat.le_of_ble_eq_true rfl⟩) rfl (fun y ah hq => ?_)
        obtain ⟨e1, e2⟩ := hq
        subst e1
        rw [e2]
        refine r_l2d (n := 44) C dDV_mean_43 rfl ?_
        refine r_lload_n (n := 45) C dDV_mean_44 rfl rfl ?_
        refine r_l2d (n := 46) C dDV_mean_45 rfl ?_
        refine r_ddiv (n := 47) C dDV_mean_46 rfl (mean_ok hz) ?_
        exact r_dret C dDV_mean_47 (Nat.le_refl _) (Nat.le_refl _) ⟨by unfold meaS; rw [if_pos (by simp [hy0, hy1]), if_neg hz], rfl⟩
      · have hz : sumW (S.1 (3 + cl v)) = 0 := (lg_cmp_eq _ _).mp c_29
        refine r_dconst0 (n := 33) C dDV_mean_32 rfl ?_
        exact r_dret C dDV_mean_33 (Nat.le_refl _) (Nat.le_refl _) ⟨by unfold meaS; rw [if_pos (by simp [hy0, hy1]), if_pos hz], rfl⟩
    · have hz1 : inR c (3) = false := b01_f c_12
      refine r_dconst0 (n := 16) C dDV_mean_15 rfl ?_
      exact r_dret C dDV_mean_16 (Nat.le_refl _) (Nat.le_refl _) ⟨by unfold meaS; rw [if_neg (by simp [hz1])], rfl⟩
theorem cou_ix {v : Int32} (h2 : (2 : Int32) ≤ v) (h5 : v < 5) : ∃ j : Nat, j < 3 ∧ v - 2 = nI j := by
  rw [Int32.le_iff_toInt_le] at h2
  rw [Int32.lt_iff_toInt_lt] at h5
  have e2 : (2 : Int32).toInt = 2 := by decide
  have e5 : (5 : Int32).toInt = 5 := by decide
  rw [e2] at h2; rw [e5] at h5
  rcases (show v.toInt = 2 ∨ v.toInt = 3 ∨ v.toInt = 4 by omega) with e | e | e
  · have : v = 2 := Int32.toInt_inj.mp (by rw [e]; decide)
    subst this; exact ⟨0, by omega, by decide⟩
  · have : v = 3 := Int32.toInt_inj.mp (by rw [e]; decide)
    subst this; exact ⟨1, by omega, by decide⟩
  · have : v = 4 := Int32.toInt_inj.mp (by rw [e]; decide)
    subst this; exact ⟨2, by omega, by decide⟩
set_option maxHeartbeats 4000000 in
set_option maxRecDepth 100000 in
/-- count -/
theorem c_DV_count (l : Launch) (o : Om) (h : AH) (x : Nat) (v : Int32) (G : Gh) (S : Sx) (hc : CI o h x G S) : Mt l o yDV_count cDV_count 2 (some .int) ({ frames := 1, cells := 0, slots := 0, locals := 20 } : Room) [.ref x, .int v] h (QI o (fun r h' => r = couS v S ∧ h' = h)) (0) (0) := by
  refine Met.ofV (by decide) (Nat.le_of_ble_eq_true rfl) (fun K hl ho C => ?_)
  subst hl; subst ho
  obtain ⟨g, hx, hn, Ls, Ns, wl, rf, cf, hd, hsL, hsN, hag, hcf⟩ := id hc
  unfold DX at hx
  obtain ⟨pt, pv, pb, hP⟩ := hd.2.2.2.1
  refine r_iload_n (n := 1) C dDV_count_0 rfl rfl ?_
  refine r_if_ne (tgt := 9) (n := 4) C dDV_count_1 (by decide) rfl (fun c_1 => ?_) (fun c_1 => ?_)
  · refine r_iload_n (n := 10) C dDV_count_9 rfl rfl ?_
    refine r_iconst (v := 1) (n := 11) C dDV_count_10 rfl (by decide) ?_
    refine r_icmp_ne (tgt := 22) (n := 14) C dDV_count_11 (by decide) rfl (fun c_11 => ?_) (fun c_11 => ?_)
    · refine r_iload_n (n := 23) C dDV_count_22 rfl rfl ?_
      refine r_iconst (v := 2) (n := 24) C dDV_count_23 rfl (by decide) ?_
      refine r_icmp_lt (tgt := 44) (n := 27) C dDV_count_24 (by decide) rfl (fun c_24 => ?_) (fun c_24 => ?_)
      · refine r_iconst (v := -1) (n := 45) C dDV_count_44 rfl (by decide) ?_
        exact r_iret C dDV_count_45 (Nat.le_refl _) (Nat.le_refl _) ⟨by unfold couS; rw [if_neg c_1, if_neg c_11, if_neg (fun z => Int32.not_le.mpr c_24 z.1)], rfl⟩
      · refine r_iload_n (n := 28) C dDV_count_27 rfl rfl ?_
        refine r_iconst (v := 5) (n := 29) C dDV_count_28 rfl (by decide) ?_
        refine r_icmp_ge (tgt := 44) (n := 32) C dDV_count_29 (by decide) rfl (fun c_29 => ?_) (fun c_29 => ?_)
        · refine r_iconst (v := -1) (n := 45) C dDV_count_44 rfl (by decide) ?_
          exact r_iret C dDV_count_45 (Nat.le_refl _) (Nat.le_refl _) ⟨by unfold couS; rw [if_neg c_1, if_neg c_11, if_neg (fun z => Int32.not_le.mpr z.2 c_29)], rfl⟩
        · have hv2 : (2 : Int32) ≤ v := Int32.not_lt.mp c_24
          have hv5 : v < 5 := Int32.not_le.mp c_29
          obtain ⟨j, hj, ej⟩ : ∃ j : Nat, j < 3 ∧ v - 2 = nI j := cou_ix hv2 hv5
          have ecl : cl (v - 2) = j := by rw [ej]; exact nI_clamp (by omega)
          obtain ⟨⟨fk, gk, hRk⟩, hsk⟩ := hc.slot (i := j) (by omega)
          obtain ⟨fs0, hs0, hsl⟩ := hd.1
          refine r_aload_n (n := 33) C dDV_count_32 rfl rfl ?_
          refine r_get (ci := 9) (n := 36) C hinDV rfl 0 (by decide) tw_66 rfl dDV_count_33 rfl hx rfl ?_
          refine r_iload_n (n := 37) C dDV_count_36 rfl rfl ?_
          refine r_iconst (v := 2) (n := 38) C dDV_count_37 rfl (by decide) ?_
          refine r_isub (n := 39) C dDV_count_38 rfl ?_
          refine r_aald (n := 40) (t0 := 2) C dDV_count_39 rfl hs0 rfl j ej (by omega) (by omega) (hsl j (by omega)).1 ?_
          refine r_ci (n := 43) (rn_V (z := 0) (ci := 0) (T := TRW) C (c_RW_size (Kl K) (Ko K) h (gS G j) fk gk _ hRk) tw_499 tw_145 tw_146 tw_2 tw_147 rfl rfl ndRW_size ⟨Nat.le_of_ble_eq_true rfl, Nat.le_of_ble_eq_true rfl⟩ hRk.1 rfl rfl rfl (Nat.le_of_ble_eq_true rfl) dDV_count_40 ⟨Nat.le_of_ble_eq_true rfl, Nat.le_of_ble_eq_true rfl⟩) rfl (fun y ah hq => ?_)
          obtain ⟨e1, e2⟩ := hq
          subst e1
          rw [e2]
          exact r_iret C dDV_count_43 (Nat.le_refl _) (Nat.le_refl _) ⟨by unfold couS; rw [if_neg c_1, if_neg c_11, if_pos ⟨hv2, hv5⟩, ecl], rfl⟩
    · refine r_aload_n (n := 15) C dDV_count_14 rfl rfl ?_
      refine r_get (ci := 9) (n := 18) C hinDV rfl 3 (by decide) tw_69 rfl dDV_count_15 rfl hx rfl ?_
      refine r_ci (n := 21) (rn_V (z := 0) (ci := 1) (T := TPD) C (c_PD_size (Kl K) (Ko K) h (gP G) pt pv pb S.2.1 hP) tw_428 tw_429 tw_430 tw_3 tw_431 rfl rfl ndPD_size ⟨Nat.le_of_ble_eq_true rfl, Nat.le_of_ble_eq_true rfl⟩ hP.1 rfl rfl rfl (Nat.le_of_ble_eq_true rfl) dDV_count_18 ⟨Nat.le_of_ble_eq_true rfl, Nat.le_of_ble_eq_true rfl⟩) rfl (fun y ah hq => ?_)
      obtain ⟨e1, e2⟩ := hq
      subst e1
      rw [e2]
      exact r_iret C dDV_count_21 (Nat.le_refl _) (Nat.le_refl _) ⟨by unfold couS; rw [if_neg c_1, if_pos c_11], rfl⟩
  · refine r_aload_n (n := 5) C dDV_count_4 rfl rfl ?_
    refine r_get (ci := 9) (n := 8) C hinDV rfl 6 (by decide) tw_72 rfl dDV_count_5 rfl hx rfl ?_
    exact r_iret C dDV_count_8 (Nat.le_refl _) (Nat.le_refl _) ⟨by unfold couS; rw [if_pos c_1], rfl⟩
set_option maxHeartbeats 4000000 in
set_option maxRecDepth 100000 in
/-- drop -/
theorem c_DV_drop (l : Launch) (o : Om) (h : AH) (x : Nat) (G : Gh) (S : Sx) (hc : CI o h x G S) : Mt l o yDV_drop cDV_drop 2 (some .int) ({ frames := 1, cells := 0, slots := 0, locals := 20 } : Room) [.ref x] h (QI o (fun r h' => r = (droS S).1 ∧ Upd o h h' x G (droS S).2)) (0) (0) := by
  refine Met.ofV (by decide) (Nat.le_of_ble_eq_true rfl) (fun K hl ho C => ?_)
  subst hl; subst ho
  obtain ⟨g, hx, hn, Ls, Ns, wl, rf, cf, hd, hsL, hsN, hag, hcf⟩ := id hc
  unfold DX at hx
  obtain ⟨pt, pv, pb, hP⟩ := hd.2.2.2.1
  refine r_aload_n (n := 1) C dDV_drop_0 rfl rfl ?_
  refine r_get (ci := 9) (n := 4) C hinDV rfl 3 (by decide) tw_69 rfl dDV_drop_1 rfl hx rfl ?_
  refine r_ci (n := 7) (rn_V (z := 0) (ci := 1) (T := TPD) C (c_PD_size (Kl K) (Ko K) h (gP G) pt pv pb S.2.1 hP) tw_428 tw_429 tw_430 tw_3 tw_431 rfl rfl ndPD_size ⟨Nat.le_of_ble_eq_true rfl, Nat.le_of_ble_eq_true rfl⟩ hP.1 rfl rfl rfl (Nat.le_of_ble_eq_true rfl) dDV_drop_4 ⟨Nat.le_of_ble_eq_true rfl, Nat.le_of_ble_eq_true rfl⟩) rfl (fun y ah hq => ?_)
  obtain ⟨e1, e2⟩ := hq
  subst e1
  rw [e2]
  refine r_istore_n (n := 8) C dDV_drop_7 rfl (by decide) ?_
  refine r_aload_n (n := 9) C dDV_drop_8 rfl rfl ?_
  refine r_get (ci := 9) (n := 12) C hinDV rfl 3 (by decide) tw_69 rfl dDV_drop_9 rfl hx rfl ?_
  refine r_cv (n := 15) (rn_V (z := 0) (ci := 1) (T := TPD) C (c_PD_clear (Kl K) (Ko K) h (gP G) pt pv pb S.2.1 hP) tw_461 tw_462 tw_463 tw_3 tw_464 rfl rfl ndPD_clear ⟨Nat.le_of_ble_eq_true rfl, Nat.le_of_ble_eq_true rfl⟩ hP.1 rfl rfl rfl (Nat.le_of_ble_eq_true rfl) dDV_drop_12 ⟨Nat.le_of_ble_eq_true rfl, Nat.le_of_ble_eq_true rfl⟩) rfl (fun h1 hq => ?_)
  obtain ⟨hP1, hO1⟩ := hq
  refine r_iload_n (n := 16) C dDV_drop_15 rfl rfl ?_
  exact r_iret C dDV_drop_16 (Nat.le_refl _) (Nat.le_refl _) ⟨rfl, hc.pd hP1 hO1.frm⟩
set_option maxHeartbeats 4000000 in
set_option maxRecDepth 100000 in
/-- change -/
theorem c_DV_change (l : Launch) (o : Om) (h : AH) (x : Nat) (t a b c y : Int32) (G : Gh) (S : Sx) (hc : CI o h x G S) : Mt l o yDV_change cDV_change 6 (some .int) ({ frames := 2, cells := 0, slots := 0, locals := 41 } : Room) [.ref x, .int t, .int a, .int b, .int c, .int y] h (QI o (fun r h' => r = (chaS t a b c y S).1 ∧ Upd o h h' x G (chaS t a b c y S).2)) (0) (0) := by
  refine Met.ofV (by decide) (Nat.le_of_ble_eq_true rfl) (fun K hl ho C => ?_)
  subst hl; subst ho
  obtain ⟨g, hx, hn, Ls, Ns, wl, rf, cf, hd, hsL, hsN, hag, hcf⟩ := id hc
  unfold DX at hx
  obtain ⟨pt, pv, pb, hP⟩ := hd.2.2.2.1
  have hpl : S.2.1.length ≤ 12 := hP.2.2.2.2.1
  refine r_iload_n (n := 1) C dDV_change_0 rfl rfl ?_
  refine r_ci (n := 4) (rn_S (z := 1) C (c_DV_isTable (Kl K) (Ko K) h t) tw_92 tw_93 tw_1 tw_94 rfl rfl ndDV_isTable.2 ⟨Nat.le_of_ble_eq_true rfl, Nat.le_of_ble_eq_true rfl⟩ rfl rfl (Nat.le_of_ble_eq_true rfl) dDV_change_1 ⟨Nat.le_of_ble_eq_true rfl, Nat.le_of_ble_eq_true rfl⟩) rfl (fun yy ah hq => ?_)
  obtain ⟨e1, e2⟩ := hq
  subst e1
  rw [e2]
  refine r_if_eq (tgt := 25) (n := 7) C dDV_change_4 (by decide) rfl (fun c_4 => ?_) (fun c_4 => ?_)
  · have hz0 : inR t 3 = false := b01_f c_4
    refine r_iconst (v := -1) (n := 26) C dDV_change_25 rfl (by decide) ?_
    exact r_iret C dDV_change_26 (Nat.le_refl _) (Nat.le_refl _) ⟨by unfold chaS; rw [if_neg (fun z => by rw [hz0] at z; exact Bool.noConfusion z.1)], by unfold chaS; rw [if_neg (fun z => by rw [hz0] at z; exact Bool.noConfusion z.1)]; exact Upd.rf hc⟩
  · have hy0 : inR t 3 = true := b01_t c_4
    refine r_iload (n := 9) C dDV_change_7 rfl rfl ?_
    refine r_bipush (v := -3) (n := 11) C dDV_change_9 rfl (by decide) ?_
    refine r_icmp_lt (tgt := 25) (n := 14) C dDV_change_11 (by decide) rfl (fun c_11 => ?_) (fun c_11 => ?_)
    · refine r_iconst (v := -1) (n := 26) C dDV_change_25 rfl (by decide) ?_
      exact r_iret C dDV_change_26 (Nat.le_refl _) (Nat.le_refl _) ⟨by unfold chaS; rw [if_neg (fun z => z.2.1 c_11)], by unfold chaS; rw [if_neg (fun z => z.2.1 c_11)]; exact Upd.rf hc⟩
    · refine r_iload (n := 16) C dDV_change_14 rfl rfl ?_
      refine r_iconst (v := 3) (n := 17) C dDV_change_16 rfl (by decide) ?_
      refine r_icmp_gt (tgt := 25) (n := 20) C dDV_change_17 (by decide) rfl (fun c_17 => ?_) (fun c_17 => ?_)
      · refine r_iconst (v := -1) (n := 26) C dDV_change_25 rfl (by decide) ?_
        exact r_iret C dDV_change_26 (Nat.le_refl _) (Nat.le_refl _) ⟨by unfold chaS; rw [if_neg (fun z => z.2.2.1 c_17)], by unfold chaS; rw [if_neg (fun z => z.2.2.1 c_17)]; exact Upd.rf hc⟩
      · refine r_iload (n := 22) C dDV_change_20 rfl rfl ?_
        refine r_if_ne (tgt := 27) (n := 25) C dDV_change_22 (by decide) rfl (fun c_22 => ?_) (fun c_22 => ?_)
        · refine r_aload_n (n := 28) C dDV_change_27 rfl rfl ?_
          refine r_get (ci := 9) (n := 31) C hinDV rfl 3 (by decide) tw_69 rfl dDV_change_28 rfl hx rfl ?_
          refine r_ci (n := 34) (rn_V (z := 0) (ci := 1) (T := TPD) C (c_PD_size (Kl K) (Ko K) h (gP G) pt pv pb S.2.1 hP) tw_428 tw_429 tw_430 tw_3 tw_431 rfl rfl ndPD_size ⟨Nat.le_of_ble_eq_true rfl, Nat.le_of_ble_eq_true rfl⟩ hP.1 rfl rfl rfl (Nat.le_of_ble_eq_true rfl) dDV_change_31 ⟨Nat.le_of_ble_eq_true rfl, Nat.le_of_ble_eq_true rfl⟩) rfl (fun y ah hq => ?_)
          obtain ⟨e1, e2⟩ := hq
          subst e1
          rw [e2]
          refine r_bipush (v := 12) (n := 36) C dDV_change_34 rfl (by decide) ?_
          refine r_icmp_lt (tgt := 42) (n := 39) C dDV_change_36 (by decide) rfl (fun c_36 => ?_) (fun c_36 => ?_)
          · have hroom : S.2.1.length < 12 := (nI_ltI (a := S.2.1.length) (b := 12) (by omega) (by omega)).mp c_36
            refine r_aload_n (n := 43) C dDV_change_42 rfl rfl ?_
            refine r_get (ci := 9) (n := 46) C hinDV rfl 3 (by decide) tw_69 rfl dDV_change_43 rfl hx rfl ?_
            refine r_iload_n (n := 47) C dDV_change_46 rfl rfl ?_
            refine r_iload_n (n := 48) C dDV_change_47 rfl rfl ?_
            refine r_iload_n (n := 49) C dDV_change_48 rfl rfl ?_
            refine r_iload (n := 51) C dDV_change_49 rfl rfl ?_
            refine r_iload (n := 53) C dDV_change_51 rfl rfl ?_
            refine r_cv (n := 56) (rn_V (z := 5) (ci := 1) (T := TPD) C (c_PD_append (Kl K) (Ko K) h (gP G) pt pv pb S.2.1 t a b c y hP hroom) tw_432 tw_433 tw_434 tw_3 tw_435 rfl rfl ndPD_append ⟨Nat.le_of_ble_eq_true rfl, Nat.le_of_ble_eq_true rfl⟩ hP.1 rfl rfl rfl (Nat.le_of_ble_eq_true rfl) dDV_change_53 ⟨Nat.le_of_ble_eq_true rfl, Nat.le_of_ble_eq_true rfl⟩) rfl (fun h1 hq => ?_)
            obtain ⟨⟨pt1, pv1, pb1, hP1⟩, hO1⟩ := hq
            have hx1 : h1 x = _ := (hO1.frm x (nownP_obj hd.2.2.2.1 hx (by decide))).trans hx
            refine r_aload_n (n := 57) C dDV_change_56 rfl rfl ?_
            refine r_get (ci := 9) (n := 60) C hinDV rfl 3 (by decide) tw_69 rfl dDV_change_57 rfl hx1 rfl ?_
            refine r_ci (n := 63) (rn_V (z := 0) (ci := 1) (T := TPD) C (c_PD_size (Kl K) (Ko K) h1 (gP G) pt1 pv1 pb1 _ hP1) tw_428 tw_429 tw_430 tw_3 tw_431 rfl rfl ndPD_size ⟨Nat.le_of_ble_eq_true rfl, Nat.le_of_ble_eq_true rfl⟩ hP1.1 rfl rfl rfl (Nat.le_of_ble_eq_true rfl) dDV_change_60 ⟨Nat.le_of_ble_eq_true rfl, Nat.le_of_ble_eq_true rfl⟩) rfl (fun yy ah hq => ?_)
            obtain ⟨e1, e2⟩ := hq
            subst e1
            rw [e2]
            exact r_iret C dDV_change_63 (Nat.le_refl _) (Nat.le_refl _) ⟨by unfold chaS; rw [if_pos ⟨hy0, c_11, c_17, c_22⟩, if_pos hroom, List.length_append]; rfl, by unfold chaS; rw [if_pos ⟨hy0, c_11, c_17, c_22⟩, if_pos hroom]; exact hc.pd ⟨_, _, _, hP1⟩ hO1.frm⟩
          · have hfull : ¬ S.2.1.length < 12 := fun e => c_36 (nI_lt (a := S.2.1.length) (b := 12) e (by omega))
            refine r_bipush (v := -2) (n := 41) C dDV_change_39 rfl (by decide) ?_
            exact r_iret C dDV_change_41 (Nat.le_refl _) (Nat.le_refl _) ⟨by unfold chaS; rw [if_pos ⟨hy0, c_11, c_17, c_22⟩, if_neg hfull], by unfold chaS; rw [if_pos ⟨hy0, c_11, c_17, c_22⟩, if_neg hfull]; exact Upd.rf hc⟩
        · refine r_iconst (v := -1) (n := 26) C dDV_change_25 rfl (by decide) ?_
          exact r_iret C dDV_change_26 (Nat.le_refl _) (Nat.le_refl _) ⟨by unfold chaS; rw [if_neg (fun z => z.2.2.2 c_22)], by unfold chaS; rw [if_neg (fun z => z.2.2.2 c_22)]; exact Upd.rf hc⟩
