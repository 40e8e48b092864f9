/-! THE REFERENCE: reads, change, drop -/
set_option maxHeartbeats 4000000 in
set_option maxRecDepth 100000 in
/-- weight -/
theorem c_MD_weight (l : Launch) (o : Om) (h : AH) (m : Nat) (v a b c : Int32) (ad : Nat → Nat) (S : Sx) (hs : MS o h m ad S) : Mt l o yMD_weight cMD_weight 5 (some .long) ({ frames := 1, cells := 0, slots := 0, locals := 25 } : Room) [.ref m, .int v, .int a, .int b, .int c] h (QL o (fun r h' => r = weiS v a b c S ∧ h' = h)) (0) (0) := by
  refine Met.ofV (by decide) (Nat.le_of_ble_eq_true rfl) (fun K hl ho C => ?_)
  subst hl; subst ho
  obtain ⟨MI, ML, MV, hM, hnd, hn10, hBL, hPL, hRL, hcf, hall⟩ := id hs
  refine r_aload_n (n := 1) C dMD_weight_0 rfl rfl ?_
  refine r_iload_n (n := 2) C dMD_weight_1 rfl rfl ?_
  refine r_aload_n (n := 3) C dMD_weight_2 rfl rfl ?_
  refine r_get (ci := 10) (n := 6) C hinMD rfl 13 (by decide) tw_548 rfl dMD_weight_3 rfl hM.1 rfl ?_
  refine V.eqi hnd ?_
  refine r_ci (n := 9) (rn_V (z := 2) (ci := 10) (T := TMD) C (c_MD_out (Kl K) (Ko K) h m _ v (nod S) hM.1) tw_600 tw_602 ts_19 tw_4 tw_603 rfl rfl ndMD_out ⟨Nat.le_of_ble_eq_true rfl, Nat.le_of_ble_eq_true rfl⟩ hM.1 rfl rfl rfl (Nat.le_of_ble_eq_true rfl) dMD_weight_6 ⟨Nat.le_of_ble_eq_true rfl, Nat.le_of_ble_eq_true rfl⟩) rfl (fun y ah hq => ?_)
  obtain ⟨e1, e2⟩ := hq
  subst e1
  rw [e2]
  refine r_if_eq (tgt := 18) (n := 12) C dMD_weight_9 (by decide) rfl (fun c_9 => ?_) (fun c_9 => ?_)
  · have hy0 : inR v (nod S) = true := by have := b01_f c_9; simpa using this
    obtain ⟨ev, lv⟩ := inR_c (n := S.2.2.2.length) (by omega) hy0
    refine r_aload_n (n := 19) C dMD_weight_18 rfl rfl ?_
    refine r_iconst (v := 3) (n := 20) C dMD_weight_19 rfl (by decide) ?_
    refine r_iload_n (n := 21) C dMD_weight_20 rfl rfl ?_
    refine V.eqi ev ?_
    refine r_iadd (n := 22) C dMD_weight_21 rfl ?_
    refine V.eqi (nI_add 3 _) ?_
    refine r_iload_n (n := 23) C dMD_weight_22 rfl rfl ?_
    refine r_iload_n (n := 24) C dMD_weight_23 rfl rfl ?_
    refine r_iload (n := 26) C dMD_weight_24 rfl rfl ?_
    refine r_cl (n := 29) (rn_V (z := 4) (ci := 10) (T := TMD) C (c_MD_weightIn (Kl K) (Ko K) h m ad MI ML MV (3 + cl v) _ (a, b, c) hM (by omega) (hBL _ (by omega))) tw_694 tw_696 ts_34 tw_4 tw_697 rfl rfl ndMD_weightIn ⟨Nat.le_of_ble_eq_true rfl, Nat.le_of_ble_eq_true rfl⟩ hM.1 rfl rfl rfl (Nat.le_of_ble_eq_true rfl) dMD_weight_26 ⟨Nat.le_of_ble_eq_true rfl, Nat.le_of_ble_eq_true rfl⟩) rfl (fun y ah hq => ?_)
    obtain ⟨e1, e2⟩ := hq
    subst e1
    rw [e2]
    exact r_lret C dMD_weight_29 (Nat.le_refl _) (Nat.le_refl _) ⟨by unfold weiS; rw [if_pos hy0], rfl⟩
  · have hz0 : inR v (nod S) = false := by have := b01_t c_9; simpa using this
    refine r_ldc2 (n := 15) C tw_710 dMD_weight_12 rfl ?_
    refine r_goto (tgt := 29) C dMD_weight_15 (by decide) ?_
    exact r_lret C dMD_weight_29 (Nat.le_refl _) (Nat.le_refl _) ⟨by unfold weiS; rw [if_neg (by simp [hz0])], rfl⟩
set_option maxHeartbeats 4000000 in
set_option maxRecDepth 100000 in
/-- inTable -/
theorem c_MD_inTable (l : Launch) (o : Om) (h : AH) (m : Nat) (v a b c : Int32) (ad : Nat → Nat) (S : Sx) (hs : MS o h m ad S) : Mt l o yMD_inTable cMD_inTable 5 (some .long) ({ frames := 1, cells := 0, slots := 0, locals := 25 } : Room) [.ref m, .int v, .int a, .int b, .int c] h (QL o (fun r h' => r = intS v a b c S ∧ h' = h)) (0) (0) := by
  refine Met.ofV (by decide) (Nat.le_of_ble_eq_true rfl) (fun K hl ho C => ?_)
  subst hl; subst ho
  obtain ⟨MI, ML, MV, hM, hnd, hn10, hBL, hPL, hRL, hcf, hall⟩ := id hs
  refine r_aload_n (n := 1) C dMD_inTable_0 rfl rfl ?_
  refine r_iload_n (n := 2) C dMD_inTable_1 rfl rfl ?_
  refine r_iconst (v := 3) (n := 3) C dMD_inTable_2 rfl (by decide) ?_
  refine r_ci (n := 6) (rn_V (z := 2) (ci := 10) (T := TMD) C (c_MD_out (Kl K) (Ko K) h m _ v (3) hM.1) tw_600 tw_602 ts_19 tw_4 tw_603 rfl rfl ndMD_out ⟨Nat.le_of_ble_eq_true rfl, Nat.le_of_ble_eq_true rfl⟩ hM.1 rfl rfl rfl (Nat.le_of_ble_eq_true rfl) dMD_inTable_3 ⟨Nat.le_of_ble_eq_true rfl, Nat.le_of_ble_eq_true rfl⟩) rfl (fun y ah hq => ?_)
  obtain ⟨e1, e2⟩ := hq
  subst e1
  rw [e2]
  refine r_if_eq (tgt := 15) (n := 9) C dMD_inTable_6 (by decide) rfl (fun c_6 => ?_) (fun c_6 => ?_)
  · have hy0 : inR v (3) = true := by have := b01_f c_6; simpa using this
    obtain ⟨ev, lv⟩ := inR_c (n := 3) (by omega) hy0
    refine r_aload_n (n := 16) C dMD_inTable_15 rfl rfl ?_
    refine r_iload_n (n := 17) C dMD_inTable_16 rfl rfl ?_
    refine V.eqi ev ?_
    refine r_iload_n (n := 18) C dMD_inTable_17 rfl rfl ?_
    refine r_iload_n (n := 19) C dMD_inTable_18 rfl rfl ?_
    refine r_iload (n := 21) C dMD_inTable_19 rfl rfl ?_
    refine r_cl (n := 24) (rn_V (z := 4) (ci := 10) (T := TMD) C (c_MD_weightIn (Kl K) (Ko K) h m ad MI ML MV (cl v) _ (a, b, c) hM (by omega) (hBL _ (by omega))) tw_694 tw_696 ts_34 tw_4 tw_697 rfl rfl ndMD_weightIn ⟨Nat.le_of_ble_eq_true rfl, Nat.le_of_ble_eq_true rfl⟩ hM.1 rfl rfl rfl (Nat.le_of_ble_eq_true rfl) dMD_inTable_21 ⟨Nat.le_of_ble_eq_true rfl, Nat.le_of_ble_eq_true rfl⟩) rfl (fun y ah hq => ?_)
    obtain ⟨e1, e2⟩ := hq
    subst e1
    rw [e2]
    exact r_lret C dMD_inTable_24 (Nat.le_refl _) (Nat.le_refl _) ⟨by unfold intS; rw [if_pos hy0], rfl⟩
  · have hz0 : inR v (3) = false := by have := b01_t c_6; simpa using this
    refine r_ldc2 (n := 12) C tw_710 dMD_inTable_9 rfl ?_
    refine r_goto (tgt := 24) C dMD_inTable_12 (by decide) ?_
    exact r_lret C dMD_inTable_24 (Nat.le_refl _) (Nat.le_refl _) ⟨by unfold intS; rw [if_neg (by simp [hz0])], rfl⟩
set_option maxHeartbeats 4000000 in
set_option maxRecDepth 100000 in
/-- rows -/
theorem c_MD_rows (l : Launch) (o : Om) (h : AH) (m : Nat) (v : Int32) (ad : Nat → Nat) (S : Sx) (hs : MS o h m ad S) : Mt l o yMD_rows cMD_rows 2 (some .int) ({ frames := 1, cells := 0, slots := 0, locals := 22 } : Room) [.ref m, .int v] h (QI o (fun r h' => r = rowS v S ∧ h' = h)) (0) (0) := by
  refine Met.ofV (by decide) (Nat.le_of_ble_eq_true rfl) (fun K hl ho C => ?_)
  subst hl; subst ho
  obtain ⟨MI, ML, MV, hM, hnd, hn10, hBL, hPL, hRL, hcf, hall⟩ := id hs
  refine r_aload_n (n := 1) C dMD_rows_0 rfl rfl ?_
  refine r_iload_n (n := 2) C dMD_rows_1 rfl rfl ?_
  refine r_aload_n (n := 3) C dMD_rows_2 rfl rfl ?_
  refine r_get (ci := 10) (n := 6) C hinMD rfl 13 (by decide) tw_548 rfl dMD_rows_3 rfl hM.1 rfl ?_
  refine V.eqi hnd ?_
  refine r_ci (n := 9) (rn_V (z := 2) (ci := 10) (T := TMD) C (c_MD_out (Kl K) (Ko K) h m _ v (nod S) hM.1) tw_600 tw_602 ts_19 tw_4 tw_603 rfl rfl ndMD_out ⟨Nat.le_of_ble_eq_true rfl, Nat.le_of_ble_eq_true rfl⟩ hM.1 rfl rfl rfl (Nat.le_of_ble_eq_true rfl) dMD_rows_6 ⟨Nat.le_of_ble_eq_true rfl, Nat.le_of_ble_eq_true rfl⟩) rfl (fun y ah hq => ?_)
  obtain ⟨e1, e2⟩ := hq
  subst e1
  rw [e2]
  refine r_if_eq (tgt := 16) (n := 12) C dMD_rows_9 (by decide) rfl (fun c_9 => ?_) (fun c_9 => ?_)
  · have hy0 : inR v (nod S) = true := by have := b01_f c_9; simpa using this
    obtain ⟨ev, lv⟩ := inR_c (n := S.2.2.2.length) (by omega) hy0
    obtain ⟨hb1, hb2, hb3⟩ := id (hBL (3 + cl v) (by omega))
    refine r_aload_n (n := 17) C dMD_rows_16 rfl rfl ?_
    refine r_get (ci := 10) (n := 20) C hinMD rfl 4 (by decide) tw_539 rfl dMD_rows_17 rfl hM.1 rfl ?_
    refine r_iconst (v := 3) (n := 21) C dMD_rows_20 rfl (by decide) ?_
    refine r_iload_n (n := 22) C dMD_rows_21 rfl rfl ?_
    refine V.eqi ev ?_
    refine r_iadd (n := 23) C dMD_rows_22 rfl ?_
    refine V.eqi (nI_add 3 _) ?_
    refine r_ialdM (n := 24) C dMD_rows_23 rfl hM 4 (by decide) (3 + cl v) rfl (by show _ < 26; omega) ?_
    exact r_iret C dMD_rows_24 (Nat.le_refl _) (Nat.le_refl _) ⟨by unfold rowS; rw [if_pos hy0]; exact hb1, rfl⟩
  · have hz0 : inR v (nod S) = false := by have := b01_t c_9; simpa using this
    refine r_iconst (v := -1) (n := 13) C dMD_rows_12 rfl (by decide) ?_
    refine r_goto (tgt := 24) C dMD_rows_13 (by decide) ?_
    exact r_iret C dMD_rows_24 (Nat.le_refl _) (Nat.le_refl _) ⟨by unfold rowS; rw [if_neg (by simp [hz0])], rfl⟩
set_option maxHeartbeats 4000000 in
set_option maxRecDepth 100000 in
/-- changed -/
theorem c_MD_changed (l : Launch) (o : Om) (h : AH) (m : Nat) (v : Int32) (ad : Nat → Nat) (S : Sx) (hs : MS o h m ad S) : Mt l o yMD_changed cMD_changed 2 (some .int) ({ frames := 1, cells := 0, slots := 0, locals := 22 } : Room) [.ref m, .int v] h (QI o (fun r h' => r = chgS v S ∧ h' = h)) (0) (0) := by
  refine Met.ofV (by decide) (Nat.le_of_ble_eq_true rfl) (fun K hl ho C => ?_)
  subst hl; subst ho
  obtain ⟨MI, ML, MV, hM, hnd, hn10, hBL, hPL, hRL, hcf, hall⟩ := id hs
  refine r_aload_n (n := 1) C dMD_changed_0 rfl rfl ?_
  refine r_iload_n (n := 2) C dMD_changed_1 rfl rfl ?_
  refine r_aload_n (n := 3) C dMD_changed_2 rfl rfl ?_
  refine r_get (ci := 10) (n := 6) C hinMD rfl 13 (by decide) tw_548 rfl dMD_changed_3 rfl hM.1 rfl ?_
  refine V.eqi hnd ?_
  refine r_ci (n := 9) (rn_V (z := 2) (ci := 10) (T := TMD) C (c_MD_out (Kl K) (Ko K) h m _ v (nod S) hM.1) tw_600 tw_602 ts_19 tw_4 tw_603 rfl rfl ndMD_out ⟨Nat.le_of_ble_eq_true rfl, Nat.le_of_ble_eq_true rfl⟩ hM.1 rfl rfl rfl (Nat.le_of_ble_eq_true rfl) dMD_changed_6 ⟨Nat.le_of_ble_eq_true rfl, Nat.le_of_ble_eq_true rfl⟩) rfl (fun y ah hq => ?_)
  obtain ⟨e1, e2⟩ := hq
  subst e1
  rw [e2]
  refine r_if_eq (tgt := 16) (n := 12) C dMD_changed_9 (by decide) rfl (fun c_9 => ?_) (fun c_9 => ?_)
  · have hy0 : inR v (nod S) = true := by have := b01_f c_9; simpa using this
    obtain ⟨ev, lv⟩ := inR_c (n := S.2.2.2.length) (by omega) hy0
    refine r_aload_n (n := 17) C dMD_changed_16 rfl rfl ?_
    refine r_get (ci := 10) (n := 20) C hinMD rfl 12 (by decide) tw_547 rfl dMD_changed_17 rfl hM.1 rfl ?_
    refine r_iload_n (n := 21) C dMD_changed_20 rfl rfl ?_
    refine V.eqi ev ?_
    refine r_ialdM (n := 22) C dMD_changed_21 rfl hM 12 (by decide) (cl v) rfl (by show _ < 10; omega) ?_
    exact r_iret C dMD_changed_22 (Nat.le_refl _) (Nat.le_refl _) ⟨by unfold chgS; rw [if_pos hy0]; exact hcf _ lv, rfl⟩
  · have hz0 : inR v (nod S) = false := by have := b01_t c_9; simpa using this
    refine r_iconst (v := -1) (n := 13) C dMD_changed_12 rfl (by decide) ?_
    refine r_goto (tgt := 22) C dMD_changed_13 (by decide) ?_
    exact r_iret C dMD_changed_22 (Nat.le_refl _) (Nat.le_refl _) ⟨by unfold chgS; rw [if_neg (by simp [hz0])], rfl⟩
set_option maxHeartbeats 4000000 in
set_option maxRecDepth 100000 in
/-- cell -/
theorem c_MD_cell (l : Launch) (o : Om) (h : AH) (m : Nat) (v i c : Int32) (ad : Nat → Nat) (S : Sx) (hs : MS o h m ad S) : Mt l o yMD_cell cMD_cell 4 (some .long) ({ frames := 1, cells := 0, slots := 0, locals := 22 } : Room) [.ref m, .int v, .int i, .int c] h (QL o (fun r h' => r = celS v i c S ∧ h' = h)) (0) (0) := by
  refine Met.ofV (by decide) (Nat.le_of_ble_eq_true rfl) (fun K hl ho C => ?_)
  subst hl; subst ho
  obtain ⟨MI, ML, MV, hM, hnd, hn10, hBL, hPL, hRL, hcf, hall⟩ := id hs
  refine r_aload_n (n := 1) C dMD_cell_0 rfl rfl ?_
  refine r_iload_n (n := 2) C dMD_cell_1 rfl rfl ?_
  refine r_aload_n (n := 3) C dMD_cell_2 rfl rfl ?_
  refine r_get (ci := 10) (n := 6) C hinMD rfl 13 (by decide) tw_548 rfl dMD_cell_3 rfl hM.1 rfl ?_
  refine V.eqi hnd ?_
  refine r_ci (n := 9) (rn_V (z := 2) (ci := 10) (T := TMD) C (c_MD_out (Kl K) (Ko K) h m _ v (nod S) hM.1) tw_600 tw_602 ts_19 tw_4 tw_603 rfl rfl ndMD_out ⟨Nat.le_of_ble_eq_true rfl, Nat.le_of_ble_eq_true rfl⟩ hM.1 rfl rfl rfl (Nat.le_of_ble_eq_true rfl) dMD_cell_6 ⟨Nat.le_of_ble_eq_true rfl, Nat.le_of_ble_eq_true rfl⟩) rfl (fun y ah hq => ?_)
  obtain ⟨e1, e2⟩ := hq
  subst e1
  rw [e2]
  refine r_if_ne (tgt := 37) (n := 12) C dMD_cell_9 (by decide) rfl (fun c_9 => ?_) (fun c_9 => ?_)
  · have hz0 : inR v (nod S) = false := by have := b01_t c_9; simpa using this
    refine r_ldc2 (n := 40) C tw_710 dMD_cell_37 rfl ?_
    exact r_lret C dMD_cell_40 (Nat.le_refl _) (Nat.le_refl _) ⟨by unfold celS; rw [if_neg (by simp [hz0])], rfl⟩
  · have hy0 : inR v (nod S) = true := by have := b01_f c_9; simpa using this
    obtain ⟨ev, lv⟩ := inR_c (n := S.2.2.2.length) (by omega) hy0
    obtain ⟨hb1, hb2, hb3⟩ := id (hBL (3 + cl v) (by omega))
    refine r_aload_n (n := 13) C dMD_cell_12 rfl rfl ?_
    refine r_iload_n (n := 14) C dMD_cell_13 rfl rfl ?_
    refine r_iconst (v := 3) (n := 15) C dMD_cell_14 rfl (by decide) ?_
    refine r_ci (n := 18) (rn_V (z := 2) (ci := 10) (T := TMD) C (c_MD_out (Kl K) (Ko K) h m _ c (3) hM.1) tw_600 tw_602 ts_19 tw_4 tw_603 rfl rfl ndMD_out ⟨Nat.le_of_ble_eq_true rfl, Nat.le_of_ble_eq_true rfl⟩ hM.1 rfl rfl rfl (Nat.le_of_ble_eq_true rfl) dMD_cell_15 ⟨Nat.le_of_ble_eq_true rfl, Nat.le_of_ble_eq_true rfl⟩) rfl (fun y ah hq => ?_)
    obtain ⟨e1, e2⟩ := hq
    subst e1
    rw [e2]
    refine r_if_ne (tgt := 37) (n := 21) C dMD_cell_18 (by decide) rfl (fun c_18 => ?_) (fun c_18 => ?_)
    · have hz1 : inR c (3) = false := by have := b01_t c_18; simpa using this
      refine r_ldc2 (n := 40) C tw_710 dMD_cell_37 rfl ?_
      exact r_lret C dMD_cell_40 (Nat.le_refl _) (Nat.le_refl _) ⟨by unfold celS; rw [if_neg (by simp [hz1])], rfl⟩
    · have hy1 : inR c (3) = true := by have := b01_f c_18; simpa using this
      obtain ⟨ec, lc⟩ := inR_c (n := 3) (by omega) hy1
      refine r_aload_n (n := 22) C dMD_cell_21 rfl rfl ?_
      refine r_iload_n (n := 23) C dMD_cell_22 rfl rfl ?_
      refine r_aload_n (n := 24) C dMD_cell_23 rfl rfl ?_
      refine r_get (ci := 10) (n := 27) C hinMD rfl 4 (by decide) tw_539 rfl dMD_cell_24 rfl hM.1 rfl ?_
      refine r_iconst (v := 3) (n := 28) C dMD_cell_27 rfl (by decide) ?_
      refine r_iload_n (n := 29) C dMD_cell_28 rfl rfl ?_
      refine V.eqi ev ?_
      refine r_iadd (n := 30) C dMD_cell_29 rfl ?_
      refine V.eqi (nI_add 3 _) ?_
      refine r_ialdM (n := 31) C dMD_cell_30 rfl hM 4 (by decide) (3 + cl v) rfl (by show _ < 26; omega) ?_
      rw [hb1]
      refine r_ci (n := 34) (rn_V (z := 2) (ci := 10) (T := TMD) C (c_MD_out (Kl K) (Ko K) h m _ i (nI (S.1 (3 + cl v)).length) hM.1) tw_600 tw_602 ts_19 tw_4 tw_603 rfl rfl ndMD_out ⟨Nat.le_of_ble_eq_true rfl, Nat.le_of_ble_eq_true rfl⟩ hM.1 rfl rfl rfl (Nat.le_of_ble_eq_true rfl) dMD_cell_31 ⟨Nat.le_of_ble_eq_true rfl, Nat.le_of_ble_eq_true rfl⟩) rfl (fun y ah hq => ?_)
      obtain ⟨e1, e2⟩ := hq
      subst e1
      rw [e2]
      refine r_if_eq (tgt := 41) (n := 37) C dMD_cell_34 (by decide) rfl (fun c_34 => ?_) (fun c_34 => ?_)
      · have hy2 : inR i (nI (S.1 (3 + cl v)).length) = true := by have := b01_f c_34; simpa using this
        obtain ⟨ei, li⟩ := inR_c (n := (S.1 (3 + cl v)).length) (by omega) hy2
        obtain ⟨r, hr⟩ : ∃ r, (S.1 (3 + cl v))[cl i]? = some r := ⟨_, List.getElem?_eq_getElem li⟩
        obtain ⟨v0, v1, v2, v3⟩ := hb3 _ r hr
        refine r_aload_n (n := 42) C dMD_cell_41 rfl rfl ?_
        refine r_iconst (v := 3) (n := 43) C dMD_cell_42 rfl (by decide) ?_
        refine r_iload_n (n := 44) C dMD_cell_43 rfl rfl ?_
        refine V.eqi ev ?_
        refine r_iadd (n := 45) C dMD_cell_44 rfl ?_
        refine V.eqi (nI_add 3 _) ?_
        refine r_bipush (v := 24) (n := 47) C dMD_cell_45 rfl (by decide) ?_
        refine r_imul (n := 48) C dMD_cell_47 rfl ?_
        refine V.eqi (x24 _) ?_
        refine r_iload_n (n := 49) C dMD_cell_48 rfl rfl ?_
        refine V.eqi ei ?_
        refine r_iadd (n := 50) C dMD_cell_49 rfl ?_
        refine V.eqi (nI_add _ _) ?_
        refine r_iload_n (n := 51) C dMD_cell_50 rfl rfl ?_
        refine V.eqi ec ?_
        refine r_ci (n := 54) (rn_V (z := 2) (ci := 10) (T := TMD) C (c_MD_column (Kl K) (Ko K) h m ad MI ML MV ((3 + cl v) * 24 + cl i) (cl c) r.1 hM (by omega) lc v0 v1 v2) tw_616 tw_618 ts_23 tw_4 tw_619 rfl rfl ndMD_column ⟨Nat.le_of_ble_eq_true rfl, Nat.le_of_ble_eq_true rfl⟩ hM.1 rfl rfl rfl (Nat.le_of_ble_eq_true rfl) dMD_cell_51 ⟨Nat.le_of_ble_eq_true rfl, Nat.le_of_ble_eq_true rfl⟩) rfl (fun y ah hq => ?_)
        obtain ⟨e1, e2⟩ := hq
        subst e1
        rw [e2]
        refine r_i2l (n := 55) C dMD_cell_54 rfl ?_
        exact r_lret C dMD_cell_55 (Nat.le_refl _) (Nat.le_refl _) ⟨by unfold celS; rw [if_pos (by simp [hy0, hy1, hy2]), hr], rfl⟩
      · have hz2 : inR i (nI (S.1 (3 + cl v)).length) = false := by have := b01_t c_34; simpa using this
        refine r_ldc2 (n := 40) C tw_710 dMD_cell_37 rfl ?_
        exact r_lret C dMD_cell_40 (Nat.le_refl _) (Nat.le_refl _) ⟨by unfold celS; rw [if_neg (by simp [hz2])], rfl⟩
set_option maxHeartbeats 4000000 in
set_option maxRecDepth 100000 in
/-- total -/
theorem c_MD_total (l : Launch) (o : Om) (h : AH) (m : Nat) (v : Int32) (ad : Nat → Nat) (S : Sx) (hs : MS o h m ad S) : Mt l o yMD_total cMD_total 5 (some .long) ({ frames := 1, cells := 0, slots := 0, locals := 22 } : Room) [.ref m, .int v] h (QL o (fun r h' => r = totS v S ∧ h' = h)) (0) (0) := by
  refine Met.ofV (by decide) (Nat.le_of_ble_eq_true rfl) (fun K hl ho C => ?_)
  subst hl; subst ho
  obtain ⟨MI, ML, MV, hM, hnd, hn10, hBL, hPL, hRL, hcf, hall⟩ := id hs
  refine r_aload_n (n := 1) C dMD_total_0 rfl rfl ?_
  refine r_iload_n (n := 2) C dMD_total_1 rfl rfl ?_
  refine r_aload_n (n := 3) C dMD_total_2 rfl rfl ?_
  refine r_get (ci := 10) (n := 6) C hinMD rfl 13 (by decide) tw_548 rfl dMD_total_3 rfl hM.1 rfl ?_
  refine V.eqi hnd ?_
  refine r_ci (n := 9) (rn_V (z := 2) (ci := 10) (T := TMD) C (c_MD_out (Kl K) (Ko K) h m _ v (nod S) hM.1) tw_600 tw_602 ts_19 tw_4 tw_603 rfl rfl ndMD_out ⟨Nat.le_of_ble_eq_true rfl, Nat.le_of_ble_eq_true rfl⟩ hM.1 rfl rfl rfl (Nat.le_of_ble_eq_true rfl) dMD_total_6 ⟨Nat.le_of_ble_eq_true rfl, Nat.le_of_ble_eq_true rfl⟩) rfl (fun y ah hq => ?_)
  obtain ⟨e1, e2⟩ := hq
  subst e1
  rw [e2]
  refine r_if_eq (tgt := 16) (n := 12) C dMD_total_9 (by decide) rfl (fun c_9 => ?_) (fun c_9 => ?_)
  · have hy0 : inR v (nod S) = true := by have := b01_f c_9; simpa using this
    obtain ⟨ev, lv⟩ := inR_c (n := S.2.2.2.length) (by omega) hy0
    obtain ⟨hb1, hb2, hb3⟩ := id (hBL (3 + cl v) (by omega))
    have hbb0 : 3 + cl v < 13 := by omega
    generalize hbb : 3 + cl v = bb at hbb0 hb1 hb2 hb3
    have loop : ∀ (q i : Nat), (S.1 bb).length - i = q → i ≤ (S.1 bb).length → V K h 0 0 (EndQ K (QL (Ko K) (fun r h' => r = totS v S ∧ h' = h)) 0 0) 26 [(0, .ref m), (1, .int v), (2, .long (sumW ((S.1 bb).take i))), (4, .int (nI (bb * 24 + i)))] [] := by
      intro q
      induction q using Nat.strongRecOn with
      | _ q ih =>
        intro i hm hi
        refine r_iload (n := 28) C dMD_total_26 rfl rfl ?_
        refine r_iconst (v := 3) (n := 29) C dMD_total_28 rfl (by decide) ?_
        refine r_iload_n (n := 30) C dMD_total_29 rfl rfl ?_
        refine V.eqi ev ?_
        refine r_iadd (n := 31) C dMD_total_30 rfl ?_
        refine V.eqi ((nI_add 3 _).trans (congrArg nI hbb)) ?_
        refine r_bipush (v := 24) (n := 33) C dMD_total_31 rfl (by decide) ?_
        refine r_imul (n := 34) C dMD_total_33 rfl ?_
        refine V.eqi (x24 _) ?_
        refine r_aload_n (n := 35) C dMD_total_34 rfl rfl ?_
        refine r_get (ci := 10) (n := 38) C hinMD rfl 4 (by decide) tw_539 rfl dMD_total_35 rfl hM.1 rfl ?_
        refine r_iconst (v := 3) (n := 39) C dMD_total_38 rfl (by decide) ?_
        refine r_iload_n (n := 40) C dMD_total_39 rfl rfl ?_
        refine V.eqi ev ?_
        refine r_iadd (n := 41) C dMD_total_40 rfl ?_
        refine V.eqi ((nI_add 3 _).trans (congrArg nI hbb)) ?_
        refine r_ialdM (n := 42) C dMD_total_41 rfl hM 4 (by decide) bb rfl (by show _ < 26; omega) ?_
        rw [hb1]
        refine r_iadd (n := 43) C dMD_total_42 rfl ?_
        refine V.eqi (nI_add _ _) ?_
        refine r_icmp_ge (tgt := 62) (n := 46) C dMD_total_43 (by decide) rfl (fun c_43 => ?_) (fun c_43 => ?_)
        · have hie : i = (S.1 bb).length := by have := (nI_leI (a := bb * 24 + (S.1 bb).length) (b := bb * 24 + i) (by omega) (by omega)).mp c_43; omega
          refine r_lload_n (n := 63) C dMD_total_62 rfl rfl ?_
          exact r_lret C dMD_total_63 (Nat.le_refl _) (Nat.le_refl _) ⟨by unfold totS; rw [if_pos hy0, hbb, hie, List.take_length], rfl⟩
        · have hlt : i < (S.1 bb).length := by
            rcases Nat.lt_or_ge i (S.1 bb).length with q1 | q1
            · exact q1
            · exact absurd (nI_le (a := bb * 24 + (S.1 bb).length) (b := bb * 24 + i) (by omega) (by omega)) c_43
          obtain ⟨r, hr⟩ : ∃ r, (S.1 bb)[i]? = some r := ⟨_, List.getElem?_eq_getElem hlt⟩
          obtain ⟨v0, v1, v2, v3⟩ := hb3 i r hr
          refine r_lload_n (n := 47) C dMD_total_46 rfl rfl ?_
          refine r_aload_n (n := 48) C dMD_total_47 rfl rfl ?_
          refine r_get (ci := 10) (n := 51) C hinMD rfl 3 (by decide) tw_538 rfl dMD_total_48 rfl hM.1 rfl ?_
          refine r_iload (n := 53) C dMD_total_51 rfl rfl ?_
          refine r_laldM (n := 54) C dMD_total_53 rfl hM 3 (by decide) (bb * 24 + i) rfl (by show _ < 624; omega) ?_
          rw [v3]
          refine r_ladd (n := 55) C dMD_total_54 rfl ?_
          refine V.eql (y := sumW ((S.1 bb).take (i + 1))) (fold_take (fun s r => s + r.2) 0 hr).symm ?_
          refine r_lstore_n (n := 56) C dMD_total_55 rfl (by decide) ?_
          refine r_iinc (n := 59) C dMD_total_56 rfl rfl (nI_i _) (by decide) ?_
          refine r_goto (tgt := 26) C dMD_total_59 (by decide) ?_
          refine V.byk (ls' := [(0, .ref m), (1, .int v), (2, .long (sumW ((S.1 bb).take (i + 1)))), (4, .int (nI (bb * 24 + (i + 1))))]) rfl ?_
          exact ih _ (by omega) (i + 1) rfl (by omega)
    refine r_lconst (v := 0) (n := 17) C dMD_total_16 rfl (by decide) ?_
    refine r_lstore_n (n := 18) C dMD_total_17 rfl (by decide) ?_
    refine r_iconst (v := 3) (n := 19) C dMD_total_18 rfl (by decide) ?_
    refine r_iload_n (n := 20) C dMD_total_19 rfl rfl ?_
    refine V.eqi ev ?_
    refine r_iadd (n := 21) C dMD_total_20 rfl ?_
    refine V.eqi ((nI_add 3 _).trans (congrArg nI hbb)) ?_
    refine r_bipush (v := 24) (n := 23) C dMD_total_21 rfl (by decide) ?_
    refine r_imul (n := 24) C dMD_total_23 rfl ?_
    refine V.eqi (x24 _) ?_
    refine r_istore (n := 26) C dMD_total_24 rfl (by decide) ?_
    refine V.byk (ls' := [(0, .ref m), (1, .int v), (2, .long 0), (4, .int (nI (bb * 24 + 0)))]) rfl ?_
    exact loop _ 0 rfl (Nat.zero_le _)
  · have hz0 : inR v (nod S) = false := by have := b01_t c_9; simpa using this
    refine r_ldc2 (n := 15) C tw_710 dMD_total_12 rfl ?_
    exact r_lret C dMD_total_15 (Nat.le_refl _) (Nat.le_refl _) ⟨by unfold totS; rw [if_neg (by simp [hz0])], rfl⟩
set_option maxHeartbeats 4000000 in
set_option maxRecDepth 100000 in
/-- mean -/
theorem c_MD_mean (l : Launch) (o : Om) (h : AH) (m : Nat) (v c : Int32) (ad : Nat → Nat) (S : Sx) (hs : MS o h m ad S) : Mt l o yMD_mean cMD_mean 8 (some .double) ({ frames := 2, cells := 0, slots := 0, locals := 46 } : Room) [.ref m, .int v, .int c] h (QD o (fun r h' => r = meaS v c S ∧ h' = h)) (0) (0) := by
  refine Met.ofV (by decide) (Nat.le_of_ble_eq_true rfl) (fun K hl ho C => ?_)
  subst hl; subst ho
  obtain ⟨MI, ML, MV, hM, hnd, hn10, hBL, hPL, hRL, hcf, hall⟩ := id hs
  refine r_aload_n (n := 1) C dMD_mean_0 rfl rfl ?_
  refine r_iload_n (n := 2) C dMD_mean_1 rfl rfl ?_
  refine r_aload_n (n := 3) C dMD_mean_2 rfl rfl ?_
  refine r_get (ci := 10) (n := 6) C hinMD rfl 13 (by decide) tw_548 rfl dMD_mean_3 rfl hM.1 rfl ?_
  refine V.eqi hnd ?_
  refine r_ci (n := 9) (rn_V (z := 2) (ci := 10) (T := TMD) C (c_MD_out (Kl K) (Ko K) h m _ v (nod S) hM.1) tw_600 tw_602 ts_19 tw_4 tw_603 rfl rfl ndMD_out ⟨Nat.le_of_ble_eq_true rfl, Nat.le_of_ble_eq_true rfl⟩ hM.1 rfl rfl rfl (Nat.le_of_ble_eq_true rfl) dMD_mean_6 ⟨Nat.le_of_ble_eq_true rfl, Nat.le_of_ble_eq_true rfl⟩) rfl (fun y ah hq => ?_)
  obtain ⟨e1, e2⟩ := hq
  subst e1
  rw [e2]
  refine r_if_ne (tgt := 21) (n := 12) C dMD_mean_9 (by decide) rfl (fun c_9 => ?_) (fun c_9 => ?_)
  · have hz0 : inR v (nod S) = false := by have := b01_t c_9; simpa using this
    refine r_dconst0 (n := 22) C dMD_mean_21 rfl ?_
    exact r_dret C dMD_mean_22 (Nat.le_refl _) (Nat.le_refl _) ⟨by unfold meaS; rw [if_neg (by simp [hz0])], rfl⟩
  · have hy0 : inR v (nod S) = true := by have := b01_f c_9; simpa using this
    obtain ⟨ev, lv⟩ := inR_c (n := S.2.2.2.length) (by omega) hy0
    obtain ⟨hb1, hb2, hb3⟩ := id (hBL (3 + cl v) (by omega))
    have hbb0 : 3 + cl v < 13 := by omega
    generalize hbb : 3 + cl v = bb at hbb0 hb1 hb2 hb3
    refine r_aload_n (n := 13) C dMD_mean_12 rfl rfl ?_
    refine r_iload_n (n := 14) C dMD_mean_13 rfl rfl ?_
    refine r_iconst (v := 3) (n := 15) C dMD_mean_14 rfl (by decide) ?_
    refine r_ci (n := 18) (rn_V (z := 2) (ci := 10) (T := TMD) C (c_MD_out (Kl K) (Ko K) h m _ c (3) hM.1) tw_600 tw_602 ts_19 tw_4 tw_603 rfl rfl ndMD_out ⟨Nat.le_of_ble_eq_true rfl, Nat.le_of_ble_eq_true rfl⟩ hM.1 rfl rfl rfl (Nat.le_of_ble_eq_true rfl) dMD_mean_15 ⟨Nat.le_of_ble_eq_true rfl, Nat.le_of_ble_eq_true rfl⟩) rfl (fun y ah hq => ?_)
    obtain ⟨e1, e2⟩ := hq
    subst e1
    rw [e2]
    refine r_if_eq (tgt := 23) (n := 21) C dMD_mean_18 (by decide) rfl (fun c_18 => ?_) (fun c_18 => ?_)
    · have hy1 : inR c (3) = true := by have := b01_f c_18; simpa using this
      obtain ⟨ec, lc⟩ := inR_c (n := 3) (by omega) hy1
      refine r_aload_n (n := 24) C dMD_mean_23 rfl rfl ?_
      refine r_iload_n (n := 25) C dMD_mean_24 rfl rfl ?_
      refine r_cl (n := 28) (rn_V (z := 1) (ci := 10) (T := TMD) C (c_MD_total (Kl K) (Ko K) h m v ad S hs) tw_735 tw_724 tw_725 tw_4 tw_726 rfl rfl ndMD_total ⟨Nat.le_of_ble_eq_true rfl, Nat.le_of_ble_eq_true rfl⟩ hM.1 rfl rfl rfl (Nat.le_of_ble_eq_true rfl) dMD_mean_25 ⟨Nat.le_of_ble_eq_true rfl, Nat.le_of_ble_eq_true rfl⟩) rfl (fun y ah hq => ?_)
      obtain ⟨e1, e2⟩ := hq
      rw [show totS v S = sumW (S.1 bb) from (if_pos hy0).trans (by rw [hbb])] at e1
      subst e1
      rw [e2]
      refine r_lstore_n (n := 29) C dMD_mean_28 rfl (by decide) ?_
      refine r_lload_n (n := 30) C dMD_mean_29 rfl rfl ?_
      refine r_lconst (v := 0) (n := 31) C dMD_mean_30 rfl (by decide) ?_
      refine r_lcmp (n := 32) C dMD_mean_31 rfl ?_
      refine r_if_ne (tgt := 37) (n := 35) C dMD_mean_32 (by decide) rfl (fun c_32 => ?_) (fun c_32 => ?_)
      · have hz : ¬ sumW (S.1 bb) = 0 := fun e => c_32 ((lg_cmp_eq _ _).mpr e)
        have loop : ∀ (q i : Nat), (S.1 bb).length - i = q → i ≤ (S.1 bb).length → V K h 0 0 (EndQ K (QD (Ko K) (fun r h' => r = meaS v c S ∧ h' = h)) 0 0) 48 [(0, .ref m), (1, .int v), (2, .int c), (3, .long (sumW (S.1 bb))), (5, .long (sumC (cl c) ((S.1 bb).take i))), (7, .int (nI (bb * 24 + i)))] [] := by
          intro q
          induction q using Nat.strongRecOn with
          | _ q ih =>
            intro i hm hi
            refine r_iload (n := 50) C dMD_mean_48 rfl rfl ?_
            refine r_iconst (v := 3) (n := 51) C dMD_mean_50 rfl (by decide) ?_
            refine r_iload_n (n := 52) C dMD_mean_51 rfl rfl ?_
            refine V.eqi ev ?_
            refine r_iadd (n := 53) C dMD_mean_52 rfl ?_
            refine V.eqi ((nI_add 3 _).trans (congrArg nI hbb)) ?_
            refine r_bipush (v := 24) (n := 55) C dMD_mean_53 rfl (by decide) ?_
            refine r_imul (n := 56) C dMD_mean_55 rfl ?_
            refine V.eqi (x24 _) ?_
            refine r_aload_n (n := 57) C dMD_mean_56 rfl rfl ?_
            refine r_get (ci := 10) (n := 60) C hinMD rfl 4 (by decide) tw_539 rfl dMD_mean_57 rfl hM.1 rfl ?_
            refine r_iconst (v := 3) (n := 61) C dMD_mean_60 rfl (by decide) ?_
            refine r_iload_n (n := 62) C dMD_mean_61 rfl rfl ?_
            refine V.eqi ev ?_
            refine r_iadd (n := 63) C dMD_mean_62 rfl ?_
            refine V.eqi ((nI_add 3 _).trans (congrArg nI hbb)) ?_
            refine r_ialdM (n := 64) C dMD_mean_63 rfl hM 4 (by decide) bb rfl (by show _ < 26; omega) ?_
            rw [hb1]
            refine r_iadd (n := 65) C dMD_mean_64 rfl ?_
            refine V.eqi (nI_add _ _) ?_
            refine r_icmp_ge (tgt := 95) (n := 68) C dMD_mean_65 (by decide) rfl (fun c_65 => ?_) (fun c_65 => ?_)
            · have hie : i = (S.1 bb).length := by have := (nI_leI (a := bb * 24 + (S.1 bb).length) (b := bb * 24 + i) (by omega) (by omega)).mp c_65; omega
              refine r_lload (n := 97) C dMD_mean_95 rfl rfl ?_
              refine r_l2d (n := 98) C dMD_mean_97 rfl ?_
              refine r_lload_n (n := 99) C dMD_mean_98 rfl rfl ?_
              refine r_l2d (n := 100) C dMD_mean_99 rfl ?_
              refine r_ddiv (n := 101) C dMD_mean_100 rfl (mean_ok hz) ?_
              exact r_dret C dMD_mean_101 (Nat.le_refl _) (Nat.le_refl _) ⟨by unfold meaS; rw [if_pos (by simp [hy0, hy1]), hbb, if_neg hz, hie, List.take_length], rfl⟩
            · have hlt : i < (S.1 bb).length := by
                rcases Nat.lt_or_ge i (S.1 bb).length with q1 | q1
                · exact q1
                · exact absurd (nI_le (a := bb * 24 + (S.1 bb).length) (b := bb * 24 + i) (by omega) (by omega)) c_65
              obtain ⟨r, hr⟩ : ∃ r, (S.1 bb)[i]? = some r := ⟨_, List.getElem?_eq_getElem hlt⟩
              obtain ⟨v0, v1, v2, v3⟩ := hb3 i r hr
              refine r_lload (n := 70) C dMD_mean_68 rfl rfl ?_
              refine r_aload_n (n := 71) C dMD_mean_70 rfl rfl ?_
              refine r_get (ci := 10) (n := 74) C hinMD rfl 3 (by decide) tw_538 rfl dMD_mean_71 rfl hM.1 rfl ?_
              refine r_iload (n := 76) C dMD_mean_74 rfl rfl ?_
              refine r_laldM (n := 77) C dMD_mean_76 rfl hM 3 (by decide) (bb * 24 + i) rfl (by show _ < 624; omega) ?_
              rw [v3]
              refine r_aload_n (n := 78) C dMD_mean_77 rfl rfl ?_
              refine r_iload (n := 80) C dMD_mean_78 rfl rfl ?_
              refine r_iload_n (n := 81) C dMD_mean_80 rfl rfl ?_
              refine V.eqi ec ?_
              refine r_ci (n := 84) (rn_V (z := 2) (ci := 10) (T := TMD) C (c_MD_column (Kl K) (Ko K) h m ad MI ML MV (bb * 24 + i) (cl c) r.1 hM (by omega) lc v0 v1 v2) tw_616 tw_618 ts_23 tw_4 tw_619 rfl rfl ndMD_column ⟨Nat.le_of_ble_eq_true rfl, Nat.le_of_ble_eq_true rfl⟩ hM.1 rfl rfl rfl (Nat.le_of_ble_eq_true rfl) dMD_mean_81 ⟨Nat.le_of_ble_eq_true rfl, Nat.le_of_ble_eq_true rfl⟩) rfl (fun y ah hq => ?_)
              obtain ⟨e1, e2⟩ := hq
              subst e1
              rw [e2]
              refine r_i2l (n := 85) C dMD_mean_84 rfl ?_
              refine r_lmul (n := 86) C dMD_mean_85 rfl ?_
              refine r_ladd (n := 87) C dMD_mean_86 rfl ?_
              refine V.eql (y := sumC (cl c) ((S.1 bb).take (i + 1))) (fold_take (fun s r => s + r.2 * (colv r.1 (cl c)).toInt64) 0 hr).symm ?_
              refine r_lstore (n := 89) C dMD_mean_87 rfl (by decide) ?_
              refine r_iinc (n := 92) C dMD_mean_89 rfl rfl (nI_i _) (by decide) ?_
              refine r_goto (tgt := 48) C dMD_mean_92 (by decide) ?_
              refine V.byk (ls' := [(0, .ref m), (1, .int v), (2, .int c), (3, .long (sumW (S.1 bb))), (5, .long (sumC (cl c) ((S.1 bb).take (i + 1)))), (7, .int (nI (bb * 24 + (i + 1))))]) rfl ?_
              exact ih _ (by omega) (i + 1) rfl (by omega)
        refine r_lconst (v := 0) (n := 38) C dMD_mean_37 rfl (by decide) ?_
        refine r_lstore (n := 40) C dMD_mean_38 rfl (by decide) ?_
        refine r_iconst (v := 3) (n := 41) C dMD_mean_40 rfl (by decide) ?_
        refine r_iload_n (n := 42) C dMD_mean_41 rfl rfl ?_
        refine V.eqi ev ?_
        refine r_iadd (n := 43) C dMD_mean_42 rfl ?_
        refine V.eqi ((nI_add 3 _).trans (congrArg nI hbb)) ?_
        refine r_bipush (v := 24) (n := 45) C dMD_mean_43 rfl (by decide) ?_
        refine r_imul (n := 46) C dMD_mean_45 rfl ?_
        refine V.eqi (x24 _) ?_
        refine r_istore (n := 48) C dMD_mean_46 rfl (by decide) ?_
        refine V.byk (ls' := [(0, .ref m), (1, .int v), (2, .int c), (3, .long (sumW (S.1 bb))), (5, .long 0), (7, .int (nI (bb * 24 + 0)))]) rfl ?_
        exact loop _ 0 rfl (Nat.zero_le _)
      · have hz : sumW (S.1 bb) = 0 := (lg_cmp_eq _ _).mp c_32
        refine r_dconst0 (n := 36) C dMD_mean_35 rfl ?_
        exact r_dret C dMD_mean_36 (Nat.le_refl _) (Nat.le_refl _) ⟨by unfold meaS; rw [if_pos (by simp [hy0, hy1]), hbb, if_pos hz], rfl⟩
    · have hz1 : inR c (3) = false := by have := b01_t c_18; simpa using this
      refine r_dconst0 (n := 22) C dMD_mean_21 rfl ?_
      exact r_dret C dMD_mean_22 (Nat.le_refl _) (Nat.le_refl _) ⟨by unfold meaS; rw [if_neg (by simp [hz1])], rfl⟩
theorem lt5 {v : Int32} (h : v < 5) : v ≤ 4 := by
  rw [Int32.lt_iff_toInt_lt] at h
  rw [Int32.le_iff_toInt_le]
  have e5 : (5 : Int32).toInt = 5 := by decide
  have e4 : (4 : Int32).toInt = 4 := by decide
  omega
theorem le4 {v : Int32} (h : v ≤ 4) : v < 5 := by
  rw [Int32.le_iff_toInt_le] at h
  rw [Int32.lt_iff_toInt_lt]
  have e5 : (5 : Int32).toInt = 5 := by decide
  have e4 : (4 : Int32).toInt = 4 := by decide
  omega
set_option maxHeartbeats 4000000 in
set_option maxRecDepth 100000 in
/-- count -/
theorem c_MD_count (l : Launch) (o : Om) (h : AH) (m : Nat) (v : Int32) (ad : Nat → Nat) (S : Sx) (hs : MS o h m ad S) : Mt l o yMD_count cMD_count 2 (some .int) ({ frames := 0, cells := 0, slots := 0, locals := 0 } : Room) [.ref m, .int v] h (QI o (fun r h' => r = couS v S ∧ h' = h)) (0) (0) := by
  refine Met.ofV (by decide) (Nat.le_of_ble_eq_true rfl) (fun K hl ho C => ?_)
  subst hl; subst ho
  obtain ⟨MI, ML, MV, hM, hnd, hn10, hBL, hPL, hRL, hcf, hall⟩ := id hs
  refine r_iload_n (n := 1) C dMD_count_0 rfl rfl ?_
  refine r_if_ne (tgt := 9) (n := 4) C dMD_count_1 (by decide) rfl (fun c_1 => ?_) (fun c_1 => ?_)
  · refine r_iload_n (n := 10) C dMD_count_9 rfl rfl ?_
    refine r_iconst (v := 1) (n := 11) C dMD_count_10 rfl (by decide) ?_
    refine r_icmp_ne (tgt := 19) (n := 14) C dMD_count_11 (by decide) rfl (fun c_11 => ?_) (fun c_11 => ?_)
    · refine r_iload_n (n := 20) C dMD_count_19 rfl rfl ?_
      refine r_iconst (v := 2) (n := 21) C dMD_count_20 rfl (by decide) ?_
      refine r_icmp_lt (tgt := 29) (n := 24) C dMD_count_21 (by decide) rfl (fun c_21 => ?_) (fun c_21 => ?_)
      · refine r_iconst (v := -1) (n := 30) C dMD_count_29 rfl (by decide) ?_
        refine r_goto (tgt := 41) C dMD_count_30 (by decide) ?_
        exact r_iret C dMD_count_41 (Nat.le_refl _) (Nat.le_refl _) ⟨by unfold couS; rw [if_neg c_1, if_neg c_11, if_neg (fun z => Int32.not_le.mpr c_21 z.1)], rfl⟩
      · refine r_iload_n (n := 25) C dMD_count_24 rfl rfl ?_
        refine r_iconst (v := 4) (n := 26) C dMD_count_25 rfl (by decide) ?_
        refine r_icmp_le (tgt := 33) (n := 29) C dMD_count_26 (by decide) rfl (fun c_26 => ?_) (fun c_26 => ?_)
        · have hv2 : (2 : Int32) ≤ v := Int32.not_lt.mp c_21
          have hv5 : v < 5 := le4 c_26
          obtain ⟨j, hj, ej⟩ : ∃ j : Nat, j < 3 ∧ v - 2 = nI j := cou_ix hv2 hv5
          have ecl : cl (v - 2) = j := by rw [ej]; exact nI_clamp (by omega)
          obtain ⟨hb1, hb2, hb3⟩ := hBL j (by omega)
          refine r_aload_n (n := 34) C dMD_count_33 rfl rfl ?_
          refine r_get (ci := 10) (n := 37) C hinMD rfl 4 (by decide) tw_539 rfl dMD_count_34 rfl hM.1 rfl ?_
          refine r_iload_n (n := 38) C dMD_count_37 rfl rfl ?_
          refine r_iconst (v := 2) (n := 39) C dMD_count_38 rfl (by decide) ?_
          refine r_isub (n := 40) C dMD_count_39 rfl ?_
          refine r_ialdM (n := 41) C dMD_count_40 rfl hM 4 (by decide) j ej (by show _ < 26; omega) ?_
          exact r_iret C dMD_count_41 (Nat.le_refl _) (Nat.le_refl _) ⟨by unfold couS; rw [if_neg c_1, if_neg c_11, if_pos ⟨hv2, hv5⟩, ecl]; exact hb1, rfl⟩
        · refine r_iconst (v := -1) (n := 30) C dMD_count_29 rfl (by decide) ?_
          refine r_goto (tgt := 41) C dMD_count_30 (by decide) ?_
          exact r_iret C dMD_count_41 (Nat.le_refl _) (Nat.le_refl _) ⟨by unfold couS; rw [if_neg c_1, if_neg c_11, if_neg (fun z => c_26 (lt5 z.2))], rfl⟩
    · refine r_aload_n (n := 15) C dMD_count_14 rfl rfl ?_
      refine r_get (ci := 10) (n := 18) C hinMD rfl 19 (by decide) tw_554 rfl dMD_count_15 rfl hM.1 rfl ?_
      exact r_iret C dMD_count_18 (Nat.le_refl _) (Nat.le_refl _) ⟨by unfold couS; rw [if_neg c_1, if_pos c_11]; exact hPL.1, rfl⟩
  · refine r_aload_n (n := 5) C dMD_count_4 rfl rfl ?_
    refine r_get (ci := 10) (n := 8) C hinMD rfl 13 (by decide) tw_548 rfl dMD_count_5 rfl hM.1 rfl ?_
    exact r_iret C dMD_count_8 (Nat.le_refl _) (Nat.le_refl _) ⟨by unfold couS; rw [if_pos c_1]; exact hnd, rfl⟩
set_option maxHeartbeats 4000000 in
set_option maxRecDepth 100000 in
/-- drop -/
theorem c_MD_drop (l : Launch) (o : Om) (h : AH) (m : Nat) (ad : Nat → Nat) (S : Sx) (hs : MS o h m ad S) : Mt l o yMD_drop cMD_drop 2 (some .int) ({ frames := 0, cells := 0, slots := 0, locals := 0 } : Room) [.ref m] h (QI o (fun r h' => r = (droS S).1 ∧ MUp o h h' m ad (droS S).2)) (0) (0) := by
  refine Met.ofV (by decide) (Nat.le_of_ble_eq_true rfl) (fun K hl ho C => ?_)
  subst hl; subst ho
  obtain ⟨MI, ML, MV, hM, hnd, hn10, hBL, hPL, hRL, hcf, hall⟩ := id hs
  refine r_aload_n (n := 1) C dMD_drop_0 rfl rfl ?_
  refine r_get (ci := 10) (n := 4) C hinMD rfl 19 (by decide) tw_554 rfl dMD_drop_1 rfl hM.1 rfl ?_
  refine V.eqi hPL.1 ?_
  refine r_istore_n (n := 5) C dMD_drop_4 rfl (by decide) ?_
  refine r_aload_n (n := 6) C dMD_drop_5 rfl rfl ?_
  refine r_iconst (v := 0) (n := 7) C dMD_drop_6 rfl (by decide) ?_
  refine r_put (ci := 10) (n := 10) C hinMD tyMD okMD nmMD rfl 19 (by decide) tw_554 rfl rfl (okMD 19 (by decide)) rfl rfl dMD_drop_7 rfl hM.1 (Nat.le_of_ble_eq_true rfl) ?_
  refine V.setV hM 19 (by decide) _ rfl (fun h1 hM1 hF1 => ?_)
  refine r_iload_n (n := 11) C dMD_drop_10 rfl rfl ?_
  exact r_iret C dMD_drop_11 (Nat.le_refl _) (Nat.le_refl _) ⟨rfl, ⟨MI, ML, _, hM1, hnd, hn10, hBL, ⟨rfl, Nat.zero_le _, fun i e he => by simp [droS] at he⟩, hRL, hcf, hall⟩, hF1⟩
set_option maxHeartbeats 4000000 in
set_option maxRecDepth 100000 in
/-- change -/
theorem c_MD_change (l : Launch) (o : Om) (h : AH) (m : Nat) (t a b c y : Int32) (ad : Nat → Nat) (S : Sx) (hs : MS o h m ad S) : Mt l o yMD_change cMD_change 6 (some .int) ({ frames := 1, cells := 0, slots := 0, locals := 22 } : Room) [.ref m, .int t, .int a, .int b, .int c, .int y] h (QI o (fun r h' => r = (chaS t a b c y S).1 ∧ MUp o h h' m ad (chaS t a b c y S).2)) (0) (0) := by
  refine Met.ofV (by decide) (Nat.le_of_ble_eq_true rfl) (fun K hl ho C => ?_)
  subst hl; subst ho
  obtain ⟨MI, ML, MV, hM, hnd, hn10, hBL, hPL, hRL, hcf, hall⟩ := id hs
  have hpl : S.2.1.length ≤ 12 := hPL.2.1
  refine r_aload_n (n := 1) C dMD_change_0 rfl rfl ?_
  refine r_iload_n (n := 2) C dMD_change_1 rfl rfl ?_
  refine r_iconst (v := 3) (n := 3) C dMD_change_2 rfl (by decide) ?_
  refine r_ci (n := 6) (rn_V (z := 2) (ci := 10) (T := TMD) C (c_MD_out (Kl K) (Ko K) h m _ t (3) hM.1) tw_600 tw_602 ts_19 tw_4 tw_603 rfl rfl ndMD_out ⟨Nat.le_of_ble_eq_true rfl, Nat.le_of_ble_eq_true rfl⟩ hM.1 rfl rfl rfl (Nat.le_of_ble_eq_true rfl) dMD_change_3 ⟨Nat.le_of_ble_eq_true rfl, Nat.le_of_ble_eq_true rfl⟩) rfl (fun y ah hq => ?_)
  obtain ⟨e1, e2⟩ := hq
  subst e1
  rw [e2]
  refine r_if_ne (tgt := 27) (n := 9) C dMD_change_6 (by decide) rfl (fun c_6 => ?_) (fun c_6 => ?_)
  · have hz0 : inR t 3 = false := by have := b01_t c_6; simpa using this
    refine r_iconst (v := -1) (n := 28) C dMD_change_27 rfl (by decide) ?_
    exact r_iret C dMD_change_28 (Nat.le_refl _) (Nat.le_refl _) ⟨by unfold chaS; rw [if_neg (fun z => by rw [hz0] at z; exact Bool.noConfusion z.1)], by unfold chaS; rw [if_neg (fun z => by rw [hz0] at z; exact Bool.noConfusion z.1)]; exact MUp.rf hs⟩
  · have hy0 : inR t 3 = true := by have := b01_f c_6; simpa using this
    refine r_iload (n := 11) C dMD_change_9 rfl rfl ?_
    refine r_bipush (v := -3) (n := 13) C dMD_change_11 rfl (by decide) ?_
    refine r_icmp_lt (tgt := 27) (n := 16) C dMD_change_13 (by decide) rfl (fun c_13 => ?_) (fun c_13 => ?_)
    · refine r_iconst (v := -1) (n := 28) C dMD_change_27 rfl (by decide) ?_
      exact r_iret C dMD_change_28 (Nat.le_refl _) (Nat.le_refl _) ⟨by unfold chaS; rw [if_neg (fun z => z.2.1 c_13)], by unfold chaS; rw [if_neg (fun z => z.2.1 c_13)]; exact MUp.rf hs⟩
    · refine r_iload (n := 18) C dMD_change_16 rfl rfl ?_
      refine r_iconst (v := 3) (n := 19) C dMD_change_18 rfl (by decide) ?_
      refine r_icmp_gt (tgt := 27) (n := 22) C dMD_change_19 (by decide) rfl (fun c_19 => ?_) (fun c_19 => ?_)
      · refine r_iconst (v := -1) (n := 28) C dMD_change_27 rfl (by decide) ?_
        exact r_iret C dMD_change_28 (Nat.le_refl _) (Nat.le_refl _) ⟨by unfold chaS; rw [if_neg (fun z => z.2.2.1 c_19)], by unfold chaS; rw [if_neg (fun z => z.2.2.1 c_19)]; exact MUp.rf hs⟩
      · refine r_iload (n := 24) C dMD_change_22 rfl rfl ?_
        refine r_if_ne (tgt := 29) (n := 27) C dMD_change_24 (by decide) rfl (fun c_24 => ?_) (fun c_24 => ?_)
        · refine r_aload_n (n := 30) C dMD_change_29 rfl rfl ?_
          refine r_get (ci := 10) (n := 33) C hinMD rfl 19 (by decide) tw_554 rfl dMD_change_30 rfl hM.1 rfl ?_
          refine V.eqi hPL.1 ?_
          refine r_bipush (v := 12) (n := 35) C dMD_change_33 rfl (by decide) ?_
          refine r_icmp_ne (tgt := 41) (n := 38) C dMD_change_35 (by decide) rfl (fun c_35 => ?_) (fun c_35 => ?_)
          · have hroom : S.2.1.length < 12 := by
              have : S.2.1.length ≠ 12 := fun e => c_35 (by rw [e]; rfl)
              omega
            refine r_aload_n (n := 42) C dMD_change_41 rfl rfl ?_
            refine r_get (ci := 10) (n := 45) C hinMD rfl 14 (by decide) tw_549 rfl dMD_change_42 rfl hM.1 rfl ?_
            refine r_aload_n (n := 46) C dMD_change_45 rfl rfl ?_
            refine r_get (ci := 10) (n := 49) C hinMD rfl 19 (by decide) tw_554 rfl dMD_change_46 rfl hM.1 rfl ?_
            refine V.eqi hPL.1 ?_
            refine r_iload_n (n := 50) C dMD_change_49 rfl rfl ?_
            refine r_iastM (n := 51) C dMD_change_50 rfl hM 14 (by decide) S.2.1.length rfl (by show _ < 12; omega) (fun h1 hM1 hF1 => ?_)
            refine r_aload_n (n := 52) C dMD_change_51 rfl rfl ?_
            refine r_get (ci := 10) (n := 55) C hinMD rfl 15 (by decide) tw_550 rfl dMD_change_52 rfl hM1.1 rfl ?_
            refine r_aload_n (n := 56) C dMD_change_55 rfl rfl ?_
            refine r_get (ci := 10) (n := 59) C hinMD rfl 19 (by decide) tw_554 rfl dMD_change_56 rfl hM1.1 rfl ?_
            refine V.eqi hPL.1 ?_
            refine r_iload_n (n := 60) C dMD_change_59 rfl rfl ?_
            refine r_iastM (n := 61) C dMD_change_60 rfl hM1 15 (by decide) S.2.1.length rfl (by show _ < 12; omega) (fun h2 hM2 hF2 => ?_)
            refine r_aload_n (n := 62) C dMD_change_61 rfl rfl ?_
            refine r_get (ci := 10) (n := 65) C hinMD rfl 16 (by decide) tw_551 rfl dMD_change_62 rfl hM2.1 rfl ?_
            refine r_aload_n (n := 66) C dMD_change_65 rfl rfl ?_
            refine r_get (ci := 10) (n := 69) C hinMD rfl 19 (by decide) tw_554 rfl dMD_change_66 rfl hM2.1 rfl ?_
            refine V.eqi hPL.1 ?_
            refine r_iload_n (n := 70) C dMD_change_69 rfl rfl ?_
            refine r_iastM (n := 71) C dMD_change_70 rfl hM2 16 (by decide) S.2.1.length rfl (by show _ < 12; omega) (fun h3 hM3 hF3 => ?_)
            refine r_aload_n (n := 72) C dMD_change_71 rfl rfl ?_
            refine r_get (ci := 10) (n := 75) C hinMD rfl 17 (by decide) tw_552 rfl dMD_change_72 rfl hM3.1 rfl ?_
            refine r_aload_n (n := 76) C dMD_change_75 rfl rfl ?_
            refine r_get (ci := 10) (n := 79) C hinMD rfl 19 (by decide) tw_554 rfl dMD_change_76 rfl hM3.1 rfl ?_
            refine V.eqi hPL.1 ?_
            refine r_iload (n := 81) C dMD_change_79 rfl rfl ?_
            refine r_iastM (n := 82) C dMD_change_81 rfl hM3 17 (by decide) S.2.1.length rfl (by show _ < 12; omega) (fun h4 hM4 hF4 => ?_)
            refine r_aload_n (n := 83) C dMD_change_82 rfl rfl ?_
            refine r_get (ci := 10) (n := 86) C hinMD rfl 18 (by decide) tw_553 rfl dMD_change_83 rfl hM4.1 rfl ?_
            refine r_aload_n (n := 87) C dMD_change_86 rfl rfl ?_
            refine r_get (ci := 10) (n := 90) C hinMD rfl 19 (by decide) tw_554 rfl dMD_change_87 rfl hM4.1 rfl ?_
            refine V.eqi hPL.1 ?_
            refine r_iload (n := 92) C dMD_change_90 rfl rfl ?_
            refine r_iastM (n := 93) C dMD_change_92 rfl hM4 18 (by decide) S.2.1.length rfl (by show _ < 12; omega) (fun h5 hM5 hF5 => ?_)
            refine r_aload_n (n := 94) C dMD_change_93 rfl rfl ?_
            refine r_dup (n := 95) C dMD_change_94 rfl rfl ?_
            refine r_get (ci := 10) (n := 98) C hinMD rfl 19 (by decide) tw_554 rfl dMD_change_95 rfl hM5.1 rfl ?_
            refine V.eqi hPL.1 ?_
            refine r_iconst (v := 1) (n := 99) C dMD_change_98 rfl (by decide) ?_
            refine r_iadd (n := 100) C dMD_change_99 rfl ?_
            refine V.eqi (nI_1 _) ?_
            refine r_put (ci := 10) (n := 103) C hinMD tyMD okMD nmMD rfl 19 (by decide) tw_554 rfl rfl (okMD 19 (by decide)) rfl rfl dMD_change_100 rfl hM5.1 (Nat.le_of_ble_eq_true rfl) ?_
            refine V.setV hM5 19 (by decide) _ rfl (fun h6 hM6 hF6 => ?_)
            refine r_aload_n (n := 104) C dMD_change_103 rfl rfl ?_
            refine r_get (ci := 10) (n := 107) C hinMD rfl 19 (by decide) tw_554 rfl dMD_change_104 rfl hM6.1 rfl ?_
            exact r_iret C dMD_change_107 (Nat.le_refl _) (Nat.le_refl _) ⟨by unfold chaS; rw [if_pos ⟨hy0, c_13, c_19, c_24⟩, if_pos hroom]; rfl, by
                  unfold chaS; rw [if_pos ⟨hy0, c_13, c_19, c_24⟩, if_pos hroom]
                  refine ⟨⟨_, ML, _, hM6, hnd, hn10, hBL, ⟨by rw [List.length_append]; rfl, by rw [List.length_append]; exact hroom, fun i e he => ?_⟩, hRL, hcf, hall⟩, ((((hF1.tr hF2).tr hF3).tr hF4).tr hF5).tr hF6⟩
                  show upd (MI 14) S.2.1.length t i = _ ∧ upd (MI 15) S.2.1.length a i = _ ∧ upd (MI 16) S.2.1.length b i = _ ∧ upd (MI 17) S.2.1.length c i = _ ∧ upd (MI 18) S.2.1.length y i = _
                  by_cases hi : i < S.2.1.length
                  · rw [List.getElem?_append_left hi] at he
                    rw [pk_un (by omega), pk_un (by omega), pk_un (by omega), pk_un (by omega), pk_un (by omega)]
                    exact hPL.2.2 i e he
                  · rw [List.getElem?_append_right (by omega)] at he
                    have hz1 := (List.getElem?_eq_some_iff.mp he).1
                    have ei : i = S.2.1.length := by simp at hz1; omega
                    subst ei
                    rw [Nat.sub_self] at he
                    cases he
                    rw [pk_us, pk_us, pk_us, pk_us, pk_us]
                    exact ⟨rfl, rfl, rfl, rfl, rfl⟩⟩
          · have hfull : ¬ S.2.1.length < 12 := by have := (nI_eq (a := S.2.1.length) (b := 12) (by omega) (by omega)).mp c_35; omega
            refine r_bipush (v := -2) (n := 40) C dMD_change_38 rfl (by decide) ?_
            exact r_iret C dMD_change_40 (Nat.le_refl _) (Nat.le_refl _) ⟨by unfold chaS; rw [if_pos ⟨hy0, c_13, c_19, c_24⟩, if_neg hfull], by unfold chaS; rw [if_pos ⟨hy0, c_13, c_19, c_24⟩, if_neg hfull]; exact MUp.rf hs⟩
        · refine r_iconst (v := -1) (n := 28) C dMD_change_27 rfl (by decide) ?_
          exact r_iret C dMD_change_28 (Nat.le_refl _) (Nat.le_refl _) ⟨by unfold chaS; rw [if_neg (fun z => z.2.2.2 c_24)], by unfold chaS; rw [if_neg (fun z => z.2.2.2 c_24)]; exact MUp.rf hs⟩
