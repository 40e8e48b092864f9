/-! THE REFERENCE: mapped, picked, emit, before, weightIn -/
def WSame (MI MI' : Nat → Nat → Int32) (ML ML' : Nat → Nat → Int64) (MV MV' : Nat → Int32) : Prop := (∀ j, j ≠ 5 → j ≠ 6 → j ≠ 7 → MI' j = MI j) ∧ ML' 3 = ML 3 ∧ (∀ j, j ≠ 9 → MV' j = MV j)
theorem WSame.rf {MI : Nat → Nat → Int32} {ML : Nat → Nat → Int64} {MV : Nat → Int32} : WSame MI MI ML ML MV MV := ⟨fun _ _ _ _ => rfl, rfl, fun _ _ => rfl⟩
theorem WSame.tr {MI MI' MI2 : Nat → Nat → Int32} {ML ML' ML2 : Nat → Nat → Int64} {MV MV' MV2 : Nat → Int32} (a : WSame MI MI' ML ML' MV MV') (b : WSame MI' MI2 ML' ML2 MV' MV2) : WSame MI MI2 ML ML2 MV MV2 := ⟨fun j h5 h6 h7 => (b.1 j h5 h6 h7).trans (a.1 j h5 h6 h7), b.2.1.trans a.2.1, fun j h9 => (b.2.2 j h9).trans (a.2.2 j h9)⟩
theorem BL.same {MI MI' : Nat → Nat → Int32} {ML ML' : Nat → Nat → Int64} {MV MV' : Nat → Int32} {b : Nat} {L : List Rw} (hB : BL MI ML b L) (s : WSame MI MI' ML ML' MV MV') : BL MI' ML' b L := by
  obtain ⟨h1, h2, h3⟩ := hB
  refine ⟨by rw [s.1 4 (by decide) (by decide) (by decide)]; exact h1, h2, fun i r hr => ?_⟩
  obtain ⟨e1, e2, e3, e4⟩ := h3 i r hr
  exact ⟨by rw [s.1 0 (by decide) (by decide) (by decide)]; exact e1, by rw [s.1 1 (by decide) (by decide) (by decide)]; exact e2, by rw [s.1 2 (by decide) (by decide) (by decide)]; exact e3, by rw [s.2.1]; exact e4⟩
def EmP (o : Om) (h h' : AH) (m : Nat) (ad : Nat → Nat) (MI : Nat → Nat → Int32) (ML : Nat → Nat → Int64) (MV : Nat → Int32) (W : List Rw) : Prop := ∃ MI' ML' MV', MH o h' m ad MI' ML' MV' ∧ WL MI' ML' MV' W ∧ WSame MI MI' ML ML' MV MV' ∧ Frm (mown m ad) h h'
set_option maxHeartbeats 4000000 in
set_option maxRecDepth 100000 in
/-- mapped -/
theorem c_MD_mapped (l : Launch) (o : Om) (h : AH) (m : Nat) (ad : Nat → Nat) (MI : Nat → Nat → Int32) (ML : Nat → Nat → Int64) (MV : Nat → Int32) (a c : Nat) (k : Ky) (hM : MH o h m ad MI ML MV) (ha : a < 624) (hc : c < 6) (h0 : MI 0 a = k.1) (h1 : MI 1 a = k.2.1) (h2 : MI 2 a = k.2.2) : Mt l o yMD_mapped cMD_mapped 3 (some .int) ({ frames := 1, cells := 0, slots := 0, locals := 22 } : Room) [.ref m, .int (nI a), .int (nI c)] h (QI o (fun x h' => x = codeF c k ∧ h' = h)) (0) (0) := by
  refine Met.ofV (by decide) (Nat.le_of_ble_eq_true rfl) (fun K hl ho C => ?_)
  subst hl; subst ho
  rcases (show c = 0 ∨ c = 1 ∨ c = 2 ∨ c = 3 ∨ c = 4 ∨ c = 5 by omega) with e0 | e0 | e0 | e0 | e0 | e0 <;> subst e0
  · refine r_iload_n (n := 1) C dMD_mapped_0 rfl rfl ?_
    refine r_iconst (v := 3) (n := 2) C dMD_mapped_1 rfl (by decide) ?_
    refine r_icmp_ge (tgt := 12) (n := 5) C dMD_mapped_2 (by decide) rfl (fun c_2 => ?_) (fun c_2 => ?_)
    · exact absurd c_2 (by decide)
    · refine r_aload_n (n := 6) C dMD_mapped_5 rfl rfl ?_
      refine r_iload_n (n := 7) C dMD_mapped_6 rfl rfl ?_
      refine r_iload_n (n := 8) C dMD_mapped_7 rfl rfl ?_
      refine r_ci (n := 11) (rn_V (z := 2) (ci := 10) (T := TMD) C (c_MD_column (Kl K) (Ko K) h m ad MI ML MV a 0 k hM (by omega) (by decide) h0 h1 h2) tw_616 tw_618 ts_23 tw_4 tw_619 rfl rfl ndMD_column ⟨Nat.le_of_ble_eq_true rfl, Nat.le_of_ble_eq_true rfl⟩ hM.1 rfl rfl rfl (Nat.le_of_ble_eq_true rfl) dMD_mapped_8 ⟨Nat.le_of_ble_eq_true rfl, Nat.le_of_ble_eq_true rfl⟩) rfl (fun x ah hq => ?_)
      obtain ⟨e1, e2⟩ := hq
      subst e1
      rw [e2]
      exact r_iret C dMD_mapped_11 (Nat.le_refl _) (Nat.le_refl _) ⟨rfl, rfl⟩
  · refine r_iload_n (n := 1) C dMD_mapped_0 rfl rfl ?_
    refine r_iconst (v := 3) (n := 2) C dMD_mapped_1 rfl (by decide) ?_
    refine r_icmp_ge (tgt := 12) (n := 5) C dMD_mapped_2 (by decide) rfl (fun c_2 => ?_) (fun c_2 => ?_)
    · exact absurd c_2 (by decide)
    · refine r_aload_n (n := 6) C dMD_mapped_5 rfl rfl ?_
      refine r_iload_n (n := 7) C dMD_mapped_6 rfl rfl ?_
      refine r_iload_n (n := 8) C dMD_mapped_7 rfl rfl ?_
      refine r_ci (n := 11) (rn_V (z := 2) (ci := 10) (T := TMD) C (c_MD_column (Kl K) (Ko K) h m ad MI ML MV a 1 k hM (by omega) (by decide) h0 h1 h2) tw_616 tw_618 ts_23 tw_4 tw_619 rfl rfl ndMD_column ⟨Nat.le_of_ble_eq_true rfl, Nat.le_of_ble_eq_true rfl⟩ hM.1 rfl rfl rfl (Nat.le_of_ble_eq_true rfl) dMD_mapped_8 ⟨Nat.le_of_ble_eq_true rfl, Nat.le_of_ble_eq_true rfl⟩) rfl (fun x ah hq => ?_)
      obtain ⟨e1, e2⟩ := hq
      subst e1
      rw [e2]
      exact r_iret C dMD_mapped_11 (Nat.le_refl _) (Nat.le_refl _) ⟨rfl, rfl⟩
  · refine r_iload_n (n := 1) C dMD_mapped_0 rfl rfl ?_
    refine r_iconst (v := 3) (n := 2) C dMD_mapped_1 rfl (by decide) ?_
    refine r_icmp_ge (tgt := 12) (n := 5) C dMD_mapped_2 (by decide) rfl (fun c_2 => ?_) (fun c_2 => ?_)
    · exact absurd c_2 (by decide)
    · refine r_aload_n (n := 6) C dMD_mapped_5 rfl rfl ?_
      refine r_iload_n (n := 7) C dMD_mapped_6 rfl rfl ?_
      refine r_iload_n (n := 8) C dMD_mapped_7 rfl rfl ?_
      refine r_ci (n := 11) (rn_V (z := 2) (ci := 10) (T := TMD) C (c_MD_column (Kl K) (Ko K) h m ad MI ML MV a 2 k hM (by omega) (by decide) h0 h1 h2) tw_616 tw_618 ts_23 tw_4 tw_619 rfl rfl ndMD_column ⟨Nat.le_of_ble_eq_true rfl, Nat.le_of_ble_eq_true rfl⟩ hM.1 rfl rfl rfl (Nat.le_of_ble_eq_true rfl) dMD_mapped_8 ⟨Nat.le_of_ble_eq_true rfl, Nat.le_of_ble_eq_true rfl⟩) rfl (fun x ah hq => ?_)
      obtain ⟨e1, e2⟩ := hq
      subst e1
      rw [e2]
      exact r_iret C dMD_mapped_11 (Nat.le_refl _) (Nat.le_refl _) ⟨rfl, rfl⟩
  · refine r_iload_n (n := 1) C dMD_mapped_0 rfl rfl ?_
    refine r_iconst (v := 3) (n := 2) C dMD_mapped_1 rfl (by decide) ?_
    refine r_icmp_ge (tgt := 12) (n := 5) C dMD_mapped_2 (by decide) rfl (fun c_2 => ?_) (fun c_2 => ?_)
    · refine r_iload_n (n := 13) C dMD_mapped_12 rfl rfl ?_
      refine r_iconst (v := 3) (n := 14) C dMD_mapped_13 rfl (by decide) ?_
      refine r_icmp_ne (tgt := 21) (n := 17) C dMD_mapped_14 (by decide) rfl (fun c_14 => ?_) (fun c_14 => ?_)
      · exact absurd rfl c_14
      · refine r_iconst (v := 0) (n := 18) C dMD_mapped_17 rfl (by decide) ?_
        refine r_goto (tgt := 55) C dMD_mapped_18 (by decide) ?_
        exact r_iret C dMD_mapped_55 (Nat.le_refl _) (Nat.le_refl _) ⟨by simp [codeF, *], rfl⟩
    · exact absurd (by decide) c_2
  · refine r_iload_n (n := 1) C dMD_mapped_0 rfl rfl ?_
    refine r_iconst (v := 3) (n := 2) C dMD_mapped_1 rfl (by decide) ?_
    refine r_icmp_ge (tgt := 12) (n := 5) C dMD_mapped_2 (by decide) rfl (fun c_2 => ?_) (fun c_2 => ?_)
    · refine r_iload_n (n := 13) C dMD_mapped_12 rfl rfl ?_
      refine r_iconst (v := 3) (n := 14) C dMD_mapped_13 rfl (by decide) ?_
      refine r_icmp_ne (tgt := 21) (n := 17) C dMD_mapped_14 (by decide) rfl (fun c_14 => ?_) (fun c_14 => ?_)
      · refine r_iload_n (n := 22) C dMD_mapped_21 rfl rfl ?_
        refine r_iconst (v := 4) (n := 23) C dMD_mapped_22 rfl (by decide) ?_
        refine r_icmp_ne (tgt := 42) (n := 26) C dMD_mapped_23 (by decide) rfl (fun c_23 => ?_) (fun c_23 => ?_)
        · exact absurd rfl c_23
        · refine r_aload_n (n := 27) C dMD_mapped_26 rfl rfl ?_
          refine r_get (ci := 10) (n := 30) C hinMD rfl 0 (by decide) tw_535 rfl dMD_mapped_27 rfl hM.1 rfl ?_
          refine r_iload_n (n := 31) C dMD_mapped_30 rfl rfl ?_
          refine r_ialdM (n := 32) C dMD_mapped_31 rfl hM 0 (by decide) a rfl (by show _ < 624; omega) ?_
          refine r_aload_n (n := 33) C dMD_mapped_32 rfl rfl ?_
          refine r_get (ci := 10) (n := 36) C hinMD rfl 1 (by decide) tw_536 rfl dMD_mapped_33 rfl hM.1 rfl ?_
          refine r_iload_n (n := 37) C dMD_mapped_36 rfl rfl ?_
          refine r_ialdM (n := 38) C dMD_mapped_37 rfl hM 1 (by decide) a rfl (by show _ < 624; omega) ?_
          refine r_iadd (n := 39) C dMD_mapped_38 rfl ?_
          refine r_goto (tgt := 55) C dMD_mapped_39 (by decide) ?_
          exact r_iret C dMD_mapped_55 (Nat.le_refl _) (Nat.le_refl _) ⟨by simp [codeF, *], rfl⟩
      · exact absurd c_14 (by decide)
    · exact absurd (by decide) c_2
  · refine r_iload_n (n := 1) C dMD_mapped_0 rfl rfl ?_
    refine r_iconst (v := 3) (n := 2) C dMD_mapped_1 rfl (by decide) ?_
    refine r_icmp_ge (tgt := 12) (n := 5) C dMD_mapped_2 (by decide) rfl (fun c_2 => ?_) (fun c_2 => ?_)
    · refine r_iload_n (n := 13) C dMD_mapped_12 rfl rfl ?_
      refine r_iconst (v := 3) (n := 14) C dMD_mapped_13 rfl (by decide) ?_
      refine r_icmp_ne (tgt := 21) (n := 17) C dMD_mapped_14 (by decide) rfl (fun c_14 => ?_) (fun c_14 => ?_)
      · refine r_iload_n (n := 22) C dMD_mapped_21 rfl rfl ?_
        refine r_iconst (v := 4) (n := 23) C dMD_mapped_22 rfl (by decide) ?_
        refine r_icmp_ne (tgt := 42) (n := 26) C dMD_mapped_23 (by decide) rfl (fun c_23 => ?_) (fun c_23 => ?_)
        · refine r_aload_n (n := 43) C dMD_mapped_42 rfl rfl ?_
          refine r_get (ci := 10) (n := 46) C hinMD rfl 0 (by decide) tw_535 rfl dMD_mapped_43 rfl hM.1 rfl ?_
          refine r_iload_n (n := 47) C dMD_mapped_46 rfl rfl ?_
          refine r_ialdM (n := 48) C dMD_mapped_47 rfl hM 0 (by decide) a rfl (by show _ < 624; omega) ?_
          refine r_aload_n (n := 49) C dMD_mapped_48 rfl rfl ?_
          refine r_get (ci := 10) (n := 52) C hinMD rfl 1 (by decide) tw_536 rfl dMD_mapped_49 rfl hM.1 rfl ?_
          refine r_iload_n (n := 53) C dMD_mapped_52 rfl rfl ?_
          refine r_ialdM (n := 54) C dMD_mapped_53 rfl hM 1 (by decide) a rfl (by show _ < 624; omega) ?_
          refine r_isub (n := 55) C dMD_mapped_54 rfl ?_
          exact r_iret C dMD_mapped_55 (Nat.le_refl _) (Nat.le_refl _) ⟨by simp [codeF, *], rfl⟩
        · exact absurd c_23 (by decide)
      · exact absurd c_14 (by decide)
    · exact absurd (by decide) c_2
set_option maxHeartbeats 4000000 in
set_option maxRecDepth 100000 in
/-- picked -/
theorem c_MD_picked (l : Launch) (o : Om) (h : AH) (m : Nat) (ad : Nat → Nat) (MI : Nat → Nat → Int32) (ML : Nat → Nat → Int64) (MV : Nat → Int32) (a b c : Nat) (k kr : Ky) (hM : MH o h m ad MI ML MV) (ha : a < 624) (hb0 : b < 624) (hc : c < 6) (h0 : MI 0 a = k.1) (h1 : MI 1 a = k.2.1) (h2 : MI 2 a = k.2.2) (g0 : MI 0 b = kr.1) (g1 : MI 1 b = kr.2.1) (g2 : MI 2 b = kr.2.2) : Mt l o yMD_picked cMD_picked 4 (some .int) ({ frames := 1, cells := 0, slots := 0, locals := 22 } : Room) [.ref m, .int (nI a), .int (nI b), .int (nI c)] h (QI o (fun x h' => x = pickF c k kr ∧ h' = h)) (0) (0) := by
  refine Met.ofV (by decide) (Nat.le_of_ble_eq_true rfl) (fun K hl ho C => ?_)
  subst hl; subst ho
  refine r_iload_n (n := 1) C dMD_picked_0 rfl rfl ?_
  refine r_iconst (v := 3) (n := 2) C dMD_picked_1 rfl (by decide) ?_
  refine r_icmp_ge (tgt := 14) (n := 5) C dMD_picked_2 (by decide) rfl (fun c_2 => ?_) (fun c_2 => ?_)
  · have hz : ¬ c < 3 := by have := (nI_leI (a := 3) (b := c) (by omega) (by omega)).mp c_2; omega
    refine r_aload_n (n := 15) C dMD_picked_14 rfl rfl ?_
    refine r_iload_n (n := 16) C dMD_picked_15 rfl rfl ?_
    refine r_iload_n (n := 17) C dMD_picked_16 rfl rfl ?_
    refine r_iconst (v := 3) (n := 18) C dMD_picked_17 rfl (by decide) ?_
    refine r_isub (n := 19) C dMD_picked_18 rfl ?_
    refine V.eqi (y := nI (c - 3)) (pk_sub (a := c) (b := 3) (by omega)) ?_
    refine r_ci (n := 22) (rn_V (z := 2) (ci := 10) (T := TMD) C (c_MD_column (Kl K) (Ko K) h m ad MI ML MV b (c - 3) kr hM hb0 (by omega) g0 g1 g2) tw_616 tw_618 ts_23 tw_4 tw_619 rfl rfl ndMD_column ⟨Nat.le_of_ble_eq_true rfl, Nat.le_of_ble_eq_true rfl⟩ hM.1 rfl rfl rfl (Nat.le_of_ble_eq_true rfl) dMD_picked_19 ⟨Nat.le_of_ble_eq_true rfl, Nat.le_of_ble_eq_true rfl⟩) rfl (fun x ah hq => ?_)
    obtain ⟨e1, e2⟩ := hq
    subst e1
    rw [e2]
    exact r_iret C dMD_picked_22 (Nat.le_refl _) (Nat.le_refl _) ⟨(if_neg hz).symm, rfl⟩
  · have hz : c < 3 := by
      rcases Nat.lt_or_ge c 3 with q1 | q1
      · exact q1
      · exact absurd (nI_le (a := 3) (b := c) q1 (by omega)) c_2
    refine r_aload_n (n := 6) C dMD_picked_5 rfl rfl ?_
    refine r_iload_n (n := 7) C dMD_picked_6 rfl rfl ?_
    refine r_iload_n (n := 8) C dMD_picked_7 rfl rfl ?_
    refine r_ci (n := 11) (rn_V (z := 2) (ci := 10) (T := TMD) C (c_MD_column (Kl K) (Ko K) h m ad MI ML MV a c k hM ha hz h0 h1 h2) tw_616 tw_618 ts_23 tw_4 tw_619 rfl rfl ndMD_column ⟨Nat.le_of_ble_eq_true rfl, Nat.le_of_ble_eq_true rfl⟩ hM.1 rfl rfl rfl (Nat.le_of_ble_eq_true rfl) dMD_picked_8 ⟨Nat.le_of_ble_eq_true rfl, Nat.le_of_ble_eq_true rfl⟩) rfl (fun x ah hq => ?_)
    obtain ⟨e1, e2⟩ := hq
    subst e1
    rw [e2]
    refine r_goto (tgt := 22) C dMD_picked_11 (by decide) ?_
    exact r_iret C dMD_picked_22 (Nat.le_refl _) (Nat.le_refl _) ⟨(if_pos hz).symm, rfl⟩
set_option maxHeartbeats 4000000 in
set_option maxRecDepth 100000 in
/-- emit -/
theorem c_MD_emit (l : Launch) (o : Om) (h : AH) (m : Nat) (ad : Nat → Nat) (MI : Nat → Nat → Int32) (ML : Nat → Nat → Int64) (MV : Nat → Int32) (W : List Rw) (a b c : Int32) (w : Int64) (hM : MH o h m ad MI ML MV) (hW : WL MI ML MV W) (hroom : W.length < 600) : Mt l o yMD_emit cMD_emit 7 none ({ frames := 0, cells := 0, slots := 0, locals := 0 } : Room) [.ref m, .int a, .int b, .int c, .long w] h (QV o (fun h' => EmP o h h' m ad MI ML MV (emW W (a, b, c) w))) (0) (0) := by
  refine Met.ofV (by decide) (Nat.le_of_ble_eq_true rfl) (fun K hl ho C => ?_)
  subst hl; subst ho
  obtain ⟨hw1, hw2, hw3⟩ := hW
  have loop : ∀ (q i : Nat), W.length - i = q → i ≤ W.length → (∀ (j : Nat) (r : Rw), j < i → W[j]? = some r → r.1 ≠ (a, b, c)) → V K h 0 0 (EndQ K (QV (Ko K) (fun h' => EmP (Ko K) h h' m ad MI ML MV (emW W (a, b, c) w))) 0 0) 3 [(0, .ref m), (1, .int a), (2, .int b), (3, .int c), (4, .long w), (6, .int (nI i))] [] := by
    intro q
    induction q using Nat.strongRecOn with
    | _ q ih =>
      intro i hm hi hno
      refine r_iload (n := 5) C dMD_emit_3 rfl rfl ?_
      refine r_aload_n (n := 6) C dMD_emit_5 rfl rfl ?_
      refine r_get (ci := 10) (n := 9) C hinMD rfl 9 (by decide) tw_544 rfl dMD_emit_6 rfl hM.1 rfl ?_
      refine V.eqi hw1 ?_
      refine r_icmp_ge (tgt := 64) (n := 12) C dMD_emit_9 (by decide) rfl (fun c_9 => ?_) (fun c_9 => ?_)
      · have hie : i = W.length := by have := (nI_leI (a := W.length) (b := i) (by omega) (by omega)).mp c_9; omega
        have hnew : emW W (a, b, c) w = W ++ [((a, b, c), w)] := emW_new (fun r hr => by obtain ⟨j, hj⟩ := List.getElem?_of_mem hr; exact hno j r (by have := (List.getElem?_eq_some_iff.mp hj).1; omega) hj)
        refine r_aload_n (n := 65) C dMD_emit_64 rfl rfl ?_
        refine r_get (ci := 10) (n := 68) C hinMD rfl 5 (by decide) tw_540 rfl dMD_emit_65 rfl hM.1 rfl ?_
        refine r_aload_n (n := 69) C dMD_emit_68 rfl rfl ?_
        refine r_get (ci := 10) (n := 72) C hinMD rfl 9 (by decide) tw_544 rfl dMD_emit_69 rfl hM.1 rfl ?_
        refine V.eqi hw1 ?_
        refine r_iload_n (n := 73) C dMD_emit_72 rfl rfl ?_
        refine r_iastM (n := 74) C dMD_emit_73 rfl hM 5 (by decide) W.length rfl (by show _ < 600; omega) (fun h1 hM1 hF1 => ?_)
        refine r_aload_n (n := 75) C dMD_emit_74 rfl rfl ?_
        refine r_get (ci := 10) (n := 78) C hinMD rfl 6 (by decide) tw_541 rfl dMD_emit_75 rfl hM1.1 rfl ?_
        refine r_aload_n (n := 79) C dMD_emit_78 rfl rfl ?_
        refine r_get (ci := 10) (n := 82) C hinMD rfl 9 (by decide) tw_544 rfl dMD_emit_79 rfl hM1.1 rfl ?_
        refine V.eqi hw1 ?_
        refine r_iload_n (n := 83) C dMD_emit_82 rfl rfl ?_
        refine r_iastM (n := 84) C dMD_emit_83 rfl hM1 6 (by decide) W.length rfl (by show _ < 600; omega) (fun h2 hM2 hF2 => ?_)
        refine r_aload_n (n := 85) C dMD_emit_84 rfl rfl ?_
        refine r_get (ci := 10) (n := 88) C hinMD rfl 7 (by decide) tw_542 rfl dMD_emit_85 rfl hM2.1 rfl ?_
        refine r_aload_n (n := 89) C dMD_emit_88 rfl rfl ?_
        refine r_get (ci := 10) (n := 92) C hinMD rfl 9 (by decide) tw_544 rfl dMD_emit_89 rfl hM2.1 rfl ?_
        refine V.eqi hw1 ?_
        refine r_iload_n (n := 93) C dMD_emit_92 rfl rfl ?_
        refine r_iastM (n := 94) C dMD_emit_93 rfl hM2 7 (by decide) W.length rfl (by show _ < 600; omega) (fun h3 hM3 hF3 => ?_)
        refine r_aload_n (n := 95) C dMD_emit_94 rfl rfl ?_
        refine r_get (ci := 10) (n := 98) C hinMD rfl 8 (by decide) tw_543 rfl dMD_emit_95 rfl hM3.1 rfl ?_
        refine r_aload_n (n := 99) C dMD_emit_98 rfl rfl ?_
        refine r_get (ci := 10) (n := 102) C hinMD rfl 9 (by decide) tw_544 rfl dMD_emit_99 rfl hM3.1 rfl ?_
        refine V.eqi hw1 ?_
        refine r_lload (n := 104) C dMD_emit_102 rfl rfl ?_
        refine r_lastM (n := 105) C dMD_emit_104 rfl hM3 8 (by decide) W.length rfl (by show _ < 600; omega) (fun h4 hM4 hF4 => ?_)
        refine r_aload_n (n := 106) C dMD_emit_105 rfl rfl ?_
        refine r_dup (n := 107) C dMD_emit_106 rfl rfl ?_
        refine r_get (ci := 10) (n := 110) C hinMD rfl 9 (by decide) tw_544 rfl dMD_emit_107 rfl hM4.1 rfl ?_
        refine V.eqi hw1 ?_
        refine r_iconst (v := 1) (n := 111) C dMD_emit_110 rfl (by decide) ?_
        refine r_iadd (n := 112) C dMD_emit_111 rfl ?_
        refine V.eqi (nI_1 _) ?_
        refine r_put (ci := 10) (n := 115) C hinMD tyMD okMD nmMD rfl 9 (by decide) tw_544 rfl rfl (okMD 9 (by decide)) rfl rfl dMD_emit_112 rfl hM4.1 (Nat.le_of_ble_eq_true rfl) ?_
        refine V.setV hM4 9 (by decide) _ rfl (fun h5 hM5 hF5 => ?_)
        exact r_vret C dMD_emit_115 (Nat.le_refl _) (Nat.le_refl _) ⟨_, _, _, hM5, ⟨by rw [hnew, List.length_append]; rfl, by rw [hnew, List.length_append]; simp; omega, fun i2 q2 hq2 => by
                    rw [hnew] at hq2
                    show upd (MI 5) W.length a i2 = _ ∧ upd (MI 6) W.length b i2 = _ ∧ upd (MI 7) W.length c i2 = _ ∧ vp_updL (ML 8) W.length w i2 = _
                    by_cases hi2 : i2 < W.length
                    · rw [List.getElem?_append_left hi2] at hq2
                      obtain ⟨f5, f6, f7, f8⟩ := hw3 i2 q2 hq2
                      rw [pk_un (by omega), pk_un (by omega), pk_un (by omega), pk_uLn (by omega)]
                      exact ⟨f5, f6, f7, f8⟩
                    · rw [List.getElem?_append_right (by omega)] at hq2
                      have hz := (List.getElem?_eq_some_iff.mp hq2).1
                      have e : i2 = W.length := by simp at hz; omega
                      subst e
                      rw [Nat.sub_self] at hq2
                      cases hq2
                      rw [pk_us, pk_us, pk_us, pk_uLs]
                      exact ⟨rfl, rfl, rfl, rfl⟩⟩, ⟨fun j h5 h6 h7 => by rw [va_up_ne _ _ h7, va_up_ne _ _ h6, va_up_ne _ _ h5], rfl, fun j h9 => va_up_ne _ _ h9⟩, (((hF1.tr hF2).tr hF3).tr hF4).tr hF5⟩
      · have hlt : i < W.length := by
          rcases Nat.lt_or_ge i W.length with q | q
          · exact q
          · exact absurd (nI_le (a := W.length) (b := i) q (by omega)) c_9
        obtain ⟨r, hr⟩ : ∃ r, W[i]? = some r := ⟨_, List.getElem?_eq_getElem hlt⟩
        obtain ⟨e5, e6, e7, e8⟩ := hw3 i r hr
        refine r_aload_n (n := 13) C dMD_emit_12 rfl rfl ?_
        refine r_get (ci := 10) (n := 16) C hinMD rfl 5 (by decide) tw_540 rfl dMD_emit_13 rfl hM.1 rfl ?_
        refine r_iload (n := 18) C dMD_emit_16 rfl rfl ?_
        refine r_ialdM (n := 19) C dMD_emit_18 rfl hM 5 (by decide) i rfl (by show _ < 600; omega) ?_
        refine r_iload_n (n := 20) C dMD_emit_19 rfl rfl ?_
        refine r_icmp_ne (tgt := 58) (n := 23) C dMD_emit_20 (by decide) rfl (fun c_20 => ?_) (fun c_20 => ?_)
        · refine r_iinc (n := 61) C dMD_emit_58 rfl rfl (nI_i i) (by decide) ?_
          refine r_goto (tgt := 3) C dMD_emit_61 (by decide) ?_
          have hk0 : r.1 ≠ (a, b, c) := fun e => c_20 (by rw [e5, e])
          refine V.byk (ls' := [(0, .ref m), (1, .int a), (2, .int b), (3, .int c), (4, .long w), (6, .int (nI (i + 1)))]) rfl ?_
          refine ih _ (by omega) (i + 1) rfl (by omega) (fun j q0 hj hq0 => ?_)
          rcases Nat.lt_or_ge j i with z | z
          · exact hno j q0 z hq0
          · have : j = i := by omega
            subst this
            rw [hr] at hq0
            cases hq0
            exact hk0
        · refine r_aload_n (n := 24) C dMD_emit_23 rfl rfl ?_
          refine r_get (ci := 10) (n := 27) C hinMD rfl 6 (by decide) tw_541 rfl dMD_emit_24 rfl hM.1 rfl ?_
          refine r_iload (n := 29) C dMD_emit_27 rfl rfl ?_
          refine r_ialdM (n := 30) C dMD_emit_29 rfl hM 6 (by decide) i rfl (by show _ < 600; omega) ?_
          refine r_iload_n (n := 31) C dMD_emit_30 rfl rfl ?_
          refine r_icmp_ne (tgt := 58) (n := 34) C dMD_emit_31 (by decide) rfl (fun c_31 => ?_) (fun c_31 => ?_)
          · refine r_iinc (n := 61) C dMD_emit_58 rfl rfl (nI_i i) (by decide) ?_
            refine r_goto (tgt := 3) C dMD_emit_61 (by decide) ?_
            have hk0 : r.1 ≠ (a, b, c) := fun e => c_31 (by rw [e6, e])
            refine V.byk (ls' := [(0, .ref m), (1, .int a), (2, .int b), (3, .int c), (4, .long w), (6, .int (nI (i + 1)))]) rfl ?_
            refine ih _ (by omega) (i + 1) rfl (by omega) (fun j q0 hj hq0 => ?_)
            rcases Nat.lt_or_ge j i with z | z
            · exact hno j q0 z hq0
            · have : j = i := by omega
              subst this
              rw [hr] at hq0
              cases hq0
              exact hk0
          · refine r_aload_n (n := 35) C dMD_emit_34 rfl rfl ?_
            refine r_get (ci := 10) (n := 38) C hinMD rfl 7 (by decide) tw_542 rfl dMD_emit_35 rfl hM.1 rfl ?_
            refine r_iload (n := 40) C dMD_emit_38 rfl rfl ?_
            refine r_ialdM (n := 41) C dMD_emit_40 rfl hM 7 (by decide) i rfl (by show _ < 600; omega) ?_
            refine r_iload_n (n := 42) C dMD_emit_41 rfl rfl ?_
            refine r_icmp_ne (tgt := 58) (n := 45) C dMD_emit_42 (by decide) rfl (fun c_42 => ?_) (fun c_42 => ?_)
            · refine r_iinc (n := 61) C dMD_emit_58 rfl rfl (nI_i i) (by decide) ?_
              refine r_goto (tgt := 3) C dMD_emit_61 (by decide) ?_
              have hk0 : r.1 ≠ (a, b, c) := fun e => c_42 (by rw [e7, e])
              refine V.byk (ls' := [(0, .ref m), (1, .int a), (2, .int b), (3, .int c), (4, .long w), (6, .int (nI (i + 1)))]) rfl ?_
              refine ih _ (by omega) (i + 1) rfl (by omega) (fun j q0 hj hq0 => ?_)
              rcases Nat.lt_or_ge j i with z | z
              · exact hno j q0 z hq0
              · have : j = i := by omega
                subst this
                rw [hr] at hq0
                cases hq0
                exact hk0
            · have hk0 : r.1 = (a, b, c) := by rw [← c_20, ← c_31, ← c_42, e5, e6, e7]
              refine r_aload_n (n := 46) C dMD_emit_45 rfl rfl ?_
              refine r_get (ci := 10) (n := 49) C hinMD rfl 8 (by decide) tw_543 rfl dMD_emit_46 rfl hM.1 rfl ?_
              refine r_iload (n := 51) C dMD_emit_49 rfl rfl ?_
              refine r_dup2 (n := 52) C dMD_emit_51 rfl rfl rfl ?_
              refine r_laldM (n := 53) C dMD_emit_52 rfl hM 8 (by decide) i rfl (by show _ < 600; omega) ?_
              refine r_lload (n := 55) C dMD_emit_53 rfl rfl ?_
              refine r_ladd (n := 56) C dMD_emit_55 rfl ?_
              refine r_lastM (n := 57) C dMD_emit_56 rfl hM 8 (by decide) i rfl (by show _ < 600; omega) (fun h1 hM' hF1 => ?_)
              have hset := emW_hit (w := w) hno hr hk0
              exact r_vret C dMD_emit_57 (Nat.le_refl _) (Nat.le_refl _) ⟨_, _, _, hM', ⟨by rw [hset, List.length_set]; exact hw1, by rw [hset, List.length_set]; exact hw2, fun i2 q2 hq2 => by
                          rw [hset] at hq2
                          by_cases e : i2 = i
                          · subst e
                            rw [List.getElem?_set_self hlt] at hq2
                            cases hq2
                            exact ⟨by rw [e5, hk0], by rw [e6, hk0], by rw [e7, hk0], by show vp_updL (ML 8) i2 (ML 8 i2 + w) i2 = _; rw [pk_uLs, e8]⟩
                          · rw [List.getElem?_set_ne (Ne.symm e)] at hq2
                            obtain ⟨f5, f6, f7, f8⟩ := hw3 i2 q2 hq2
                            exact ⟨f5, f6, f7, by show vp_updL (ML 8) i (ML 8 i + w) i2 = _; rw [pk_uLn e]; exact f8⟩⟩, ⟨fun _ _ _ _ => rfl, rfl, fun _ _ => rfl⟩, hF1⟩
  refine r_iconst (v := 0) (n := 1) C dMD_emit_0 rfl (by decide) ?_
  refine r_istore (n := 3) C dMD_emit_1 rfl (by decide) ?_
  refine V.byk (ls' := [(0, .ref m), (1, .int a), (2, .int b), (3, .int c), (4, .long w), (6, .int (nI 0))]) rfl ?_
  exact loop _ 0 rfl (Nat.zero_le _) (fun j r hj => absurd hj (Nat.not_lt_zero _))
theorem bef_t {x y : Ky} (h : kz x < kz y) : (1 : Int32) = b01 (decide (kz x < kz y)) := by rw [decide_eq_true h]; rfl
theorem bef_f {x y : Ky} (h : ¬ kz x < kz y) : (0 : Int32) = b01 (decide (kz x < kz y)) := by rw [decide_eq_false h]; rfl
set_option maxHeartbeats 4000000 in
set_option maxRecDepth 100000 in
/-- before -/
theorem c_MD_before (l : Launch) (o : Om) (h : AH) (m : Nat) (ad : Nat → Nat) (MI : Nat → Nat → Int32) (ML : Nat → Nat → Int64) (MV : Nat → Int32) (i k : Nat) (r q : Rw) (hM : MH o h m ad MI ML MV) (hi : i < 600) (hk : k < 600) (hr5 : MI 5 i = r.1.1) (hr6 : MI 6 i = r.1.2.1) (hr7 : MI 7 i = r.1.2.2) (hq5 : MI 5 k = q.1.1) (hq6 : MI 6 k = q.1.2.1) (hq7 : MI 7 k = q.1.2.2) : Mt l o yMD_before cMD_before 3 (some .boolean) ({ frames := 0, cells := 0, slots := 0, locals := 0 } : Room) [.ref m, .int (nI i), .int (nI k)] h (QI o (fun x h' => x = b01 (decide (kz r.1 < kz q.1)) ∧ h' = h)) (0) (0) := by
  refine Met.ofV (by decide) (Nat.le_of_ble_eq_true rfl) (fun K hl ho C => ?_)
  subst hl; subst ho
  refine r_aload_n (n := 1) C dMD_before_0 rfl rfl ?_
  refine r_get (ci := 10) (n := 4) C hinMD rfl 5 (by decide) tw_540 rfl dMD_before_1 rfl hM.1 rfl ?_
  refine r_iload_n (n := 5) C dMD_before_4 rfl rfl ?_
  refine r_ialdM (n := 6) C dMD_before_5 rfl hM 5 (by decide) i rfl (by show _ < 600; omega) ?_
  refine r_aload_n (n := 7) C dMD_before_6 rfl rfl ?_
  refine r_get (ci := 10) (n := 10) C hinMD rfl 5 (by decide) tw_540 rfl dMD_before_7 rfl hM.1 rfl ?_
  refine r_iload_n (n := 11) C dMD_before_10 rfl rfl ?_
  refine r_ialdM (n := 12) C dMD_before_11 rfl hM 5 (by decide) k rfl (by show _ < 600; omega) ?_
  refine r_icmp_eq (tgt := 36) (n := 15) C dMD_before_12 (by decide) rfl (fun c_12 => ?_) (fun c_12 => ?_)
  · rw [hr5, hq5] at c_12
    refine r_aload_n (n := 37) C dMD_before_36 rfl rfl ?_
    refine r_get (ci := 10) (n := 40) C hinMD rfl 6 (by decide) tw_541 rfl dMD_before_37 rfl hM.1 rfl ?_
    refine r_iload_n (n := 41) C dMD_before_40 rfl rfl ?_
    refine r_ialdM (n := 42) C dMD_before_41 rfl hM 6 (by decide) i rfl (by show _ < 600; omega) ?_
    refine r_aload_n (n := 43) C dMD_before_42 rfl rfl ?_
    refine r_get (ci := 10) (n := 46) C hinMD rfl 6 (by decide) tw_541 rfl dMD_before_43 rfl hM.1 rfl ?_
    refine r_iload_n (n := 47) C dMD_before_46 rfl rfl ?_
    refine r_ialdM (n := 48) C dMD_before_47 rfl hM 6 (by decide) k rfl (by show _ < 600; omega) ?_
    refine r_icmp_eq (tgt := 72) (n := 51) C dMD_before_48 (by decide) rfl (fun c_48 => ?_) (fun c_48 => ?_)
    · rw [hr6, hq6] at c_48
      refine r_aload_n (n := 73) C dMD_before_72 rfl rfl ?_
      refine r_get (ci := 10) (n := 76) C hinMD rfl 7 (by decide) tw_542 rfl dMD_before_73 rfl hM.1 rfl ?_
      refine r_iload_n (n := 77) C dMD_before_76 rfl rfl ?_
      refine r_ialdM (n := 78) C dMD_before_77 rfl hM 7 (by decide) i rfl (by show _ < 600; omega) ?_
      refine r_aload_n (n := 79) C dMD_before_78 rfl rfl ?_
      refine r_get (ci := 10) (n := 82) C hinMD rfl 7 (by decide) tw_542 rfl dMD_before_79 rfl hM.1 rfl ?_
      refine r_iload_n (n := 83) C dMD_before_82 rfl rfl ?_
      refine r_ialdM (n := 84) C dMD_before_83 rfl hM 7 (by decide) k rfl (by show _ < 600; omega) ?_
      refine r_icmp_ge (tgt := 91) (n := 87) C dMD_before_84 (by decide) rfl (fun c_84 => ?_) (fun c_84 => ?_)
      · rw [hr7, hq7] at c_84
        refine r_iconst (v := 0) (n := 92) C dMD_before_91 rfl (by decide) ?_
        exact r_zret C dMD_before_92 rfl (Nat.le_refl _) (Nat.le_refl _) ⟨bef_f (by show ¬ kz (r.1.1, r.1.2.1, r.1.2.2) < kz (q.1.1, q.1.2.1, q.1.2.2); rw [kz_lt]; rintro (z | ⟨-, z | ⟨-, z⟩⟩); exact Int32.lt_irrefl (by rw [c_12] at z; exact z); exact Int32.lt_irrefl (by rw [c_48] at z; exact z); exact Int32.not_le.mpr z c_84), rfl⟩
      · rw [hr7, hq7] at c_84
        refine r_iconst (v := 1) (n := 88) C dMD_before_87 rfl (by decide) ?_
        refine r_goto (tgt := 92) C dMD_before_88 (by decide) ?_
        exact r_zret C dMD_before_92 rfl (Nat.le_refl _) (Nat.le_refl _) ⟨bef_t (by show kz (r.1.1, r.1.2.1, r.1.2.2) < kz (q.1.1, q.1.2.1, q.1.2.2); rw [kz_lt]; exact Or.inr ⟨c_12, Or.inr ⟨c_48, Int32.not_le.mp c_84⟩⟩), rfl⟩
    · rw [hr6, hq6] at c_48
      refine r_aload_n (n := 52) C dMD_before_51 rfl rfl ?_
      refine r_get (ci := 10) (n := 55) C hinMD rfl 6 (by decide) tw_541 rfl dMD_before_52 rfl hM.1 rfl ?_
      refine r_iload_n (n := 56) C dMD_before_55 rfl rfl ?_
      refine r_ialdM (n := 57) C dMD_before_56 rfl hM 6 (by decide) i rfl (by show _ < 600; omega) ?_
      refine r_aload_n (n := 58) C dMD_before_57 rfl rfl ?_
      refine r_get (ci := 10) (n := 61) C hinMD rfl 6 (by decide) tw_541 rfl dMD_before_58 rfl hM.1 rfl ?_
      refine r_iload_n (n := 62) C dMD_before_61 rfl rfl ?_
      refine r_ialdM (n := 63) C dMD_before_62 rfl hM 6 (by decide) k rfl (by show _ < 600; omega) ?_
      refine r_icmp_ge (tgt := 70) (n := 66) C dMD_before_63 (by decide) rfl (fun c_63 => ?_) (fun c_63 => ?_)
      · rw [hr6, hq6] at c_63
        refine r_iconst (v := 0) (n := 71) C dMD_before_70 rfl (by decide) ?_
        exact r_zret C dMD_before_71 rfl (Nat.le_refl _) (Nat.le_refl _) ⟨bef_f (by show ¬ kz (r.1.1, r.1.2.1, r.1.2.2) < kz (q.1.1, q.1.2.1, q.1.2.2); rw [kz_lt]; rintro (z | ⟨-, z | ⟨z, -⟩⟩); exact Int32.lt_irrefl (by rw [c_12] at z; exact z); exact Int32.not_le.mpr z c_63; exact c_48 z), rfl⟩
      · rw [hr6, hq6] at c_63
        refine r_iconst (v := 1) (n := 67) C dMD_before_66 rfl (by decide) ?_
        refine r_goto (tgt := 71) C dMD_before_67 (by decide) ?_
        exact r_zret C dMD_before_71 rfl (Nat.le_refl _) (Nat.le_refl _) ⟨bef_t (by show kz (r.1.1, r.1.2.1, r.1.2.2) < kz (q.1.1, q.1.2.1, q.1.2.2); rw [kz_lt]; exact Or.inr ⟨c_12, Or.inl (Int32.not_le.mp c_63)⟩), rfl⟩
  · rw [hr5, hq5] at c_12
    refine r_aload_n (n := 16) C dMD_before_15 rfl rfl ?_
    refine r_get (ci := 10) (n := 19) C hinMD rfl 5 (by decide) tw_540 rfl dMD_before_16 rfl hM.1 rfl ?_
    refine r_iload_n (n := 20) C dMD_before_19 rfl rfl ?_
    refine r_ialdM (n := 21) C dMD_before_20 rfl hM 5 (by decide) i rfl (by show _ < 600; omega) ?_
    refine r_aload_n (n := 22) C dMD_before_21 rfl rfl ?_
    refine r_get (ci := 10) (n := 25) C hinMD rfl 5 (by decide) tw_540 rfl dMD_before_22 rfl hM.1 rfl ?_
    refine r_iload_n (n := 26) C dMD_before_25 rfl rfl ?_
    refine r_ialdM (n := 27) C dMD_before_26 rfl hM 5 (by decide) k rfl (by show _ < 600; omega) ?_
    refine r_icmp_ge (tgt := 34) (n := 30) C dMD_before_27 (by decide) rfl (fun c_27 => ?_) (fun c_27 => ?_)
    · rw [hr5, hq5] at c_27
      refine r_iconst (v := 0) (n := 35) C dMD_before_34 rfl (by decide) ?_
      exact r_zret C dMD_before_35 rfl (Nat.le_refl _) (Nat.le_refl _) ⟨bef_f (by show ¬ kz (r.1.1, r.1.2.1, r.1.2.2) < kz (q.1.1, q.1.2.1, q.1.2.2); rw [kz_lt]; rintro (z | ⟨z, -⟩); exact Int32.not_le.mpr z c_27; exact c_12 z), rfl⟩
    · rw [hr5, hq5] at c_27
      refine r_iconst (v := 1) (n := 31) C dMD_before_30 rfl (by decide) ?_
      refine r_goto (tgt := 35) C dMD_before_31 (by decide) ?_
      exact r_zret C dMD_before_35 rfl (Nat.le_refl _) (Nat.le_refl _) ⟨bef_t (by show kz (r.1.1, r.1.2.1, r.1.2.2) < kz (q.1.1, q.1.2.1, q.1.2.2); rw [kz_lt]; exact Or.inl (Int32.not_le.mp c_27)), rfl⟩
