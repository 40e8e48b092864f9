/-! THE REFERENCE: joinOne, unary -/
theorem x5 (n : Nat) : nI n * 5 = nI (n * 5) := by rw [show (5 : Int32) = nI 5 from rfl, pk_mul]
theorem x5i (n i : Nat) : nI n * 5 + nI i = nI (n * 5 + i) := by rw [x5, nI_add]
def emF (F : Rw → Option (Ky × Int64)) : List Rw → Rw → List Rw := fun W r => match F r with
  | some q => emW W q.1 q.2
  | none => W
theorem emF_len {F : Rw → Option (Ky × Int64)} {W : List Rw} (M : List Rw) : (M.foldl (emF F) W).length ≤ W.length + M.length := by
  induction M generalizing W with
  | nil => exact Nat.le_refl _
  | cons r M ih =>
    have h1 := ih (W := emF F W r)
    have h2 : (emF F W r).length ≤ W.length + 1 := by
      unfold emF; split
      · exact emW_len _ _
      · omega
    simp only [List.foldl_cons, List.length_cons]
    omega
def jF (lc rc x y z : Nat) (lr : Rw) : Rw → Option (Ky × Int64) := fun r => if colv lr.1 lc = colv r.1 rc then some ((pickF x lr.1 r.1, pickF y lr.1 r.1, pickF z lr.1 r.1), lr.2 * r.2) else none
theorem emF_s {F : Rw → Option (Ky × Int64)} {W : List Rw} {r : Rw} {q : Ky × Int64} (h : F r = some q) : emF F W r = emW W q.1 q.2 := by unfold emF; rw [h]
theorem emF_n {F : Rw → Option (Ky × Int64)} {W : List Rw} {r : Rw} (h : F r = none) : emF F W r = W := by unfold emF; rw [h]
set_option maxHeartbeats 4000000 in
set_option maxRecDepth 100000 in
/-- joinOne -/
theorem c_MD_joinOne (l : Launch) (o : Om) (h : AH) (m : Nat) (ad : Nat → Nat) (MI : Nat → Nat → Int32) (ML : Nat → Nat → Int64) (MV : Nat → Int32) (n p b lc rc pk : Nat) (R W : List Rw) (lr : Rw) (hM : MH o h m ad MI ML MV) (hn : n < 10) (hp : p < 624) (hb : b < 26) (hlc : lc < 3) (hrc : rc < 3) (hpk : pk < 216) (hB : BL MI ML b R) (hW : WL MI ML MV W) (hroom : W.length + R.length ≤ 600) (a2 : MI 11 (n * 5 + 2) = nI lc) (a3 : MI 11 (n * 5 + 3) = nI rc) (a4 : MI 11 (n * 5 + 4) = nI pk) (l0 : MI 0 p = lr.1.1) (l1 : MI 1 p = lr.1.2.1) (l2 : MI 2 p = lr.1.2.2) (l3 : ML 3 p = lr.2) : Mt l o yMD_joinOne cMD_joinOne 9 none ({ frames := 2, cells := 0, slots := 0, locals := 45 } : Room) [.ref m, .int (nI n), .int (nI p), .int (nI b)] h (QV o (fun h' => EmP o h h' m ad MI ML MV (R.foldl (emF (jF lc rc (pk / 36) (pk / 6 % 6) (pk % 6) lr)) W))) (0) (0) := by
  refine Met.ofV (by decide) (Nat.le_of_ble_eq_true rfl) (fun K hl ho C => ?_)
  subst hl; subst ho
  have hRl : R.length ≤ 24 := hB.2.1
  have loop : ∀ (q i : Nat) (h1 : AH) (MI1 : Nat → Nat → Int32) (ML1 : Nat → Nat → Int64) (MV1 : Nat → Int32), R.length - i = q → i ≤ R.length → MH (Ko K) h1 m ad MI1 ML1 MV1 → WL MI1 ML1 MV1 ((R.take i).foldl (emF (jF lc rc (pk / 36) (pk / 6 % 6) (pk % 6) lr)) W) → WSame MI MI1 ML ML1 MV MV1 → Frm (mown m ad) h h1 → V K h1 0 0 (EndQ K (QV (Ko K) (fun h' => EmP (Ko K) h h' m ad MI ML MV (R.foldl (emF (jF lc rc (pk / 36) (pk / 6 % 6) (pk % 6) lr)) W))) 0 0) 18 [(0, .ref m), (1, .int (nI n)), (2, .int (nI p)), (3, .int (nI b)), (4, .int (nI pk)), (5, .int (nI (b * 24 + i)))] [] := by
    intro q
    induction q using Nat.strongRecOn with
    | _ q ih =>
      intro i h1 MI1 ML1 MV1 hm hi hM1 hW1 hS1 hF1
      obtain ⟨hb1, hb2, hb3⟩ := hB.same hS1
      have s11 := hS1.1 11 (by decide) (by decide) (by decide)
      have s0 := hS1.1 0 (by decide) (by decide) (by decide)
      have s1 := hS1.1 1 (by decide) (by decide) (by decide)
      have s2 := hS1.1 2 (by decide) (by decide) (by decide)
      have hl1 := emF_len (F := (jF lc rc (pk / 36) (pk / 6 % 6) (pk % 6) lr)) (W := W) (R.take i)
      rw [List.length_take] at hl1
      refine r_iload (n := 20) C dMD_joinOne_18 rfl rfl ?_
      refine r_iload_n (n := 21) C dMD_joinOne_20 rfl rfl ?_
      refine r_bipush (v := 24) (n := 23) C dMD_joinOne_21 rfl (by decide) ?_
      refine r_imul (n := 24) C dMD_joinOne_23 rfl ?_
      refine V.eqi (x24 b) ?_
      refine r_aload_n (n := 25) C dMD_joinOne_24 rfl rfl ?_
      refine r_get (ci := 10) (n := 28) C hinMD rfl 4 (by decide) tw_539 rfl dMD_joinOne_25 rfl hM1.1 rfl ?_
      refine r_iload_n (n := 29) C dMD_joinOne_28 rfl rfl ?_
      refine r_ialdM (n := 30) C dMD_joinOne_29 rfl hM1 4 (by decide) b rfl (by show _ < 26; omega) ?_
      rw [hb1]
      refine r_iadd (n := 31) C dMD_joinOne_30 rfl ?_
      refine V.eqi (nI_add _ _) ?_
      refine r_icmp_ge (tgt := 143) (n := 34) C dMD_joinOne_31 (by decide) rfl (fun c_31 => ?_) (fun c_31 => ?_)
      · have hie : i = R.length := by have := (nI_leI (a := b * 24 + R.length) (b := b * 24 + i) (by omega) (by omega)).mp c_31; omega
        exact r_vret C dMD_joinOne_143 (Nat.le_refl _) (Nat.le_refl _) ⟨MI1, ML1, MV1, hM1, by rw [hie, List.take_length] at hW1; exact hW1, hS1, hF1⟩
      · have hlt : i < R.length := by
          rcases Nat.lt_or_ge i R.length with q1 | q1
          · exact q1
          · exact absurd (nI_le (a := b * 24 + R.length) (b := b * 24 + i) (by omega) (by omega)) c_31
        obtain ⟨r, hr⟩ : ∃ r, R[i]? = some r := ⟨_, List.getElem?_eq_getElem hlt⟩
        obtain ⟨v0, v1, v2, v3⟩ := hb3 i r hr
        refine r_aload_n (n := 35) C dMD_joinOne_34 rfl rfl ?_
        refine r_iload_n (n := 36) C dMD_joinOne_35 rfl rfl ?_
        refine r_aload_n (n := 37) C dMD_joinOne_36 rfl rfl ?_
        refine r_get (ci := 10) (n := 40) C hinMD rfl 11 (by decide) tw_546 rfl dMD_joinOne_37 rfl hM1.1 rfl ?_
        refine r_iload_n (n := 41) C dMD_joinOne_40 rfl rfl ?_
        refine r_iconst (v := 5) (n := 42) C dMD_joinOne_41 rfl (by decide) ?_
        refine r_imul (n := 43) C dMD_joinOne_42 rfl ?_
        refine r_iconst (v := 2) (n := 44) C dMD_joinOne_43 rfl (by decide) ?_
        refine r_iadd (n := 45) C dMD_joinOne_44 rfl ?_
        refine r_ialdM (n := 46) C dMD_joinOne_45 rfl hM1 11 (by decide) (n * 5 + 2) (x5i n 2) (by show _ < 50; omega) ?_
        rw [s11, a2]
        refine r_ci (n := 49) (rn_V (z := 2) (ci := 10) (T := TMD) C (c_MD_column (Kl K) (Ko K) h1 m ad MI1 ML1 MV1 p lc lr.1 hM1 hp hlc (by rw [s0]; exact l0) (by rw [s1]; exact l1) (by rw [s2]; exact l2)) tw_616 tw_618 ts_23 tw_4 tw_619 rfl rfl ndMD_column ⟨Nat.le_of_ble_eq_true rfl, Nat.le_of_ble_eq_true rfl⟩ hM1.1 rfl rfl rfl (Nat.le_of_ble_eq_true rfl) dMD_joinOne_46 ⟨Nat.le_of_ble_eq_true rfl, Nat.le_of_ble_eq_true rfl⟩) rfl (fun x ah hq => ?_)
        obtain ⟨e1, e2⟩ := hq
        subst e1
        rw [e2]
        refine r_aload_n (n := 50) C dMD_joinOne_49 rfl rfl ?_
        refine r_iload (n := 52) C dMD_joinOne_50 rfl rfl ?_
        refine r_aload_n (n := 53) C dMD_joinOne_52 rfl rfl ?_
        refine r_get (ci := 10) (n := 56) C hinMD rfl 11 (by decide) tw_546 rfl dMD_joinOne_53 rfl hM1.1 rfl ?_
        refine r_iload_n (n := 57) C dMD_joinOne_56 rfl rfl ?_
        refine r_iconst (v := 5) (n := 58) C dMD_joinOne_57 rfl (by decide) ?_
        refine r_imul (n := 59) C dMD_joinOne_58 rfl ?_
        refine r_iconst (v := 3) (n := 60) C dMD_joinOne_59 rfl (by decide) ?_
        refine r_iadd (n := 61) C dMD_joinOne_60 rfl ?_
        refine r_ialdM (n := 62) C dMD_joinOne_61 rfl hM1 11 (by decide) (n * 5 + 3) (x5i n 3) (by show _ < 50; omega) ?_
        rw [s11, a3]
        refine r_ci (n := 65) (rn_V (z := 2) (ci := 10) (T := TMD) C (c_MD_column (Kl K) (Ko K) h1 m ad MI1 ML1 MV1 (b * 24 + i) rc r.1 hM1 (by omega) hrc v0 v1 v2) tw_616 tw_618 ts_23 tw_4 tw_619 rfl rfl ndMD_column ⟨Nat.le_of_ble_eq_true rfl, Nat.le_of_ble_eq_true rfl⟩ hM1.1 rfl rfl rfl (Nat.le_of_ble_eq_true rfl) dMD_joinOne_62 ⟨Nat.le_of_ble_eq_true rfl, Nat.le_of_ble_eq_true rfl⟩) rfl (fun x ah hq => ?_)
        obtain ⟨e1, e2⟩ := hq
        subst e1
        rw [e2]
        refine r_icmp_ne (tgt := 137) (n := 68) C dMD_joinOne_65 (by decide) rfl (fun c_65 => ?_) (fun c_65 => ?_)
        · refine r_iinc (n := 140) C dMD_joinOne_137 rfl rfl (nI_i _) (by decide) ?_
          refine r_goto (tgt := 18) C dMD_joinOne_140 (by decide) ?_
          refine V.byk (ls' := [(0, .ref m), (1, .int (nI n)), (2, .int (nI p)), (3, .int (nI b)), (4, .int (nI pk)), (5, .int (nI (b * 24 + (i + 1))))]) rfl ?_
          exact ih _ (by omega) (i + 1) h1 MI1 ML1 MV1 rfl (by omega) hM1 (by rw [fold_take (emF (jF lc rc (pk / 36) (pk / 6 % 6) (pk % 6) lr)) _ hr, emF_n (if_neg c_65)]; exact hW1) hS1 hF1
        · refine r_aload_n (n := 69) C dMD_joinOne_68 rfl rfl ?_
          refine r_iload_n (n := 70) C dMD_joinOne_69 rfl rfl ?_
          refine r_iload (n := 72) C dMD_joinOne_70 rfl rfl ?_
          refine r_iload (n := 74) C dMD_joinOne_72 rfl rfl ?_
          refine r_bipush (v := 36) (n := 76) C dMD_joinOne_74 rfl (by decide) ?_
          refine r_idiv (n := 77) C dMD_joinOne_76 rfl (by decide) ?_
          refine V.eqi (y := nI (pk / 36)) (div_n (a := pk) (d := 36) (by omega) (by omega) (by omega)) ?_
          refine r_ci (n := 80) (rn_V (z := 3) (ci := 10) (T := TMD) C (c_MD_picked (Kl K) (Ko K) h1 m ad MI1 ML1 MV1 p (b * 24 + i) (pk / 36) lr.1 r.1 hM1 hp (by omega) (by omega) (by rw [s0]; exact l0) (by rw [s1]; exact l1) (by rw [s2]; exact l2) v0 v1 v2) tw_620 tw_622 ts_24 tw_4 tw_623 rfl rfl ndMD_picked ⟨Nat.le_of_ble_eq_true rfl, Nat.le_of_ble_eq_true rfl⟩ hM1.1 rfl rfl rfl (Nat.le_of_ble_eq_true rfl) dMD_joinOne_77 ⟨Nat.le_of_ble_eq_true rfl, Nat.le_of_ble_eq_true rfl⟩) rfl (fun x ah hq => ?_)
          obtain ⟨e1, e2⟩ := hq
          subst e1
          rw [e2]
          refine r_istore (n := 82) C dMD_joinOne_80 rfl (by decide) ?_
          refine r_aload_n (n := 83) C dMD_joinOne_82 rfl rfl ?_
          refine r_iload_n (n := 84) C dMD_joinOne_83 rfl rfl ?_
          refine r_iload (n := 86) C dMD_joinOne_84 rfl rfl ?_
          refine r_iload (n := 88) C dMD_joinOne_86 rfl rfl ?_
          refine r_bipush (v := 6) (n := 90) C dMD_joinOne_88 rfl (by decide) ?_
          refine r_idiv (n := 91) C dMD_joinOne_90 rfl (by decide) ?_
          refine V.eqi (y := nI (pk / 6)) (div_n (a := pk) (d := 6) (by omega) (by omega) (by omega)) ?_
          refine r_bipush (v := 6) (n := 93) C dMD_joinOne_91 rfl (by decide) ?_
          refine r_irem (n := 94) C dMD_joinOne_93 rfl (by decide) ?_
          refine V.eqi (y := nI (pk / 6 % 6)) (pk_rem (a := pk / 6) (d := 6) (by omega) (by omega) (by omega)) ?_
          refine r_ci (n := 97) (rn_V (z := 3) (ci := 10) (T := TMD) C (c_MD_picked (Kl K) (Ko K) h1 m ad MI1 ML1 MV1 p (b * 24 + i) (pk / 6 % 6) lr.1 r.1 hM1 hp (by omega) (by omega) (by rw [s0]; exact l0) (by rw [s1]; exact l1) (by rw [s2]; exact l2) v0 v1 v2) tw_620 tw_622 ts_24 tw_4 tw_623 rfl rfl ndMD_picked ⟨Nat.le_of_ble_eq_true rfl, Nat.le_of_ble_eq_true rfl⟩ hM1.1 rfl rfl rfl (Nat.le_of_ble_eq_true rfl) dMD_joinOne_94 ⟨Nat.le_of_ble_eq_true rfl, Nat.le_of_ble_eq_true rfl⟩) rfl (fun x ah hq => ?_)
          obtain ⟨e1, e2⟩ := hq
          subst e1
          rw [e2]
          refine r_istore (n := 99) C dMD_joinOne_97 rfl (by decide) ?_
          refine r_aload_n (n := 100) C dMD_joinOne_99 rfl rfl ?_
          refine r_iload_n (n := 101) C dMD_joinOne_100 rfl rfl ?_
          refine r_iload (n := 103) C dMD_joinOne_101 rfl rfl ?_
          refine r_iload (n := 105) C dMD_joinOne_103 rfl rfl ?_
          refine r_bipush (v := 6) (n := 107) C dMD_joinOne_105 rfl (by decide) ?_
          refine r_irem (n := 108) C dMD_joinOne_107 rfl (by decide) ?_
          refine V.eqi (y := nI (pk % 6)) (pk_rem (a := pk) (d := 6) (by omega) (by omega) (by omega)) ?_
          refine r_ci (n := 111) (rn_V (z := 3) (ci := 10) (T := TMD) C (c_MD_picked (Kl K) (Ko K) h1 m ad MI1 ML1 MV1 p (b * 24 + i) (pk % 6) lr.1 r.1 hM1 hp (by omega) (by omega) (by rw [s0]; exact l0) (by rw [s1]; exact l1) (by rw [s2]; exact l2) v0 v1 v2) tw_620 tw_622 ts_24 tw_4 tw_623 rfl rfl ndMD_picked ⟨Nat.le_of_ble_eq_true rfl, Nat.le_of_ble_eq_true rfl⟩ hM1.1 rfl rfl rfl (Nat.le_of_ble_eq_true rfl) dMD_joinOne_108 ⟨Nat.le_of_ble_eq_true rfl, Nat.le_of_ble_eq_true rfl⟩) rfl (fun x ah hq => ?_)
          obtain ⟨e1, e2⟩ := hq
          subst e1
          rw [e2]
          refine r_istore (n := 113) C dMD_joinOne_111 rfl (by decide) ?_
          refine r_aload_n (n := 114) C dMD_joinOne_113 rfl rfl ?_
          refine r_iload (n := 116) C dMD_joinOne_114 rfl rfl ?_
          refine r_iload (n := 118) C dMD_joinOne_116 rfl rfl ?_
          refine r_iload (n := 120) C dMD_joinOne_118 rfl rfl ?_
          refine r_aload_n (n := 121) C dMD_joinOne_120 rfl rfl ?_
          refine r_get (ci := 10) (n := 124) C hinMD rfl 3 (by decide) tw_538 rfl dMD_joinOne_121 rfl hM1.1 rfl ?_
          refine r_iload_n (n := 125) C dMD_joinOne_124 rfl rfl ?_
          refine r_laldM (n := 126) C dMD_joinOne_125 rfl hM1 3 (by decide) p rfl (by show _ < 624; omega) ?_
          rw [hS1.2.1, l3]
          refine r_aload_n (n := 127) C dMD_joinOne_126 rfl rfl ?_
          refine r_get (ci := 10) (n := 130) C hinMD rfl 3 (by decide) tw_538 rfl dMD_joinOne_127 rfl hM1.1 rfl ?_
          refine r_iload (n := 132) C dMD_joinOne_130 rfl rfl ?_
          refine r_laldM (n := 133) C dMD_joinOne_132 rfl hM1 3 (by decide) (b * 24 + i) rfl (by show _ < 624; omega) ?_
          rw [v3]
          refine r_lmul (n := 134) C dMD_joinOne_133 rfl ?_
          refine r_cv (n := 137) (rn_V (z := 4) (ci := 10) (T := TMD) C (c_MD_emit (Kl K) (Ko K) h1 m ad MI1 ML1 MV1 _ (pickF (pk / 36) lr.1 r.1) (pickF (pk / 6 % 6) lr.1 r.1) (pickF (pk % 6) lr.1 r.1) (lr.2 * r.2) hM1 hW1 (by omega)) tw_624 tw_626 ts_25 tw_4 tw_627 rfl rfl ndMD_emit ⟨Nat.le_of_ble_eq_true rfl, Nat.le_of_ble_eq_true rfl⟩ hM1.1 rfl rfl rfl (Nat.le_of_ble_eq_true rfl) dMD_joinOne_134 ⟨Nat.le_of_ble_eq_true rfl, Nat.le_of_ble_eq_true rfl⟩) rfl (fun h2 hq => ?_)
          obtain ⟨MI2, ML2, MV2, hM2, hW2, hS2, hF2⟩ := hq
          refine r_iinc (n := 140) C dMD_joinOne_137 rfl rfl (nI_i _) (by decide) ?_
          refine r_goto (tgt := 18) C dMD_joinOne_140 (by decide) ?_
          refine V.byk (ls' := [(0, .ref m), (1, .int (nI n)), (2, .int (nI p)), (3, .int (nI b)), (4, .int (nI pk)), (5, .int (nI (b * 24 + (i + 1))))]) rfl ?_
          exact ih _ (by omega) (i + 1) h2 MI2 ML2 MV2 rfl (by omega) hM2 (by rw [fold_take (emF (jF lc rc (pk / 36) (pk / 6 % 6) (pk % 6) lr)) _ hr, emF_s (if_pos c_65)]; exact hW2) (hS1.tr hS2) (hF1.tr hF2)
  refine r_aload_n (n := 1) C dMD_joinOne_0 rfl rfl ?_
  refine r_get (ci := 10) (n := 4) C hinMD rfl 11 (by decide) tw_546 rfl dMD_joinOne_1 rfl hM.1 rfl ?_
  refine r_iload_n (n := 5) C dMD_joinOne_4 rfl rfl ?_
  refine r_iconst (v := 5) (n := 6) C dMD_joinOne_5 rfl (by decide) ?_
  refine r_imul (n := 7) C dMD_joinOne_6 rfl ?_
  refine r_iconst (v := 4) (n := 8) C dMD_joinOne_7 rfl (by decide) ?_
  refine r_iadd (n := 9) C dMD_joinOne_8 rfl ?_
  refine r_ialdM (n := 10) C dMD_joinOne_9 rfl hM 11 (by decide) (n * 5 + 4) (x5i n 4) (by show _ < 50; omega) ?_
  rw [a4]
  refine r_istore (n := 12) C dMD_joinOne_10 rfl (by decide) ?_
  refine r_iload_n (n := 13) C dMD_joinOne_12 rfl rfl ?_
  refine r_bipush (v := 24) (n := 15) C dMD_joinOne_13 rfl (by decide) ?_
  refine r_imul (n := 16) C dMD_joinOne_15 rfl ?_
  refine V.eqi (x24 b) ?_
  refine r_istore (n := 18) C dMD_joinOne_16 rfl (by decide) ?_
  refine V.byk (ls' := [(0, .ref m), (1, .int (nI n)), (2, .int (nI p)), (3, .int (nI b)), (4, .int (nI pk)), (5, .int (nI (b * 24 + 0)))]) rfl ?_
  exact loop _ 0 h MI ML MV rfl (Nat.zero_le _) hM hW WSame.rf Frm.rf
def uT : Rw → Option (Ky × Int64) := fun r => some (r.1, r.2)
def uF (col t : Nat) (n : Int32) : Rw → Option (Ky × Int64) := fun r => if letsF t n (colv r.1 col) = true then some (r.1, r.2) else none
def uM (x y z : Nat) : Rw → Option (Ky × Int64) := fun r => some ((codeF x r.1, codeF y r.1, codeF z r.1), r.2)
def uD : Rw → Option (Ky × Int64) := fun r => if 0 < r.2 then some (r.1, 1) else none
set_option maxHeartbeats 4000000 in
set_option maxRecDepth 100000 in
/-- unary, kind 0 -/
theorem c_MD_unary0 (l : Launch) (o : Om) (h : AH) (m : Nat) (ad : Nat → Nat) (MI : Nat → Nat → Int32) (ML : Nat → Nat → Int64) (MV : Nat → Int32) (n p b : Nat) (W : List Rw) (r : Rw) (hM : MH o h m ad MI ML MV) (hn : n < 10) (hp : p < 624) (hW : WL MI ML MV W) (hroom : W.length < 600) (l0 : MI 0 p = r.1.1) (l1 : MI 1 p = r.1.2.1) (l2 : MI 2 p = r.1.2.2) (l3 : ML 3 p = r.2) (hk : MI 10 n = nI 0) : Mt l o yMD_unary cMD_unary 10 none ({ frames := 2, cells := 0, slots := 0, locals := 53 } : Room) [.ref m, .int (nI n), .int (nI p), .int (nI b)] h (QV o (fun h' => EmP o h h' m ad MI ML MV (emF uT W r))) (0) (0) := by
  refine Met.ofV (by decide) (Nat.le_of_ble_eq_true rfl) (fun K hl ho C => ?_)
  subst hl; subst ho
  refine r_aload_n (n := 1) C dMD_unary_0 rfl rfl ?_
  refine r_get (ci := 10) (n := 4) C hinMD rfl 11 (by decide) tw_546 rfl dMD_unary_1 rfl hM.1 rfl ?_
  refine r_iload_n (n := 5) C dMD_unary_4 rfl rfl ?_
  refine r_iconst (v := 5) (n := 6) C dMD_unary_5 rfl (by decide) ?_
  refine r_imul (n := 7) C dMD_unary_6 rfl ?_
  refine r_iconst (v := 1) (n := 8) C dMD_unary_7 rfl (by decide) ?_
  refine r_iadd (n := 9) C dMD_unary_8 rfl ?_
  refine r_ialdM (n := 10) C dMD_unary_9 rfl hM 11 (by decide) (n * 5 + 1) (x5i n 1) (by show _ < 50; omega) ?_
  refine r_istore (n := 12) C dMD_unary_10 rfl (by decide) ?_
  refine r_aload_n (n := 13) C dMD_unary_12 rfl rfl ?_
  refine r_get (ci := 10) (n := 16) C hinMD rfl 11 (by decide) tw_546 rfl dMD_unary_13 rfl hM.1 rfl ?_
  refine r_iload_n (n := 17) C dMD_unary_16 rfl rfl ?_
  refine r_iconst (v := 5) (n := 18) C dMD_unary_17 rfl (by decide) ?_
  refine r_imul (n := 19) C dMD_unary_18 rfl ?_
  refine r_iconst (v := 2) (n := 20) C dMD_unary_19 rfl (by decide) ?_
  refine r_iadd (n := 21) C dMD_unary_20 rfl ?_
  refine r_ialdM (n := 22) C dMD_unary_21 rfl hM 11 (by decide) (n * 5 + 2) (x5i n 2) (by show _ < 50; omega) ?_
  refine r_istore (n := 24) C dMD_unary_22 rfl (by decide) ?_
  refine r_aload_n (n := 25) C dMD_unary_24 rfl rfl ?_
  refine r_get (ci := 10) (n := 28) C hinMD rfl 11 (by decide) tw_546 rfl dMD_unary_25 rfl hM.1 rfl ?_
  refine r_iload_n (n := 29) C dMD_unary_28 rfl rfl ?_
  refine r_iconst (v := 5) (n := 30) C dMD_unary_29 rfl (by decide) ?_
  refine r_imul (n := 31) C dMD_unary_30 rfl ?_
  refine r_iconst (v := 3) (n := 32) C dMD_unary_31 rfl (by decide) ?_
  refine r_iadd (n := 33) C dMD_unary_32 rfl ?_
  refine r_ialdM (n := 34) C dMD_unary_33 rfl hM 11 (by decide) (n * 5 + 3) (x5i n 3) (by show _ < 50; omega) ?_
  refine r_istore (n := 36) C dMD_unary_34 rfl (by decide) ?_
  refine r_aload_n (n := 37) C dMD_unary_36 rfl rfl ?_
  refine r_get (ci := 10) (n := 40) C hinMD rfl 10 (by decide) tw_545 rfl dMD_unary_37 rfl hM.1 rfl ?_
  refine r_iload_n (n := 41) C dMD_unary_40 rfl rfl ?_
  refine r_ialdM (n := 42) C dMD_unary_41 rfl hM 10 (by decide) n rfl (by show _ < 10; omega) ?_
  rw [hk]
  refine r_if_ne (tgt := 73) (n := 45) C dMD_unary_42 (by decide) rfl (fun c_42 => ?_) (fun c_42 => ?_)
  · exact absurd rfl c_42
  · refine r_aload_n (n := 46) C dMD_unary_45 rfl rfl ?_
    refine r_aload_n (n := 47) C dMD_unary_46 rfl rfl ?_
    refine r_get (ci := 10) (n := 50) C hinMD rfl 0 (by decide) tw_535 rfl dMD_unary_47 rfl hM.1 rfl ?_
    refine r_iload_n (n := 51) C dMD_unary_50 rfl rfl ?_
    refine r_ialdM (n := 52) C dMD_unary_51 rfl hM 0 (by decide) p rfl (by show _ < 624; omega) ?_
    refine r_aload_n (n := 53) C dMD_unary_52 rfl rfl ?_
    refine r_get (ci := 10) (n := 56) C hinMD rfl 1 (by decide) tw_536 rfl dMD_unary_53 rfl hM.1 rfl ?_
    refine r_iload_n (n := 57) C dMD_unary_56 rfl rfl ?_
    refine r_ialdM (n := 58) C dMD_unary_57 rfl hM 1 (by decide) p rfl (by show _ < 624; omega) ?_
    refine r_aload_n (n := 59) C dMD_unary_58 rfl rfl ?_
    refine r_get (ci := 10) (n := 62) C hinMD rfl 2 (by decide) tw_537 rfl dMD_unary_59 rfl hM.1 rfl ?_
    refine r_iload_n (n := 63) C dMD_unary_62 rfl rfl ?_
    refine r_ialdM (n := 64) C dMD_unary_63 rfl hM 2 (by decide) p rfl (by show _ < 624; omega) ?_
    refine r_aload_n (n := 65) C dMD_unary_64 rfl rfl ?_
    refine r_get (ci := 10) (n := 68) C hinMD rfl 3 (by decide) tw_538 rfl dMD_unary_65 rfl hM.1 rfl ?_
    refine r_iload_n (n := 69) C dMD_unary_68 rfl rfl ?_
    refine r_laldM (n := 70) C dMD_unary_69 rfl hM 3 (by decide) p rfl (by show _ < 624; omega) ?_
    refine r_cv (n := 73) (rn_V (z := 4) (ci := 10) (T := TMD) C (c_MD_emit (Kl K) (Ko K) h m ad MI ML MV W (MI 0 p) (MI 1 p) (MI 2 p) (ML 3 p) hM hW hroom) tw_624 tw_626 ts_25 tw_4 tw_627 rfl rfl ndMD_emit ⟨Nat.le_of_ble_eq_true rfl, Nat.le_of_ble_eq_true rfl⟩ hM.1 rfl rfl rfl (Nat.le_of_ble_eq_true rfl) dMD_unary_70 ⟨Nat.le_of_ble_eq_true rfl, Nat.le_of_ble_eq_true rfl⟩) rfl (fun h1 hq => ?_)
    rw [l0, l1, l2, l3] at hq
    obtain ⟨MI1, ML1, MV1, hM1, hW1, hS1, hF1⟩ := hq
    have s10 := hS1.1 10 (by decide) (by decide) (by decide)
    refine r_aload_n (n := 74) C dMD_unary_73 rfl rfl ?_
    refine r_get (ci := 10) (n := 77) C hinMD rfl 10 (by decide) tw_545 rfl dMD_unary_74 rfl hM1.1 rfl ?_
    refine r_iload_n (n := 78) C dMD_unary_77 rfl rfl ?_
    refine r_ialdM (n := 79) C dMD_unary_78 rfl hM1 10 (by decide) n rfl (by show _ < 10; omega) ?_
    rw [s10, hk]
    refine r_iconst (v := 1) (n := 80) C dMD_unary_79 rfl (by decide) ?_
    refine r_icmp_ne (tgt := 129) (n := 83) C dMD_unary_80 (by decide) rfl (fun c_80 => ?_) (fun c_80 => ?_)
    · refine r_aload_n (n := 130) C dMD_unary_129 rfl rfl ?_
      refine r_get (ci := 10) (n := 133) C hinMD rfl 10 (by decide) tw_545 rfl dMD_unary_130 rfl hM1.1 rfl ?_
      refine r_iload_n (n := 134) C dMD_unary_133 rfl rfl ?_
      refine r_ialdM (n := 135) C dMD_unary_134 rfl hM1 10 (by decide) n rfl (by show _ < 10; omega) ?_
      rw [s10, hk]
      refine r_iconst (v := 2) (n := 136) C dMD_unary_135 rfl (by decide) ?_
      refine r_icmp_ne (tgt := 182) (n := 139) C dMD_unary_136 (by decide) rfl (fun c_136 => ?_) (fun c_136 => ?_)
      · refine r_aload_n (n := 183) C dMD_unary_182 rfl rfl ?_
        refine r_get (ci := 10) (n := 186) C hinMD rfl 10 (by decide) tw_545 rfl dMD_unary_183 rfl hM1.1 rfl ?_
        refine r_iload_n (n := 187) C dMD_unary_186 rfl rfl ?_
        refine r_ialdM (n := 188) C dMD_unary_187 rfl hM1 10 (by decide) n rfl (by show _ < 10; omega) ?_
        rw [s10, hk]
        refine r_iconst (v := 5) (n := 189) C dMD_unary_188 rfl (by decide) ?_
        refine r_icmp_ne (tgt := 226) (n := 192) C dMD_unary_189 (by decide) rfl (fun c_189 => ?_) (fun c_189 => ?_)
        · refine r_aload_n (n := 227) C dMD_unary_226 rfl rfl ?_
          refine r_get (ci := 10) (n := 230) C hinMD rfl 10 (by decide) tw_545 rfl dMD_unary_227 rfl hM1.1 rfl ?_
          refine r_iload_n (n := 231) C dMD_unary_230 rfl rfl ?_
          refine r_ialdM (n := 232) C dMD_unary_231 rfl hM1 10 (by decide) n rfl (by show _ < 10; omega) ?_
          rw [s10, hk]
          refine r_bipush (v := 6) (n := 234) C dMD_unary_232 rfl (by decide) ?_
          refine r_icmp_ne (tgt := 308) (n := 237) C dMD_unary_234 (by decide) rfl (fun c_234 => ?_) (fun c_234 => ?_)
          · exact r_vret C dMD_unary_308 (Nat.le_refl _) (Nat.le_refl _) ⟨MI1, ML1, MV1, hM1, hW1, hS1, hF1⟩
          · exact absurd c_234 (by decide)
        · exact absurd c_189 (by decide)
      · exact absurd c_136 (by decide)
    · exact absurd c_80 (by decide)
set_option maxHeartbeats 4000000 in
set_option maxRecDepth 100000 in
/-- unary, kind 1 -/
theorem c_MD_unary1 (l : Launch) (o : Om) (h : AH) (m : Nat) (ad : Nat → Nat) (MI : Nat → Nat → Int32) (ML : Nat → Nat → Int64) (MV : Nat → Int32) (n p b : Nat) (W : List Rw) (r : Rw) (col t : Nat) (nn : Int32) (hM : MH o h m ad MI ML MV) (hn : n < 10) (hp : p < 624) (hW : WL MI ML MV W) (hroom : W.length < 600) (l0 : MI 0 p = r.1.1) (l1 : MI 1 p = r.1.2.1) (l2 : MI 2 p = r.1.2.2) (l3 : ML 3 p = r.2) (hk : MI 10 n = nI 1) (hcol : col < 3) (ht : t < 4) (a1 : MI 11 (n * 5 + 1) = nI col) (a2 : MI 11 (n * 5 + 2) = nI t) (a3 : MI 11 (n * 5 + 3) = nn) : Mt l o yMD_unary cMD_unary 10 none ({ frames := 2, cells := 0, slots := 0, locals := 53 } : Room) [.ref m, .int (nI n), .int (nI p), .int (nI b)] h (QV o (fun h' => EmP o h h' m ad MI ML MV (emF (uF col t nn) W r))) (0) (0) := by
  refine Met.ofV (by decide) (Nat.le_of_ble_eq_true rfl) (fun K hl ho C => ?_)
  subst hl; subst ho
  refine r_aload_n (n := 1) C dMD_unary_0 rfl rfl ?_
  refine r_get (ci := 10) (n := 4) C hinMD rfl 11 (by decide) tw_546 rfl dMD_unary_1 rfl hM.1 rfl ?_
  refine r_iload_n (n := 5) C dMD_unary_4 rfl rfl ?_
  refine r_iconst (v := 5) (n := 6) C dMD_unary_5 rfl (by decide) ?_
  refine r_imul (n := 7) C dMD_unary_6 rfl ?_
  refine r_iconst (v := 1) (n := 8) C dMD_unary_7 rfl (by decide) ?_
  refine r_iadd (n := 9) C dMD_unary_8 rfl ?_
  refine r_ialdM (n := 10) C dMD_unary_9 rfl hM 11 (by decide) (n * 5 + 1) (x5i n 1) (by show _ < 50; omega) ?_
  rw [a1]
  refine r_istore (n := 12) C dMD_unary_10 rfl (by decide) ?_
  refine r_aload_n (n := 13) C dMD_unary_12 rfl rfl ?_
  refine r_get (ci := 10) (n := 16) C hinMD rfl 11 (by decide) tw_546 rfl dMD_unary_13 rfl hM.1 rfl ?_
  refine r_iload_n (n := 17) C dMD_unary_16 rfl rfl ?_
  refine r_iconst (v := 5) (n := 18) C dMD_unary_17 rfl (by decide) ?_
  refine r_imul (n := 19) C dMD_unary_18 rfl ?_
  refine r_iconst (v := 2) (n := 20) C dMD_unary_19 rfl (by decide) ?_
  refine r_iadd (n := 21) C dMD_unary_20 rfl ?_
  refine r_ialdM (n := 22) C dMD_unary_21 rfl hM 11 (by decide) (n * 5 + 2) (x5i n 2) (by show _ < 50; omega) ?_
  rw [a2]
  refine r_istore (n := 24) C dMD_unary_22 rfl (by decide) ?_
  refine r_aload_n (n := 25) C dMD_unary_24 rfl rfl ?_
  refine r_get (ci := 10) (n := 28) C hinMD rfl 11 (by decide) tw_546 rfl dMD_unary_25 rfl hM.1 rfl ?_
  refine r_iload_n (n := 29) C dMD_unary_28 rfl rfl ?_
  refine r_iconst (v := 5) (n := 30) C dMD_unary_29 rfl (by decide) ?_
  refine r_imul (n := 31) C dMD_unary_30 rfl ?_
  refine r_iconst (v := 3) (n := 32) C dMD_unary_31 rfl (by decide) ?_
  refine r_iadd (n := 33) C dMD_unary_32 rfl ?_
  refine r_ialdM (n := 34) C dMD_unary_33 rfl hM 11 (by decide) (n * 5 + 3) (x5i n 3) (by show _ < 50; omega) ?_
  rw [a3]
  refine r_istore (n := 36) C dMD_unary_34 rfl (by decide) ?_
  refine r_aload_n (n := 37) C dMD_unary_36 rfl rfl ?_
  refine r_get (ci := 10) (n := 40) C hinMD rfl 10 (by decide) tw_545 rfl dMD_unary_37 rfl hM.1 rfl ?_
  refine r_iload_n (n := 41) C dMD_unary_40 rfl rfl ?_
  refine r_ialdM (n := 42) C dMD_unary_41 rfl hM 10 (by decide) n rfl (by show _ < 10; omega) ?_
  rw [hk]
  refine r_if_ne (tgt := 73) (n := 45) C dMD_unary_42 (by decide) rfl (fun c_42 => ?_) (fun c_42 => ?_)
  · refine r_aload_n (n := 74) C dMD_unary_73 rfl rfl ?_
    refine r_get (ci := 10) (n := 77) C hinMD rfl 10 (by decide) tw_545 rfl dMD_unary_74 rfl hM.1 rfl ?_
    refine r_iload_n (n := 78) C dMD_unary_77 rfl rfl ?_
    refine r_ialdM (n := 79) C dMD_unary_78 rfl hM 10 (by decide) n rfl (by show _ < 10; omega) ?_
    rw [hk]
    refine r_iconst (v := 1) (n := 80) C dMD_unary_79 rfl (by decide) ?_
    refine r_icmp_ne (tgt := 129) (n := 83) C dMD_unary_80 (by decide) rfl (fun c_80 => ?_) (fun c_80 => ?_)
    · exact absurd rfl c_80
    · refine r_aload_n (n := 84) C dMD_unary_83 rfl rfl ?_
      refine r_aload_n (n := 85) C dMD_unary_84 rfl rfl ?_
      refine r_iload_n (n := 86) C dMD_unary_85 rfl rfl ?_
      refine r_iload (n := 88) C dMD_unary_86 rfl rfl ?_
      refine r_ci (n := 91) (rn_V (z := 2) (ci := 10) (T := TMD) C (c_MD_column (Kl K) (Ko K) h m ad MI ML MV p col r.1 hM hp hcol l0 l1 l2) tw_616 tw_618 ts_23 tw_4 tw_619 rfl rfl ndMD_column ⟨Nat.le_of_ble_eq_true rfl, Nat.le_of_ble_eq_true rfl⟩ hM.1 rfl rfl rfl (Nat.le_of_ble_eq_true rfl) dMD_unary_88 ⟨Nat.le_of_ble_eq_true rfl, Nat.le_of_ble_eq_true rfl⟩) rfl (fun x ah hq => ?_)
      obtain ⟨e1, e2⟩ := hq
      subst e1
      rw [e2]
      refine r_iload (n := 93) C dMD_unary_91 rfl rfl ?_
      refine r_iload (n := 95) C dMD_unary_93 rfl rfl ?_
      refine r_ci (n := 98) (rn_V (z := 3) (ci := 10) (T := TMD) C (c_MD_passes (Kl K) (Ko K) h m t (colv r.1 col) nn ht) tw_632 tw_634 ts_27 tw_4 tw_635 rfl rfl ndMD_passes ⟨Nat.le_of_ble_eq_true rfl, Nat.le_of_ble_eq_true rfl⟩ hM.1 rfl rfl rfl (Nat.le_of_ble_eq_true rfl) dMD_unary_95 ⟨Nat.le_of_ble_eq_true rfl, Nat.le_of_ble_eq_true rfl⟩) rfl (fun x ah hq => ?_)
      obtain ⟨e1, e2⟩ := hq
      subst e1
      rw [e2]
      refine r_if_eq (tgt := 129) (n := 101) C dMD_unary_98 (by decide) rfl (fun c_98 => ?_) (fun c_98 => ?_)
      · have hz := b01_f c_98
        refine r_aload_n (n := 130) C dMD_unary_129 rfl rfl ?_
        refine r_get (ci := 10) (n := 133) C hinMD rfl 10 (by decide) tw_545 rfl dMD_unary_130 rfl hM.1 rfl ?_
        refine r_iload_n (n := 134) C dMD_unary_133 rfl rfl ?_
        refine r_ialdM (n := 135) C dMD_unary_134 rfl hM 10 (by decide) n rfl (by show _ < 10; omega) ?_
        rw [hk]
        refine r_iconst (v := 2) (n := 136) C dMD_unary_135 rfl (by decide) ?_
        refine r_icmp_ne (tgt := 182) (n := 139) C dMD_unary_136 (by decide) rfl (fun c_136 => ?_) (fun c_136 => ?_)
        · refine r_aload_n (n := 183) C dMD_unary_182 rfl rfl ?_
          refine r_get (ci := 10) (n := 186) C hinMD rfl 10 (by decide) tw_545 rfl dMD_unary_183 rfl hM.1 rfl ?_
          refine r_iload_n (n := 187) C dMD_unary_186 rfl rfl ?_
          refine r_ialdM (n := 188) C dMD_unary_187 rfl hM 10 (by decide) n rfl (by show _ < 10; omega) ?_
          rw [hk]
          refine r_iconst (v := 5) (n := 189) C dMD_unary_188 rfl (by decide) ?_
          refine r_icmp_ne (tgt := 226) (n := 192) C dMD_unary_189 (by decide) rfl (fun c_189 => ?_) (fun c_189 => ?_)
          · refine r_aload_n (n := 227) C dMD_unary_226 rfl rfl ?_
            refine r_get (ci := 10) (n := 230) C hinMD rfl 10 (by decide) tw_545 rfl dMD_unary_227 rfl hM.1 rfl ?_
            refine r_iload_n (n := 231) C dMD_unary_230 rfl rfl ?_
            refine r_ialdM (n := 232) C dMD_unary_231 rfl hM 10 (by decide) n rfl (by show _ < 10; omega) ?_
            rw [hk]
            refine r_bipush (v := 6) (n := 234) C dMD_unary_232 rfl (by decide) ?_
            refine r_icmp_ne (tgt := 308) (n := 237) C dMD_unary_234 (by decide) rfl (fun c_234 => ?_) (fun c_234 => ?_)
            · exact r_vret C dMD_unary_308 (Nat.le_refl _) (Nat.le_refl _) ⟨MI, ML, MV, hM, by rw [emF_n (by unfold uF; rw [hz]; rfl)]; exact hW, WSame.rf, Frm.rf⟩
            · exact absurd c_234 (by decide)
          · exact absurd c_189 (by decide)
        · exact absurd c_136 (by decide)
      · have hz := b01_t c_98
        refine r_aload_n (n := 102) C dMD_unary_101 rfl rfl ?_
        refine r_aload_n (n := 103) C dMD_unary_102 rfl rfl ?_
        refine r_get (ci := 10) (n := 106) C hinMD rfl 0 (by decide) tw_535 rfl dMD_unary_103 rfl hM.1 rfl ?_
        refine r_iload_n (n := 107) C dMD_unary_106 rfl rfl ?_
        refine r_ialdM (n := 108) C dMD_unary_107 rfl hM 0 (by decide) p rfl (by show _ < 624; omega) ?_
        refine r_aload_n (n := 109) C dMD_unary_108 rfl rfl ?_
        refine r_get (ci := 10) (n := 112) C hinMD rfl 1 (by decide) tw_536 rfl dMD_unary_109 rfl hM.1 rfl ?_
        refine r_iload_n (n := 113) C dMD_unary_112 rfl rfl ?_
        refine r_ialdM (n := 114) C dMD_unary_113 rfl hM 1 (by decide) p rfl (by show _ < 624; omega) ?_
        refine r_aload_n (n := 115) C dMD_unary_114 rfl rfl ?_
        refine r_get (ci := 10) (n := 118) C hinMD rfl 2 (by decide) tw_537 rfl dMD_unary_115 rfl hM.1 rfl ?_
        refine r_iload_n (n := 119) C dMD_unary_118 rfl rfl ?_
        refine r_ialdM (n := 120) C dMD_unary_119 rfl hM 2 (by decide) p rfl (by show _ < 624; omega) ?_
        refine r_aload_n (n := 121) C dMD_unary_120 rfl rfl ?_
        refine r_get (ci := 10) (n := 124) C hinMD rfl 3 (by decide) tw_538 rfl dMD_unary_121 rfl hM.1 rfl ?_
        refine r_iload_n (n := 125) C dMD_unary_124 rfl rfl ?_
        refine r_laldM (n := 126) C dMD_unary_125 rfl hM 3 (by decide) p rfl (by show _ < 624; omega) ?_
        refine r_cv (n := 129) (rn_V (z := 4) (ci := 10) (T := TMD) C (c_MD_emit (Kl K) (Ko K) h m ad MI ML MV W (MI 0 p) (MI 1 p) (MI 2 p) (ML 3 p) hM hW hroom) tw_624 tw_626 ts_25 tw_4 tw_627 rfl rfl ndMD_emit ⟨Nat.le_of_ble_eq_true rfl, Nat.le_of_ble_eq_true rfl⟩ hM.1 rfl rfl rfl (Nat.le_of_ble_eq_true rfl) dMD_unary_126 ⟨Nat.le_of_ble_eq_true rfl, Nat.le_of_ble_eq_true rfl⟩) rfl (fun h1 hq => ?_)
        rw [l0, l1, l2, l3] at hq
        obtain ⟨MI1, ML1, MV1, hM1, hW1, hS1, hF1⟩ := hq
        have s10 := hS1.1 10 (by decide) (by decide) (by decide)
        refine r_aload_n (n := 130) C dMD_unary_129 rfl rfl ?_
        refine r_get (ci := 10) (n := 133) C hinMD rfl 10 (by decide) tw_545 rfl dMD_unary_130 rfl hM1.1 rfl ?_
        refine r_iload_n (n := 134) C dMD_unary_133 rfl rfl ?_
        refine r_ialdM (n := 135) C dMD_unary_134 rfl hM1 10 (by decide) n rfl (by show _ < 10; omega) ?_
        rw [s10, hk]
        refine r_iconst (v := 2) (n := 136) C dMD_unary_135 rfl (by decide) ?_
        refine r_icmp_ne (tgt := 182) (n := 139) C dMD_unary_136 (by decide) rfl (fun c_136 => ?_) (fun c_136 => ?_)
        · refine r_aload_n (n := 183) C dMD_unary_182 rfl rfl ?_
          refine r_get (ci := 10) (n := 186) C hinMD rfl 10 (by decide) tw_545 rfl dMD_unary_183 rfl hM1.1 rfl ?_
          refine r_iload_n (n := 187) C dMD_unary_186 rfl rfl ?_
          refine r_ialdM (n := 188) C dMD_unary_187 rfl hM1 10 (by decide) n rfl (by show _ < 10; omega) ?_
          rw [s10, hk]
          refine r_iconst (v := 5) (n := 189) C dMD_unary_188 rfl (by decide) ?_
          refine r_icmp_ne (tgt := 226) (n := 192) C dMD_unary_189 (by decide) rfl (fun c_189 => ?_) (fun c_189 => ?_)
          · refine r_aload_n (n := 227) C dMD_unary_226 rfl rfl ?_
            refine r_get (ci := 10) (n := 230) C hinMD rfl 10 (by decide) tw_545 rfl dMD_unary_227 rfl hM1.1 rfl ?_
            refine r_iload_n (n := 231) C dMD_unary_230 rfl rfl ?_
            refine r_ialdM (n := 232) C dMD_unary_231 rfl hM1 10 (by decide) n rfl (by show _ < 10; omega) ?_
            rw [s10, hk]
            refine r_bipush (v := 6) (n := 234) C dMD_unary_232 rfl (by decide) ?_
            refine r_icmp_ne (tgt := 308) (n := 237) C dMD_unary_234 (by decide) rfl (fun c_234 => ?_) (fun c_234 => ?_)
            · exact r_vret C dMD_unary_308 (Nat.le_refl _) (Nat.le_refl _) ⟨MI1, ML1, MV1, hM1, by rw [emF_s (by unfold uF; rw [hz]; rfl)]; exact hW1, hS1, hF1⟩
            · exact absurd c_234 (by decide)
          · exact absurd c_189 (by decide)
        · exact absurd c_136 (by decide)
  · exact absurd c_42 (by decide)
set_option maxHeartbeats 4000000 in
set_option maxRecDepth 100000 in
/-- unary, kind 2 -/
theorem c_MD_unary2 (l : Launch) (o : Om) (h : AH) (m : Nat) (ad : Nat → Nat) (MI : Nat → Nat → Int32) (ML : Nat → Nat → Int64) (MV : Nat → Int32) (n p b : Nat) (W : List Rw) (r : Rw) (x y z : Nat) (hM : MH o h m ad MI ML MV) (hn : n < 10) (hp : p < 624) (hW : WL MI ML MV W) (hroom : W.length < 600) (l0 : MI 0 p = r.1.1) (l1 : MI 1 p = r.1.2.1) (l2 : MI 2 p = r.1.2.2) (l3 : ML 3 p = r.2) (hk : MI 10 n = nI 2) (hx : x < 6) (hy : y < 6) (hz : z < 6) (a1 : MI 11 (n * 5 + 1) = nI x) (a2 : MI 11 (n * 5 + 2) = nI y) (a3 : MI 11 (n * 5 + 3) = nI z) : Mt l o yMD_unary cMD_unary 10 none ({ frames := 2, cells := 0, slots := 0, locals := 53 } : Room) [.ref m, .int (nI n), .int (nI p), .int (nI b)] h (QV o (fun h' => EmP o h h' m ad MI ML MV (emF (uM x y z) W r))) (0) (0) := by
  refine Met.ofV (by decide) (Nat.le_of_ble_eq_true rfl) (fun K hl ho C => ?_)
  subst hl; subst ho
  refine r_aload_n (n := 1) C dMD_unary_0 rfl rfl ?_
  refine r_get (ci := 10) (n := 4) C hinMD rfl 11 (by decide) tw_546 rfl dMD_unary_1 rfl hM.1 rfl ?_
  refine r_iload_n (n := 5) C dMD_unary_4 rfl rfl ?_
  refine r_iconst (v := 5) (n := 6) C dMD_unary_5 rfl (by decide) ?_
  refine r_imul (n := 7) C dMD_unary_6 rfl ?_
  refine r_iconst (v := 1) (n := 8) C dMD_unary_7 rfl (by decide) ?_
  refine r_iadd (n := 9) C dMD_unary_8 rfl ?_
  refine r_ialdM (n := 10) C dMD_unary_9 rfl hM 11 (by decide) (n * 5 + 1) (x5i n 1) (by show _ < 50; omega) ?_
  rw [a1]
  refine r_istore (n := 12) C dMD_unary_10 rfl (by decide) ?_
  refine r_aload_n (n := 13) C dMD_unary_12 rfl rfl ?_
  refine r_get (ci := 10) (n := 16) C hinMD rfl 11 (by decide) tw_546 rfl dMD_unary_13 rfl hM.1 rfl ?_
  refine r_iload_n (n := 17) C dMD_unary_16 rfl rfl ?_
  refine r_iconst (v := 5) (n := 18) C dMD_unary_17 rfl (by decide) ?_
  refine r_imul (n := 19) C dMD_unary_18 rfl ?_
  refine r_iconst (v := 2) (n := 20) C dMD_unary_19 rfl (by decide) ?_
  refine r_iadd (n := 21) C dMD_unary_20 rfl ?_
  refine r_ialdM (n := 22) C dMD_unary_21 rfl hM 11 (by decide) (n * 5 + 2) (x5i n 2) (by show _ < 50; omega) ?_
  rw [a2]
  refine r_istore (n := 24) C dMD_unary_22 rfl (by decide) ?_
  refine r_aload_n (n := 25) C dMD_unary_24 rfl rfl ?_
  refine r_get (ci := 10) (n := 28) C hinMD rfl 11 (by decide) tw_546 rfl dMD_unary_25 rfl hM.1 rfl ?_
  refine r_iload_n (n := 29) C dMD_unary_28 rfl rfl ?_
  refine r_iconst (v := 5) (n := 30) C dMD_unary_29 rfl (by decide) ?_
  refine r_imul (n := 31) C dMD_unary_30 rfl ?_
  refine r_iconst (v := 3) (n := 32) C dMD_unary_31 rfl (by decide) ?_
  refine r_iadd (n := 33) C dMD_unary_32 rfl ?_
  refine r_ialdM (n := 34) C dMD_unary_33 rfl hM 11 (by decide) (n * 5 + 3) (x5i n 3) (by show _ < 50; omega) ?_
  rw [a3]
  refine r_istore (n := 36) C dMD_unary_34 rfl (by decide) ?_
  refine r_aload_n (n := 37) C dMD_unary_36 rfl rfl ?_
  refine r_get (ci := 10) (n := 40) C hinMD rfl 10 (by decide) tw_545 rfl dMD_unary_37 rfl hM.1 rfl ?_
  refine r_iload_n (n := 41) C dMD_unary_40 rfl rfl ?_
  refine r_ialdM (n := 42) C dMD_unary_41 rfl hM 10 (by decide) n rfl (by show _ < 10; omega) ?_
  rw [hk]
  refine r_if_ne (tgt := 73) (n := 45) C dMD_unary_42 (by decide) rfl (fun c_42 => ?_) (fun c_42 => ?_)
  · refine r_aload_n (n := 74) C dMD_unary_73 rfl rfl ?_
    refine r_get (ci := 10) (n := 77) C hinMD rfl 10 (by decide) tw_545 rfl dMD_unary_74 rfl hM.1 rfl ?_
    refine r_iload_n (n := 78) C dMD_unary_77 rfl rfl ?_
    refine r_ialdM (n := 79) C dMD_unary_78 rfl hM 10 (by decide) n rfl (by show _ < 10; omega) ?_
    rw [hk]
    refine r_iconst (v := 1) (n := 80) C dMD_unary_79 rfl (by decide) ?_
    refine r_icmp_ne (tgt := 129) (n := 83) C dMD_unary_80 (by decide) rfl (fun c_80 => ?_) (fun c_80 => ?_)
    · refine r_aload_n (n := 130) C dMD_unary_129 rfl rfl ?_
      refine r_get (ci := 10) (n := 133) C hinMD rfl 10 (by decide) tw_545 rfl dMD_unary_130 rfl hM.1 rfl ?_
      refine r_iload_n (n := 134) C dMD_unary_133 rfl rfl ?_
      refine r_ialdM (n := 135) C dMD_unary_134 rfl hM 10 (by decide) n rfl (by show _ < 10; omega) ?_
      rw [hk]
      refine r_iconst (v := 2) (n := 136) C dMD_unary_135 rfl (by decide) ?_
      refine r_icmp_ne (tgt := 182) (n := 139) C dMD_unary_136 (by decide) rfl (fun c_136 => ?_) (fun c_136 => ?_)
      · exact absurd rfl c_136
      · refine r_aload_n (n := 140) C dMD_unary_139 rfl rfl ?_
        refine r_iload_n (n := 141) C dMD_unary_140 rfl rfl ?_
        refine r_iload (n := 143) C dMD_unary_141 rfl rfl ?_
        refine r_ci (n := 146) (rn_V (z := 2) (ci := 10) (T := TMD) C (c_MD_mapped (Kl K) (Ko K) h m ad MI ML MV p x r.1 hM hp hx l0 l1 l2) tw_636 tw_638 ts_28 tw_4 tw_639 rfl rfl ndMD_mapped ⟨Nat.le_of_ble_eq_true rfl, Nat.le_of_ble_eq_true rfl⟩ hM.1 rfl rfl rfl (Nat.le_of_ble_eq_true rfl) dMD_unary_143 ⟨Nat.le_of_ble_eq_true rfl, Nat.le_of_ble_eq_true rfl⟩) rfl (fun v ah hq => ?_)
        obtain ⟨e1, e2⟩ := hq
        subst e1
        rw [e2]
        refine r_istore (n := 148) C dMD_unary_146 rfl (by decide) ?_
        refine r_aload_n (n := 149) C dMD_unary_148 rfl rfl ?_
        refine r_iload_n (n := 150) C dMD_unary_149 rfl rfl ?_
        refine r_iload (n := 152) C dMD_unary_150 rfl rfl ?_
        refine r_ci (n := 155) (rn_V (z := 2) (ci := 10) (T := TMD) C (c_MD_mapped (Kl K) (Ko K) h m ad MI ML MV p y r.1 hM hp hy l0 l1 l2) tw_636 tw_638 ts_28 tw_4 tw_639 rfl rfl ndMD_mapped ⟨Nat.le_of_ble_eq_true rfl, Nat.le_of_ble_eq_true rfl⟩ hM.1 rfl rfl rfl (Nat.le_of_ble_eq_true rfl) dMD_unary_152 ⟨Nat.le_of_ble_eq_true rfl, Nat.le_of_ble_eq_true rfl⟩) rfl (fun v ah hq => ?_)
        obtain ⟨e1, e2⟩ := hq
        subst e1
        rw [e2]
        refine r_istore (n := 157) C dMD_unary_155 rfl (by decide) ?_
        refine r_aload_n (n := 158) C dMD_unary_157 rfl rfl ?_
        refine r_iload_n (n := 159) C dMD_unary_158 rfl rfl ?_
        refine r_iload (n := 161) C dMD_unary_159 rfl rfl ?_
        refine r_ci (n := 164) (rn_V (z := 2) (ci := 10) (T := TMD) C (c_MD_mapped (Kl K) (Ko K) h m ad MI ML MV p z r.1 hM hp hz l0 l1 l2) tw_636 tw_638 ts_28 tw_4 tw_639 rfl rfl ndMD_mapped ⟨Nat.le_of_ble_eq_true rfl, Nat.le_of_ble_eq_true rfl⟩ hM.1 rfl rfl rfl (Nat.le_of_ble_eq_true rfl) dMD_unary_161 ⟨Nat.le_of_ble_eq_true rfl, Nat.le_of_ble_eq_true rfl⟩) rfl (fun v ah hq => ?_)
        obtain ⟨e1, e2⟩ := hq
        subst e1
        rw [e2]
        refine r_istore (n := 166) C dMD_unary_164 rfl (by decide) ?_
        refine r_aload_n (n := 167) C dMD_unary_166 rfl rfl ?_
        refine r_iload (n := 169) C dMD_unary_167 rfl rfl ?_
        refine r_iload (n := 171) C dMD_unary_169 rfl rfl ?_
        refine r_iload (n := 173) C dMD_unary_171 rfl rfl ?_
        refine r_aload_n (n := 174) C dMD_unary_173 rfl rfl ?_
        refine r_get (ci := 10) (n := 177) C hinMD rfl 3 (by decide) tw_538 rfl dMD_unary_174 rfl hM.1 rfl ?_
        refine r_iload_n (n := 178) C dMD_unary_177 rfl rfl ?_
        refine r_laldM (n := 179) C dMD_unary_178 rfl hM 3 (by decide) p rfl (by show _ < 624; omega) ?_
        rw [l3]
        refine r_cv (n := 182) (rn_V (z := 4) (ci := 10) (T := TMD) C (c_MD_emit (Kl K) (Ko K) h m ad MI ML MV W (codeF x r.1) (codeF y r.1) (codeF z r.1) r.2 hM hW hroom) tw_624 tw_626 ts_25 tw_4 tw_627 rfl rfl ndMD_emit ⟨Nat.le_of_ble_eq_true rfl, Nat.le_of_ble_eq_true rfl⟩ hM.1 rfl rfl rfl (Nat.le_of_ble_eq_true rfl) dMD_unary_179 ⟨Nat.le_of_ble_eq_true rfl, Nat.le_of_ble_eq_true rfl⟩) rfl (fun h1 hq => ?_)
        obtain ⟨MI1, ML1, MV1, hM1, hW1, hS1, hF1⟩ := hq
        have s10 := hS1.1 10 (by decide) (by decide) (by decide)
        refine r_aload_n (n := 183) C dMD_unary_182 rfl rfl ?_
        refine r_get (ci := 10) (n := 186) C hinMD rfl 10 (by decide) tw_545 rfl dMD_unary_183 rfl hM1.1 rfl ?_
        refine r_iload_n (n := 187) C dMD_unary_186 rfl rfl ?_
        refine r_ialdM (n := 188) C dMD_unary_187 rfl hM1 10 (by decide) n rfl (by show _ < 10; omega) ?_
        rw [s10, hk]
        refine r_iconst (v := 5) (n := 189) C dMD_unary_188 rfl (by decide) ?_
        refine r_icmp_ne (tgt := 226) (n := 192) C dMD_unary_189 (by decide) rfl (fun c_189 => ?_) (fun c_189 => ?_)
        · refine r_aload_n (n := 227) C dMD_unary_226 rfl rfl ?_
          refine r_get (ci := 10) (n := 230) C hinMD rfl 10 (by decide) tw_545 rfl dMD_unary_227 rfl hM1.1 rfl ?_
          refine r_iload_n (n := 231) C dMD_unary_230 rfl rfl ?_
          refine r_ialdM (n := 232) C dMD_unary_231 rfl hM1 10 (by decide) n rfl (by show _ < 10; omega) ?_
          rw [s10, hk]
          refine r_bipush (v := 6) (n := 234) C dMD_unary_232 rfl (by decide) ?_
          refine r_icmp_ne (tgt := 308) (n := 237) C dMD_unary_234 (by decide) rfl (fun c_234 => ?_) (fun c_234 => ?_)
          · exact r_vret C dMD_unary_308 (Nat.le_refl _) (Nat.le_refl _) ⟨MI1, ML1, MV1, hM1, hW1, hS1, hF1⟩
          · exact absurd c_234 (by decide)
        · exact absurd c_189 (by decide)
    · exact absurd c_80 (by decide)
  · exact absurd c_42 (by decide)
set_option maxHeartbeats 4000000 in
set_option maxRecDepth 100000 in
/-- unary, kind 5 -/
theorem c_MD_unary5 (l : Launch) (o : Om) (h : AH) (m : Nat) (ad : Nat → Nat) (MI : Nat → Nat → Int32) (ML : Nat → Nat → Int64) (MV : Nat → Int32) (n p b : Nat) (W : List Rw) (r : Rw) (hM : MH o h m ad MI ML MV) (hn : n < 10) (hp : p < 624) (hW : WL MI ML MV W) (hroom : W.length < 600) (l0 : MI 0 p = r.1.1) (l1 : MI 1 p = r.1.2.1) (l2 : MI 2 p = r.1.2.2) (l3 : ML 3 p = r.2) (hk : MI 10 n = nI 5) : Mt l o yMD_unary cMD_unary 10 none ({ frames := 2, cells := 0, slots := 0, locals := 53 } : Room) [.ref m, .int (nI n), .int (nI p), .int (nI b)] h (QV o (fun h' => EmP o h h' m ad MI ML MV (emF uD W r))) (0) (0) := by
  refine Met.ofV (by decide) (Nat.le_of_ble_eq_true rfl) (fun K hl ho C => ?_)
  subst hl; subst ho
  refine r_aload_n (n := 1) C dMD_unary_0 rfl rfl ?_
  refine r_get (ci := 10) (n := 4) C hinMD rfl 11 (by decide) tw_546 rfl dMD_unary_1 rfl hM.1 rfl ?_
  refine r_iload_n (n := 5) C dMD_unary_4 rfl rfl ?_
  refine r_iconst (v := 5) (n := 6) C dMD_unary_5 rfl (by decide) ?_
  refine r_imul (n := 7) C dMD_unary_6 rfl ?_
  refine r_iconst (v := 1) (n := 8) C dMD_unary_7 rfl (by decide) ?_
  refine r_iadd (n := 9) C dMD_unary_8 rfl ?_
  refine r_ialdM (n := 10) C dMD_unary_9 rfl hM 11 (by decide) (n * 5 + 1) (x5i n 1) (by show _ < 50; omega) ?_
  refine r_istore (n := 12) C dMD_unary_10 rfl (by decide) ?_
  refine r_aload_n (n := 13) C dMD_unary_12 rfl rfl ?_
  refine r_get (ci := 10) (n := 16) C hinMD rfl 11 (by decide) tw_546 rfl dMD_unary_13 rfl hM.1 rfl ?_
  refine r_iload_n (n := 17) C dMD_unary_16 rfl rfl ?_
  refine r_iconst (v := 5) (n := 18) C dMD_unary_17 rfl (by decide) ?_
  refine r_imul (n := 19) C dMD_unary_18 rfl ?_
  refine r_iconst (v := 2) (n := 20) C dMD_unary_19 rfl (by decide) ?_
  refine r_iadd (n := 21) C dMD_unary_20 rfl ?_
  refine r_ialdM (n := 22) C dMD_unary_21 rfl hM 11 (by decide) (n * 5 + 2) (x5i n 2) (by show _ < 50; omega) ?_
  refine r_istore (n := 24) C dMD_unary_22 rfl (by decide) ?_
  refine r_aload_n (n := 25) C dMD_unary_24 rfl rfl ?_
  refine r_get (ci := 10) (n := 28) C hinMD rfl 11 (by decide) tw_546 rfl dMD_unary_25 rfl hM.1 rfl ?_
  refine r_iload_n (n := 29) C dMD_unary_28 rfl rfl ?_
  refine r_iconst (v := 5) (n := 30) C dMD_unary_29 rfl (by decide) ?_
  refine r_imul (n := 31) C dMD_unary_30 rfl ?_
  refine r_iconst (v := 3) (n := 32) C dMD_unary_31 rfl (by decide) ?_
  refine r_iadd (n := 33) C dMD_unary_32 rfl ?_
  refine r_ialdM (n := 34) C dMD_unary_33 rfl hM 11 (by decide) (n * 5 + 3) (x5i n 3) (by show _ < 50; omega) ?_
  refine r_istore (n := 36) C dMD_unary_34 rfl (by decide) ?_
  refine r_aload_n (n := 37) C dMD_unary_36 rfl rfl ?_
  refine r_get (ci := 10) (n := 40) C hinMD rfl 10 (by decide) tw_545 rfl dMD_unary_37 rfl hM.1 rfl ?_
  refine r_iload_n (n := 41) C dMD_unary_40 rfl rfl ?_
  refine r_ialdM (n := 42) C dMD_unary_41 rfl hM 10 (by decide) n rfl (by show _ < 10; omega) ?_
  rw [hk]
  refine r_if_ne (tgt := 73) (n := 45) C dMD_unary_42 (by decide) rfl (fun c_42 => ?_) (fun c_42 => ?_)
  · refine r_aload_n (n := 74) C dMD_unary_73 rfl rfl ?_
    refine r_get (ci := 10) (n := 77) C hinMD rfl 10 (by decide) tw_545 rfl dMD_unary_74 rfl hM.1 rfl ?_
    refine r_iload_n (n := 78) C dMD_unary_77 rfl rfl ?_
    refine r_ialdM (n := 79) C dMD_unary_78 rfl hM 10 (by decide) n rfl (by show _ < 10; omega) ?_
    rw [hk]
    refine r_iconst (v := 1) (n := 80) C dMD_unary_79 rfl (by decide) ?_
    refine r_icmp_ne (tgt := 129) (n := 83) C dMD_unary_80 (by decide) rfl (fun c_80 => ?_) (fun c_80 => ?_)
    · refine r_aload_n (n := 130) C dMD_unary_129 rfl rfl ?_
      refine r_get (ci := 10) (n := 133) C hinMD rfl 10 (by decide) tw_545 rfl dMD_unary_130 rfl hM.1 rfl ?_
      refine r_iload_n (n := 134) C dMD_unary_133 rfl rfl ?_
      refine r_ialdM (n := 135) C dMD_unary_134 rfl hM 10 (by decide) n rfl (by show _ < 10; omega) ?_
      rw [hk]
      refine r_iconst (v := 2) (n := 136) C dMD_unary_135 rfl (by decide) ?_
      refine r_icmp_ne (tgt := 182) (n := 139) C dMD_unary_136 (by decide) rfl (fun c_136 => ?_) (fun c_136 => ?_)
      · refine r_aload_n (n := 183) C dMD_unary_182 rfl rfl ?_
        refine r_get (ci := 10) (n := 186) C hinMD rfl 10 (by decide) tw_545 rfl dMD_unary_183 rfl hM.1 rfl ?_
        refine r_iload_n (n := 187) C dMD_unary_186 rfl rfl ?_
        refine r_ialdM (n := 188) C dMD_unary_187 rfl hM 10 (by decide) n rfl (by show _ < 10; omega) ?_
        rw [hk]
        refine r_iconst (v := 5) (n := 189) C dMD_unary_188 rfl (by decide) ?_
        refine r_icmp_ne (tgt := 226) (n := 192) C dMD_unary_189 (by decide) rfl (fun c_189 => ?_) (fun c_189 => ?_)
        · exact absurd rfl c_189
        · refine r_aload_n (n := 193) C dMD_unary_192 rfl rfl ?_
          refine r_get (ci := 10) (n := 196) C hinMD rfl 3 (by decide) tw_538 rfl dMD_unary_193 rfl hM.1 rfl ?_
          refine r_iload_n (n := 197) C dMD_unary_196 rfl rfl ?_
          refine r_laldM (n := 198) C dMD_unary_197 rfl hM 3 (by decide) p rfl (by show _ < 624; omega) ?_
          rw [l3]
          refine r_lconst (v := 0) (n := 199) C dMD_unary_198 rfl (by decide) ?_
          refine r_lcmp (n := 200) C dMD_unary_199 rfl ?_
          refine r_if_le (tgt := 226) (n := 203) C dMD_unary_200 (by decide) rfl (fun c_200 => ?_) (fun c_200 => ?_)
          · have hz : ¬ 0 < r.2 := Int64.not_lt.mpr ((lg_cmp_le _ _).mp c_200)
            refine r_aload_n (n := 227) C dMD_unary_226 rfl rfl ?_
            refine r_get (ci := 10) (n := 230) C hinMD rfl 10 (by decide) tw_545 rfl dMD_unary_227 rfl hM.1 rfl ?_
            refine r_iload_n (n := 231) C dMD_unary_230 rfl rfl ?_
            refine r_ialdM (n := 232) C dMD_unary_231 rfl hM 10 (by decide) n rfl (by show _ < 10; omega) ?_
            rw [hk]
            refine r_bipush (v := 6) (n := 234) C dMD_unary_232 rfl (by decide) ?_
            refine r_icmp_ne (tgt := 308) (n := 237) C dMD_unary_234 (by decide) rfl (fun c_234 => ?_) (fun c_234 => ?_)
            · exact r_vret C dMD_unary_308 (Nat.le_refl _) (Nat.le_refl _) ⟨MI, ML, MV, hM, by rw [emF_n (if_neg hz)]; exact hW, WSame.rf, Frm.rf⟩
            · exact absurd c_234 (by decide)
          · have hz : 0 < r.2 := Int64.not_le.mp (fun q => c_200 ((lg_cmp_le _ _).mpr q))
            refine r_aload_n (n := 204) C dMD_unary_203 rfl rfl ?_
            refine r_aload_n (n := 205) C dMD_unary_204 rfl rfl ?_
            refine r_get (ci := 10) (n := 208) C hinMD rfl 0 (by decide) tw_535 rfl dMD_unary_205 rfl hM.1 rfl ?_
            refine r_iload_n (n := 209) C dMD_unary_208 rfl rfl ?_
            refine r_ialdM (n := 210) C dMD_unary_209 rfl hM 0 (by decide) p rfl (by show _ < 624; omega) ?_
            refine r_aload_n (n := 211) C dMD_unary_210 rfl rfl ?_
            refine r_get (ci := 10) (n := 214) C hinMD rfl 1 (by decide) tw_536 rfl dMD_unary_211 rfl hM.1 rfl ?_
            refine r_iload_n (n := 215) C dMD_unary_214 rfl rfl ?_
            refine r_ialdM (n := 216) C dMD_unary_215 rfl hM 1 (by decide) p rfl (by show _ < 624; omega) ?_
            refine r_aload_n (n := 217) C dMD_unary_216 rfl rfl ?_
            refine r_get (ci := 10) (n := 220) C hinMD rfl 2 (by decide) tw_537 rfl dMD_unary_217 rfl hM.1 rfl ?_
            refine r_iload_n (n := 221) C dMD_unary_220 rfl rfl ?_
            refine r_ialdM (n := 222) C dMD_unary_221 rfl hM 2 (by decide) p rfl (by show _ < 624; omega) ?_
            refine r_lconst (v := 1) (n := 223) C dMD_unary_222 rfl (by decide) ?_
            refine r_cv (n := 226) (rn_V (z := 4) (ci := 10) (T := TMD) C (c_MD_emit (Kl K) (Ko K) h m ad MI ML MV W (MI 0 p) (MI 1 p) (MI 2 p) 1 hM hW hroom) tw_624 tw_626 ts_25 tw_4 tw_627 rfl rfl ndMD_emit ⟨Nat.le_of_ble_eq_true rfl, Nat.le_of_ble_eq_true rfl⟩ hM.1 rfl rfl rfl (Nat.le_of_ble_eq_true rfl) dMD_unary_223 ⟨Nat.le_of_ble_eq_true rfl, Nat.le_of_ble_eq_true rfl⟩) rfl (fun h1 hq => ?_)
            rw [l0, l1, l2] at hq
            obtain ⟨MI1, ML1, MV1, hM1, hW1, hS1, hF1⟩ := hq
            have s10 := hS1.1 10 (by decide) (by decide) (by decide)
            refine r_aload_n (n := 227) C dMD_unary_226 rfl rfl ?_
            refine r_get (ci := 10) (n := 230) C hinMD rfl 10 (by decide) tw_545 rfl dMD_unary_227 rfl hM1.1 rfl ?_
            refine r_iload_n (n := 231) C dMD_unary_230 rfl rfl ?_
            refine r_ialdM (n := 232) C dMD_unary_231 rfl hM1 10 (by decide) n rfl (by show _ < 10; omega) ?_
            rw [s10, hk]
            refine r_bipush (v := 6) (n := 234) C dMD_unary_232 rfl (by decide) ?_
            refine r_icmp_ne (tgt := 308) (n := 237) C dMD_unary_234 (by decide) rfl (fun c_234 => ?_) (fun c_234 => ?_)
            · exact r_vret C dMD_unary_308 (Nat.le_refl _) (Nat.le_refl _) ⟨MI1, ML1, MV1, hM1, by rw [emF_s (if_pos hz)]; exact hW1, hS1, hF1⟩
            · exact absurd c_234 (by decide)
      · exact absurd c_136 (by decide)
    · exact absurd c_80 (by decide)
  · exact absurd c_42 (by decide)
