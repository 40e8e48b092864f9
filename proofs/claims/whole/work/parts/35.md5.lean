/-! THE REFERENCE: grouped, unary of a group -/
def gst (kd key col : Nat) (k : Int32) (t : Int64 × Bool × Int32) (r : Rw) : Int64 × Bool × Int32 := if withB key k r = true then (t.1 + (if kd = 0 then r.2 else r.2 * (colv r.1 col).toInt64), true, if (t.2.1 = false ∨ (if kd = 2 then colv r.1 col < t.2.2 else t.2.2 < colv r.1 col)) then colv r.1 col else t.2.2) else t
def grp (kd key col : Nat) (k : Int32) (M : List Rw) : Int32 := if kd < 2 then (M.foldl (gst kd key col k) (0, false, 0)).1.toInt32 else (M.foldl (gst kd key col k) (0, false, 0)).2.2
set_option maxHeartbeats 4000000 in
set_option maxRecDepth 100000 in
/-- grouped -/
theorem c_MD_grouped (l : Launch) (o : Om) (h : AH) (m : Nat) (ad : Nat → Nat) (MI : Nat → Nat → Int32) (ML : Nat → Nat → Int64) (MV : Nat → Int32) (b n key col kd : Nat) (k : Int32) (M : List Rw) (hM : MH o h m ad MI ML MV) (hb : b < 26) (hn : n < 10) (hkey : key < 3) (hcol : col < 3) (hkd : kd < 4) (hB : BL MI ML b M) (a1 : MI 11 (n * 5 + 1) = nI key) (a2 : MI 11 (n * 5 + 2) = nI col) (a3 : MI 11 (n * 5 + 3) = nI kd) : Mt l o yMD_grouped cMD_grouped 12 (some .int) ({ frames := 1, cells := 0, slots := 0, locals := 22 } : Room) [.ref m, .int (nI b), .int (nI n), .int k] h (QI o (fun x h' => x = grp kd key col k M ∧ h' = h)) (0) (0) := by
  refine Met.ofV (by decide) (Nat.le_of_ble_eq_true rfl) (fun K hl ho C => ?_)
  subst hl; subst ho
  obtain ⟨hb1, hb2, hb3⟩ := hB
  rcases (show kd = 0 ∨ kd = 1 ∨ kd = 2 ∨ kd = 3 by omega) with e | e | e | e <;> subst e
  · have loop : ∀ (q i : Nat) (t : Int64 × Bool × Int32), M.length - i = q → i ≤ M.length → t = (M.take i).foldl (gst 0 key col k) (0, false, 0) → V K h 0 0 (EndQ K (QI (Ko K) (fun x h' => x = grp 0 key col k M ∧ h' = h)) 0 0) 27 [(0, .ref m), (1, .int (nI b)), (2, .int (nI n)), (3, .int k), (4, .int (nI 0)), (5, .long t.1), (7, .int (b01 t.2.1)), (8, .int t.2.2), (9, .int (nI (b * 24 + i)))] [] := by
      intro q
      induction q using Nat.strongRecOn with
      | _ q ih =>
        intro i t hm hi ht
        refine r_iload (n := 29) C dMD_grouped_27 rfl rfl ?_
        refine r_iload_n (n := 30) C dMD_grouped_29 rfl rfl ?_
        refine r_bipush (v := 24) (n := 32) C dMD_grouped_30 rfl (by decide) ?_
        refine r_imul (n := 33) C dMD_grouped_32 rfl ?_
        refine V.eqi (x24 b) ?_
        refine r_aload_n (n := 34) C dMD_grouped_33 rfl rfl ?_
        refine r_get (ci := 10) (n := 37) C hinMD rfl 4 (by decide) tw_539 rfl dMD_grouped_34 rfl hM.1 rfl ?_
        refine r_iload_n (n := 38) C dMD_grouped_37 rfl rfl ?_
        refine r_ialdM (n := 39) C dMD_grouped_38 rfl hM 4 (by decide) b rfl (by show _ < 26; omega) ?_
        rw [hb1]
        refine r_iadd (n := 40) C dMD_grouped_39 rfl ?_
        refine V.eqi (nI_add _ _) ?_
        refine r_icmp_ge (tgt := 182) (n := 43) C dMD_grouped_40 (by decide) rfl (fun c_40 => ?_) (fun c_40 => ?_)
        · have hie : i = M.length := by have := (nI_leI (a := b * 24 + M.length) (b := b * 24 + i) (by omega) (by omega)).mp c_40; omega
          rw [hie, List.take_length] at ht
          refine r_iload (n := 184) C dMD_grouped_182 rfl rfl ?_
          refine r_iconst (v := 2) (n := 185) C dMD_grouped_184 rfl (by decide) ?_
          refine r_icmp_ge (tgt := 194) (n := 188) C dMD_grouped_185 (by decide) rfl (fun c_185 => ?_) (fun c_185 => ?_)
          · exact absurd c_185 (by decide)
          · refine r_lload (n := 190) C dMD_grouped_188 rfl rfl ?_
            refine r_l2i (n := 191) C dMD_grouped_190 rfl ?_
            refine r_goto (tgt := 196) C dMD_grouped_191 (by decide) ?_
            exact r_iret C dMD_grouped_196 (Nat.le_refl _) (Nat.le_refl _) ⟨by unfold grp; rw [if_pos (by decide), ← ht], rfl⟩
        · have hlt : i < M.length := by
            rcases Nat.lt_or_ge i M.length with q1 | q1
            · exact q1
            · exact absurd (nI_le (a := b * 24 + M.length) (b := b * 24 + i) (by omega) (by omega)) c_40
          obtain ⟨r, hr⟩ : ∃ r, M[i]? = some r := ⟨_, List.getElem?_eq_getElem hlt⟩
          obtain ⟨v0, v1, v2, v3⟩ := hb3 i r hr
          refine r_aload_n (n := 44) C dMD_grouped_43 rfl rfl ?_
          refine r_get (ci := 10) (n := 47) C hinMD rfl 3 (by decide) tw_538 rfl dMD_grouped_44 rfl hM.1 rfl ?_
          refine r_iload (n := 49) C dMD_grouped_47 rfl rfl ?_
          refine r_laldM (n := 50) C dMD_grouped_49 rfl hM 3 (by decide) (b * 24 + i) rfl (by show _ < 624; omega) ?_
          rw [v3]
          refine r_lconst (v := 0) (n := 51) C dMD_grouped_50 rfl (by decide) ?_
          refine r_lcmp (n := 52) C dMD_grouped_51 rfl ?_
          refine r_if_le (tgt := 176) (n := 55) C dMD_grouped_52 (by decide) rfl (fun c_52 => ?_) (fun c_52 => ?_)
          · have hw : withB key k r = false := by
              unfold withB
              rw [decide_eq_false (Int64.not_lt.mpr ((lg_cmp_le _ _).mp c_52)), Bool.false_and]
            refine r_iinc (n := 179) C dMD_grouped_176 rfl rfl (nI_i _) (by decide) ?_
            refine r_goto (tgt := 27) C dMD_grouped_179 (by decide) ?_
            refine V.byk (ls' := [(0, .ref m), (1, .int (nI b)), (2, .int (nI n)), (3, .int k), (4, .int (nI 0)), (5, .long t.1), (7, .int (b01 t.2.1)), (8, .int t.2.2), (9, .int (nI (b * 24 + (i + 1))))]) rfl ?_
            refine ih _ (by omega) (i + 1) t rfl (by omega) ?_
            rw [fold_take (gst 0 key col k) _ hr, ← ht]
            unfold gst
            rw [if_neg (by rw [hw]; decide)]
          · have hpos : 0 < r.2 := Int64.not_le.mp (fun q => c_52 ((lg_cmp_le _ _).mpr q))
            refine r_aload_n (n := 56) C dMD_grouped_55 rfl rfl ?_
            refine r_iload (n := 58) C dMD_grouped_56 rfl rfl ?_
            refine r_aload_n (n := 59) C dMD_grouped_58 rfl rfl ?_
            refine r_get (ci := 10) (n := 62) C hinMD rfl 11 (by decide) tw_546 rfl dMD_grouped_59 rfl hM.1 rfl ?_
            refine r_iload_n (n := 63) C dMD_grouped_62 rfl rfl ?_
            refine r_iconst (v := 5) (n := 64) C dMD_grouped_63 rfl (by decide) ?_
            refine r_imul (n := 65) C dMD_grouped_64 rfl ?_
            refine r_iconst (v := 1) (n := 66) C dMD_grouped_65 rfl (by decide) ?_
            refine r_iadd (n := 67) C dMD_grouped_66 rfl ?_
            refine r_ialdM (n := 68) C dMD_grouped_67 rfl hM 11 (by decide) (n * 5 + 1) (x5i n 1) (by show _ < 50; omega) ?_
            rw [a1]
            refine r_ci (n := 71) (rn_V (z := 2) (ci := 10) (T := TMD) C (c_MD_column (Kl K) (Ko K) h m ad MI ML MV (b * 24 + i) key r.1 hM (by omega) hkey v0 v1 v2) tw_616 tw_618 ts_23 tw_4 tw_619 rfl rfl ndMD_column ⟨Nat.le_of_ble_eq_true rfl, Nat.le_of_ble_eq_true rfl⟩ hM.1 rfl rfl rfl (Nat.le_of_ble_eq_true rfl) dMD_grouped_68 ⟨Nat.le_of_ble_eq_true rfl, Nat.le_of_ble_eq_true rfl⟩) rfl (fun x ah hq => ?_)
            obtain ⟨e1, e2⟩ := hq
            subst e1
            rw [e2]
            refine r_iload_n (n := 72) C dMD_grouped_71 rfl rfl ?_
            refine r_icmp_ne (tgt := 176) (n := 75) C dMD_grouped_72 (by decide) rfl (fun c_72 => ?_) (fun c_72 => ?_)
            · have hw : withB key k r = false := by
                unfold withB
                rw [decide_eq_false c_72, Bool.and_false]
              refine r_iinc (n := 179) C dMD_grouped_176 rfl rfl (nI_i _) (by decide) ?_
              refine r_goto (tgt := 27) C dMD_grouped_179 (by decide) ?_
              refine V.byk (ls' := [(0, .ref m), (1, .int (nI b)), (2, .int (nI n)), (3, .int k), (4, .int (nI 0)), (5, .long t.1), (7, .int (b01 t.2.1)), (8, .int t.2.2), (9, .int (nI (b * 24 + (i + 1))))]) rfl ?_
              refine ih _ (by omega) (i + 1) t rfl (by omega) ?_
              rw [fold_take (gst 0 key col k) _ hr, ← ht]
              unfold gst
              rw [if_neg (by rw [hw]; decide)]
            · have hw : withB key k r = true := by
                unfold withB
                rw [decide_eq_true c_72, decide_eq_true hpos]; rfl
              refine r_aload_n (n := 76) C dMD_grouped_75 rfl rfl ?_
              refine r_iload (n := 78) C dMD_grouped_76 rfl rfl ?_
              refine r_aload_n (n := 79) C dMD_grouped_78 rfl rfl ?_
              refine r_get (ci := 10) (n := 82) C hinMD rfl 11 (by decide) tw_546 rfl dMD_grouped_79 rfl hM.1 rfl ?_
              refine r_iload_n (n := 83) C dMD_grouped_82 rfl rfl ?_
              refine r_iconst (v := 5) (n := 84) C dMD_grouped_83 rfl (by decide) ?_
              refine r_imul (n := 85) C dMD_grouped_84 rfl ?_
              refine r_iconst (v := 2) (n := 86) C dMD_grouped_85 rfl (by decide) ?_
              refine r_iadd (n := 87) C dMD_grouped_86 rfl ?_
              refine r_ialdM (n := 88) C dMD_grouped_87 rfl hM 11 (by decide) (n * 5 + 2) (x5i n 2) (by show _ < 50; omega) ?_
              rw [a2]
              refine r_ci (n := 91) (rn_V (z := 2) (ci := 10) (T := TMD) C (c_MD_column (Kl K) (Ko K) h m ad MI ML MV (b * 24 + i) col r.1 hM (by omega) hcol v0 v1 v2) tw_616 tw_618 ts_23 tw_4 tw_619 rfl rfl ndMD_column ⟨Nat.le_of_ble_eq_true rfl, Nat.le_of_ble_eq_true rfl⟩ hM.1 rfl rfl rfl (Nat.le_of_ble_eq_true rfl) dMD_grouped_88 ⟨Nat.le_of_ble_eq_true rfl, Nat.le_of_ble_eq_true rfl⟩) rfl (fun x ah hq => ?_)
              obtain ⟨e1, e2⟩ := hq
              subst e1
              rw [e2]
              refine r_istore (n := 93) C dMD_grouped_91 rfl (by decide) ?_
              refine r_lload (n := 95) C dMD_grouped_93 rfl rfl ?_
              refine r_iload (n := 97) C dMD_grouped_95 rfl rfl ?_
              refine r_if_ne (tgt := 110) (n := 100) C dMD_grouped_97 (by decide) rfl (fun c_97 => ?_) (fun c_97 => ?_)
              · exact absurd rfl c_97
              · refine r_aload_n (n := 101) C dMD_grouped_100 rfl rfl ?_
                refine r_get (ci := 10) (n := 104) C hinMD rfl 3 (by decide) tw_538 rfl dMD_grouped_101 rfl hM.1 rfl ?_
                refine r_iload (n := 106) C dMD_grouped_104 rfl rfl ?_
                refine r_laldM (n := 107) C dMD_grouped_106 rfl hM 3 (by decide) (b * 24 + i) rfl (by show _ < 624; omega) ?_
                rw [v3]
                refine r_goto (tgt := 121) C dMD_grouped_107 (by decide) ?_
                refine r_ladd (n := 122) C dMD_grouped_121 rfl ?_
                refine r_lstore (n := 124) C dMD_grouped_122 rfl (by decide) ?_
                refine r_iload (n := 126) C dMD_grouped_124 rfl rfl ?_
                refine r_iconst (v := 2) (n := 127) C dMD_grouped_126 rfl (by decide) ?_
                refine r_icmp_ne (tgt := 145) (n := 130) C dMD_grouped_127 (by decide) rfl (fun c_127 => ?_) (fun c_127 => ?_)
                · refine r_iload (n := 147) C dMD_grouped_145 rfl rfl ?_
                  refine r_iload (n := 149) C dMD_grouped_147 rfl rfl ?_
                  refine r_icmp_le (tgt := 156) (n := 152) C dMD_grouped_149 (by decide) rfl (fun c_149 => ?_) (fun c_149 => ?_)
                  · have hbet : ¬ t.2.2 < colv r.1 col := Int32.not_lt.mpr c_149
                    refine r_iconst (v := 0) (n := 157) C dMD_grouped_156 rfl (by decide) ?_
                    refine r_istore (n := 159) C dMD_grouped_157 rfl (by decide) ?_
                    refine r_iload (n := 161) C dMD_grouped_159 rfl rfl ?_
                    refine r_if_eq (tgt := 169) (n := 164) C dMD_grouped_161 (by decide) rfl (fun c_161 => ?_) (fun c_161 => ?_)
                    · refine r_iload (n := 171) C dMD_grouped_169 rfl rfl ?_
                      refine r_istore (n := 173) C dMD_grouped_171 rfl (by decide) ?_
                      refine r_iconst (v := 1) (n := 174) C dMD_grouped_173 rfl (by decide) ?_
                      refine r_istore (n := 176) C dMD_grouped_174 rfl (by decide) ?_
                      refine r_iinc (n := 179) C dMD_grouped_176 rfl rfl (nI_i _) (by decide) ?_
                      refine r_goto (tgt := 27) C dMD_grouped_179 (by decide) ?_
                      refine V.byk (ls' := [(0, .ref m), (1, .int (nI b)), (2, .int (nI n)), (3, .int k), (4, .int (nI 0)), (5, .long (t.1 + r.2)), (7, .int 1), (8, .int (colv r.1 col)), (9, .int (nI (b * 24 + (i + 1))))]) rfl ?_
                      refine ih _ (by omega) (i + 1) ((t.1 + r.2), true, (colv r.1 col)) rfl (by omega) ?_
                      rw [fold_take (gst 0 key col k) _ hr, ← ht]
                      unfold gst
                      rw [if_pos hw, if_pos (rfl : (0 : Nat) = 0), if_pos (Or.inl (b01_f c_161))]
                    · refine r_iload (n := 166) C dMD_grouped_164 rfl rfl ?_
                      refine r_if_eq (tgt := 173) (n := 169) C dMD_grouped_166 (by decide) rfl (fun c_166 => ?_) (fun c_166 => ?_)
                      · refine r_iconst (v := 1) (n := 174) C dMD_grouped_173 rfl (by decide) ?_
                        refine r_istore (n := 176) C dMD_grouped_174 rfl (by decide) ?_
                        refine r_iinc (n := 179) C dMD_grouped_176 rfl rfl (nI_i _) (by decide) ?_
                        refine r_goto (tgt := 27) C dMD_grouped_179 (by decide) ?_
                        refine V.byk (ls' := [(0, .ref m), (1, .int (nI b)), (2, .int (nI n)), (3, .int k), (4, .int (nI 0)), (5, .long (t.1 + r.2)), (7, .int 1), (8, .int t.2.2), (9, .int (nI (b * 24 + (i + 1))))]) rfl ?_
                        refine ih _ (by omega) (i + 1) ((t.1 + r.2), true, t.2.2) rfl (by omega) ?_
                        rw [fold_take (gst 0 key col k) _ hr, ← ht]
                        unfold gst
                        rw [if_pos hw, if_pos (rfl : (0 : Nat) = 0), if_neg (fun z => z.elim (fun e => by rw [b01_t c_161] at e; cases e) (fun e => by rw [if_neg (by decide : ¬ (0 : Nat) = 2)] at e; exact hbet e))]
                      · exact absurd rfl c_166
                  · have hbet : t.2.2 < colv r.1 col := Int32.not_le.mp c_149
                    refine r_iconst (v := 1) (n := 153) C dMD_grouped_152 rfl (by decide) ?_
                    refine r_goto (tgt := 157) C dMD_grouped_153 (by decide) ?_
                    refine r_istore (n := 159) C dMD_grouped_157 rfl (by decide) ?_
                    refine r_iload (n := 161) C dMD_grouped_159 rfl rfl ?_
                    refine r_if_eq (tgt := 169) (n := 164) C dMD_grouped_161 (by decide) rfl (fun c_161 => ?_) (fun c_161 => ?_)
                    · refine r_iload (n := 171) C dMD_grouped_169 rfl rfl ?_
                      refine r_istore (n := 173) C dMD_grouped_171 rfl (by decide) ?_
                      refine r_iconst (v := 1) (n := 174) C dMD_grouped_173 rfl (by decide) ?_
                      refine r_istore (n := 176) C dMD_grouped_174 rfl (by decide) ?_
                      refine r_iinc (n := 179) C dMD_grouped_176 rfl rfl (nI_i _) (by decide) ?_
                      refine r_goto (tgt := 27) C dMD_grouped_179 (by decide) ?_
                      refine V.byk (ls' := [(0, .ref m), (1, .int (nI b)), (2, .int (nI n)), (3, .int k), (4, .int (nI 0)), (5, .long (t.1 + r.2)), (7, .int 1), (8, .int (colv r.1 col)), (9, .int (nI (b * 24 + (i + 1))))]) rfl ?_
                      refine ih _ (by omega) (i + 1) ((t.1 + r.2), true, (colv r.1 col)) rfl (by omega) ?_
                      rw [fold_take (gst 0 key col k) _ hr, ← ht]
                      unfold gst
                      rw [if_pos hw, if_pos (rfl : (0 : Nat) = 0), if_pos (Or.inl (b01_f c_161))]
                    · refine r_iload (n := 166) C dMD_grouped_164 rfl rfl ?_
                      refine r_if_eq (tgt := 173) (n := 169) C dMD_grouped_166 (by decide) rfl (fun c_166 => ?_) (fun c_166 => ?_)
                      · exact absurd c_166 (by decide)
                      · refine r_iload (n := 171) C dMD_grouped_169 rfl rfl ?_
                        refine r_istore (n := 173) C dMD_grouped_171 rfl (by decide) ?_
                        refine r_iconst (v := 1) (n := 174) C dMD_grouped_173 rfl (by decide) ?_
                        refine r_istore (n := 176) C dMD_grouped_174 rfl (by decide) ?_
                        refine r_iinc (n := 179) C dMD_grouped_176 rfl rfl (nI_i _) (by decide) ?_
                        refine r_goto (tgt := 27) C dMD_grouped_179 (by decide) ?_
                        refine V.byk (ls' := [(0, .ref m), (1, .int (nI b)), (2, .int (nI n)), (3, .int k), (4, .int (nI 0)), (5, .long (t.1 + r.2)), (7, .int 1), (8, .int (colv r.1 col)), (9, .int (nI (b * 24 + (i + 1))))]) rfl ?_
                        refine ih _ (by omega) (i + 1) ((t.1 + r.2), true, (colv r.1 col)) rfl (by omega) ?_
                        rw [fold_take (gst 0 key col k) _ hr, ← ht]
                        unfold gst
                        rw [if_pos hw, if_pos (rfl : (0 : Nat) = 0), if_pos (Or.inr (by rw [if_neg (by decide : ¬ (0 : Nat) = 2)]; exact hbet))]
                · exact absurd c_127 (by decide)
    refine r_aload_n (n := 1) C dMD_grouped_0 rfl rfl ?_
    refine r_get (ci := 10) (n := 4) C hinMD rfl 11 (by decide) tw_546 rfl dMD_grouped_1 rfl hM.1 rfl ?_
    refine r_iload_n (n := 5) C dMD_grouped_4 rfl rfl ?_
    refine r_iconst (v := 5) (n := 6) C dMD_grouped_5 rfl (by decide) ?_
    refine r_imul (n := 7) C dMD_grouped_6 rfl ?_
    refine r_iconst (v := 3) (n := 8) C dMD_grouped_7 rfl (by decide) ?_
    refine r_iadd (n := 9) C dMD_grouped_8 rfl ?_
    refine r_ialdM (n := 10) C dMD_grouped_9 rfl hM 11 (by decide) (n * 5 + 3) (x5i n 3) (by show _ < 50; omega) ?_
    rw [a3]
    refine r_istore (n := 12) C dMD_grouped_10 rfl (by decide) ?_
    refine r_lconst (v := 0) (n := 13) C dMD_grouped_12 rfl (by decide) ?_
    refine r_lstore (n := 15) C dMD_grouped_13 rfl (by decide) ?_
    refine r_iconst (v := 0) (n := 16) C dMD_grouped_15 rfl (by decide) ?_
    refine r_istore (n := 18) C dMD_grouped_16 rfl (by decide) ?_
    refine r_iconst (v := 0) (n := 19) C dMD_grouped_18 rfl (by decide) ?_
    refine r_istore (n := 21) C dMD_grouped_19 rfl (by decide) ?_
    refine r_iload_n (n := 22) C dMD_grouped_21 rfl rfl ?_
    refine r_bipush (v := 24) (n := 24) C dMD_grouped_22 rfl (by decide) ?_
    refine r_imul (n := 25) C dMD_grouped_24 rfl ?_
    refine V.eqi (x24 b) ?_
    refine r_istore (n := 27) C dMD_grouped_25 rfl (by decide) ?_
    refine V.byk (ls' := [(0, .ref m), (1, .int (nI b)), (2, .int (nI n)), (3, .int k), (4, .int (nI 0)), (5, .long 0), (7, .int 0), (8, .int 0), (9, .int (nI (b * 24 + 0)))]) rfl ?_
    exact loop _ 0 (0, false, 0) rfl (Nat.zero_le _) rfl
  · have loop : ∀ (q i : Nat) (t : Int64 × Bool × Int32), M.length - i = q → i ≤ M.length → t = (M.take i).foldl (gst 1 key col k) (0, false, 0) → V K h 0 0 (EndQ K (QI (Ko K) (fun x h' => x = grp 1 key col k M ∧ h' = h)) 0 0) 27 [(0, .ref m), (1, .int (nI b)), (2, .int (nI n)), (3, .int k), (4, .int (nI 1)), (5, .long t.1), (7, .int (b01 t.2.1)), (8, .int t.2.2), (9, .int (nI (b * 24 + i)))] [] := by
      intro q
      induction q using Nat.strongRecOn with
      | _ q ih =>
        intro i t hm hi ht
        refine r_iload (n := 29) C dMD_grouped_27 rfl rfl ?_
        refine r_iload_n (n := 30) C dMD_grouped_29 rfl rfl ?_
        refine r_bipush (v := 24) (n := 32) C dMD_grouped_30 rfl (by decide) ?_
        refine r_imul (n := 33) C dMD_grouped_32 rfl ?_
        refine V.eqi (x24 b) ?_
        refine r_aload_n (n := 34) C dMD_grouped_33 rfl rfl ?_
        refine r_get (ci := 10) (n := 37) C hinMD rfl 4 (by decide) tw_539 rfl dMD_grouped_34 rfl hM.1 rfl ?_
        refine r_iload_n (n := 38) C dMD_grouped_37 rfl rfl ?_
        refine r_ialdM (n := 39) C dMD_grouped_38 rfl hM 4 (by decide) b rfl (by show _ < 26; omega) ?_
        rw [hb1]
        refine r_iadd (n := 40) C dMD_grouped_39 rfl ?_
        refine V.eqi (nI_add _ _) ?_
        refine r_icmp_ge (tgt := 182) (n := 43) C dMD_grouped_40 (by decide) rfl (fun c_40 => ?_) (fun c_40 => ?_)
        · have hie : i = M.length := by have := (nI_leI (a := b * 24 + M.length) (b := b * 24 + i) (by omega) (by omega)).mp c_40; omega
          rw [hie, List.take_length] at ht
          refine r_iload (n := 184) C dMD_grouped_182 rfl rfl ?_
          refine r_iconst (v := 2) (n := 185) C dMD_grouped_184 rfl (by decide) ?_
          refine r_icmp_ge (tgt := 194) (n := 188) C dMD_grouped_185 (by decide) rfl (fun c_185 => ?_) (fun c_185 => ?_)
          · exact absurd c_185 (by decide)
          · refine r_lload (n := 190) C dMD_grouped_188 rfl rfl ?_
            refine r_l2i (n := 191) C dMD_grouped_190 rfl ?_
            refine r_goto (tgt := 196) C dMD_grouped_191 (by decide) ?_
            exact r_iret C dMD_grouped_196 (Nat.le_refl _) (Nat.le_refl _) ⟨by unfold grp; rw [if_pos (by decide), ← ht], rfl⟩
        · have hlt : i < M.length := by
            rcases Nat.lt_or_ge i M.length with q1 | q1
            · exact q1
            · exact absurd (nI_le (a := b * 24 + M.length) (b := b * 24 + i) (by omega) (by omega)) c_40
          obtain ⟨r, hr⟩ : ∃ r, M[i]? = some r := ⟨_, List.getElem?_eq_getElem hlt⟩
          obtain ⟨v0, v1, v2, v3⟩ := hb3 i r hr
          refine r_aload_n (n := 44) C dMD_grouped_43 rfl rfl ?_
          refine r_get (ci := 10) (n := 47) C hinMD rfl 3 (by decide) tw_538 rfl dMD_grouped_44 rfl hM.1 rfl ?_
          refine r_iload (n := 49) C dMD_grouped_47 rfl rfl ?_
          refine r_laldM (n := 50) C dMD_grouped_49 rfl hM 3 (by decide) (b * 24 + i) rfl (by show _ < 624; omega) ?_
          rw [v3]
          refine r_lconst (v := 0) (n := 51) C dMD_grouped_50 rfl (by decide) ?_
          refine r_lcmp (n := 52) C dMD_grouped_51 rfl ?_
          refine r_if_le (tgt := 176) (n := 55) C dMD_grouped_52 (by decide) rfl (fun c_52 => ?_) (fun c_52 => ?_)
          · have hw : withB key k r = false := by
              unfold withB
              rw [decide_eq_false (Int64.not_lt.mpr ((lg_cmp_le _ _).mp c_52)), Bool.false_and]
            refine r_iinc (n := 179) C dMD_grouped_176 rfl rfl (nI_i _) (by decide) ?_
            refine r_goto (tgt := 27) C dMD_grouped_179 (by decide) ?_
            refine V.byk (ls' := [(0, .ref m), (1, .int (nI b)), (2, .int (nI n)), (3, .int k), (4, .int (nI 1)), (5, .long t.1), (7, .int (b01 t.2.1)), (8, .int t.2.2), (9, .int (nI (b * 24 + (i + 1))))]) rfl ?_
            refine ih _ (by omega) (i + 1) t rfl (by omega) ?_
            rw [fold_take (gst 1 key col k) _ hr, ← ht]
            unfold gst
            rw [if_neg (by rw [hw]; decide)]
          · have hpos : 0 < r.2 := Int64.not_le.mp (fun q => c_52 ((lg_cmp_le _ _).mpr q))
            refine r_aload_n (n := 56) C dMD_grouped_55 rfl rfl ?_
            refine r_iload (n := 58) C dMD_grouped_56 rfl rfl ?_
            refine r_aload_n (n := 59) C dMD_grouped_58 rfl rfl ?_
            refine r_get (ci := 10) (n := 62) C hinMD rfl 11 (by decide) tw_546 rfl dMD_grouped_59 rfl hM.1 rfl ?_
            refine r_iload_n (n := 63) C dMD_grouped_62 rfl rfl ?_
            refine r_iconst (v := 5) (n := 64) C dMD_grouped_63 rfl (by decide) ?_
            refine r_imul (n := 65) C dMD_grouped_64 rfl ?_
            refine r_iconst (v := 1) (n := 66) C dMD_grouped_65 rfl (by decide) ?_
            refine r_iadd (n := 67) C dMD_grouped_66 rfl ?_
            refine r_ialdM (n := 68) C dMD_grouped_67 rfl hM 11 (by decide) (n * 5 + 1) (x5i n 1) (by show _ < 50; omega) ?_
            rw [a1]
            refine r_ci (n := 71) (rn_V (z := 2) (ci := 10) (T := TMD) C (c_MD_column (Kl K) (Ko K) h m ad MI ML MV (b * 24 + i) key r.1 hM (by omega) hkey v0 v1 v2) tw_616 tw_618 ts_23 tw_4 tw_619 rfl rfl ndMD_column ⟨Nat.le_of_ble_eq_true rfl, Nat.le_of_ble_eq_true rfl⟩ hM.1 rfl rfl rfl (Nat.le_of_ble_eq_true rfl) dMD_grouped_68 ⟨Nat.le_of_ble_eq_true rfl, Nat.le_of_ble_eq_true rfl⟩) rfl (fun x ah hq => ?_)
            obtain ⟨e1, e2⟩ := hq
            subst e1
            rw [e2]
            refine r_iload_n (n := 72) C dMD_grouped_71 rfl rfl ?_
            refine r_icmp_ne (tgt := 176) (n := 75) C dMD_grouped_72 (by decide) rfl (fun c_72 => ?_) (fun c_72 => ?_)
            · have hw : withB key k r = false := by
                unfold withB
                rw [decide_eq_false c_72, Bool.and_false]
              refine r_iinc (n := 179) C dMD_grouped_176 rfl rfl (nI_i _) (by decide) ?_
              refine r_goto (tgt := 27) C dMD_grouped_179 (by decide) ?_
              refine V.byk (ls' := [(0, .ref m), (1, .int (nI b)), (2, .int (nI n)), (3, .int k), (4, .int (nI 1)), (5, .long t.1), (7, .int (b01 t.2.1)), (8, .int t.2.2), (9, .int (nI (b * 24 + (i + 1))))]) rfl ?_
              refine ih _ (by omega) (i + 1) t rfl (by omega) ?_
              rw [fold_take (gst 1 key col k) _ hr, ← ht]
              unfold gst
              rw [if_neg (by rw [hw]; decide)]
            · have hw : withB key k r = true := by
                unfold withB
                rw [decide_eq_true c_72, decide_eq_true hpos]; rfl
              refine r_aload_n (n := 76) C dMD_grouped_75 rfl rfl ?_
              refine r_iload (n := 78) C dMD_grouped_76 rfl rfl ?_
              refine r_aload_n (n := 79) C dMD_grouped_78 rfl rfl ?_
              refine r_get (ci := 10) (n := 82) C hinMD rfl 11 (by decide) tw_546 rfl dMD_grouped_79 rfl hM.1 rfl ?_
              refine r_iload_n (n := 83) C dMD_grouped_82 rfl rfl ?_
              refine r_iconst (v := 5) (n := 84) C dMD_grouped_83 rfl (by decide) ?_
              refine r_imul (n := 85) C dMD_grouped_84 rfl ?_
              refine r_iconst (v := 2) (n := 86) C dMD_grouped_85 rfl (by decide) ?_
              refine r_iadd (n := 87) C dMD_grouped_86 rfl ?_
              refine r_ialdM (n := 88) C dMD_grouped_87 rfl hM 11 (by decide) (n * 5 + 2) (x5i n 2) (by show _ < 50; omega) ?_
              rw [a2]
              refine r_ci (n := 91) (rn_V (z := 2) (ci := 10) (T := TMD) C (c_MD_column (Kl K) (Ko K) h m ad MI ML MV (b * 24 + i) col r.1 hM (by omega) hcol v0 v1 v2) tw_616 tw_618 ts_23 tw_4 tw_619 rfl rfl ndMD_column ⟨Nat.le_of_ble_eq_true rfl, Nat.le_of_ble_eq_true rfl⟩ hM.1 rfl rfl rfl (Nat.le_of_ble_eq_true rfl) dMD_grouped_88 ⟨Nat.le_of_ble_eq_true rfl, Nat.le_of_ble_eq_true rfl⟩) rfl (fun x ah hq => ?_)
              obtain ⟨e1, e2⟩ := hq
              subst e1
              rw [e2]
              refine r_istore (n := 93) C dMD_grouped_91 rfl (by decide) ?_
              refine r_lload (n := 95) C dMD_grouped_93 rfl rfl ?_
              refine r_iload (n := 97) C dMD_grouped_95 rfl rfl ?_
              refine r_if_ne (tgt := 110) (n := 100) C dMD_grouped_97 (by decide) rfl (fun c_97 => ?_) (fun c_97 => ?_)
              · refine r_aload_n (n := 111) C dMD_grouped_110 rfl rfl ?_
                refine r_get (ci := 10) (n := 114) C hinMD rfl 3 (by decide) tw_538 rfl dMD_grouped_111 rfl hM.1 rfl ?_
                refine r_iload (n := 116) C dMD_grouped_114 rfl rfl ?_
                refine r_laldM (n := 117) C dMD_grouped_116 rfl hM 3 (by decide) (b * 24 + i) rfl (by show _ < 624; omega) ?_
                rw [v3]
                refine r_iload (n := 119) C dMD_grouped_117 rfl rfl ?_
                refine r_i2l (n := 120) C dMD_grouped_119 rfl ?_
                refine r_lmul (n := 121) C dMD_grouped_120 rfl ?_
                refine r_ladd (n := 122) C dMD_grouped_121 rfl ?_
                refine r_lstore (n := 124) C dMD_grouped_122 rfl (by decide) ?_
                refine r_iload (n := 126) C dMD_grouped_124 rfl rfl ?_
                refine r_iconst (v := 2) (n := 127) C dMD_grouped_126 rfl (by decide) ?_
                refine r_icmp_ne (tgt := 145) (n := 130) C dMD_grouped_127 (by decide) rfl (fun c_127 => ?_) (fun c_127 => ?_)
                · refine r_iload (n := 147) C dMD_grouped_145 rfl rfl ?_
                  refine r_iload (n := 149) C dMD_grouped_147 rfl rfl ?_
                  refine r_icmp_le (tgt := 156) (n := 152) C dMD_grouped_149 (by decide) rfl (fun c_149 => ?_) (fun c_149 => ?_)
                  · have hbet : ¬ t.2.2 < colv r.1 col := Int32.not_lt.mpr c_149
                    refine r_iconst (v := 0) (n := 157) C dMD_grouped_156 rfl (by decide) ?_
                    refine r_istore (n := 159) C dMD_grouped_157 rfl (by decide) ?_
                    refine r_iload (n := 161) C dMD_grouped_159 rfl rfl ?_
                    refine r_if_eq (tgt := 169) (n := 164) C dMD_grouped_161 (by decide) rfl (fun c_161 => ?_) (fun c_161 => ?_)
                    · refine r_iload (n := 171) C dMD_grouped_169 rfl rfl ?_
                      refine r_istore (n := 173) C dMD_grouped_171 rfl (by decide) ?_
                      refine r_iconst (v := 1) (n := 174) C dMD_grouped_173 rfl (by decide) ?_
                      refine r_istore (n := 176) C dMD_grouped_174 rfl (by decide) ?_
                      refine r_iinc (n := 179) C dMD_grouped_176 rfl rfl (nI_i _) (by decide) ?_
                      refine r_goto (tgt := 27) C dMD_grouped_179 (by decide) ?_
                      refine V.byk (ls' := [(0, .ref m), (1, .int (nI b)), (2, .int (nI n)), (3, .int k), (4, .int (nI 1)), (5, .long (t.1 + (r.2 * (colv r.1 col).toInt64))), (7, .int 1), (8, .int (colv r.1 col)), (9, .int (nI (b * 24 + (i + 1))))]) rfl ?_
                      refine ih _ (by omega) (i + 1) ((t.1 + (r.2 * (colv r.1 col).toInt64)), true, (colv r.1 col)) rfl (by omega) ?_
                      rw [fold_take (gst 1 key col k) _ hr, ← ht]
                      unfold gst
                      rw [if_pos hw, if_neg (by decide : ¬ (1 : Nat) = 0), if_pos (Or.inl (b01_f c_161))]
                    · refine r_iload (n := 166) C dMD_grouped_164 rfl rfl ?_
                      refine r_if_eq (tgt := 173) (n := 169) C dMD_grouped_166 (by decide) rfl (fun c_166 => ?_) (fun c_166 => ?_)
                      · refine r_iconst (v := 1) (n := 174) C dMD_grouped_173 rfl (by decide) ?_
                        refine r_istore (n := 176) C dMD_grouped_174 rfl (by decide) ?_
                        refine r_iinc (n := 179) C dMD_grouped_176 rfl rfl (nI_i _) (by decide) ?_
                        refine r_goto (tgt := 27) C dMD_grouped_179 (by decide) ?_
                        refine V.byk (ls' := [(0, .ref m), (1, .int (nI b)), (2, .int (nI n)), (3, .int k), (4, .int (nI 1)), (5, .long (t.1 + (r.2 * (colv r.1 col).toInt64))), (7, .int 1), (8, .int t.2.2), (9, .int (nI (b * 24 + (i + 1))))]) rfl ?_
                        refine ih _ (by omega) (i + 1) ((t.1 + (r.2 * (colv r.1 col).toInt64)), true, t.2.2) rfl (by omega) ?_
                        rw [fold_take (gst 1 key col k) _ hr, ← ht]
                        unfold gst
                        rw [if_pos hw, if_neg (by decide : ¬ (1 : Nat) = 0), if_neg (fun z => z.elim (fun e => by rw [b01_t c_161] at e; cases e) (fun e => by rw [if_neg (by decide : ¬ (1 : Nat) = 2)] at e; exact hbet e))]
                      · exact absurd rfl c_166
                  · have hbet : t.2.2 < colv r.1 col := Int32.not_le.mp c_149
                    refine r_iconst (v := 1) (n := 153) C dMD_grouped_152 rfl (by decide) ?_
                    refine r_goto (tgt := 157) C dMD_grouped_153 (by decide) ?_
                    refine r_istore (n := 159) C dMD_grouped_157 rfl (by decide) ?_
                    refine r_iload (n := 161) C dMD_grouped_159 rfl rfl ?_
                    refine r_if_eq (tgt := 169) (n := 164) C dMD_grouped_161 (by decide) rfl (fun c_161 => ?_) (fun c_161 => ?_)
                    · refine r_iload (n := 171) C dMD_grouped_169 rfl rfl ?_
                      refine r_istore (n := 173) C dMD_grouped_171 rfl (by decide) ?_
                      refine r_iconst (v := 1) (n := 174) C dMD_grouped_173 rfl (by decide) ?_
                      refine r_istore (n := 176) C dMD_grouped_174 rfl (by decide) ?_
                      refine r_iinc (n := 179) C dMD_grouped_176 rfl rfl (nI_i _) (by decide) ?_
                      refine r_goto (tgt := 27) C dMD_grouped_179 (by decide) ?_
                      refine V.byk (ls' := [(0, .ref m), (1, .int (nI b)), (2, .int (nI n)), (3, .int k), (4, .int (nI 1)), (5, .long (t.1 + (r.2 * (colv r.1 col).toInt64))), (7, .int 1), (8, .int (colv r.1 col)), (9, .int (nI (b * 24 + (i + 1))))]) rfl ?_
                      refine ih _ (by omega) (i + 1) ((t.1 + (r.2 * (colv r.1 col).toInt64)), true, (colv r.1 col)) rfl (by omega) ?_
                      rw [fold_take (gst 1 key col k) _ hr, ← ht]
                      unfold gst
                      rw [if_pos hw, if_neg (by decide : ¬ (1 : Nat) = 0), if_pos (Or.inl (b01_f c_161))]
                    · refine r_iload (n := 166) C dMD_grouped_164 rfl rfl ?_
                      refine r_if_eq (tgt := 173) (n := 169) C dMD_grouped_166 (by decide) rfl (fun c_166 => ?_) (fun c_166 => ?_)
                      · exact absurd c_166 (by decide)
                      · refine r_iload (n := 171) C dMD_grouped_169 rfl rfl ?_
                        refine r_istore (n := 173) C dMD_grouped_171 rfl (by decide) ?_
                        refine r_iconst (v := 1) (n := 174) C dMD_grouped_173 rfl (by decide) ?_
                        refine r_istore (n := 176) C dMD_grouped_174 rfl (by decide) ?_
                        refine r_iinc (n := 179) C dMD_grouped_176 rfl rfl (nI_i _) (by decide) ?_
                        refine r_goto (tgt := 27) C dMD_grouped_179 (by decide) ?_
                        refine V.byk (ls' := [(0, .ref m), (1, .int (nI b)), (2, .int (nI n)), (3, .int k), (4, .int (nI 1)), (5, .long (t.1 + (r.2 * (colv r.1 col).toInt64))), (7, .int 1), (8, .int (colv r.1 col)), (9, .int (nI (b * 24 + (i + 1))))]) rfl ?_
                        refine ih _ (by omega) (i + 1) ((t.1 + (r.2 * (colv r.1 col).toInt64)), true, (colv r.1 col)) rfl (by omega) ?_
                        rw [fold_take (gst 1 key col k) _ hr, ← ht]
                        unfold gst
                        rw [if_pos hw, if_neg (by decide : ¬ (1 : Nat) = 0), if_pos (Or.inr (by rw [if_neg (by decide : ¬ (1 : Nat) = 2)]; exact hbet))]
                · exact absurd c_127 (by decide)
              · exact absurd c_97 (by decide)
    refine r_aload_n (n := 1) C dMD_grouped_0 rfl rfl ?_
    refine r_get (ci := 10) (n := 4) C hinMD rfl 11 (by decide) tw_546 rfl dMD_grouped_1 rfl hM.1 rfl ?_
    refine r_iload_n (n := 5) C dMD_grouped_4 rfl rfl ?_
    refine r_iconst (v := 5) (n := 6) C dMD_grouped_5 rfl (by decide) ?_
    refine r_imul (n := 7) C dMD_grouped_6 rfl ?_
    refine r_iconst (v := 3) (n := 8) C dMD_grouped_7 rfl (by decide) ?_
    refine r_iadd (n := 9) C dMD_grouped_8 rfl ?_
    refine r_ialdM (n := 10) C dMD_grouped_9 rfl hM 11 (by decide) (n * 5 + 3) (x5i n 3) (by show _ < 50; omega) ?_
    rw [a3]
    refine r_istore (n := 12) C dMD_grouped_10 rfl (by decide) ?_
    refine r_lconst (v := 0) (n := 13) C dMD_grouped_12 rfl (by decide) ?_
    refine r_lstore (n := 15) C dMD_grouped_13 rfl (by decide) ?_
    refine r_iconst (v := 0) (n := 16) C dMD_grouped_15 rfl (by decide) ?_
    refine r_istore (n := 18) C dMD_grouped_16 rfl (by decide) ?_
    refine r_iconst (v := 0) (n := 19) C dMD_grouped_18 rfl (by decide) ?_
    refine r_istore (n := 21) C dMD_grouped_19 rfl (by decide) ?_
    refine r_iload_n (n := 22) C dMD_grouped_21 rfl rfl ?_
    refine r_bipush (v := 24) (n := 24) C dMD_grouped_22 rfl (by decide) ?_
    refine r_imul (n := 25) C dMD_grouped_24 rfl ?_
    refine V.eqi (x24 b) ?_
    refine r_istore (n := 27) C dMD_grouped_25 rfl (by decide) ?_
    refine V.byk (ls' := [(0, .ref m), (1, .int (nI b)), (2, .int (nI n)), (3, .int k), (4, .int (nI 1)), (5, .long 0), (7, .int 0), (8, .int 0), (9, .int (nI (b * 24 + 0)))]) rfl ?_
    exact loop _ 0 (0, false, 0) rfl (Nat.zero_le _) rfl
  · have loop : ∀ (q i : Nat) (t : Int64 × Bool × Int32), M.length - i = q → i ≤ M.length → t = (M.take i).foldl (gst 2 key col k) (0, false, 0) → V K h 0 0 (EndQ K (QI (Ko K) (fun x h' => x = grp 2 key col k M ∧ h' = h)) 0 0) 27 [(0, .ref m), (1, .int (nI b)), (2, .int (nI n)), (3, .int k), (4, .int (nI 2)), (5, .long t.1), (7, .int (b01 t.2.1)), (8, .int t.2.2), (9, .int (nI (b * 24 + i)))] [] := by
      intro q
      induction q using Nat.strongRecOn with
      | _ q ih =>
        intro i t hm hi ht
        refine r_iload (n := 29) C dMD_grouped_27 rfl rfl ?_
        refine r_iload_n (n := 30) C dMD_grouped_29 rfl rfl ?_
        refine r_bipush (v := 24) (n := 32) C dMD_grouped_30 rfl (by decide) ?_
        refine r_imul (n := 33) C dMD_grouped_32 rfl ?_
        refine V.eqi (x24 b) ?_
        refine r_aload_n (n := 34) C dMD_grouped_33 rfl rfl ?_
        refine r_get (ci := 10) (n := 37) C hinMD rfl 4 (by decide) tw_539 rfl dMD_grouped_34 rfl hM.1 rfl ?_
        refine r_iload_n (n := 38) C dMD_grouped_37 rfl rfl ?_
        refine r_ialdM (n := 39) C dMD_grouped_38 rfl hM 4 (by decide) b rfl (by show _ < 26; omega) ?_
        rw [hb1]
        refine r_iadd (n := 40) C dMD_grouped_39 rfl ?_
        refine V.eqi (nI_add _ _) ?_
        refine r_icmp_ge (tgt := 182) (n := 43) C dMD_grouped_40 (by decide) rfl (fun c_40 => ?_) (fun c_40 => ?_)
        · have hie : i = M.length := by have := (nI_leI (a := b * 24 + M.length) (b := b * 24 + i) (by omega) (by omega)).mp c_40; omega
          rw [hie, List.take_length] at ht
          refine r_iload (n := 184) C dMD_grouped_182 rfl rfl ?_
          refine r_iconst (v := 2) (n := 185) C dMD_grouped_184 rfl (by decide) ?_
          refine r_icmp_ge (tgt := 194) (n := 188) C dMD_grouped_185 (by decide) rfl (fun c_185 => ?_) (fun c_185 => ?_)
          · refine r_iload (n := 196) C dMD_grouped_194 rfl rfl ?_
            exact r_iret C dMD_grouped_196 (Nat.le_refl _) (Nat.le_refl _) ⟨by unfold grp; rw [if_neg (by decide), ← ht], rfl⟩
          · exact absurd (by decide) c_185
        · have hlt : i < M.length := by
            rcases Nat.lt_or_ge i M.length with q1 | q1
            · exact q1
            · exact absurd (nI_le (a := b * 24 + M.length) (b := b * 24 + i) (by omega) (by omega)) c_40
          obtain ⟨r, hr⟩ : ∃ r, M[i]? = some r := ⟨_, List.getElem?_eq_getElem hlt⟩
          obtain ⟨v0, v1, v2, v3⟩ := hb3 i r hr
          refine r_aload_n (n := 44) C dMD_grouped_43 rfl rfl ?_
          refine r_get (ci := 10) (n := 47) C hinMD rfl 3 (by decide) tw_538 rfl dMD_grouped_44 rfl hM.1 rfl ?_
          refine r_iload (n := 49) C dMD_grouped_47 rfl rfl ?_
          refine r_laldM (n := 50) C dMD_grouped_49 rfl hM 3 (by decide) (b * 24 + i) rfl (by show _ < 624; omega) ?_
          rw [v3]
          refine r_lconst (v := 0) (n := 51) C dMD_grouped_50 rfl (by decide) ?_
          refine r_lcmp (n := 52) C dMD_grouped_51 rfl ?_
          refine r_if_le (tgt := 176) (n := 55) C dMD_grouped_52 (by decide) rfl (fun c_52 => ?_) (fun c_52 => ?_)
          · have hw : withB key k r = false := by
              unfold withB
              rw [decide_eq_false (Int64.not_lt.mpr ((lg_cmp_le _ _).mp c_52)), Bool.false_and]
            refine r_iinc (n := 179) C dMD_grouped_176 rfl rfl (nI_i _) (by decide) ?_
            refine r_goto (tgt := 27) C dMD_grouped_179 (by decide) ?_
            refine V.byk (ls' := [(0, .ref m), (1, .int (nI b)), (2, .int (nI n)), (3, .int k), (4, .int (nI 2)), (5, .long t.1), (7, .int (b01 t.2.1)), (8, .int t.2.2), (9, .int (nI (b * 24 + (i + 1))))]) rfl ?_
            refine ih _ (by omega) (i + 1) t rfl (by omega) ?_
            rw [fold_take (gst 2 key col k) _ hr, ← ht]
            unfold gst
            rw [if_neg (by rw [hw]; decide)]
          · have hpos : 0 < r.2 := Int64.not_le.mp (fun q => c_52 ((lg_cmp_le _ _).mpr q))
            refine r_aload_n (n := 56) C dMD_grouped_55 rfl rfl ?_
            refine r_iload (n := 58) C dMD_grouped_56 rfl rfl ?_
            refine r_aload_n (n := 59) C dMD_grouped_58 rfl rfl ?_
            refine r_get (ci := 10) (n := 62) C hinMD rfl 11 (by decide) tw_546 rfl dMD_grouped_59 rfl hM.1 rfl ?_
            refine r_iload_n (n := 63) C dMD_grouped_62 rfl rfl ?_
            refine r_iconst (v := 5) (n := 64) C dMD_grouped_63 rfl (by decide) ?_
            refine r_imul (n := 65) C dMD_grouped_64 rfl ?_
            refine r_iconst (v := 1) (n := 66) C dMD_grouped_65 rfl (by decide) ?_
            refine r_iadd (n := 67) C dMD_grouped_66 rfl ?_
            refine r_ialdM (n := 68) C dMD_grouped_67 rfl hM 11 (by decide) (n * 5 + 1) (x5i n 1) (by show _ < 50; omega) ?_
            rw [a1]
            refine r_ci (n := 71) (rn_V (z := 2) (ci := 10) (T := TMD) C (c_MD_column (Kl K) (Ko K) h m ad MI ML MV (b * 24 + i) key r.1 hM (by omega) hkey v0 v1 v2) tw_616 tw_618 ts_23 tw_4 tw_619 rfl rfl ndMD_column ⟨Nat.le_of_ble_eq_true rfl, Nat.le_of_ble_eq_true rfl⟩ hM.1 rfl rfl rfl (Nat.le_of_ble_eq_true rfl) dMD_grouped_68 ⟨Nat.le_of_ble_eq_true rfl, Nat.le_of_ble_eq_true rfl⟩) rfl (fun x ah hq => ?_)
            obtain ⟨e1, e2⟩ := hq
            subst e1
            rw [e2]
            refine r_iload_n (n := 72) C dMD_grouped_71 rfl rfl ?_
            refine r_icmp_ne (tgt := 176) (n := 75) C dMD_grouped_72 (by decide) rfl (fun c_72 => ?_) (fun c_72 => ?_)
            · have hw : withB key k r = false := by
                unfold withB
                rw [decide_eq_false c_72, Bool.and_false]
              refine r_iinc (n := 179) C dMD_grouped_176 rfl rfl (nI_i _) (by decide) ?_
              refine r_goto (tgt := 27) C dMD_grouped_179 (by decide) ?_
              refine V.byk (ls' := [(0, .ref m), (1, .int (nI b)), (2, .int (nI n)), (3, .int k), (4, .int (nI 2)), (5, .long t.1), (7, .int (b01 t.2.1)), (8, .int t.2.2), (9, .int (nI (b * 24 + (i + 1))))]) rfl ?_
              refine ih _ (by omega) (i + 1) t rfl (by omega) ?_
              rw [fold_take (gst 2 key col k) _ hr, ← ht]
              unfold gst
              rw [if_neg (by rw [hw]; decide)]
            · have hw : withB key k r = true := by
                unfold withB
                rw [decide_eq_true c_72, decide_eq_true hpos]; rfl
              refine r_aload_n (n := 76) C dMD_grouped_75 rfl rfl ?_
              refine r_iload (n := 78) C dMD_grouped_76 rfl rfl ?_
              refine r_aload_n (n := 79) C dMD_grouped_78 rfl rfl ?_
              refine r_get (ci := 10) (n := 82) C hinMD rfl 11 (by decide) tw_546 rfl dMD_grouped_79 rfl hM.1 rfl ?_
              refine r_iload_n (n := 83) C dMD_grouped_82 rfl rfl ?_
              refine r_iconst (v := 5) (n := 84) C dMD_grouped_83 rfl (by decide) ?_
              refine r_imul (n := 85) C dMD_grouped_84 rfl ?_
              refine r_iconst (v := 2) (n := 86) C dMD_grouped_85 rfl (by decide) ?_
              refine r_iadd (n := 87) C dMD_grouped_86 rfl ?_
              refine r_ialdM (n := 88) C dMD_grouped_87 rfl hM 11 (by decide) (n * 5 + 2) (x5i n 2) (by show _ < 50; omega) ?_
              rw [a2]
              refine r_ci (n := 91) (rn_V (z := 2) (ci := 10) (T := TMD) C (c_MD_column (Kl K) (Ko K) h m ad MI ML MV (b * 24 + i) col r.1 hM (by omega) hcol v0 v1 v2) tw_616 tw_618 ts_23 tw_4 tw_619 rfl rfl ndMD_column ⟨Nat.le_of_ble_eq_true rfl, Nat.le_of_ble_eq_true rfl⟩ hM.1 rfl rfl rfl (Nat.le_of_ble_eq_true rfl) dMD_grouped_88 ⟨Nat.le_of_ble_eq_true rfl, Nat.le_of_ble_eq_true rfl⟩) rfl (fun x ah hq => ?_)
              obtain ⟨e1, e2⟩ := hq
              subst e1
              rw [e2]
              refine r_istore (n := 93) C dMD_grouped_91 rfl (by decide) ?_
              refine r_lload (n := 95) C dMD_grouped_93 rfl rfl ?_
              refine r_iload (n := 97) C dMD_grouped_95 rfl rfl ?_
              refine r_if_ne (tgt := 110) (n := 100) C dMD_grouped_97 (by decide) rfl (fun c_97 => ?_) (fun c_97 => ?_)
              · refine r_aload_n (n := 111) C dMD_grouped_110 rfl rfl ?_
                refine r_get (ci := 10) (n := 114) C hinMD rfl 3 (by decide) tw_538 rfl dMD_grouped_111 rfl hM.1 rfl ?_
                refine r_iload (n := 116) C dMD_grouped_114 rfl rfl ?_
                refine r_laldM (n := 117) C dMD_grouped_116 rfl hM 3 (by decide) (b * 24 + i) rfl (by show _ < 624; omega) ?_
                rw [v3]
                refine r_iload (n := 119) C dMD_grouped_117 rfl rfl ?_
                refine r_i2l (n := 120) C dMD_grouped_119 rfl ?_
                refine r_lmul (n := 121) C dMD_grouped_120 rfl ?_
                refine r_ladd (n := 122) C dMD_grouped_121 rfl ?_
                refine r_lstore (n := 124) C dMD_grouped_122 rfl (by decide) ?_
                refine r_iload (n := 126) C dMD_grouped_124 rfl rfl ?_
                refine r_iconst (v := 2) (n := 127) C dMD_grouped_126 rfl (by decide) ?_
                refine r_icmp_ne (tgt := 145) (n := 130) C dMD_grouped_127 (by decide) rfl (fun c_127 => ?_) (fun c_127 => ?_)
                · exact absurd rfl c_127
                · refine r_iload (n := 132) C dMD_grouped_130 rfl rfl ?_
                  refine r_iload (n := 134) C dMD_grouped_132 rfl rfl ?_
                  refine r_icmp_ge (tgt := 141) (n := 137) C dMD_grouped_134 (by decide) rfl (fun c_134 => ?_) (fun c_134 => ?_)
                  · have hbet : ¬ colv r.1 col < t.2.2 := Int32.not_lt.mpr c_134
                    refine r_iconst (v := 0) (n := 142) C dMD_grouped_141 rfl (by decide) ?_
                    refine r_goto (tgt := 157) C dMD_grouped_142 (by decide) ?_
                    refine r_istore (n := 159) C dMD_grouped_157 rfl (by decide) ?_
                    refine r_iload (n := 161) C dMD_grouped_159 rfl rfl ?_
                    refine r_if_eq (tgt := 169) (n := 164) C dMD_grouped_161 (by decide) rfl (fun c_161 => ?_) (fun c_161 => ?_)
                    · refine r_iload (n := 171) C dMD_grouped_169 rfl rfl ?_
                      refine r_istore (n := 173) C dMD_grouped_171 rfl (by decide) ?_
                      refine r_iconst (v := 1) (n := 174) C dMD_grouped_173 rfl (by decide) ?_
                      refine r_istore (n := 176) C dMD_grouped_174 rfl (by decide) ?_
                      refine r_iinc (n := 179) C dMD_grouped_176 rfl rfl (nI_i _) (by decide) ?_
                      refine r_goto (tgt := 27) C dMD_grouped_179 (by decide) ?_
                      refine V.byk (ls' := [(0, .ref m), (1, .int (nI b)), (2, .int (nI n)), (3, .int k), (4, .int (nI 2)), (5, .long (t.1 + (r.2 * (colv r.1 col).toInt64))), (7, .int 1), (8, .int (colv r.1 col)), (9, .int (nI (b * 24 + (i + 1))))]) rfl ?_
                      refine ih _ (by omega) (i + 1) ((t.1 + (r.2 * (colv r.1 col).toInt64)), true, (colv r.1 col)) rfl (by omega) ?_
                      rw [fold_take (gst 2 key col k) _ hr, ← ht]
                      unfold gst
                      rw [if_pos hw, if_neg (by decide : ¬ (2 : Nat) = 0), if_pos (Or.inl (b01_f c_161))]
                    · refine r_iload (n := 166) C dMD_grouped_164 rfl rfl ?_
                      refine r_if_eq (tgt := 173) (n := 169) C dMD_grouped_166 (by decide) rfl (fun c_166 => ?_) (fun c_166 => ?_)
                      · refine r_iconst (v := 1) (n := 174) C dMD_grouped_173 rfl (by decide) ?_
                        refine r_istore (n := 176) C dMD_grouped_174 rfl (by decide) ?_
                        refine r_iinc (n := 179) C dMD_grouped_176 rfl rfl (nI_i _) (by decide) ?_
                        refine r_goto (tgt := 27) C dMD_grouped_179 (by decide) ?_
                        refine V.byk (ls' := [(0, .ref m), (1, .int (nI b)), (2, .int (nI n)), (3, .int k), (4, .int (nI 2)), (5, .long (t.1 + (r.2 * (colv r.1 col).toInt64))), (7, .int 1), (8, .int t.2.2), (9, .int (nI (b * 24 + (i + 1))))]) rfl ?_
                        refine ih _ (by omega) (i + 1) ((t.1 + (r.2 * (colv r.1 col).toInt64)), true, t.2.2) rfl (by omega) ?_
                        rw [fold_take (gst 2 key col k) _ hr, ← ht]
                        unfold gst
                        rw [if_pos hw, if_neg (by decide : ¬ (2 : Nat) = 0), if_neg (fun z => z.elim (fun e => by rw [b01_t c_161] at e; cases e) (fun e => by rw [if_pos (rfl : (2 : Nat) = 2)] at e; exact hbet e))]
                      · exact absurd rfl c_166
                  · have hbet : colv r.1 col < t.2.2 := Int32.not_le.mp c_134
                    refine r_iconst (v := 1) (n := 138) C dMD_grouped_137 rfl (by decide) ?_
                    refine r_goto (tgt := 157) C dMD_grouped_138 (by decide) ?_
                    refine r_istore (n := 159) C dMD_grouped_157 rfl (by decide) ?_
                    refine r_iload (n := 161) C dMD_grouped_159 rfl rfl ?_
                    refine r_if_eq (tgt := 169) (n := 164) C dMD_grouped_161 (by decide) rfl (fun c_161 => ?_) (fun c_161 => ?_)
                    · refine r_iload (n := 171) C dMD_grouped_169 rfl rfl ?_
                      refine r_istore (n := 173) C dMD_grouped_171 rfl (by decide) ?_
                      refine r_iconst (v := 1) (n := 174) C dMD_grouped_173 rfl (by decide) ?_
                      refine r_istore (n := 176) C dMD_grouped_174 rfl (by decide) ?_
                      refine r_iinc (n := 179) C dMD_grouped_176 rfl rfl (nI_i _) (by decide) ?_
                      refine r_goto (tgt := 27) C dMD_grouped_179 (by decide) ?_
                      refine V.byk (ls' := [(0, .ref m), (1, .int (nI b)), (2, .int (nI n)), (3, .int k), (4, .int (nI 2)), (5, .long (t.1 + (r.2 * (colv r.1 col).toInt64))), (7, .int 1), (8, .int (colv r.1 col)), (9, .int (nI (b * 24 + (i + 1))))]) rfl ?_
                      refine ih _ (by omega) (i + 1) ((t.1 + (r.2 * (colv r.1 col).toInt64)), true, (colv r.1 col)) rfl (by omega) ?_
                      rw [fold_take (gst 2 key col k) _ hr, ← ht]
                      unfold gst
                      rw [if_pos hw, if_neg (by decide : ¬ (2 : Nat) = 0), if_pos (Or.inl (b01_f c_161))]
                    · refine r_iload (n := 166) C dMD_grouped_164 rfl rfl ?_
                      refine r_if_eq (tgt := 173) (n := 169) C dMD_grouped_166 (by decide) rfl (fun c_166 => ?_) (fun c_166 => ?_)
                      · exact absurd c_166 (by decide)
                      · refine r_iload (n := 171) C dMD_grouped_169 rfl rfl ?_
                        refine r_istore (n := 173) C dMD_grouped_171 rfl (by decide) ?_
                        refine r_iconst (v := 1) (n := 174) C dMD_grouped_173 rfl (by decide) ?_
                        refine r_istore (n := 176) C dMD_grouped_174 rfl (by decide) ?_
                        refine r_iinc (n := 179) C dMD_grouped_176 rfl rfl (nI_i _) (by decide) ?_
                        refine r_goto (tgt := 27) C dMD_grouped_179 (by decide) ?_
                        refine V.byk (ls' := [(0, .ref m), (1, .int (nI b)), (2, .int (nI n)), (3, .int k), (4, .int (nI 2)), (5, .long (t.1 + (r.2 * (colv r.1 col).toInt64))), (7, .int 1), (8, .int (colv r.1 col)), (9, .int (nI (b * 24 + (i + 1))))]) rfl ?_
                        refine ih _ (by omega) (i + 1) ((t.1 + (r.2 * (colv r.1 col).toInt64)), true, (colv r.1 col)) rfl (by omega) ?_
                        rw [fold_take (gst 2 key col k) _ hr, ← ht]
                        unfold gst
                        rw [if_pos hw, if_neg (by decide : ¬ (2 : Nat) = 0), if_pos (Or.inr (by rw [if_pos (rfl : (2 : Nat) = 2)]; exact hbet))]
              · exact absurd c_97 (by decide)
    refine r_aload_n (n := 1) C dMD_grouped_0 rfl rfl ?_
    refine r_get (ci := 10) (n := 4) C hinMD rfl 11 (by decide) tw_546 rfl dMD_grouped_1 rfl hM.1 rfl ?_
    refine r_iload_n (n := 5) C dMD_grouped_4 rfl rfl ?_
    refine r_iconst (v := 5) (n := 6) C dMD_grouped_5 rfl (by decide) ?_
    refine r_imul (n := 7) C dMD_grouped_6 rfl ?_
    refine r_iconst (v := 3) (n := 8) C dMD_grouped_7 rfl (by decide) ?_
    refine r_iadd (n := 9) C dMD_grouped_8 rfl ?_
    refine r_ialdM (n := 10) C dMD_grouped_9 rfl hM 11 (by decide) (n * 5 + 3) (x5i n 3) (by show _ < 50; omega) ?_
    rw [a3]
    refine r_istore (n := 12) C dMD_grouped_10 rfl (by decide) ?_
    refine r_lconst (v := 0) (n := 13) C dMD_grouped_12 rfl (by decide) ?_
    refine r_lstore (n := 15) C dMD_grouped_13 rfl (by decide) ?_
    refine r_iconst (v := 0) (n := 16) C dMD_grouped_15 rfl (by decide) ?_
    refine r_istore (n := 18) C dMD_grouped_16 rfl (by decide) ?_
    refine r_iconst (v := 0) (n := 19) C dMD_grouped_18 rfl (by decide) ?_
    refine r_istore (n := 21) C dMD_grouped_19 rfl (by decide) ?_
    refine r_iload_n (n := 22) C dMD_grouped_21 rfl rfl ?_
    refine r_bipush (v := 24) (n := 24) C dMD_grouped_22 rfl (by decide) ?_
    refine r_imul (n := 25) C dMD_grouped_24 rfl ?_
    refine V.eqi (x24 b) ?_
    refine r_istore (n := 27) C dMD_grouped_25 rfl (by decide) ?_
    refine V.byk (ls' := [(0, .ref m), (1, .int (nI b)), (2, .int (nI n)), (3, .int k), (4, .int (nI 2)), (5, .long 0), (7, .int 0), (8, .int 0), (9, .int (nI (b * 24 + 0)))]) rfl ?_
    exact loop _ 0 (0, false, 0) rfl (Nat.zero_le _) rfl
  · have loop : ∀ (q i : Nat) (t : Int64 × Bool × Int32), M.length - i = q → i ≤ M.length → t = (M.take i).foldl (gst 3 key col k) (0, false, 0) → V K h 0 0 (EndQ K (QI (Ko K) (fun x h' => x = grp 3 key col k M ∧ h' = h)) 0 0) 27 [(0, .ref m), (1, .int (nI b)), (2, .int (nI n)), (3, .int k), (4, .int (nI 3)), (5, .long t.1), (7, .int (b01 t.2.1)), (8, .int t.2.2), (9, .int (nI (b * 24 + i)))] [] := by
      intro q
      induction q using Nat.strongRecOn with
      | _ q ih =>
        intro i t hm hi ht
        refine r_iload (n := 29) C dMD_grouped_27 rfl rfl ?_
        refine r_iload_n (n := 30) C dMD_grouped_29 rfl rfl ?_
        refine r_bipush (v := 24) (n := 32) C dMD_grouped_30 rfl (by decide) ?_
        refine r_imul (n := 33) C dMD_grouped_32 rfl ?_
        refine V.eqi (x24 b) ?_
        refine r_aload_n (n := 34) C dMD_grouped_33 rfl rfl ?_
        refine r_get (ci := 10) (n := 37) C hinMD rfl 4 (by decide) tw_539 rfl dMD_grouped_34 rfl hM.1 rfl ?_
        refine r_iload_n (n := 38) C dMD_grouped_37 rfl rfl ?_
        refine r_ialdM (n := 39) C dMD_grouped_38 rfl hM 4 (by decide) b rfl (by show _ < 26; omega) ?_
        rw [hb1]
        refine r_iadd (n := 40) C dMD_grouped_39 rfl ?_
        refine V.eqi (nI_add _ _) ?_
        refine r_icmp_ge (tgt := 182) (n := 43) C dMD_grouped_40 (by decide) rfl (fun c_40 => ?_) (fun c_40 => ?_)
        · have hie : i = M.length := by have := (nI_leI (a := b * 24 + M.length) (b := b * 24 + i) (by omega) (by omega)).mp c_40; omega
          rw [hie, List.take_length] at ht
          refine r_iload (n := 184) C dMD_grouped_182 rfl rfl ?_
          refine r_iconst (v := 2) (n := 185) C dMD_grouped_184 rfl (by decide) ?_
          refine r_icmp_ge (tgt := 194) (n := 188) C dMD_grouped_185 (by decide) rfl (fun c_185 => ?_) (fun c_185 => ?_)
          · refine r_iload (n := 196) C dMD_grouped_194 rfl rfl ?_
            exact r_iret C dMD_grouped_196 (Nat.le_refl _) (Nat.le_refl _) ⟨by unfold grp; rw [if_neg (by decide), ← ht], rfl⟩
          · exact absurd (by decide) c_185
        · have hlt : i < M.length := by
            rcases Nat.lt_or_ge i M.length with q1 | q1
            · exact q1
            · exact absurd (nI_le (a := b * 24 + M.length) (b := b * 24 + i) (by omega) (by omega)) c_40
          obtain ⟨r, hr⟩ : ∃ r, M[i]? = some r := ⟨_, List.getElem?_eq_getElem hlt⟩
          obtain ⟨v0, v1, v2, v3⟩ := hb3 i r hr
          refine r_aload_n (n := 44) C dMD_grouped_43 rfl rfl ?_
          refine r_get (ci := 10) (n := 47) C hinMD rfl 3 (by decide) tw_538 rfl dMD_grouped_44 rfl hM.1 rfl ?_
          refine r_iload (n := 49) C dMD_grouped_47 rfl rfl ?_
          refine r_laldM (n := 50) C dMD_grouped_49 rfl hM 3 (by decide) (b * 24 + i) rfl (by show _ < 624; omega) ?_
          rw [v3]
          refine r_lconst (v := 0) (n := 51) C dMD_grouped_50 rfl (by decide) ?_
          refine r_lcmp (n := 52) C dMD_grouped_51 rfl ?_
          refine r_if_le (tgt := 176) (n := 55) C dMD_grouped_52 (by decide) rfl (fun c_52 => ?_) (fun c_52 => ?_)
          · have hw : withB key k r = false := by
              unfold withB
              rw [decide_eq_false (Int64.not_lt.mpr ((lg_cmp_le _ _).mp c_52)), Bool.false_and]
            refine r_iinc (n := 179) C dMD_grouped_176 rfl rfl (nI_i _) (by decide) ?_
            refine r_goto (tgt := 27) C dMD_grouped_179 (by decide) ?_
            refine V.byk (ls' := [(0, .ref m), (1, .int (nI b)), (2, .int (nI n)), (3, .int k), (4, .int (nI 3)), (5, .long t.1), (7, .int (b01 t.2.1)), (8, .int t.2.2), (9, .int (nI (b * 24 + (i + 1))))]) rfl ?_
            refine ih _ (by omega) (i + 1) t rfl (by omega) ?_
            rw [fold_take (gst 3 key col k) _ hr, ← ht]
            unfold gst
            rw [if_neg (by rw [hw]; decide)]
          · have hpos : 0 < r.2 := Int64.not_le.mp (fun q => c_52 ((lg_cmp_le _ _).mpr q))
            refine r_aload_n (n := 56) C dMD_grouped_55 rfl rfl ?_
            refine r_iload (n := 58) C dMD_grouped_56 rfl rfl ?_
            refine r_aload_n (n := 59) C dMD_grouped_58 rfl rfl ?_
            refine r_get (ci := 10) (n := 62) C hinMD rfl 11 (by decide) tw_546 rfl dMD_grouped_59 rfl hM.1 rfl ?_
            refine r_iload_n (n := 63) C dMD_grouped_62 rfl rfl ?_
            refine r_iconst (v := 5) (n := 64) C dMD_grouped_63 rfl (by decide) ?_
            refine r_imul (n := 65) C dMD_grouped_64 rfl ?_
            refine r_iconst (v := 1) (n := 66) C dMD_grouped_65 rfl (by decide) ?_
            refine r_iadd (n := 67) C dMD_grouped_66 rfl ?_
            refine r_ialdM (n := 68) C dMD_grouped_67 rfl hM 11 (by decide) (n * 5 + 1) (x5i n 1) (by show _ < 50; omega) ?_
            rw [a1]
            refine r_ci (n := 71) (rn_V (z := 2) (ci := 10) (T := TMD) C (c_MD_column (Kl K) (Ko K) h m ad MI ML MV (b * 24 + i) key r.1 hM (by omega) hkey v0 v1 v2) tw_616 tw_618 ts_23 tw_4 tw_619 rfl rfl ndMD_column ⟨Nat.le_of_ble_eq_true rfl, Nat.le_of_ble_eq_true rfl⟩ hM.1 rfl rfl rfl (Nat.le_of_ble_eq_true rfl) dMD_grouped_68 ⟨Nat.le_of_ble_eq_true rfl, Nat.le_of_ble_eq_true rfl⟩) rfl (fun x ah hq => ?_)
            obtain ⟨e1, e2⟩ := hq
            subst e1
            rw [e2]
            refine r_iload_n (n := 72) C dMD_grouped_71 rfl rfl ?_
            refine r_icmp_ne (tgt := 176) (n := 75) C dMD_grouped_72 (by decide) rfl (fun c_72 => ?_) (fun c_72 => ?_)
            · have hw : withB key k r = false := by
                unfold withB
                rw [decide_eq_false c_72, Bool.and_false]
              refine r_iinc (n := 179) C dMD_grouped_176 rfl rfl (nI_i _) (by decide) ?_
              refine r_goto (tgt := 27) C dMD_grouped_179 (by decide) ?_
              refine V.byk (ls' := [(0, .ref m), (1, .int (nI b)), (2, .int (nI n)), (3, .int k), (4, .int (nI 3)), (5, .long t.1), (7, .int (b01 t.2.1)), (8, .int t.2.2), (9, .int (nI (b * 24 + (i + 1))))]) rfl ?_
              refine ih _ (by omega) (i + 1) t rfl (by omega) ?_
              rw [fold_take (gst 3 key col k) _ hr, ← ht]
              unfold gst
              rw [if_neg (by rw [hw]; decide)]
            · have hw : withB key k r = true := by
                unfold withB
                rw [decide_eq_true c_72, decide_eq_true hpos]; rfl
              refine r_aload_n (n := 76) C dMD_grouped_75 rfl rfl ?_
              refine r_iload (n := 78) C dMD_grouped_76 rfl rfl ?_
              refine r_aload_n (n := 79) C dMD_grouped_78 rfl rfl ?_
              refine r_get (ci := 10) (n := 82) C hinMD rfl 11 (by decide) tw_546 rfl dMD_grouped_79 rfl hM.1 rfl ?_
              refine r_iload_n (n := 83) C dMD_grouped_82 rfl rfl ?_
              refine r_iconst (v := 5) (n := 84) C dMD_grouped_83 rfl (by decide) ?_
              refine r_imul (n := 85) C dMD_grouped_84 rfl ?_
              refine r_iconst (v := 2) (n := 86) C dMD_grouped_85 rfl (by decide) ?_
              refine r_iadd (n := 87) C dMD_grouped_86 rfl ?_
              refine r_ialdM (n := 88) C dMD_grouped_87 rfl hM 11 (by decide) (n * 5 + 2) (x5i n 2) (by show _ < 50; omega) ?_
              rw [a2]
              refine r_ci (n := 91) (rn_V (z := 2) (ci := 10) (T := TMD) C (c_MD_column (Kl K) (Ko K) h m ad MI ML MV (b * 24 + i) col r.1 hM (by omega) hcol v0 v1 v2) tw_616 tw_618 ts_23 tw_4 tw_619 rfl rfl ndMD_column ⟨Nat.le_of_ble_eq_true rfl, Nat.le_of_ble_eq_true rfl⟩ hM.1 rfl rfl rfl (Nat.le_of_ble_eq_true rfl) dMD_grouped_88 ⟨Nat.le_of_ble_eq_true rfl, Nat.le_of_ble_eq_true rfl⟩) rfl (fun x ah hq => ?_)
              obtain ⟨e1, e2⟩ := hq
              subst e1
              rw [e2]
              refine r_istore (n := 93) C dMD_grouped_91 rfl (by decide) ?_
              refine r_lload (n := 95) C dMD_grouped_93 rfl rfl ?_
              refine r_iload (n := 97) C dMD_grouped_95 rfl rfl ?_
              refine r_if_ne (tgt := 110) (n := 100) C dMD_grouped_97 (by decide) rfl (fun c_97 => ?_) (fun c_97 => ?_)
              · refine r_aload_n (n := 111) C dMD_grouped_110 rfl rfl ?_
                refine r_get (ci := 10) (n := 114) C hinMD rfl 3 (by decide) tw_538 rfl dMD_grouped_111 rfl hM.1 rfl ?_
                refine r_iload (n := 116) C dMD_grouped_114 rfl rfl ?_
                refine r_laldM (n := 117) C dMD_grouped_116 rfl hM 3 (by decide) (b * 24 + i) rfl (by show _ < 624; omega) ?_
                rw [v3]
                refine r_iload (n := 119) C dMD_grouped_117 rfl rfl ?_
                refine r_i2l (n := 120) C dMD_grouped_119 rfl ?_
                refine r_lmul (n := 121) C dMD_grouped_120 rfl ?_
                refine r_ladd (n := 122) C dMD_grouped_121 rfl ?_
                refine r_lstore (n := 124) C dMD_grouped_122 rfl (by decide) ?_
                refine r_iload (n := 126) C dMD_grouped_124 rfl rfl ?_
                refine r_iconst (v := 2) (n := 127) C dMD_grouped_126 rfl (by decide) ?_
                refine r_icmp_ne (tgt := 145) (n := 130) C dMD_grouped_127 (by decide) rfl (fun c_127 => ?_) (fun c_127 => ?_)
                · refine r_iload (n := 147) C dMD_grouped_145 rfl rfl ?_
                  refine r_iload (n := 149) C dMD_grouped_147 rfl rfl ?_
                  refine r_icmp_le (tgt := 156) (n := 152) C dMD_grouped_149 (by decide) rfl (fun c_149 => ?_) (fun c_149 => ?_)
                  · have hbet : ¬ t.2.2 < colv r.1 col := Int32.not_lt.mpr c_149
                    refine r_iconst (v := 0) (n := 157) C dMD_grouped_156 rfl (by decide) ?_
                    refine r_istore (n := 159) C dMD_grouped_157 rfl (by decide) ?_
                    refine r_iload (n := 161) C dMD_grouped_159 rfl rfl ?_
                    refine r_if_eq (tgt := 169) (n := 164) C dMD_grouped_161 (by decide) rfl (fun c_161 => ?_) (fun c_161 => ?_)
                    · refine r_iload (n := 171) C dMD_grouped_169 rfl rfl ?_
                      refine r_istore (n := 173) C dMD_grouped_171 rfl (by decide) ?_
                      refine r_iconst (v := 1) (n := 174) C dMD_grouped_173 rfl (by decide) ?_
                      refine r_istore (n := 176) C dMD_grouped_174 rfl (by decide) ?_
                      refine r_iinc (n := 179) C dMD_grouped_176 rfl rfl (nI_i _) (by decide) ?_
                      refine r_goto (tgt := 27) C dMD_grouped_179 (by decide) ?_
                      refine V.byk (ls' := [(0, .ref m), (1, .int (nI b)), (2, .int (nI n)), (3, .int k), (4, .int (nI 3)), (5, .long (t.1 + (r.2 * (colv r.1 col).toInt64))), (7, .int 1), (8, .int (colv r.1 col)), (9, .int (nI (b * 24 + (i + 1))))]) rfl ?_
                      refine ih _ (by omega) (i + 1) ((t.1 + (r.2 * (colv r.1 col).toInt64)), true, (colv r.1 col)) rfl (by omega) ?_
                      rw [fold_take (gst 3 key col k) _ hr, ← ht]
                      unfold gst
                      rw [if_pos hw, if_neg (by decide : ¬ (3 : Nat) = 0), if_pos (Or.inl (b01_f c_161))]
                    · refine r_iload (n := 166) C dMD_grouped_164 rfl rfl ?_
                      refine r_if_eq (tgt := 173) (n := 169) C dMD_grouped_166 (by decide) rfl (fun c_166 => ?_) (fun c_166 => ?_)
                      · refine r_iconst (v := 1) (n := 174) C dMD_grouped_173 rfl (by decide) ?_
                        refine r_istore (n := 176) C dMD_grouped_174 rfl (by decide) ?_
                        refine r_iinc (n := 179) C dMD_grouped_176 rfl rfl (nI_i _) (by decide) ?_
                        refine r_goto (tgt := 27) C dMD_grouped_179 (by decide) ?_
                        refine V.byk (ls' := [(0, .ref m), (1, .int (nI b)), (2, .int (nI n)), (3, .int k), (4, .int (nI 3)), (5, .long (t.1 + (r.2 * (colv r.1 col).toInt64))), (7, .int 1), (8, .int t.2.2), (9, .int (nI (b * 24 + (i + 1))))]) rfl ?_
                        refine ih _ (by omega) (i + 1) ((t.1 + (r.2 * (colv r.1 col).toInt64)), true, t.2.2) rfl (by omega) ?_
                        rw [fold_take (gst 3 key col k) _ hr, ← ht]
                        unfold gst
                        rw [if_pos hw, if_neg (by decide : ¬ (3 : Nat) = 0), if_neg (fun z => z.elim (fun e => by rw [b01_t c_161] at e; cases e) (fun e => by rw [if_neg (by decide : ¬ (3 : Nat) = 2)] at e; exact hbet e))]
                      · exact absurd rfl c_166
                  · have hbet : t.2.2 < colv r.1 col := Int32.not_le.mp c_149
                    refine r_iconst (v := 1) (n := 153) C dMD_grouped_152 rfl (by decide) ?_
                    refine r_goto (tgt := 157) C dMD_grouped_153 (by decide) ?_
                    refine r_istore (n := 159) C dMD_grouped_157 rfl (by decide) ?_
                    refine r_iload (n := 161) C dMD_grouped_159 rfl rfl ?_
                    refine r_if_eq (tgt := 169) (n := 164) C dMD_grouped_161 (by decide) rfl (fun c_161 => ?_) (fun c_161 => ?_)
                    · refine r_iload (n := 171) C dMD_grouped_169 rfl rfl ?_
                      refine r_istore (n := 173) C dMD_grouped_171 rfl (by decide) ?_
                      refine r_iconst (v := 1) (n := 174) C dMD_grouped_173 rfl (by decide) ?_
                      refine r_istore (n := 176) C dMD_grouped_174 rfl (by decide) ?_
                      refine r_iinc (n := 179) C dMD_grouped_176 rfl rfl (nI_i _) (by decide) ?_
                      refine r_goto (tgt := 27) C dMD_grouped_179 (by decide) ?_
                      refine V.byk (ls' := [(0, .ref m), (1, .int (nI b)), (2, .int (nI n)), (3, .int k), (4, .int (nI 3)), (5, .long (t.1 + (r.2 * (colv r.1 col).toInt64))), (7, .int 1), (8, .int (colv r.1 col)), (9, .int (nI (b * 24 + (i + 1))))]) rfl ?_
                      refine ih _ (by omega) (i + 1) ((t.1 + (r.2 * (colv r.1 col).toInt64)), true, (colv r.1 col)) rfl (by omega) ?_
                      rw [fold_take (gst 3 key col k) _ hr, ← ht]
                      unfold gst
                      rw [if_pos hw, if_neg (by decide : ¬ (3 : Nat) = 0), if_pos (Or.inl (b01_f c_161))]
                    · refine r_iload (n := 166) C dMD_grouped_164 rfl rfl ?_
                      refine r_if_eq (tgt := 173) (n := 169) C dMD_grouped_166 (by decide) rfl (fun c_166 => ?_) (fun c_166 => ?_)
                      · exact absurd c_166 (by decide)
                      · refine r_iload (n := 171) C dMD_grouped_169 rfl rfl ?_
                        refine r_istore (n := 173) C dMD_grouped_171 rfl (by decide) ?_
                        refine r_iconst (v := 1) (n := 174) C dMD_grouped_173 rfl (by decide) ?_
                        refine r_istore (n := 176) C dMD_grouped_174 rfl (by decide) ?_
                        refine r_iinc (n := 179) C dMD_grouped_176 rfl rfl (nI_i _) (by decide) ?_
                        refine r_goto (tgt := 27) C dMD_grouped_179 (by decide) ?_
                        refine V.byk (ls' := [(0, .ref m), (1, .int (nI b)), (2, .int (nI n)), (3, .int k), (4, .int (nI 3)), (5, .long (t.1 + (r.2 * (colv r.1 col).toInt64))), (7, .int 1), (8, .int (colv r.1 col)), (9, .int (nI (b * 24 + (i + 1))))]) rfl ?_
                        refine ih _ (by omega) (i + 1) ((t.1 + (r.2 * (colv r.1 col).toInt64)), true, (colv r.1 col)) rfl (by omega) ?_
                        rw [fold_take (gst 3 key col k) _ hr, ← ht]
                        unfold gst
                        rw [if_pos hw, if_neg (by decide : ¬ (3 : Nat) = 0), if_pos (Or.inr (by rw [if_neg (by decide : ¬ (3 : Nat) = 2)]; exact hbet))]
                · exact absurd c_127 (by decide)
              · exact absurd c_97 (by decide)
    refine r_aload_n (n := 1) C dMD_grouped_0 rfl rfl ?_
    refine r_get (ci := 10) (n := 4) C hinMD rfl 11 (by decide) tw_546 rfl dMD_grouped_1 rfl hM.1 rfl ?_
    refine r_iload_n (n := 5) C dMD_grouped_4 rfl rfl ?_
    refine r_iconst (v := 5) (n := 6) C dMD_grouped_5 rfl (by decide) ?_
    refine r_imul (n := 7) C dMD_grouped_6 rfl ?_
    refine r_iconst (v := 3) (n := 8) C dMD_grouped_7 rfl (by decide) ?_
    refine r_iadd (n := 9) C dMD_grouped_8 rfl ?_
    refine r_ialdM (n := 10) C dMD_grouped_9 rfl hM 11 (by decide) (n * 5 + 3) (x5i n 3) (by show _ < 50; omega) ?_
    rw [a3]
    refine r_istore (n := 12) C dMD_grouped_10 rfl (by decide) ?_
    refine r_lconst (v := 0) (n := 13) C dMD_grouped_12 rfl (by decide) ?_
    refine r_lstore (n := 15) C dMD_grouped_13 rfl (by decide) ?_
    refine r_iconst (v := 0) (n := 16) C dMD_grouped_15 rfl (by decide) ?_
    refine r_istore (n := 18) C dMD_grouped_16 rfl (by decide) ?_
    refine r_iconst (v := 0) (n := 19) C dMD_grouped_18 rfl (by decide) ?_
    refine r_istore (n := 21) C dMD_grouped_19 rfl (by decide) ?_
    refine r_iload_n (n := 22) C dMD_grouped_21 rfl rfl ?_
    refine r_bipush (v := 24) (n := 24) C dMD_grouped_22 rfl (by decide) ?_
    refine r_imul (n := 25) C dMD_grouped_24 rfl ?_
    refine V.eqi (x24 b) ?_
    refine r_istore (n := 27) C dMD_grouped_25 rfl (by decide) ?_
    refine V.byk (ls' := [(0, .ref m), (1, .int (nI b)), (2, .int (nI n)), (3, .int k), (4, .int (nI 3)), (5, .long 0), (7, .int 0), (8, .int 0), (9, .int (nI (b * 24 + 0)))]) rfl ?_
    exact loop _ 0 (0, false, 0) rfl (Nat.zero_le _) rfl
def uG (kd key col : Nat) (M : List Rw) (W : List Rw) (r : Rw) : List Rw := if 0 < r.2 then (if W.any (fun q => decide (q.1.1 = colv r.1 key)) = true then W else emW W (colv r.1 key, grp kd key col (colv r.1 key) M, 0) 1) else W
set_option maxHeartbeats 4000000 in
set_option maxRecDepth 100000 in
/-- unary, group -/
theorem c_MD_unary6 (l : Launch) (o : Om) (h : AH) (m : Nat) (ad : Nat → Nat) (MI : Nat → Nat → Int32) (ML : Nat → Nat → Int64) (MV : Nat → Int32) (n p b : Nat) (W : List Rw) (r : Rw) (key col kd : Nat) (M : List Rw) (hM : MH o h m ad MI ML MV) (hn : n < 10) (hp : p < 624) (hW : WL MI ML MV W) (hroom : W.length < 600) (l0 : MI 0 p = r.1.1) (l1 : MI 1 p = r.1.2.1) (l2 : MI 2 p = r.1.2.2) (l3 : ML 3 p = r.2) (hk : MI 10 n = nI 6) (hb : b < 26) (hkey : key < 3) (hcol : col < 3) (hkd : kd < 4) (hB : BL MI ML b M) (a1 : MI 11 (n * 5 + 1) = nI key) (a2 : MI 11 (n * 5 + 2) = nI col) (a3 : MI 11 (n * 5 + 3) = nI kd) : Mt l o yMD_unary cMD_unary 10 none ({ frames := 2, cells := 0, slots := 0, locals := 53 } : Room) [.ref m, .int (nI n), .int (nI p), .int (nI b)] h (QV o (fun h' => EmP o h h' m ad MI ML MV (uG kd key col M W r))) (0) (0) := by
  refine Met.ofV (by decide) (Nat.le_of_ble_eq_true rfl) (fun K hl ho C => ?_)
  subst hl; subst ho
  obtain ⟨hw1, hw2, hw3⟩ := id hW
  have loop : 0 < r.2 → ∀ (q j : Nat), W.length - j = q → j ≤ W.length → (W.take j).any (fun q => decide (q.1.1 = (colv r.1 key))) = false → V K h 0 0 (EndQ K (QV (Ko K) (fun h' => EmP (Ko K) h h' m ad MI ML MV (uG kd key col M W r))) 0 0) 270 [(0, .ref m), (7, .int (colv r.1 key)), (8, .int (grp kd key col (colv r.1 key) M)), (9, .int (nI j))] [] := by
    intro hpos q
    induction q using Nat.strongRecOn with
    | _ q ih =>
      intro j hm hj hany
      refine r_iload (n := 272) C dMD_unary_270 rfl rfl ?_
      refine r_aload_n (n := 273) C dMD_unary_272 rfl rfl ?_
      refine r_get (ci := 10) (n := 276) C hinMD rfl 9 (by decide) tw_544 rfl dMD_unary_273 rfl hM.1 rfl ?_
      refine V.eqi hw1 ?_
      refine r_icmp_ge (tgt := 298) (n := 279) C dMD_unary_276 (by decide) rfl (fun c_276 => ?_) (fun c_276 => ?_)
      · have hie : j = W.length := by have := (nI_leI (a := W.length) (b := j) (by omega) (by omega)).mp c_276; omega
        rw [hie, List.take_length] at hany
        refine r_aload_n (n := 299) C dMD_unary_298 rfl rfl ?_
        refine r_iload (n := 301) C dMD_unary_299 rfl rfl ?_
        refine r_iload (n := 303) C dMD_unary_301 rfl rfl ?_
        refine r_iconst (v := 0) (n := 304) C dMD_unary_303 rfl (by decide) ?_
        refine r_lconst (v := 1) (n := 305) C dMD_unary_304 rfl (by decide) ?_
        refine r_cv (n := 308) (rn_V (z := 4) (ci := 10) (T := TMD) C (c_MD_emit (Kl K) (Ko K) h m ad MI ML MV W (colv r.1 key) (grp kd key col (colv r.1 key) M) 0 1 hM hW hroom) tw_624 tw_626 ts_25 tw_4 tw_627 rfl rfl ndMD_emit ⟨Nat.le_of_ble_eq_true rfl, Nat.le_of_ble_eq_true rfl⟩ hM.1 rfl rfl rfl (Nat.le_of_ble_eq_true rfl) dMD_unary_305 ⟨Nat.le_of_ble_eq_true rfl, Nat.le_of_ble_eq_true rfl⟩) rfl (fun h1 hq => ?_)
        obtain ⟨MI1, ML1, MV1, hM1, hW1, hS1, hF1⟩ := hq
        exact r_vret C dMD_unary_308 (Nat.le_refl _) (Nat.le_refl _) ⟨MI1, ML1, MV1, hM1, by unfold uG; rw [if_pos hpos, if_neg (by rw [hany]; decide)]; exact hW1, hS1, hF1⟩
      · have hlt : j < W.length := by
          rcases Nat.lt_or_ge j W.length with q | q
          · exact q
          · exact absurd (nI_le (a := W.length) (b := j) q (by omega)) c_276
        obtain ⟨q0, hq0⟩ : ∃ q0, W[j]? = some q0 := ⟨_, List.getElem?_eq_getElem hlt⟩
        obtain ⟨f5, f6, f7, f8⟩ := hw3 j q0 hq0
        refine r_aload_n (n := 280) C dMD_unary_279 rfl rfl ?_
        refine r_get (ci := 10) (n := 283) C hinMD rfl 5 (by decide) tw_540 rfl dMD_unary_280 rfl hM.1 rfl ?_
        refine r_iload (n := 285) C dMD_unary_283 rfl rfl ?_
        refine r_ialdM (n := 286) C dMD_unary_285 rfl hM 5 (by decide) j rfl (by show _ < 600; omega) ?_
        rw [f5]
        refine r_iload (n := 288) C dMD_unary_286 rfl rfl ?_
        refine r_icmp_ne (tgt := 292) (n := 291) C dMD_unary_288 (by decide) rfl (fun c_288 => ?_) (fun c_288 => ?_)
        · refine r_iinc (n := 295) C dMD_unary_292 rfl rfl (nI_i j) (by decide) ?_
          refine r_goto (tgt := 270) C dMD_unary_295 (by decide) ?_
          refine V.byk (ls' := [(0, .ref m), (7, .int (colv r.1 key)), (8, .int (grp kd key col (colv r.1 key) M)), (9, .int (nI (j + 1)))]) rfl ?_
          exact ih _ (by omega) (j + 1) rfl (by omega) (by rw [any_take hq0, hany]; simp [c_288])
        · have hany2 : W.any (fun q => decide (q.1.1 = (colv r.1 key))) = true := List.any_eq_true.mpr ⟨q0, List.mem_of_getElem? hq0, decide_eq_true c_288⟩
          exact r_vret C dMD_unary_291 (Nat.le_refl _) (Nat.le_refl _) ⟨MI, ML, MV, hM, by unfold uG; rw [if_pos hpos, if_pos hany2]; exact hW, WSame.rf, Frm.rf⟩
  refine r_aload_n (n := 1) C dMD_unary_0 rfl rfl ?_
  refine r_get (ci := 10) (n := 4) C hinMD rfl 11 (by decide) tw_546 rfl dMD_unary_1 rfl hM.1 rfl ?_
  refine r_iload_n (n := 5) C dMD_unary_4 rfl rfl ?_
  refine r_iconst (v := 5) (n := 6) C dMD_unary_5 rfl (by decide) ?_
  refine r_imul (n := 7) C dMD_unary_6 rfl ?_
  refine r_iconst (v := 1) (n := 8) C dMD_unary_7 rfl (by decide) ?_
  refine r_iadd (n := 9) C dMD_unary_8 rfl ?_
  refine r_ialdM (n := 10) C dMD_unary_9 rfl hM 11 (by decide) (n * 5 + 1) (x5i n 1) (by show _ < 50; omega) ?_
  rw [a1]
  refine r_istore (n := 12) C dMD_unary_10 rfl (by decide) ?_
  refine r_aload_n (n := 13) C dMD_unary_12 rfl rfl ?_
  refine r_get (ci := 10) (n := 16) C hinMD rfl 11 (by decide) tw_546 rfl dMD_unary_13 rfl hM.1 rfl ?_
  refine r_iload_n (n := 17) C dMD_unary_16 rfl rfl ?_
  refine r_iconst (v := 5) (n := 18) C dMD_unary_17 rfl (by decide) ?_
  refine r_imul (n := 19) C dMD_unary_18 rfl ?_
  refine r_iconst (v := 2) (n := 20) C dMD_unary_19 rfl (by decide) ?_
  refine r_iadd (n := 21) C dMD_unary_20 rfl ?_
  refine r_ialdM (n := 22) C dMD_unary_21 rfl hM 11 (by decide) (n * 5 + 2) (x5i n 2) (by show _ < 50; omega) ?_
  refine r_istore (n := 24) C dMD_unary_22 rfl (by decide) ?_
  refine r_aload_n (n := 25) C dMD_unary_24 rfl rfl ?_
  refine r_get (ci := 10) (n := 28) C hinMD rfl 11 (by decide) tw_546 rfl dMD_unary_25 rfl hM.1 rfl ?_
  refine r_iload_n (n := 29) C dMD_unary_28 rfl rfl ?_
  refine r_iconst (v := 5) (n := 30) C dMD_unary_29 rfl (by decide) ?_
  refine r_imul (n := 31) C dMD_unary_30 rfl ?_
  refine r_iconst (v := 3) (n := 32) C dMD_unary_31 rfl (by decide) ?_
  refine r_iadd (n := 33) C dMD_unary_32 rfl ?_
  refine r_ialdM (n := 34) C dMD_unary_33 rfl hM 11 (by decide) (n * 5 + 3) (x5i n 3) (by show _ < 50; omega) ?_
  refine r_istore (n := 36) C dMD_unary_34 rfl (by decide) ?_
  refine r_aload_n (n := 37) C dMD_unary_36 rfl rfl ?_
  refine r_get (ci := 10) (n := 40) C hinMD rfl 10 (by decide) tw_545 rfl dMD_unary_37 rfl hM.1 rfl ?_
  refine r_iload_n (n := 41) C dMD_unary_40 rfl rfl ?_
  refine r_ialdM (n := 42) C dMD_unary_41 rfl hM 10 (by decide) n rfl (by show _ < 10; omega) ?_
  rw [hk]
  refine r_if_ne (tgt := 73) (n := 45) C dMD_unary_42 (by decide) rfl (fun c_42 => ?_) (fun c_42 => ?_)
  · refine r_aload_n (n := 74) C dMD_unary_73 rfl rfl ?_
    refine r_get (ci := 10) (n := 77) C hinMD rfl 10 (by decide) tw_545 rfl dMD_unary_74 rfl hM.1 rfl ?_
    refine r_iload_n (n := 78) C dMD_unary_77 rfl rfl ?_
    refine r_ialdM (n := 79) C dMD_unary_78 rfl hM 10 (by decide) n rfl (by show _ < 10; omega) ?_
    rw [hk]
    refine r_iconst (v := 1) (n := 80) C dMD_unary_79 rfl (by decide) ?_
    refine r_icmp_ne (tgt := 129) (n := 83) C dMD_unary_80 (by decide) rfl (fun c_80 => ?_) (fun c_80 => ?_)
    · refine r_aload_n (n := 130) C dMD_unary_129 rfl rfl ?_
      refine r_get (ci := 10) (n := 133) C hinMD rfl 10 (by decide) tw_545 rfl dMD_unary_130 rfl hM.1 rfl ?_
      refine r_iload_n (n := 134) C dMD_unary_133 rfl rfl ?_
      refine r_ialdM (n := 135) C dMD_unary_134 rfl hM 10 (by decide) n rfl (by show _ < 10; omega) ?_
      rw [hk]
      refine r_iconst (v := 2) (n := 136) C dMD_unary_135 rfl (by decide) ?_
      refine r_icmp_ne (tgt := 182) (n := 139) C dMD_unary_136 (by decide) rfl (fun c_136 => ?_) (fun c_136 => ?_)
      · refine r_aload_n (n := 183) C dMD_unary_182 rfl rfl ?_
        refine r_get (ci := 10) (n := 186) C hinMD rfl 10 (by decide) tw_545 rfl dMD_unary_183 rfl hM.1 rfl ?_
        refine r_iload_n (n := 187) C dMD_unary_186 rfl rfl ?_
        refine r_ialdM (n := 188) C dMD_unary_187 rfl hM 10 (by decide) n rfl (by show _ < 10; omega) ?_
        rw [hk]
        refine r_iconst (v := 5) (n := 189) C dMD_unary_188 rfl (by decide) ?_
        refine r_icmp_ne (tgt := 226) (n := 192) C dMD_unary_189 (by decide) rfl (fun c_189 => ?_) (fun c_189 => ?_)
        · refine r_aload_n (n := 227) C dMD_unary_226 rfl rfl ?_
          refine r_get (ci := 10) (n := 230) C hinMD rfl 10 (by decide) tw_545 rfl dMD_unary_227 rfl hM.1 rfl ?_
          refine r_iload_n (n := 231) C dMD_unary_230 rfl rfl ?_
          refine r_ialdM (n := 232) C dMD_unary_231 rfl hM 10 (by decide) n rfl (by show _ < 10; omega) ?_
          rw [hk]
          refine r_bipush (v := 6) (n := 234) C dMD_unary_232 rfl (by decide) ?_
          refine r_icmp_ne (tgt := 308) (n := 237) C dMD_unary_234 (by decide) rfl (fun c_234 => ?_) (fun c_234 => ?_)
          · exact absurd rfl c_234
          · refine r_aload_n (n := 238) C dMD_unary_237 rfl rfl ?_
            refine r_get (ci := 10) (n := 241) C hinMD rfl 3 (by decide) tw_538 rfl dMD_unary_238 rfl hM.1 rfl ?_
            refine r_iload_n (n := 242) C dMD_unary_241 rfl rfl ?_
            refine r_laldM (n := 243) C dMD_unary_242 rfl hM 3 (by decide) p rfl (by show _ < 624; omega) ?_
            rw [l3]
            refine r_lconst (v := 0) (n := 244) C dMD_unary_243 rfl (by decide) ?_
            refine r_lcmp (n := 245) C dMD_unary_244 rfl ?_
            refine r_if_le (tgt := 308) (n := 248) C dMD_unary_245 (by decide) rfl (fun c_245 => ?_) (fun c_245 => ?_)
            · have hz : ¬ 0 < r.2 := Int64.not_lt.mpr ((lg_cmp_le _ _).mp c_245)
              exact r_vret C dMD_unary_308 (Nat.le_refl _) (Nat.le_refl _) ⟨MI, ML, MV, hM, by unfold uG; rw [if_neg hz]; exact hW, WSame.rf, Frm.rf⟩
            · have hpos : 0 < r.2 := Int64.not_le.mp (fun q => c_245 ((lg_cmp_le _ _).mpr q))
              refine r_aload_n (n := 249) C dMD_unary_248 rfl rfl ?_
              refine r_iload_n (n := 250) C dMD_unary_249 rfl rfl ?_
              refine r_iload (n := 252) C dMD_unary_250 rfl rfl ?_
              refine r_ci (n := 255) (rn_V (z := 2) (ci := 10) (T := TMD) C (c_MD_column (Kl K) (Ko K) h m ad MI ML MV p key r.1 hM hp hkey l0 l1 l2) tw_616 tw_618 ts_23 tw_4 tw_619 rfl rfl ndMD_column ⟨Nat.le_of_ble_eq_true rfl, Nat.le_of_ble_eq_true rfl⟩ hM.1 rfl rfl rfl (Nat.le_of_ble_eq_true rfl) dMD_unary_252 ⟨Nat.le_of_ble_eq_true rfl, Nat.le_of_ble_eq_true rfl⟩) rfl (fun x ah hq => ?_)
              obtain ⟨e1, e2⟩ := hq
              subst e1
              rw [e2]
              refine r_istore (n := 257) C dMD_unary_255 rfl (by decide) ?_
              refine r_aload_n (n := 258) C dMD_unary_257 rfl rfl ?_
              refine r_iload_n (n := 259) C dMD_unary_258 rfl rfl ?_
              refine r_iload_n (n := 260) C dMD_unary_259 rfl rfl ?_
              refine r_iload (n := 262) C dMD_unary_260 rfl rfl ?_
              refine r_ci (n := 265) (rn_V (z := 3) (ci := 10) (T := TMD) C (c_MD_grouped (Kl K) (Ko K) h m ad MI ML MV b n key col kd (colv r.1 key) M hM hb hn hkey hcol hkd hB a1 a2 a3) tw_640 tw_642 ts_29 tw_4 tw_643 rfl rfl ndMD_grouped ⟨Nat.le_of_ble_eq_true rfl, Nat.le_of_ble_eq_true rfl⟩ hM.1 rfl rfl rfl (Nat.le_of_ble_eq_true rfl) dMD_unary_262 ⟨Nat.le_of_ble_eq_true rfl, Nat.le_of_ble_eq_true rfl⟩) rfl (fun x ah hq => ?_)
              obtain ⟨e1, e2⟩ := hq
              subst e1
              rw [e2]
              refine r_istore (n := 267) C dMD_unary_265 rfl (by decide) ?_
              refine r_iconst (v := 0) (n := 268) C dMD_unary_267 rfl (by decide) ?_
              refine r_istore (n := 270) C dMD_unary_268 rfl (by decide) ?_
              refine V.byk (ls' := [(0, .ref m), (7, .int (colv r.1 key)), (8, .int (grp kd key col (colv r.1 key) M)), (9, .int (nI 0))]) rfl ?_
              exact loop hpos _ 0 rfl (Nat.zero_le _) rfl
        · exact absurd c_189 (by decide)
      · exact absurd c_136 (by decide)
    · exact absurd c_80 (by decide)
  · exact absurd c_42 (by decide)
