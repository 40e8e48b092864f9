/-! THE REFERENCE: settle -/
theorem srtW_mem : ∀ {W : List Rw}, NdK W → ∀ q ∈ srtW W, q ∈ nz W
  | [], _, q, h => by cases h
  | r :: W, hW, q, h => by
    obtain ⟨h1, h2⟩ := List.pairwise_cons.mp hW
    unfold srtW at h; split at h
    · next h0 =>
      have e : nz (r :: W) = nz W := by simp [nz, h0]
      rw [e]; exact srtW_mem h2 q h
    · next h0 =>
      have e : nz (r :: W) = r :: nz W := by simp [nz, h0]
      rw [e]
      rcases addW_new (fun p hp e => by obtain ⟨p', h3, h4⟩ := srtW_key hp; exact h1 p' h3 (e.symm.trans h4.symm)) q h with z | z
      · rw [z]; exact List.mem_cons_self
      · exact List.mem_cons_of_mem _ (srtW_mem h2 q z)
theorem cntK_take {W : List Rw} {j : Nat} {q : Rw} (h : W[j]? = some q) (z : Int) : cntK (nz (W.take (j + 1))) z = cntK (nz (W.take j)) z + (if q.2 ≠ 0 ∧ kz q.1 < z then 1 else 0) := by
  rw [nz_take h]
  unfold cntK
  rw [List.filter_append, List.length_append]
  congr 1
  by_cases h0 : q.2 = 0
  · simp [h0]
  · by_cases h1 : kz q.1 < z <;> simp [h0, h1]
def Enc4 (MI : Nat → Nat → Int32) (ML : Nat → Nat → Int64) (p : Nat) (r : Rw) : Prop := MI 0 p = r.1.1 ∧ MI 1 p = r.1.2.1 ∧ MI 2 p = r.1.2.2 ∧ ML 3 p = r.2
def SetP (o : Om) (h h' : AH) (m : Nat) (ad : Nat → Nat) (MI : Nat → Nat → Int32) (ML : Nat → Nat → Int64) (MV : Nat → Int32) (b : Nat) (C : List Rw) (ok : Bool) : Prop := ∃ MI' ML', MH o h' m ad MI' ML' MV ∧ BSame b MI MI' ML ML' ∧ (ok = true → BL MI' ML' b C) ∧ (ok = false → MI' = MI ∧ ML' = ML) ∧ Frm (mown m ad) h h'
set_option maxHeartbeats 4000000 in
set_option maxRecDepth 100000 in
/-- settle -/
theorem c_MD_settle (l : Launch) (o : Om) (h : AH) (m : Nat) (ad : Nat → Nat) (MI : Nat → Nat → Int32) (ML : Nat → Nat → Int64) (MV : Nat → Int32) (b most : Nat) (W : List Rw) (hM : MH o h m ad MI ML MV) (hb : b < 26) (hmost : most ≤ 24) (hW : WL MI ML MV W) (hnd : NdK W) : Mt l o yMD_settle cMD_settle 7 (some .boolean) ({ frames := 1, cells := 0, slots := 0, locals := 22 } : Room) [.ref m, .int (nI b), .int (nI most)] h (QI o (fun r h' => r = b01 (fitB most (srtW W)) ∧ SetP o h h' m ad MI ML MV b (srtW W) (fitB most (srtW W)))) (0) (0) := by
  refine Met.ofV (by decide) (Nat.le_of_ble_eq_true rfl) (fun K hl ho C => ?_)
  subst hl; subst ho
  obtain ⟨hw1, hw2, hw3⟩ := hW
  have hinner : ∀ (h1 : AH) (MI1 : Nat → Nat → Int32) (ML1 : Nat → Nat → Int64) (k : Nat) (r : Rw), MH (Ko K) h1 m ad MI1 ML1 MV → BSame b MI MI1 ML ML1 → W[k]? = some r → (nz W).length ≤ 24 → V K h1 0 0 (EndQ K (QI (Ko K) (fun r h' => r = b01 (fitB most (srtW W)) ∧ SetP (Ko K) h h' m ad MI ML MV b (srtW W) (fitB most (srtW W)))) 0 0) 149 [(0, .ref m), (1, .int (nI b)), (2, .int (nI most)), (3, .int (nI (nz W).length)), (4, .int (nI k)), (5, .int (nI (b * 24 + cntK (nz W) (kz r.1))))] [] → ∀ (q j : Nat), W.length - j = q → j ≤ W.length → V K h1 0 0 (EndQ K (QI (Ko K) (fun r h' => r = b01 (fitB most (srtW W)) ∧ SetP (Ko K) h h' m ad MI ML MV b (srtW W) (fitB most (srtW W)))) 0 0) 108 [(0, .ref m), (1, .int (nI b)), (2, .int (nI most)), (3, .int (nI (nz W).length)), (4, .int (nI k)), (5, .int (nI (b * 24 + cntK (nz (W.take j)) (kz r.1)))), (6, .int (nI j))] [] := by
    intro h1 MI1 ML1 k r hM1 hS1 hr hl24 kk q
    obtain ⟨r5, r6, r7, r8⟩ := hw3 k r hr
    have hkl := (List.getElem?_eq_some_iff.mp hr).1
    have s5 := hS1.1 5 (by decide) (by decide) (by decide) (by decide)
    have s6 := hS1.1 6 (by decide) (by decide) (by decide) (by decide)
    have s7 := hS1.1 7 (by decide) (by decide) (by decide) (by decide)
    induction q using Nat.strongRecOn with
    | _ q ih =>
      intro j hm hj
      refine r_iload (n := 110) C dMD_settle_108 rfl rfl ?_
      refine r_aload_n (n := 111) C dMD_settle_110 rfl rfl ?_
      refine r_get (ci := 10) (n := 114) C hinMD rfl 9 (by decide) tw_544 rfl dMD_settle_111 rfl hM1.1 rfl ?_
      refine V.eqi hw1 ?_
      refine r_icmp_ge (tgt := 149) (n := 117) C dMD_settle_114 (by decide) rfl (fun c_114 => ?_) (fun c_114 => ?_)
      · have hie : j = W.length := by have := (nI_leI (a := W.length) (b := j) (by omega) (by omega)).mp c_114; omega
        subst hie
        rw [List.take_length]
        refine V.byk (ls' := [(0, .ref m), (1, .int (nI b)), (2, .int (nI most)), (3, .int (nI (nz W).length)), (4, .int (nI k)), (5, .int (nI (b * 24 + cntK (nz W) (kz r.1))))]) rfl ?_
        exact kk
      · have hlt : j < W.length := by
          rcases Nat.lt_or_ge j W.length with q | q
          · exact q
          · exact absurd (nI_le (a := W.length) (b := j) q (by omega)) c_114
        obtain ⟨q0, hq0⟩ : ∃ q0, W[j]? = some q0 := ⟨_, List.getElem?_eq_getElem hlt⟩
        obtain ⟨f5, f6, f7, f8⟩ := hw3 j q0 hq0
        refine r_aload_n (n := 118) C dMD_settle_117 rfl rfl ?_
        refine r_get (ci := 10) (n := 121) C hinMD rfl 8 (by decide) tw_543 rfl dMD_settle_118 rfl hM1.1 rfl ?_
        refine r_iload (n := 123) C dMD_settle_121 rfl rfl ?_
        refine r_laldM (n := 124) C dMD_settle_123 rfl hM1 8 (by decide) j rfl (by show _ < 600; omega) ?_
        rw [hS1.2.1, f8]
        refine r_lconst (v := 0) (n := 125) C dMD_settle_124 rfl (by decide) ?_
        refine r_lcmp (n := 126) C dMD_settle_125 rfl ?_
        refine r_if_eq (tgt := 143) (n := 129) C dMD_settle_126 (by decide) rfl (fun c_126 => ?_) (fun c_126 => ?_)
        · have hno : ¬ (q0.2 ≠ 0 ∧ kz q0.1 < kz r.1) := fun z => z.1 ((lg_cmp_eq _ _).mp c_126)
          refine r_iinc (n := 146) C dMD_settle_143 rfl rfl (nI_i j) (by decide) ?_
          refine r_goto (tgt := 108) C dMD_settle_146 (by decide) ?_
          refine V.byk (ls' := [(0, .ref m), (1, .int (nI b)), (2, .int (nI most)), (3, .int (nI (nz W).length)), (4, .int (nI k)), (5, .int (nI (b * 24 + cntK (nz (W.take j)) (kz r.1)))), (6, .int (nI (j + 1)))]) rfl ?_
          have h9 := ih _ (by omega) (j + 1) rfl (by omega)
          rw [cntK_take hq0, if_neg (fun z => hno z), Nat.add_zero] at h9
          exact h9
        · have hz : q0.2 ≠ 0 := fun e => c_126 ((lg_cmp_eq _ _).mpr e)
          refine r_aload_n (n := 130) C dMD_settle_129 rfl rfl ?_
          refine r_iload (n := 132) C dMD_settle_130 rfl rfl ?_
          refine r_iload (n := 134) C dMD_settle_132 rfl rfl ?_
          refine r_ci (n := 137) (rn_V (z := 2) (ci := 10) (T := TMD) C (c_MD_before (Kl K) (Ko K) h1 m ad MI1 ML1 MV j k q0 r hM1 (by omega) (by omega) (by rw [s5]; exact f5) (by rw [s6]; exact f6) (by rw [s7]; exact f7) (by rw [s5]; exact r5) (by rw [s6]; exact r6) (by rw [s7]; exact r7)) tw_650 tw_652 ts_31 tw_4 tw_653 rfl rfl ndMD_before ⟨Nat.le_of_ble_eq_true rfl, Nat.le_of_ble_eq_true rfl⟩ hM1.1 rfl rfl rfl (Nat.le_of_ble_eq_true rfl) dMD_settle_134 ⟨Nat.le_of_ble_eq_true rfl, Nat.le_of_ble_eq_true rfl⟩) rfl (fun x ah hq => ?_)
          obtain ⟨e1, e2⟩ := hq
          subst e1
          rw [e2]
          refine r_if_eq (tgt := 143) (n := 140) C dMD_settle_137 (by decide) rfl (fun c_137 => ?_) (fun c_137 => ?_)
          · have hno : ¬ (q0.2 ≠ 0 ∧ kz q0.1 < kz r.1) := fun z => by have := b01_f c_137; rw [decide_eq_true z.2] at this; cases this
            refine r_iinc (n := 146) C dMD_settle_143 rfl rfl (nI_i j) (by decide) ?_
            refine r_goto (tgt := 108) C dMD_settle_146 (by decide) ?_
            refine V.byk (ls' := [(0, .ref m), (1, .int (nI b)), (2, .int (nI most)), (3, .int (nI (nz W).length)), (4, .int (nI k)), (5, .int (nI (b * 24 + cntK (nz (W.take j)) (kz r.1)))), (6, .int (nI (j + 1)))]) rfl ?_
            have h9 := ih _ (by omega) (j + 1) rfl (by omega)
            rw [cntK_take hq0, if_neg (fun z => hno z), Nat.add_zero] at h9
            exact h9
          · have hb0 : kz q0.1 < kz r.1 := of_decide_eq_true (b01_t c_137)
            refine r_iinc (n := 143) C dMD_settle_140 rfl rfl (nI_i _) (by decide) ?_
            refine r_iinc (n := 146) C dMD_settle_143 rfl rfl (nI_i j) (by decide) ?_
            refine r_goto (tgt := 108) C dMD_settle_146 (by decide) ?_
            refine V.byk (ls' := [(0, .ref m), (1, .int (nI b)), (2, .int (nI most)), (3, .int (nI (nz W).length)), (4, .int (nI k)), (5, .int (nI (b * 24 + cntK (nz (W.take j)) (kz r.1) + 1))), (6, .int (nI (j + 1)))]) rfl ?_
            have h9 := ih _ (by omega) (j + 1) rfl (by omega)
            rw [cntK_take hq0, if_pos ⟨hz, hb0⟩, ← Nat.add_assoc] at h9
            exact h9
  have hfl : fitB most (srtW W) = true → (nz W).length ≤ most := fun e => by rw [fit_srtW hnd] at e; simp only [Bool.and_eq_true, decide_eq_true_eq] at e; exact e.1
  have loop2 : fitB most (srtW W) = true → ∀ (q k : Nat) (h1 : AH) (MI1 : Nat → Nat → Int32) (ML1 : Nat → Nat → Int64), W.length - k = q → k ≤ W.length → MH (Ko K) h1 m ad MI1 ML1 MV → BSame b MI MI1 ML ML1 → Frm (mown m ad) h h1 → (∀ p ∈ nz (W.take k), Enc4 MI1 ML1 (b * 24 + cntK (srtW W) (kz p.1)) p) → V K h1 0 0 (EndQ K (QI (Ko K) (fun r h' => r = b01 (fitB most (srtW W)) ∧ SetP (Ko K) h h' m ad MI ML MV b (srtW W) (fitB most (srtW W)))) 0 0) 75 [(0, .ref m), (1, .int (nI b)), (2, .int (nI most)), (3, .int (nI (nz W).length)), (4, .int (nI k))] [] := by
    intro hfit q
    have hl24 := hfl hfit
    induction q using Nat.strongRecOn with
    | _ q ih =>
      intro k h1 MI1 ML1 hm hk hM1 hS1 hF1 henc
      refine r_iload (n := 77) C dMD_settle_75 rfl rfl ?_
      refine r_aload_n (n := 78) C dMD_settle_77 rfl rfl ?_
      refine r_get (ci := 10) (n := 81) C hinMD rfl 9 (by decide) tw_544 rfl dMD_settle_78 rfl hM1.1 rfl ?_
      refine V.eqi hw1 ?_
      refine r_icmp_ge (tgt := 211) (n := 84) C dMD_settle_81 (by decide) rfl (fun c_81 => ?_) (fun c_81 => ?_)
      · have hie : k = W.length := by have := (nI_leI (a := W.length) (b := k) (by omega) (by omega)).mp c_81; omega
        refine r_aload_n (n := 212) C dMD_settle_211 rfl rfl ?_
        refine r_get (ci := 10) (n := 215) C hinMD rfl 4 (by decide) tw_539 rfl dMD_settle_212 rfl hM1.1 rfl ?_
        refine r_iload_n (n := 216) C dMD_settle_215 rfl rfl ?_
        refine r_iload_n (n := 217) C dMD_settle_216 rfl rfl ?_
        refine r_iastM (n := 218) C dMD_settle_217 rfl hM1 4 (by decide) b rfl (by show _ < 26; omega) (fun h2 hM2 hF2 => ?_)
        refine r_iconst (v := 1) (n := 219) C dMD_settle_218 rfl (by decide) ?_
        exact r_zret C dMD_settle_219 rfl (Nat.le_refl _) (Nat.le_refl _) ⟨by rw [hfit]; rfl, _, _, hM2, ⟨fun j h0 h1 h2 h4 => by rw [va_up_ne _ _ h4]; exact hS1.1 j h0 h1 h2 h4, hS1.2.1, hS1.2.2.1, fun c hc => by show upd (MI1 4) b _ c = _; rw [pk_un hc]; exact hS1.2.2.2 c hc⟩, fun _ => ⟨by show upd (MI1 4) b _ b = _; rw [pk_us, srtW_len hnd], by rw [srtW_len hnd]; omega, fun i p hp => by
                  have h9 := henc p (by rw [hie, List.take_length]; exact srtW_mem hnd p (List.mem_of_getElem? hp))
                  rw [cntK_at (srtW_srt W) hp] at h9
                  exact h9⟩, (fun e => by rw [hfit] at e; cases e), hF1.tr hF2⟩
      · have hlt : k < W.length := by
          rcases Nat.lt_or_ge k W.length with q | q
          · exact q
          · exact absurd (nI_le (a := W.length) (b := k) q (by omega)) c_81
        obtain ⟨r, hr⟩ : ∃ r, W[k]? = some r := ⟨_, List.getElem?_eq_getElem hlt⟩
        obtain ⟨r5, r6, r7, r8⟩ := hw3 k r hr
        have s5 := hS1.1 5 (by decide) (by decide) (by decide) (by decide)
        have s6 := hS1.1 6 (by decide) (by decide) (by decide) (by decide)
        have s7 := hS1.1 7 (by decide) (by decide) (by decide) (by decide)
        refine r_aload_n (n := 85) C dMD_settle_84 rfl rfl ?_
        refine r_get (ci := 10) (n := 88) C hinMD rfl 8 (by decide) tw_543 rfl dMD_settle_85 rfl hM1.1 rfl ?_
        refine r_iload (n := 90) C dMD_settle_88 rfl rfl ?_
        refine r_laldM (n := 91) C dMD_settle_90 rfl hM1 8 (by decide) k rfl (by show _ < 600; omega) ?_
        rw [hS1.2.1, r8]
        refine r_lconst (v := 0) (n := 92) C dMD_settle_91 rfl (by decide) ?_
        refine r_lcmp (n := 93) C dMD_settle_92 rfl ?_
        refine r_if_ne (tgt := 99) (n := 96) C dMD_settle_93 (by decide) rfl (fun c_93 => ?_) (fun c_93 => ?_)
        · have hz : ¬ r.2 = 0 := fun e => c_93 ((lg_cmp_eq _ _).mpr e)
          have hnt := nz_take hr
          rw [if_neg hz] at hnt
          obtain ⟨ci, hci⟩ := List.getElem?_of_mem (nz_in hnd (List.mem_of_getElem? hr) hz)
          have hcc : cntK (nz W) (kz r.1) = cntK (srtW W) (kz r.1) := (filter_srtW hnd _).symm
          have hcs := cntK_at (srtW_srt W) hci
          have hcl := (List.getElem?_eq_some_iff.mp hci).1
          rw [srtW_len hnd] at hcl
          have hpos : cntK (nz W) (kz r.1) < 24 := by omega
          refine r_iload_n (n := 100) C dMD_settle_99 rfl rfl ?_
          refine r_bipush (v := 24) (n := 102) C dMD_settle_100 rfl (by decide) ?_
          refine r_imul (n := 103) C dMD_settle_102 rfl ?_
          refine V.eqi (x24 b) ?_
          refine r_istore (n := 105) C dMD_settle_103 rfl (by decide) ?_
          refine r_iconst (v := 0) (n := 106) C dMD_settle_105 rfl (by decide) ?_
          refine r_istore (n := 108) C dMD_settle_106 rfl (by decide) ?_
          refine V.byk (ls' := [(0, .ref m), (1, .int (nI b)), (2, .int (nI most)), (3, .int (nI (nz W).length)), (4, .int (nI k)), (5, .int (nI (b * 24 + cntK (nz (W.take 0)) (kz r.1)))), (6, .int (nI 0))]) rfl ?_
          refine hinner h1 MI1 ML1 k r hM1 hS1 hr (by omega) ?_ _ 0 rfl (Nat.zero_le _)
          refine r_aload_n (n := 150) C dMD_settle_149 rfl rfl ?_
          refine r_get (ci := 10) (n := 153) C hinMD rfl 0 (by decide) tw_535 rfl dMD_settle_150 rfl hM1.1 rfl ?_
          refine r_iload (n := 155) C dMD_settle_153 rfl rfl ?_
          refine r_aload_n (n := 156) C dMD_settle_155 rfl rfl ?_
          refine r_get (ci := 10) (n := 159) C hinMD rfl 5 (by decide) tw_540 rfl dMD_settle_156 rfl hM1.1 rfl ?_
          refine r_iload (n := 161) C dMD_settle_159 rfl rfl ?_
          refine r_ialdM (n := 162) C dMD_settle_161 rfl hM1 5 (by decide) k rfl (by show _ < 600; omega) ?_
          rw [s5, r5]
          refine r_iastM (n := 163) C dMD_settle_162 rfl hM1 0 (by decide) (b * 24 + cntK (nz W) (kz r.1)) rfl (by show _ < 624; omega) (fun h2 hM2 hF2 => ?_)
          refine r_aload_n (n := 164) C dMD_settle_163 rfl rfl ?_
          refine r_get (ci := 10) (n := 167) C hinMD rfl 1 (by decide) tw_536 rfl dMD_settle_164 rfl hM2.1 rfl ?_
          refine r_iload (n := 169) C dMD_settle_167 rfl rfl ?_
          refine r_aload_n (n := 170) C dMD_settle_169 rfl rfl ?_
          refine r_get (ci := 10) (n := 173) C hinMD rfl 6 (by decide) tw_541 rfl dMD_settle_170 rfl hM2.1 rfl ?_
          refine r_iload (n := 175) C dMD_settle_173 rfl rfl ?_
          refine r_ialdM (n := 176) C dMD_settle_175 rfl hM2 6 (by decide) k rfl (by show _ < 600; omega) ?_
          refine V.eqi (y := r.1.2.1) (by show MI1 6 k = _; rw [s6, r6]) ?_
          refine r_iastM (n := 177) C dMD_settle_176 rfl hM2 1 (by decide) (b * 24 + cntK (nz W) (kz r.1)) rfl (by show _ < 624; omega) (fun h3 hM3 hF3 => ?_)
          refine r_aload_n (n := 178) C dMD_settle_177 rfl rfl ?_
          refine r_get (ci := 10) (n := 181) C hinMD rfl 2 (by decide) tw_537 rfl dMD_settle_178 rfl hM3.1 rfl ?_
          refine r_iload (n := 183) C dMD_settle_181 rfl rfl ?_
          refine r_aload_n (n := 184) C dMD_settle_183 rfl rfl ?_
          refine r_get (ci := 10) (n := 187) C hinMD rfl 7 (by decide) tw_542 rfl dMD_settle_184 rfl hM3.1 rfl ?_
          refine r_iload (n := 189) C dMD_settle_187 rfl rfl ?_
          refine r_ialdM (n := 190) C dMD_settle_189 rfl hM3 7 (by decide) k rfl (by show _ < 600; omega) ?_
          refine V.eqi (y := r.1.2.2) (by show MI1 7 k = _; rw [s7, r7]) ?_
          refine r_iastM (n := 191) C dMD_settle_190 rfl hM3 2 (by decide) (b * 24 + cntK (nz W) (kz r.1)) rfl (by show _ < 624; omega) (fun h4 hM4 hF4 => ?_)
          refine r_aload_n (n := 192) C dMD_settle_191 rfl rfl ?_
          refine r_get (ci := 10) (n := 195) C hinMD rfl 3 (by decide) tw_538 rfl dMD_settle_192 rfl hM4.1 rfl ?_
          refine r_iload (n := 197) C dMD_settle_195 rfl rfl ?_
          refine r_aload_n (n := 198) C dMD_settle_197 rfl rfl ?_
          refine r_get (ci := 10) (n := 201) C hinMD rfl 8 (by decide) tw_543 rfl dMD_settle_198 rfl hM4.1 rfl ?_
          refine r_iload (n := 203) C dMD_settle_201 rfl rfl ?_
          refine r_laldM (n := 204) C dMD_settle_203 rfl hM4 8 (by decide) k rfl (by show _ < 600; omega) ?_
          refine V.eql (y := r.2) (by show ML1 8 k = _; rw [hS1.2.1, r8]) ?_
          refine r_lastM (n := 205) C dMD_settle_204 rfl hM4 3 (by decide) (b * 24 + cntK (nz W) (kz r.1)) rfl (by show _ < 624; omega) (fun h5 hM5 hF5 => ?_)
          refine r_iinc (n := 208) C dMD_settle_205 rfl rfl (nI_i k) (by decide) ?_
          refine r_goto (tgt := 75) C dMD_settle_208 (by decide) ?_
          refine V.byk (ls' := [(0, .ref m), (1, .int (nI b)), (2, .int (nI most)), (3, .int (nI (nz W).length)), (4, .int (nI (k + 1)))]) rfl ?_
          have hS2 : BSame b MI (va_up (va_up (va_up MI1 0 (upd (MI1 0) (b * 24 + cntK (nz W) (kz r.1)) r.1.1)) 1 (upd (MI1 1) (b * 24 + cntK (nz W) (kz r.1)) r.1.2.1)) 2 (upd (MI1 2) (b * 24 + cntK (nz W) (kz r.1)) r.1.2.2)) ML (va_up ML1 3 (vp_updL (ML1 3) (b * 24 + cntK (nz W) (kz r.1)) r.2)) := by
            refine ⟨fun j h0 h1 h2 h4 => by rw [va_up_ne _ _ h2, va_up_ne _ _ h1, va_up_ne _ _ h0]; exact hS1.1 j h0 h1 h2 h4, hS1.2.1, fun p hp => ?_, fun c hc => hS1.2.2.2 c hc⟩
            obtain ⟨g0, g1, g2, g3⟩ := hS1.2.2.1 p hp
            show upd (MI1 0) _ _ p = _ ∧ upd (MI1 1) _ _ p = _ ∧ upd (MI1 2) _ _ p = _ ∧ vp_updL (ML1 3) _ _ p = _
            rw [pk_un (by omega), pk_un (by omega), pk_un (by omega), pk_uLn (by omega)]
            exact ⟨g0, g1, g2, g3⟩
          refine ih _ (by omega) (k + 1) h5 _ _ rfl (by omega) hM5 hS2 ((((hF1.tr hF2).tr hF3).tr hF4).tr hF5) (fun p hp => ?_)
          show upd (MI1 0) _ _ _ = _ ∧ upd (MI1 1) _ _ _ = _ ∧ upd (MI1 2) _ _ _ = _ ∧ vp_updL (ML1 3) _ _ _ = _
          rw [hnt] at hp
          rcases List.mem_append.mp hp with hp | hp
          · obtain ⟨g0, g1, g2, g3⟩ := henc p hp
            have hpm := (nz_mem.mp hp)
            obtain ⟨jp, hjp⟩ := List.getElem?_of_mem hpm.1
            have hjl := (List.getElem?_eq_some_iff.mp hjp).1
            rw [List.length_take] at hjl
            rw [List.getElem?_take_of_lt (by omega)] at hjp
            obtain ⟨cp, hcp⟩ := List.getElem?_of_mem (nz_in hnd (List.mem_of_getElem? hjp) hpm.2)
            have hcps := cntK_at (srtW_srt W) hcp
            have hne : cntK (srtW W) (kz p.1) ≠ cntK (nz W) (kz r.1) := fun e => by
              rw [hcps, hcc, hcs] at e
              subst e
              rw [hcp] at hci
              cases hci
              obtain ⟨l1, e1⟩ := List.getElem?_eq_some_iff.mp hjp
              obtain ⟨l2, e2⟩ := List.getElem?_eq_some_iff.mp hr
              exact (List.pairwise_iff_getElem.mp hnd jp k l1 l2 (by omega)) (by rw [e1, e2])
            rw [pk_un (by omega), pk_un (by omega), pk_un (by omega), pk_uLn (by omega)]
            exact ⟨g0, g1, g2, g3⟩
          · have hpr : p = r := by simpa using hp
            subst hpr
            rw [← hcc, pk_us, pk_us, pk_us, pk_uLs]
            exact ⟨rfl, rfl, rfl, rfl⟩
        · have hz : r.2 = 0 := (lg_cmp_eq _ _).mp c_93
          have hnt := nz_take hr
          rw [if_pos hz, List.append_nil] at hnt
          refine r_goto (tgt := 205) C dMD_settle_96 (by decide) ?_
          refine r_iinc (n := 208) C dMD_settle_205 rfl rfl (nI_i k) (by decide) ?_
          refine r_goto (tgt := 75) C dMD_settle_208 (by decide) ?_
          refine V.byk (ls' := [(0, .ref m), (1, .int (nI b)), (2, .int (nI most)), (3, .int (nI (nz W).length)), (4, .int (nI (k + 1)))]) rfl ?_
          exact ih _ (by omega) (k + 1) h1 MI1 ML1 rfl (by omega) hM1 hS1 hF1 (by rw [hnt]; exact henc)
  have loop1 : ∀ (q k n : Nat), W.length - k = q → k ≤ W.length → n = (nz (W.take k)).length → (W.take k).all (fun r => okW r.2) = true → V K h 0 0 (EndQ K (QI (Ko K) (fun r h' => r = b01 (fitB most (srtW W)) ∧ SetP (Ko K) h h' m ad MI ML MV b (srtW W) (fitB most (srtW W)))) 0 0) 5 [(0, .ref m), (1, .int (nI b)), (2, .int (nI most)), (3, .int (nI n)), (4, .int (nI k))] [] := by
    intro q
    induction q using Nat.strongRecOn with
    | _ q ih =>
      intro k n hm hk hnn hall
      refine r_iload (n := 7) C dMD_settle_5 rfl rfl ?_
      refine r_aload_n (n := 8) C dMD_settle_7 rfl rfl ?_
      refine r_get (ci := 10) (n := 11) C hinMD rfl 9 (by decide) tw_544 rfl dMD_settle_8 rfl hM.1 rfl ?_
      refine V.eqi hw1 ?_
      refine r_icmp_ge (tgt := 65) (n := 14) C dMD_settle_11 (by decide) rfl (fun c_11 => ?_) (fun c_11 => ?_)
      · have hie : k = W.length := by have := (nI_leI (a := W.length) (b := k) (by omega) (by omega)).mp c_11; omega
        rw [hie, List.take_length] at hnn hall
        subst hnn
        have hnl2 : (nz W).length ≤ W.length := List.length_filter_le _ _
        refine r_iload_n (n := 66) C dMD_settle_65 rfl rfl ?_
        refine r_iload_n (n := 67) C dMD_settle_66 rfl rfl ?_
        refine r_icmp_le (tgt := 72) (n := 70) C dMD_settle_67 (by decide) rfl (fun c_67 => ?_) (fun c_67 => ?_)
        · have hle : (nz W).length ≤ most := (nI_leI (by omega) (by omega)).mp c_67
          have hfit : fitB most (srtW W) = true := by rw [fit_srtW hnd, hall, decide_eq_true hle]; rfl
          refine r_iconst (v := 0) (n := 73) C dMD_settle_72 rfl (by decide) ?_
          refine r_istore (n := 75) C dMD_settle_73 rfl (by decide) ?_
          refine V.byk (ls' := [(0, .ref m), (1, .int (nI b)), (2, .int (nI most)), (3, .int (nI (nz W).length)), (4, .int (nI 0))]) rfl ?_
          exact loop2 hfit _ 0 h MI ML rfl (Nat.zero_le _) hM BSame.rf Frm.rf (fun p hp => by cases hp)
        · have hle : ¬ (nz W).length ≤ most := fun e => c_67 (nI_le e (by omega))
          have hz : fitB most (srtW W) = false := by rw [fit_srtW hnd, decide_eq_false hle]; rfl
          refine r_iconst (v := 0) (n := 71) C dMD_settle_70 rfl (by decide) ?_
          exact r_zret C dMD_settle_71 rfl (Nat.le_refl _) (Nat.le_refl _) ⟨by rw [hz]; rfl, MI, ML, hM, BSame.rf, (fun e => by rw [hz] at e; cases e), (fun _ => ⟨rfl, rfl⟩), Frm.rf⟩
      · have hlt : k < W.length := by
          rcases Nat.lt_or_ge k W.length with q | q
          · exact q
          · exact absurd (nI_le (a := W.length) (b := k) q (by omega)) c_11
        obtain ⟨r, hr⟩ : ∃ r, W[k]? = some r := ⟨_, List.getElem?_eq_getElem hlt⟩
        obtain ⟨r5, r6, r7, r8⟩ := hw3 k r hr
        have hnt := nz_take hr
        have hnl : n ≤ k := by rw [hnn]; exact nz_len
        refine r_aload_n (n := 15) C dMD_settle_14 rfl rfl ?_
        refine r_get (ci := 10) (n := 18) C hinMD rfl 8 (by decide) tw_543 rfl dMD_settle_15 rfl hM.1 rfl ?_
        refine r_iload (n := 20) C dMD_settle_18 rfl rfl ?_
        refine r_laldM (n := 21) C dMD_settle_20 rfl hM 8 (by decide) k rfl (by show _ < 600; omega) ?_
        rw [r8]
        refine r_ldc2 (n := 24) C tw_648 dMD_settle_21 rfl ?_
        refine r_lcmp (n := 25) C dMD_settle_24 rfl ?_
        refine r_if_gt (tgt := 42) (n := 28) C dMD_settle_25 (by decide) rfl (fun c_25 => ?_) (fun c_25 => ?_)
        · have hz0 : okW r.2 = false := by unfold okW; rw [decide_eq_false (Int64.not_le.mpr ((lg_cmp_gt _ _).mp c_25)), Bool.false_and]
          have hz : fitB most (srtW W) = false := by rw [fit_srtW hnd, show W.all (fun r => okW r.2) = false from Bool.eq_false_iff.mpr (fun e => by have := List.all_eq_true.mp e r (List.mem_of_getElem? hr); rw [hz0] at this; cases this), Bool.and_false]
          refine r_iconst (v := 0) (n := 43) C dMD_settle_42 rfl (by decide) ?_
          exact r_zret C dMD_settle_43 rfl (Nat.le_refl _) (Nat.le_refl _) ⟨by rw [hz]; rfl, MI, ML, hM, BSame.rf, (fun e => by rw [hz] at e; cases e), (fun _ => ⟨rfl, rfl⟩), Frm.rf⟩
        · have hy1 : r.2 ≤ 1000000 := Int64.not_lt.mp (fun e => c_25 ((lg_cmp_gt _ _).mpr e))
          refine r_aload_n (n := 29) C dMD_settle_28 rfl rfl ?_
          refine r_get (ci := 10) (n := 32) C hinMD rfl 8 (by decide) tw_543 rfl dMD_settle_29 rfl hM.1 rfl ?_
          refine r_iload (n := 34) C dMD_settle_32 rfl rfl ?_
          refine r_laldM (n := 35) C dMD_settle_34 rfl hM 8 (by decide) k rfl (by show _ < 600; omega) ?_
          rw [r8]
          refine r_ldc2 (n := 38) C tw_649 dMD_settle_35 rfl ?_
          refine r_lcmp (n := 39) C dMD_settle_38 rfl ?_
          refine r_if_ge (tgt := 44) (n := 42) C dMD_settle_39 (by decide) rfl (fun c_39 => ?_) (fun c_39 => ?_)
          · have hy2 : -1000000 ≤ r.2 := (lg_cmp_ge _ _).mp c_39
            have hal2 : (W.take (k + 1)).all (fun r => okW r.2) = true := by rw [all_take hr, hall]; simp [okW, hy1, hy2]
            refine r_aload_n (n := 45) C dMD_settle_44 rfl rfl ?_
            refine r_get (ci := 10) (n := 48) C hinMD rfl 8 (by decide) tw_543 rfl dMD_settle_45 rfl hM.1 rfl ?_
            refine r_iload (n := 50) C dMD_settle_48 rfl rfl ?_
            refine r_laldM (n := 51) C dMD_settle_50 rfl hM 8 (by decide) k rfl (by show _ < 600; omega) ?_
            rw [r8]
            refine r_lconst (v := 0) (n := 52) C dMD_settle_51 rfl (by decide) ?_
            refine r_lcmp (n := 53) C dMD_settle_52 rfl ?_
            refine r_if_eq (tgt := 59) (n := 56) C dMD_settle_53 (by decide) rfl (fun c_53 => ?_) (fun c_53 => ?_)
            · have hz : r.2 = 0 := (lg_cmp_eq _ _).mp c_53
              rw [if_pos hz, List.append_nil] at hnt
              refine r_iinc (n := 62) C dMD_settle_59 rfl rfl (nI_i k) (by decide) ?_
              refine r_goto (tgt := 5) C dMD_settle_62 (by decide) ?_
              refine V.byk (ls' := [(0, .ref m), (1, .int (nI b)), (2, .int (nI most)), (3, .int (nI n)), (4, .int (nI (k + 1)))]) rfl ?_
              exact ih _ (by omega) (k + 1) n rfl (by omega) (by rw [hnt]; exact hnn) hal2
            · have hz : ¬ r.2 = 0 := fun e => c_53 ((lg_cmp_eq _ _).mpr e)
              rw [if_neg hz] at hnt
              refine r_iinc (n := 59) C dMD_settle_56 rfl rfl (nI_i n) (by decide) ?_
              refine r_iinc (n := 62) C dMD_settle_59 rfl rfl (nI_i k) (by decide) ?_
              refine r_goto (tgt := 5) C dMD_settle_62 (by decide) ?_
              refine V.byk (ls' := [(0, .ref m), (1, .int (nI b)), (2, .int (nI most)), (3, .int (nI (n + 1))), (4, .int (nI (k + 1)))]) rfl ?_
              exact ih _ (by omega) (k + 1) (n + 1) rfl (by omega) (by rw [hnt, List.length_append, ← hnn]; rfl) hal2
          · have hz0 : okW r.2 = false := by unfold okW; rw [decide_eq_false (p := -1000000 ≤ r.2) (fun e => c_39 ((lg_cmp_ge _ _).mpr e)), Bool.and_false]
            have hz : fitB most (srtW W) = false := by rw [fit_srtW hnd, show W.all (fun r => okW r.2) = false from Bool.eq_false_iff.mpr (fun e => by have := List.all_eq_true.mp e r (List.mem_of_getElem? hr); rw [hz0] at this; cases this), Bool.and_false]
            refine r_iconst (v := 0) (n := 43) C dMD_settle_42 rfl (by decide) ?_
            exact r_zret C dMD_settle_43 rfl (Nat.le_refl _) (Nat.le_refl _) ⟨by rw [hz]; rfl, MI, ML, hM, BSame.rf, (fun e => by rw [hz] at e; cases e), (fun _ => ⟨rfl, rfl⟩), Frm.rf⟩
  refine r_iconst (v := 0) (n := 1) C dMD_settle_0 rfl (by decide) ?_
  refine r_istore_n (n := 2) C dMD_settle_1 rfl (by decide) ?_
  refine r_iconst (v := 0) (n := 3) C dMD_settle_2 rfl (by decide) ?_
  refine r_istore (n := 5) C dMD_settle_3 rfl (by decide) ?_
  refine V.byk (ls' := [(0, .ref m), (1, .int (nI b)), (2, .int (nI most)), (3, .int (nI 0)), (4, .int (nI 0))]) rfl ?_
  exact loop1 _ 0 0 rfl (Nat.zero_le _) rfl rfl
