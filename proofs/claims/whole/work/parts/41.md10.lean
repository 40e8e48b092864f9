/-! THE REFERENCE: step -/
def MSc (MI : Nat → Nat → Int32) (MV : Nat → Int32) (S : Sx) : Prop := MV 13 = nI S.2.2.2.length ∧ PLm MI MV S.2.1 ∧ MRl MI S.2.2.2
theorem MSc.keep {MI MI' : Nat → Nat → Int32} {MV MV' : Nat → Int32} {S : Sx} (h : MSc MI MV S) (hi : ∀ j, 10 ≤ j → j ≠ 12 → MI' j = MI j) (hv : ∀ j, j ≠ 9 → MV' j = MV j) : MSc MI' MV' S :=
  ⟨(hv 13 (by decide)).trans h.1, h.2.1.keep (fun j h14 h18 => hi j (by omega) (by omega)) (hv 19 (by decide)), h.2.2.keep (fun j _ => by rw [hi 10 (by decide) (by decide)]) (fun p _ => by rw [hi 11 (by decide) (by decide)])⟩
def MBl (MI : Nat → Nat → Int32) (ML : Nat → Nat → Int64) (S : Sx) : Prop := (∀ i, i < 3 + S.2.2.2.length → BL MI ML i (S.1 i)) ∧ ∀ c, c < 26 → ∃ L, BL MI ML c L
theorem MBl.ws {MI MI' : Nat → Nat → Int32} {ML ML' : Nat → Nat → Int64} {MV MV' : Nat → Int32} {S : Sx} (h : MBl MI ML S) (s : WSame MI MI' ML ML' MV MV') : MBl MI' ML' S :=
  ⟨fun i hi => (h.1 i hi).same s, fun c hc => (h.2 c hc).imp (fun _ hL => hL.same s)⟩
theorem MBl.bs {b : Nat} {MI MI' : Nat → Nat → Int32} {ML ML' : Nat → Nat → Int64} {S : Sx} (h : MBl MI ML S) (s : BSame b MI MI' ML ML') (hb : 3 + S.2.2.2.length ≤ b) {L : List Rw} (hL : BL MI' ML' b L) : MBl MI' ML' S :=
  ⟨fun i hi => (h.1 i hi).bsame s (by omega), fun c hc => by
    by_cases e : c = b
    · subst e; exact ⟨L, hL⟩
    · exact (h.2 c hc).imp (fun _ hL => hL.bsame s e)⟩
theorem MBl.es {b : Nat} {MI MI' : Nat → Nat → Int32} {ML ML' : Nat → Nat → Int64} {MV MV' : Nat → Int32} {S : Sx} (h : MBl MI ML S) (s : ESame b MI MI' ML ML' MV MV') (hb : 3 + S.2.2.2.length ≤ b) {L : List Rw} (hL : BL MI' ML' b L) : MBl MI' ML' S :=
  ⟨fun i hi => (h.1 i hi).esame s (by omega), fun c hc => by
    by_cases e : c = b
    · subst e; exact ⟨L, hL⟩
    · exact (h.2 c hc).imp (fun _ hL => hL.esame s e)⟩
theorem BL.eqs {c : Nat} {MI MI' : Nat → Nat → Int32} {ML ML' : Nat → Nat → Int64} {L : List Rw} (h : BL MI ML c L) (n : MI' 0 = MI 0 ∧ MI' 1 = MI 1 ∧ MI' 2 = MI 2 ∧ MI' 4 = MI 4 ∧ ML' 3 = ML 3) : BL MI' ML' c L := by
  obtain ⟨n0, n1, n2, n4, n3⟩ := n
  exact ⟨by rw [n4]; exact h.1, h.2.1, fun k r hr => by rw [n0, n1, n2, n3]; exact h.2.2 k r hr⟩
theorem MBl.eqs {MI MI' : Nat → Nat → Int32} {ML ML' : Nat → Nat → Int64} {S : Sx} (h : MBl MI ML S) (n : MI' 0 = MI 0 ∧ MI' 1 = MI 1 ∧ MI' 2 = MI 2 ∧ MI' 4 = MI 4 ∧ ML' 3 = ML 3) : MBl MI' ML' S :=
  ⟨fun i hi => (h.1 i hi).eqs n, fun c hc => (h.2 c hc).imp (fun _ hL => hL.eqs n)⟩
theorem MS.ofc {o : Om} {h : AH} {m : Nat} {ad : Nat → Nat} {MI : Nat → Nat → Int32} {ML : Nat → Nat → Int64} {MV : Nat → Int32} {S : Sx} (hM : MH o h m ad MI ML MV) (c : MSc MI MV S) (b : MBl MI ML S) (hn : S.2.2.2.length ≤ 10) (hcf : ∀ j, j < S.2.2.2.length → MI 12 j = S.2.2.1 j) : MS o h m ad S :=
  ⟨MI, ML, MV, hM, c.1, hn, b.1, c.2.1, c.2.2, hcf, b.2⟩
theorem lt3 {t : Nat} (h : t < 3) : t = 0 ∨ t = 1 ∨ t = 2 := by omega
theorem negA_fM {Ls : Nat → List Rw} {pl : List Pn} (h : ∀ t, t < 3 → negT Ls pl t = false) : negA Ls pl = false := by
  unfold negA; rw [h 0 (by decide), h 1 (by decide), h 2 (by decide)]; rfl
theorem negA_tM {Ls : Nat → List Rw} {pl : List Pn} {t : Nat} (ht : t < 3) (h : negT Ls pl t = true) : negA Ls pl = true := by
  unfold negA; rcases lt3 ht with e | e | e <;> subst e <;> rw [h] <;> simp
theorem fitA_tM {Ls : Nat → List Rw} {pl : List Pn} (h : ∀ t, t < 3 → fitB 12 (newT Ls pl t) = true) : fitA Ls pl = true := by
  unfold fitA; rw [h 0 (by decide), h 1 (by decide), h 2 (by decide)]; rfl
theorem fitA_fM {Ls : Nat → List Rw} {pl : List Pn} {t : Nat} (ht : t < 3) (h : fitB 12 (newT Ls pl t) = false) : fitA Ls pl = false := by
  unfold fitA; rcases lt3 ht with e | e | e <;> subst e <;> rw [h] <;> simp
theorem nwS_si {Rl : List Ru} {b : Nat → List Rw} (hok : ∀ (j : Nat) (R : Ru), Rl[j]? = some R → rok (3 + j) R) (hb : ∀ i, i < 3 → Srt (b i) ∧ ∀ r ∈ b i, r.2 ≠ 0) : ∀ j, j ≤ Rl.length → ∀ i, i < 3 + j → Srt (nwS Rl b j i) ∧ ∀ r ∈ nwS Rl b j i, r.2 ≠ 0
  | 0, _ => hb
  | j + 1, hj => fun i hi => by
    have ih := nwS_si hok hb j (by omega)
    obtain ⟨R, hR⟩ : ∃ R, Rl[j]? = some R := ⟨_, List.getElem?_eq_getElem (by omega)⟩
    rw [nwS_s hR]; unfold updL
    by_cases e : i = 3 + j
    · rw [if_pos e]
      exact ⟨nz_srt (rfill_srt13 (hok j R hR) (fun i hi => (ih i hi).1)), fun r hr => (nz_mem.mp hr).2⟩
    · rw [if_neg e]; exact ih i (by omega)
set_option maxHeartbeats 4000000 in
set_option maxRecDepth 100000 in
/-- step -/
theorem c_MD_step (l : Launch) (o : Om) (h : AH) (m : Nat) (ad : Nat → Nat) (S : Sx) (hs : MS o h m ad S) (pi : PI S) : Mt l o yMD_step cMD_step 3 (some .int) ({ frames := 4, cells := 0, slots := 0, locals := 108 } : Room) [.ref m] h (QI o (fun r h' => r = (stpS S).1 ∧ MUp o h h' m ad (stpS S).2)) (0) (0) := by
  refine Met.ofV (by decide) (Nat.le_of_ble_eq_true rfl) (fun K hl ho C => ?_)
  subst hl; subst ho
  obtain ⟨MI, ML, MV, hM, hnd, hn10, hBL, hPL, hRL, hcf, hall⟩ := id hs
  have hc0 : MSc MI MV S := ⟨hnd, hPL, hRL⟩
  have hb0 : MBl MI ML S := ⟨hBL, hall⟩
  have hse : ∀ t, t < 3 → srtW (addQ (nI t) (S.1 t) S.2.1) = newT S.1 S.2.1 t ∧ NdK (addQ (nI t) (S.1 t) S.2.1) ∧ (addQ (nI t) (S.1 t) S.2.1).any (fun r => decide (r.2 < 0)) = negT S.1 S.2.1 t := fun t ht => by
    have h1 := addQ_wt (t := nI t) (L := S.1 t) (W := S.1 t) S.2.1 (pi.srt t (by omega)) (srt_nd (pi.srt t (by omega))) (fun _ => rfl)
    have h2 := addP_srt (t := nI t) S.2.1 (pi.srt t (by omega))
    exact ⟨settle_eq h2 h1.2 h1.1, h1.2, (neg_eq h2 h1.2 h1.1).symm⟩
  have hnew : ∀ i, i < 3 + S.2.2.2.length → Srt (newS S i) ∧ ∀ r ∈ newS S i, r.2 ≠ 0 := nwS_si (fun j R hR => (hRL j R hR).2) (fun i hi => ⟨nz_srt (addP_srt _ (pi.srt i (by omega))), fun r hr => (nz_mem.mp hr).2⟩) _ (Nat.le_refl _)
  obtain ⟨b, hb⟩ : ∃ b, b = newT S.1 S.2.1 := ⟨_, rfl⟩
  have loopE : stpS S = (nI (dsum (newS S) S.1 S.2.2.2.length), (newS S, [], cfN (newS S) S.1 S.2.2.2.length S.2.2.1, S.2.2.2)) → ∀ (q k : Nat) (h1 : AH) (MI1 : Nat → Nat → Int32) (ML1 : Nat → Nat → Int64) (MV1 : Nat → Int32), 13 - k = q → k ≤ 13 → MH (Ko K) h1 m ad MI1 ML1 MV1 → MSc MI1 MV1 S → Frm (mown m ad) h h1 → (∀ j, j < S.2.2.2.length → MI1 12 j = nI (diffs (newS S (3 + j)) (S.1 (3 + j)))) → (∀ c, c < 26 → ∃ L, BL MI1 ML1 c L) → (∀ i, i < 3 + S.2.2.2.length → BL MI1 ML1 (13 + i) (newS S i)) → (∀ i, i < k → i < 3 + S.2.2.2.length → BL MI1 ML1 i (newS S i)) → V K h1 0 0 (EndQ K (QI (Ko K) (fun r h' => r = (stpS S).1 ∧ MUp (Ko K) h h' m ad (stpS S).2)) 0 0) 150 [(0, .ref m), (1, .int (nI (dsum (newS S) S.1 S.2.2.2.length))), (2, .int (nI k))] [] := by
    intro hpre q
    induction q using Nat.strongRecOn with
    | _ q ih =>
      intro k h1 MI1 ML1 MV1 hq hk hM1 hc1 hF1 h12 hal hN hO
      refine r_iload_n (n := 151) C dMD_step_150 rfl rfl ?_
      refine r_bipush (v := 13) (n := 153) C dMD_step_151 rfl (by decide) ?_
      refine r_icmp_ge (tgt := 167) (n := 156) C dMD_step_153 (by decide) rfl (fun c_153 => ?_) (fun c_153 => ?_)
      · have hie : k = 13 := by have := (nI_leI (a := 13) (b := k) (by omega) (by omega)).mp c_153; omega
        refine r_aload_n (n := 168) C dMD_step_167 rfl rfl ?_
        refine r_iconst (v := 0) (n := 169) C dMD_step_168 rfl (by decide) ?_
        refine r_put (ci := 10) (n := 172) C hinMD tyMD okMD nmMD rfl 19 (by decide) tw_554 rfl rfl (okMD 19 (by decide)) rfl rfl dMD_step_169 rfl hM1.1 (Nat.le_of_ble_eq_true rfl) ?_
        refine V.setV hM1 19 (by decide) _ rfl (fun h2 hM2 hF2 => ?_)
        refine r_iload_n (n := 173) C dMD_step_172 rfl rfl ?_
        exact r_iret C dMD_step_173 (Nat.le_refl _) (Nat.le_refl _) ⟨by rw [hpre], by
                  rw [hpre]
                  refine ⟨MS.ofc hM2 ⟨hc1.1, ⟨rfl, Nat.zero_le _, fun i e he => by simp at he⟩, hc1.2.2⟩ ⟨fun i hi => hO i (by have : i < 3 + S.2.2.2.length := hi; omega) hi, hal⟩ hn10 (fun j hj => ?_), hF1.tr hF2⟩
                  have hj : j < S.2.2.2.length := hj
                  show MI1 12 j = cfN (newS S) S.1 S.2.2.2.length S.2.2.1 j
                  unfold cfN
                  rw [if_pos hj]; exact h12 j hj⟩
      · have hlt : k < 13 := by
          rcases Nat.lt_or_ge k 13 with q | q
          · exact q
          · exact absurd (nI_le (a := 13) (b := k) q (by omega)) c_153
        obtain ⟨L, hL, hLn⟩ : ∃ L, BL MI1 ML1 (k + 13) L ∧ (k < 3 + S.2.2.2.length → L = newS S k) := by
          by_cases e : k < 3 + S.2.2.2.length
          · exact ⟨_, by rw [Nat.add_comm]; exact hN k e, fun _ => rfl⟩
          · obtain ⟨L, hL⟩ := hal (k + 13) (by omega)
            exact ⟨L, hL, fun z => absurd z e⟩
        refine r_aload_n (n := 157) C dMD_step_156 rfl rfl ?_
        refine r_iload_n (n := 158) C dMD_step_157 rfl rfl ?_
        refine r_cv (n := 161) (rn_V (z := 1) (ci := 10) (T := TMD) C (c_MD_adopt (Kl K) (Ko K) h1 m ad MI1 ML1 MV1 k L hM1 (by omega) hL) tw_698 tw_700 ts_35 tw_4 tw_701 rfl rfl ndMD_adopt ⟨Nat.le_of_ble_eq_true rfl, Nat.le_of_ble_eq_true rfl⟩ hM1.1 rfl rfl rfl (Nat.le_of_ble_eq_true rfl) dMD_step_158 ⟨Nat.le_of_ble_eq_true rfl, Nat.le_of_ble_eq_true rfl⟩) rfl (fun h2 hq2 => ?_)
        obtain ⟨MI2, ML2, hM2, hS2, hB2, hF2⟩ := hq2
        refine r_iinc (n := 164) C dMD_step_161 rfl rfl (nI_i _) (by decide) ?_
        refine r_goto (tgt := 150) C dMD_step_164 (by decide) ?_
        refine V.byk (ls' := [(0, .ref m), (1, .int (nI (dsum (newS S) S.1 S.2.2.2.length))), (2, .int (nI (k + 1)))]) rfl ?_
        refine ih _ (by omega) (k + 1) h2 MI2 ML2 MV1 rfl (by omega) hM2 (hc1.keep (fun j h10 _ => hS2.1 j (by omega) (by omega) (by omega) (by omega)) (fun _ _ => rfl)) (hF1.tr hF2) (fun j hj => ?_) (fun c hc => ?_) (fun i hi => ?_) (fun i hi hi2 => ?_)
        · rw [hS2.1 12 (by decide) (by decide) (by decide) (by decide)]; exact h12 j hj
        · by_cases e : c = k
          · subst e; exact ⟨L, hB2⟩
          · exact (hal c hc).imp (fun _ z => z.bsame hS2 e)
        · exact (hN i hi).bsame hS2 (by omega)
        · by_cases e : i = k
          · subst e; rw [← hLn hi2]; exact hB2
          · exact (hO i (by omega) hi2).bsame hS2 e
  have loopD : stpS S = (nI (dsum (newS S) S.1 S.2.2.2.length), (newS S, [], cfN (newS S) S.1 S.2.2.2.length S.2.2.1, S.2.2.2)) → ∀ (q j : Nat) (h1 : AH) (MI1 : Nat → Nat → Int32) (ML1 : Nat → Nat → Int64) (MV1 : Nat → Int32), S.2.2.2.length - j = q → j ≤ S.2.2.2.length → MH (Ko K) h1 m ad MI1 ML1 MV1 → MSc MI1 MV1 S → Frm (mown m ad) h h1 → (∀ i, i < j → MI1 12 i = nI (diffs (newS S (3 + i)) (S.1 (3 + i)))) → MBl MI1 ML1 S → (∀ i, i < 3 + S.2.2.2.length → BL MI1 ML1 (13 + i) (newS S i)) → V K h1 0 0 (EndQ K (QI (Ko K) (fun r h' => r = (stpS S).1 ∧ MUp (Ko K) h h' m ad (stpS S).2)) 0 0) 114 [(0, .ref m), (1, .int (nI (dsum (newS S) S.1 j))), (2, .int (nI j))] [] := by
    intro hpre q
    induction q using Nat.strongRecOn with
    | _ q ih =>
      intro j h1 MI1 ML1 MV1 hq hj hM1 hc1 hF1 h12 hb1 hN
      have hnd1 := hc1.1
      refine r_iload_n (n := 115) C dMD_step_114 rfl rfl ?_
      refine r_aload_n (n := 116) C dMD_step_115 rfl rfl ?_
      refine r_get (ci := 10) (n := 119) C hinMD rfl 13 (by decide) tw_548 rfl dMD_step_116 rfl hM1.1 rfl ?_
      refine V.eqi hnd1 ?_
      refine r_icmp_ge (tgt := 148) (n := 122) C dMD_step_119 (by decide) rfl (fun c_119 => ?_) (fun c_119 => ?_)
      · have hie : j = S.2.2.2.length := by have := (nI_leI (a := S.2.2.2.length) (b := j) (by omega) (by omega)).mp c_119; omega
        refine r_iconst (v := 0) (n := 149) C dMD_step_148 rfl (by decide) ?_
        refine r_istore_n (n := 150) C dMD_step_149 rfl (by decide) ?_
        subst hie
        refine V.byk (ls' := [(0, .ref m), (1, .int (nI (dsum (newS S) S.1 S.2.2.2.length))), (2, .int (nI 0))]) rfl ?_
        exact loopE hpre _ 0 h1 MI1 ML1 MV1 rfl (by omega) hM1 hc1 hF1 h12 hb1.2 hN (fun i hi => absurd hi (Nat.not_lt_zero _))
      · have hlt : j < S.2.2.2.length := by
          rcases Nat.lt_or_ge j S.2.2.2.length with q | q
          · exact q
          · exact absurd (nI_le (a := S.2.2.2.length) (b := j) q (by omega)) c_119
        refine r_aload_n (n := 123) C dMD_step_122 rfl rfl ?_
        refine r_get (ci := 10) (n := 126) C hinMD rfl 12 (by decide) tw_547 rfl dMD_step_123 rfl hM1.1 rfl ?_
        refine r_iload_n (n := 127) C dMD_step_126 rfl rfl ?_
        refine r_aload_n (n := 128) C dMD_step_127 rfl rfl ?_
        refine r_iload_n (n := 129) C dMD_step_128 rfl rfl ?_
        refine r_ci (n := 132) (rn_V (z := 1) (ci := 10) (T := TMD) C (c_MD_differing (Kl K) (Ko K) h1 m ad MI1 ML1 MV1 j (S.1 (3 + j)) (newS S (3 + j)) hM1 (by omega) (hb1.1 (3 + j) (by omega)) (by rw [show 16 + j = 13 + (3 + j) by omega]; exact hN (3 + j) (by omega))) tw_690 tw_692 ts_33 tw_4 tw_693 rfl rfl ndMD_differing ⟨Nat.le_of_ble_eq_true rfl, Nat.le_of_ble_eq_true rfl⟩ hM1.1 rfl rfl rfl (Nat.le_of_ble_eq_true rfl) dMD_step_129 ⟨Nat.le_of_ble_eq_true rfl, Nat.le_of_ble_eq_true rfl⟩) rfl (fun y ah hq2 => ?_)
        rw [diffs_comm (pi _ (by omega)).1 (hnew _ (by omega)).1 (pi _ (by omega)).2 (hnew _ (by omega)).2] at hq2
        obtain ⟨e1, e2⟩ := hq2
        subst e1
        subst e2
        refine r_iastM (n := 133) C dMD_step_132 rfl hM1 12 (by decide) j rfl (by show _ < 10; omega) (fun h2 hM2 hF2 => ?_)
        refine r_iload_n (n := 134) C dMD_step_133 rfl rfl ?_
        refine r_aload_n (n := 135) C dMD_step_134 rfl rfl ?_
        refine r_get (ci := 10) (n := 138) C hinMD rfl 12 (by decide) tw_547 rfl dMD_step_135 rfl hM2.1 rfl ?_
        refine r_iload_n (n := 139) C dMD_step_138 rfl rfl ?_
        refine r_ialdM (n := 140) C dMD_step_139 rfl hM2 12 (by decide) j rfl (by show _ < 10; omega) ?_
        refine V.eqi (y := nI (diffs (newS S (3 + j)) (S.1 (3 + j)))) pk_us ?_
        refine r_iadd (n := 141) C dMD_step_140 rfl ?_
        refine V.eqi (nI_add _ _) ?_
        refine r_istore_n (n := 142) C dMD_step_141 rfl (by decide) ?_
        refine r_iinc (n := 145) C dMD_step_142 rfl rfl (nI_i _) (by decide) ?_
        refine r_goto (tgt := 114) C dMD_step_145 (by decide) ?_
        refine V.byk (ls' := [(0, .ref m), (1, .int (nI (dsum (newS S) S.1 (j + 1)))), (2, .int (nI (j + 1)))]) rfl ?_
        refine ih _ (by omega) (j + 1) h2 _ ML1 MV1 rfl (by omega) hM2 (hc1.keep (fun k _ h12 => va_up_ne _ _ h12) (fun _ _ => rfl)) (hF1.tr hF2) (fun i hi => ?_) hb1 hN
        show upd (MI1 12) _ _ i = _
        by_cases e : i = j
        · subst e; rw [pk_us]
        · rw [pk_un e]; exact h12 i (by omega)
  have loopC : negA S.1 S.2.1 = false → fitA S.1 S.2.1 = true → ∀ (q j : Nat) (h1 : AH) (MI1 : Nat → Nat → Int32) (ML1 : Nat → Nat → Int64) (MV1 : Nat → Int32), S.2.2.2.length - j = q → j ≤ S.2.2.2.length → MH (Ko K) h1 m ad MI1 ML1 MV1 → MSc MI1 MV1 S → Frm (mown m ad) h h1 → MI1 12 = MI 12 → MBl MI1 ML1 S → (∀ i, i < 3 + j → BL MI1 ML1 (13 + i) (nwS S.2.2.2 b j i)) → nwOK S.2.2.2 b j = true → V K h1 0 0 (EndQ K (QI (Ko K) (fun r h' => r = (stpS S).1 ∧ MUp (Ko K) h h' m ad (stpS S).2)) 0 0) 83 [(0, .ref m), (1, .int (nI j))] [] := by
    intro hneg hfit q
    induction q using Nat.strongRecOn with
    | _ q ih =>
      intro j h1 MI1 ML1 MV1 hq hj hM1 hc1 hF1 h12 hb1 hN hok1
      have hnd1 := hc1.1
      refine r_iload_n (n := 84) C dMD_step_83 rfl rfl ?_
      refine r_aload_n (n := 85) C dMD_step_84 rfl rfl ?_
      refine r_get (ci := 10) (n := 88) C hinMD rfl 13 (by decide) tw_548 rfl dMD_step_85 rfl hM1.1 rfl ?_
      refine V.eqi hnd1 ?_
      refine r_icmp_ge (tgt := 110) (n := 91) C dMD_step_88 (by decide) rfl (fun c_88 => ?_) (fun c_88 => ?_)
      · have hie : j = S.2.2.2.length := by have := (nI_leI (a := S.2.2.2.length) (b := j) (by omega) (by omega)).mp c_88; omega
        refine r_iconst (v := 0) (n := 111) C dMD_step_110 rfl (by decide) ?_
        refine r_istore_n (n := 112) C dMD_step_111 rfl (by decide) ?_
        refine r_iconst (v := 0) (n := 113) C dMD_step_112 rfl (by decide) ?_
        refine r_istore_n (n := 114) C dMD_step_113 rfl (by decide) ?_
        subst hie
        have hpre : stpS S = (nI (dsum (newS S) S.1 S.2.2.2.length), (newS S, [], cfN (newS S) S.1 S.2.2.2.length S.2.2.1, S.2.2.2)) := by
          unfold stpS; rw [if_neg (by rw [hneg]; decide), if_neg (by rw [hfit]; decide), if_neg (by rw [← hb, hok1]; decide)]
        refine V.byk (ls' := [(0, .ref m), (1, .int (nI (dsum (newS S) S.1 0))), (2, .int (nI 0))]) rfl ?_
        exact loopD hpre _ 0 h1 MI1 ML1 MV1 rfl (by omega) hM1 hc1 hF1 (fun i hi => absurd hi (Nat.not_lt_zero _)) hb1 (fun i hi => by have := hN i hi; rw [hb] at this; exact this)
      · have hlt : j < S.2.2.2.length := by
          rcases Nat.lt_or_ge j S.2.2.2.length with q | q
          · exact q
          · exact absurd (nI_le (a := S.2.2.2.length) (b := j) q (by omega)) c_88
        obtain ⟨R, hR⟩ : ∃ R, S.2.2.2[j]? = some R := ⟨_, List.getElem?_eq_getElem hlt⟩
        obtain ⟨hAr, hrok⟩ := hc1.2.2 j R hR
        have hsi := nwS_si (b := b) (fun j R hR => (hRL j R hR).2) (fun i hi => by rw [hb]; exact ⟨nz_srt (addP_srt _ (pi.srt i (by omega))), fun r hr => (nz_mem.mp hr).2⟩) j hj
        have hev := ev_wt hrok (by omega) (fun i hi => (hsi i hi).1)
        have hse2 := settle_eq (rfill_srt13 hrok (fun i hi => (hsi i hi).1)) hev.2 hev.1
        refine r_aload_n (n := 92) C dMD_step_91 rfl rfl ?_
        refine r_iload_n (n := 93) C dMD_step_92 rfl rfl ?_
        refine r_bipush (v := 13) (n := 95) C dMD_step_93 rfl (by decide) ?_
        refine r_ci (n := 98) (rn_V (z := 2) (ci := 10) (T := TMD) C (c_MD_evaluate (Kl K) (Ko K) h1 m ad MI1 ML1 MV1 j 13 R (nwS S.2.2.2 b j) hM1 (by omega) (by omega) hAr hrok hN) tw_608 tw_610 ts_21 tw_4 tw_611 rfl rfl ndMD_evaluate ⟨Nat.le_of_ble_eq_true rfl, Nat.le_of_ble_eq_true rfl⟩ hM1.1 rfl rfl rfl (Nat.le_of_ble_eq_true rfl) dMD_step_95 ⟨Nat.le_of_ble_eq_true rfl, Nat.le_of_ble_eq_true rfl⟩) rfl (fun y h2 hq2 => ?_)
        rw [hse2] at hq2
        obtain ⟨e1, MI2, ML2, MV2, hM2, hE2, hB2, hN2, hF2⟩ := hq2
        subst e1
        have hc2 : MSc MI2 MV2 S := hc1.keep (fun k h10 _ => hE2.1 k (by omega) (by omega) (by omega) (by omega) (by omega) (by omega) (by omega)) hE2.2.2.2
        have h122 : MI2 12 = MI 12 := (hE2.1 12 (by decide) (by decide) (by decide) (by decide) (by decide) (by decide) (by decide)).trans h12
        refine r_if_ne (tgt := 104) (n := 101) C dMD_step_98 (by decide) rfl (fun c_98 => ?_) (fun c_98 => ?_)
        · have hz : fitB 24 (nz (rfill R (nwS S.2.2.2 b j))) = true := b01_t c_98
          refine r_iinc (n := 107) C dMD_step_104 rfl rfl (nI_i j) (by decide) ?_
          refine r_goto (tgt := 83) C dMD_step_107 (by decide) ?_
          refine V.byk (ls' := [(0, .ref m), (1, .int (nI (j + 1)))]) rfl ?_
          refine ih _ (by omega) (j + 1) h2 MI2 ML2 MV2 rfl (by omega) hM2 hc2 (hF1.tr hF2) h122 (hb1.es hE2 (by omega) (hB2 hz)) (fun i hi => ?_) ?_
          · rw [nwS_s hR]; unfold updL
            by_cases e : i = 3 + j
            · rw [if_pos e, e, show 13 + (3 + j) = 13 + 3 + j by omega]; exact hB2 hz
            · rw [if_neg e]; exact (hN i (by omega)).esame hE2 (by omega)
          · rw [nwOK_s hR, hok1, hz]; rfl
        · have hz : fitB 24 (nz (rfill R (nwS S.2.2.2 b j))) = false := b01_f c_98
          have hok2 : nwOK S.2.2.2 b (j + 1) = false := by rw [nwOK_s hR, hok1, hz]; rfl
          have hpre : stpS S = (-2, S) := by unfold stpS; rw [if_neg (by rw [hneg]; decide), if_neg (by rw [hfit]; decide), if_pos (by rw [← hb]; exact nwOK_f hok2 (by omega))]
          refine r_bipush (v := -2) (n := 103) C dMD_step_101 rfl (by decide) ?_
          exact r_iret C dMD_step_103 (Nat.le_refl _) (Nat.le_refl _) ⟨by rw [hpre], by rw [hpre]; exact ⟨MS.ofc hM2 hc2 (hb1.eqs (hN2 hz)) hn10 (fun i hi => by rw [h122]; exact hcf i hi), hF1.tr hF2⟩⟩
  have loopB : negA S.1 S.2.1 = false → ∀ (q t : Nat) (h1 : AH) (MI1 : Nat → Nat → Int32) (ML1 : Nat → Nat → Int64) (MV1 : Nat → Int32), 3 - t = q → t ≤ 3 → MH (Ko K) h1 m ad MI1 ML1 MV1 → MSc MI1 MV1 S → Frm (mown m ad) h h1 → MI1 12 = MI 12 → MBl MI1 ML1 S → (∀ i, i < t → BL MI1 ML1 (13 + i) (newT S.1 S.2.1 i) ∧ fitB 12 (newT S.1 S.2.1 i) = true) → V K h1 0 0 (EndQ K (QI (Ko K) (fun r h' => r = (stpS S).1 ∧ MUp (Ko K) h h' m ad (stpS S).2)) 0 0) 49 [(0, .ref m), (1, .int (nI t))] [] := by
    intro hneg q
    induction q using Nat.strongRecOn with
    | _ q ih =>
      intro t h1 MI1 ML1 MV1 hq ht hM1 hc1 hF1 h12 hb1 hN
      refine r_iload_n (n := 50) C dMD_step_49 rfl rfl ?_
      refine r_iconst (v := 3) (n := 51) C dMD_step_50 rfl (by decide) ?_
      refine r_icmp_ge (tgt := 81) (n := 54) C dMD_step_51 (by decide) rfl (fun c_51 => ?_) (fun c_51 => ?_)
      · have hie : t = 3 := by have := (nI_leI (a := 3) (b := t) (by omega) (by omega)).mp c_51; omega
        refine r_iconst (v := 0) (n := 82) C dMD_step_81 rfl (by decide) ?_
        refine r_istore_n (n := 83) C dMD_step_82 rfl (by decide) ?_
        subst hie
        refine V.byk (ls' := [(0, .ref m), (1, .int (nI 0))]) rfl ?_
        exact loopC hneg (fitA_tM (fun i hi => (hN i hi).2)) _ 0 h1 MI1 ML1 MV1 rfl (by omega) hM1 hc1 hF1 h12 hb1 (fun i hi => by rw [hb]; exact (hN i hi).1) rfl
      · have hlt : t < 3 := by
          rcases Nat.lt_or_ge t 3 with q | q
          · exact q
          · exact absurd (nI_le (a := 3) (b := t) q (by omega)) c_51
        refine r_aload_n (n := 55) C dMD_step_54 rfl rfl ?_
        refine r_iload_n (n := 56) C dMD_step_55 rfl rfl ?_
        refine r_cv (n := 59) (rn_V (z := 1) (ci := 10) (T := TMD) C (c_MD_workTable (Kl K) (Ko K) h1 m ad MI1 ML1 MV1 t (S.1 t) S.2.1 hM1 (by omega) (hb1.1 t (by omega)) hc1.2.1) tw_686 tw_688 ts_32 tw_4 tw_689 rfl rfl ndMD_workTable ⟨Nat.le_of_ble_eq_true rfl, Nat.le_of_ble_eq_true rfl⟩ hM1.1 rfl rfl rfl (Nat.le_of_ble_eq_true rfl) dMD_step_56 ⟨Nat.le_of_ble_eq_true rfl, Nat.le_of_ble_eq_true rfl⟩) rfl (fun h2 hq2 => ?_)
        rw [uT_fold0 (pi.srt t (by omega))] at hq2
        obtain ⟨MI2, ML2, MV2, hM2, hW2, hS2, hF2⟩ := hq2
        obtain ⟨hs1, hs2, hs3⟩ := hse t hlt
        have hc2 : MSc MI2 MV2 S := hc1.keep (fun k h10 _ => hS2.1 k (by omega) (by omega) (by omega)) hS2.2.2
        have hb2 := hb1.ws hS2
        have h122 : MI2 12 = MI 12 := (hS2.1 12 (by decide) (by decide) (by decide)).trans h12
        refine r_aload_n (n := 60) C dMD_step_59 rfl rfl ?_
        refine r_bipush (v := 13) (n := 62) C dMD_step_60 rfl (by decide) ?_
        refine r_iload_n (n := 63) C dMD_step_62 rfl rfl ?_
        refine r_iadd (n := 64) C dMD_step_63 rfl ?_
        refine V.eqi (nI_add 13 t) ?_
        refine r_bipush (v := 12) (n := 66) C dMD_step_64 rfl (by decide) ?_
        refine r_ci (n := 69) (rn_V (z := 2) (ci := 10) (T := TMD) C (c_MD_settle (Kl K) (Ko K) h2 m ad MI2 ML2 MV2 (13 + t) 12 _ hM2 (by omega) (by omega) hW2 hs2) tw_644 tw_646 ts_30 tw_4 tw_647 rfl rfl ndMD_settle ⟨Nat.le_of_ble_eq_true rfl, Nat.le_of_ble_eq_true rfl⟩ hM2.1 rfl rfl rfl (Nat.le_of_ble_eq_true rfl) dMD_step_66 ⟨Nat.le_of_ble_eq_true rfl, Nat.le_of_ble_eq_true rfl⟩) rfl (fun y h3 hq3 => ?_)
        rw [hs1] at hq3
        obtain ⟨e1, MI3, ML3, hM3, hS3, hB3, hN3, hF3⟩ := hq3
        subst e1
        have hc3 : MSc MI3 MV2 S := hc2.keep (fun k h10 _ => hS3.1 k (by omega) (by omega) (by omega) (by omega)) (fun _ _ => rfl)
        have h123 : MI3 12 = MI 12 := (hS3.1 12 (by decide) (by decide) (by decide) (by decide)).trans h122
        refine r_if_ne (tgt := 75) (n := 72) C dMD_step_69 (by decide) rfl (fun c_69 => ?_) (fun c_69 => ?_)
        · have hz : fitB 12 (newT S.1 S.2.1 t) = true := b01_t c_69
          refine r_iinc (n := 78) C dMD_step_75 rfl rfl (nI_i t) (by decide) ?_
          refine r_goto (tgt := 49) C dMD_step_78 (by decide) ?_
          refine V.byk (ls' := [(0, .ref m), (1, .int (nI (t + 1)))]) rfl ?_
          refine ih _ (by omega) (t + 1) h3 MI3 ML3 MV2 rfl (by omega) hM3 hc3 ((hF1.tr hF2).tr hF3) h123 ?_ (fun i hi => ?_)
          · refine ⟨fun i hi => (hb2.1 i hi).bsame hS3 (by omega), fun c hc => ?_⟩
            by_cases e : c = 13 + t
            · subst e; exact ⟨_, hB3 hz⟩
            · exact (hb2.2 c hc).imp (fun _ z => z.bsame hS3 e)
          · by_cases e : i = t
            · subst e; exact ⟨hB3 hz, hz⟩
            · exact ⟨((hN i (by omega)).1.same hS2).bsame hS3 (by omega), (hN i (by omega)).2⟩
        · have hz : fitB 12 (newT S.1 S.2.1 t) = false := b01_f c_69
          have hpre : stpS S = (-2, S) := by unfold stpS; rw [if_neg (by rw [hneg]; decide), if_pos (fitA_fM hlt hz)]
          obtain ⟨n1, n2⟩ := hN3 hz
          subst n1
          subst n2
          refine r_bipush (v := -2) (n := 74) C dMD_step_72 rfl (by decide) ?_
          exact r_iret C dMD_step_74 (Nat.le_refl _) (Nat.le_refl _) ⟨by rw [hpre], by rw [hpre]; exact ⟨MS.ofc hM3 hc3 hb2 hn10 (fun i hi => by rw [h123]; exact hcf i hi), (hF1.tr hF2).tr hF3⟩⟩
  have loopI : ∀ (t : Nat) (h2 : AH) (MI2 : Nat → Nat → Int32) (ML2 : Nat → Nat → Int64) (MV2 : Nat → Int32) (W : List Rw), MH (Ko K) h2 m ad MI2 ML2 MV2 → WL MI2 ML2 MV2 W → (W.any (fun r => decide (r.2 < 0)) = true → V K h2 0 0 (EndQ K (QI (Ko K) (fun r h' => r = (stpS S).1 ∧ MUp (Ko K) h h' m ad (stpS S).2)) 0 0) 33 [(0, .ref m), (1, .int (nI t))] []) → (W.any (fun r => decide (r.2 < 0)) = false → V K h2 0 0 (EndQ K (QI (Ko K) (fun r h' => r = (stpS S).1 ∧ MUp (Ko K) h h' m ad (stpS S).2)) 0 0) 41 [(0, .ref m), (1, .int (nI t))] []) → ∀ (q i : Nat), W.length - i = q → i ≤ W.length → (W.take i).any (fun r => decide (r.2 < 0)) = false → V K h2 0 0 (EndQ K (QI (Ko K) (fun r h' => r = (stpS S).1 ∧ MUp (Ko K) h h' m ad (stpS S).2)) 0 0) 14 [(0, .ref m), (1, .int (nI t)), (2, .int (nI i))] [] := by
    intro t h2 MI2 ML2 MV2 W hM2 hW2 kT kF q
    obtain ⟨hw1, hw2, hw3⟩ := hW2
    induction q using Nat.strongRecOn with
    | _ q ih =>
      intro i hq hi hno
      refine r_iload_n (n := 15) C dMD_step_14 rfl rfl ?_
      refine r_aload_n (n := 16) C dMD_step_15 rfl rfl ?_
      refine r_get (ci := 10) (n := 19) C hinMD rfl 9 (by decide) tw_544 rfl dMD_step_16 rfl hM2.1 rfl ?_
      refine V.eqi hw1 ?_
      refine r_icmp_ge (tgt := 41) (n := 22) C dMD_step_19 (by decide) rfl (fun c_19 => ?_) (fun c_19 => ?_)
      · have hie : i = W.length := by have := (nI_leI (a := W.length) (b := i) (by omega) (by omega)).mp c_19; omega
        refine V.byk (ls' := [(0, .ref m), (1, .int (nI t))]) rfl ?_
        exact kF (by rw [hie, List.take_length] at hno; exact hno)
      · have hlt : i < W.length := by
          rcases Nat.lt_or_ge i W.length with q | q
          · exact q
          · exact absurd (nI_le (a := W.length) (b := i) q (by omega)) c_19
        obtain ⟨r, hr⟩ : ∃ r, W[i]? = some r := ⟨_, List.getElem?_eq_getElem hlt⟩
        obtain ⟨v0, v1, v2, v3⟩ := hw3 i r hr
        refine r_aload_n (n := 23) C dMD_step_22 rfl rfl ?_
        refine r_get (ci := 10) (n := 26) C hinMD rfl 8 (by decide) tw_543 rfl dMD_step_23 rfl hM2.1 rfl ?_
        refine r_iload_n (n := 27) C dMD_step_26 rfl rfl ?_
        refine r_laldM (n := 28) C dMD_step_27 rfl hM2 8 (by decide) i rfl (by show _ < 600; omega) ?_
        refine V.eql v3 ?_
        refine r_lconst (v := 0) (n := 29) C dMD_step_28 rfl (by decide) ?_
        refine r_lcmp (n := 30) C dMD_step_29 rfl ?_
        refine r_if_ge (tgt := 35) (n := 33) C dMD_step_30 (by decide) rfl (fun c_30 => ?_) (fun c_30 => ?_)
        · refine r_iinc (n := 38) C dMD_step_35 rfl rfl (nI_i i) (by decide) ?_
          refine r_goto (tgt := 14) C dMD_step_38 (by decide) ?_
          refine V.byk (ls' := [(0, .ref m), (1, .int (nI t)), (2, .int (nI (i + 1)))]) rfl ?_
          exact ih _ (by omega) (i + 1) rfl (by omega) (by rw [any_take hr, hno, decide_eq_false (Int64.not_lt.mpr ((lg_cmp_ge _ _).mp c_30))]; rfl)
        · refine V.byk (ls' := [(0, .ref m), (1, .int (nI t))]) rfl ?_
          exact kT (List.any_eq_true.mpr ⟨r, List.mem_of_getElem? hr, decide_eq_true (Int64.not_le.mp (fun z => c_30 ((lg_cmp_ge _ _).mpr z)))⟩)
  have loopA : ∀ (q t : Nat) (h1 : AH) (MI1 : Nat → Nat → Int32) (ML1 : Nat → Nat → Int64) (MV1 : Nat → Int32), 3 - t = q → t ≤ 3 → MH (Ko K) h1 m ad MI1 ML1 MV1 → MSc MI1 MV1 S → Frm (mown m ad) h h1 → MI1 12 = MI 12 → MBl MI1 ML1 S → (∀ i, i < t → negT S.1 S.2.1 i = false) → V K h1 0 0 (EndQ K (QI (Ko K) (fun r h' => r = (stpS S).1 ∧ MUp (Ko K) h h' m ad (stpS S).2)) 0 0) 2 [(0, .ref m), (1, .int (nI t))] [] := by
    intro q
    induction q using Nat.strongRecOn with
    | _ q ih =>
      intro t h1 MI1 ML1 MV1 hq ht hM1 hc1 hF1 h12 hb1 hN
      refine r_iload_n (n := 3) C dMD_step_2 rfl rfl ?_
      refine r_iconst (v := 3) (n := 4) C dMD_step_3 rfl (by decide) ?_
      refine r_icmp_ge (tgt := 47) (n := 7) C dMD_step_4 (by decide) rfl (fun c_4 => ?_) (fun c_4 => ?_)
      · have hie : t = 3 := by have := (nI_leI (a := 3) (b := t) (by omega) (by omega)).mp c_4; omega
        refine r_iconst (v := 0) (n := 48) C dMD_step_47 rfl (by decide) ?_
        refine r_istore_n (n := 49) C dMD_step_48 rfl (by decide) ?_
        subst hie
        refine V.byk (ls' := [(0, .ref m), (1, .int (nI 0))]) rfl ?_
        exact loopB (negA_fM hN) _ 0 h1 MI1 ML1 MV1 rfl (by omega) hM1 hc1 hF1 h12 hb1 (fun i hi => absurd hi (Nat.not_lt_zero _))
      · have hlt : t < 3 := by
          rcases Nat.lt_or_ge t 3 with q | q
          · exact q
          · exact absurd (nI_le (a := 3) (b := t) q (by omega)) c_4
        refine r_aload_n (n := 8) C dMD_step_7 rfl rfl ?_
        refine r_iload_n (n := 9) C dMD_step_8 rfl rfl ?_
        refine r_cv (n := 12) (rn_V (z := 1) (ci := 10) (T := TMD) C (c_MD_workTable (Kl K) (Ko K) h1 m ad MI1 ML1 MV1 t (S.1 t) S.2.1 hM1 (by omega) (hb1.1 t (by omega)) hc1.2.1) tw_686 tw_688 ts_32 tw_4 tw_689 rfl rfl ndMD_workTable ⟨Nat.le_of_ble_eq_true rfl, Nat.le_of_ble_eq_true rfl⟩ hM1.1 rfl rfl rfl (Nat.le_of_ble_eq_true rfl) dMD_step_9 ⟨Nat.le_of_ble_eq_true rfl, Nat.le_of_ble_eq_true rfl⟩) rfl (fun h2 hq2 => ?_)
        rw [uT_fold0 (pi.srt t (by omega))] at hq2
        obtain ⟨MI2, ML2, MV2, hM2, hW2, hS2, hF2⟩ := hq2
        obtain ⟨hs1, hs2, hs3⟩ := hse t hlt
        have hc2 : MSc MI2 MV2 S := hc1.keep (fun k h10 _ => hS2.1 k (by omega) (by omega) (by omega)) hS2.2.2
        have hb2 := hb1.ws hS2
        have h122 : MI2 12 = MI 12 := (hS2.1 12 (by decide) (by decide) (by decide)).trans h12
        refine r_iconst (v := 0) (n := 13) C dMD_step_12 rfl (by decide) ?_
        refine r_istore_n (n := 14) C dMD_step_13 rfl (by decide) ?_
        refine V.byk (ls' := [(0, .ref m), (1, .int (nI t)), (2, .int (nI 0))]) rfl ?_
        refine loopI t h2 MI2 ML2 MV2 _ hM2 hW2 (fun hng => ?_) (fun hng => ?_) _ 0 rfl (Nat.zero_le _) rfl
        · rw [hs3] at hng
          have hpre : stpS S = (-1, S) := by unfold stpS; rw [if_pos (negA_tM hlt hng)]
          refine r_iconst (v := -1) (n := 34) C dMD_step_33 rfl (by decide) ?_
          exact r_iret C dMD_step_34 (Nat.le_refl _) (Nat.le_refl _) ⟨by rw [hpre], by rw [hpre]; exact ⟨MS.ofc hM2 hc2 hb2 hn10 (fun i hi => by rw [h122]; exact hcf i hi), hF1.tr hF2⟩⟩
        · rw [hs3] at hng
          refine r_iinc (n := 44) C dMD_step_41 rfl rfl (nI_i t) (by decide) ?_
          refine r_goto (tgt := 2) C dMD_step_44 (by decide) ?_
          refine V.byk (ls' := [(0, .ref m), (1, .int (nI (t + 1)))]) rfl ?_
          refine ih _ (by omega) (t + 1) h2 MI2 ML2 MV2 rfl (by omega) hM2 hc2 (hF1.tr hF2) h122 hb2 (fun i hi => ?_)
          by_cases e : i = t
          · subst e; exact hng
          · exact hN i (by omega)
  refine r_iconst (v := 0) (n := 1) C dMD_step_0 rfl (by decide) ?_
  refine r_istore_n (n := 2) C dMD_step_1 rfl (by decide) ?_
  refine V.byk (ls' := [(0, .ref m), (1, .int (nI 0))]) rfl ?_
  exact loopA _ 0 h MI ML MV rfl (by omega) hM hc0 Frm.rf rfl hb0 (fun i hi => absurd hi (Nat.not_lt_zero _))
