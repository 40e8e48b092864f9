/-! THE REFERENCE: evaluate -/
theorem emW_key {L : List Rw} {k : Ky} {w : Int64} : ∀ q ∈ emW L k w, q.1 = k ∨ ∃ p ∈ L, p.1 = q.1 := by
  induction L with
  | nil => intro q hq; simp only [emW, List.mem_singleton] at hq; exact Or.inl (by rw [hq])
  | cons r L ih =>
    intro q hq
    unfold emW at hq; split at hq
    · rcases List.mem_cons.mp hq with e | e
      · exact Or.inl (by rw [e])
      · exact Or.inr ⟨q, List.mem_cons_of_mem _ e, rfl⟩
    · rcases List.mem_cons.mp hq with e | e
      · exact Or.inr ⟨r, List.mem_cons_self, by rw [e]⟩
      · rcases ih q e with z | ⟨p, h1, h2⟩
        · exact Or.inl z
        · exact Or.inr ⟨p, List.mem_cons_of_mem _ h1, h2⟩
theorem emW_nd {L : List Rw} {k : Ky} {w : Int64} (h : NdK L) : NdK (emW L k w) := by
  induction L with
  | nil => exact List.pairwise_singleton _ _
  | cons r L ih =>
    obtain ⟨h1, h2⟩ := List.pairwise_cons.mp h
    unfold emW; split
    · next e => exact List.pairwise_cons.mpr ⟨fun q hq => by have := h1 q hq; rw [e] at this; exact this, h2⟩
    · next e =>
      refine List.pairwise_cons.mpr ⟨fun q hq => ?_, ih h2⟩
      rcases emW_key q hq with z | ⟨p, h3, h4⟩
      · rw [z]; exact e
      · rw [← h4]; exact h1 p h3
theorem emF_nd {F : Rw → Option (Ky × Int64)} {W : List Rw} (M : List Rw) (h : NdK W) : NdK (M.foldl (emF F) W) := by
  induction M generalizing W with
  | nil => exact h
  | cons r M ih =>
    refine ih ?_
    unfold emF; split
    · exact emW_nd h
    · exact h
def uC (c : Nat) : Rw → Option (Ky × Int64) := fun r => some (r.1, if c = 0 then r.2 else -r.2)
def jG (lc rc x y z : Nat) (R : List Rw) : List Rw → Rw → List Rw := fun W lr => R.foldl (emF (jF lc rc x y z lr)) W
theorem jG_nd {lc rc x y z : Nat} {R W : List Rw} (M : List Rw) (h : NdK W) : NdK (M.foldl (jG lc rc x y z R) W) := by
  induction M generalizing W with
  | nil => exact h
  | cons r M ih => exact ih (emF_nd R h)
theorem jG_len {lc rc x y z : Nat} {R W : List Rw} (M : List Rw) : (M.foldl (jG lc rc x y z R) W).length ≤ W.length + M.length * R.length := by
  induction M generalizing W with
  | nil => simp
  | cons r M ih =>
    have h1 := ih (W := jG lc rc x y z R W r)
    have h2 : (jG lc rc x y z R W r).length ≤ W.length + R.length := emF_len R
    simp only [List.foldl_cons, List.length_cons, Nat.succ_mul]
    omega
theorem uG_nd {kd key col : Nat} {M0 W : List Rw} (M : List Rw) (h : NdK W) : NdK (M.foldl (uG kd key col M0) W) := by
  induction M generalizing W with
  | nil => exact h
  | cons r M ih =>
    refine ih ?_
    unfold uG; split
    · split
      · exact h
      · exact emW_nd h
    · exact h
theorem uG_len {kd key col : Nat} {M0 W : List Rw} (M : List Rw) : (M.foldl (uG kd key col M0) W).length ≤ W.length + M.length := by
  induction M generalizing W with
  | nil => exact Nat.le_refl _
  | cons r M ih =>
    have h1 := ih (W := uG kd key col M0 W r)
    have h2 : (uG kd key col M0 W r).length ≤ W.length + 1 := by
      unfold uG; split
      · split
        · omega
        · exact emW_len _ _
      · omega
    simp only [List.foldl_cons, List.length_cons]
    omega
def evW (R : Ru) (Ls : Nat → List Rw) : List Rw := match R with
  | (0, a, _, _, _, _, _) => (Ls a).foldl (emF uT) []
  | (1, a, b, c, _, _, n) => (Ls a).foldl (emF (uF b c n)) []
  | (2, a, b, c, d, _, _) => (Ls a).foldl (emF (uM b c d)) []
  | (3, a, b, c, d, e, _) => (Ls a).foldl (jG c d (e / 36) (e / 6 % 6) (e % 6) (Ls b)) []
  | (4, a, b, c, _, _, _) => (Ls b).foldl (emF (uC c)) ((Ls a).foldl (emF uT) [])
  | (5, a, _, _, _, _, _) => (Ls a).foldl (emF uD) []
  | (_, a, b, c, d, _, _) => (Ls a).foldl (uG d b c (Ls a)) []
/-- what the reference holds as a rule's numbers -/
def mArg (R : Ru) (i : Nat) : Int32 := match R with
  | (0, a, _, _, _, _, _) => (match i with | 0 => nI a | _ => 0)
  | (1, a, b, c, _, _, n) => (match i with | 0 => nI (a - 3) | 1 => nI b | 2 => nI c | 3 => n | _ => 0)
  | (2, a, b, c, d, _, _) => (match i with | 0 => nI (a - 3) | 1 => nI b | 2 => nI c | 3 => nI d | _ => 0)
  | (3, a, b, c, d, e, _) => (match i with | 0 => nI (a - 3) | 1 => nI (b - 3) | 2 => nI c | 3 => nI d | _ => nI e)
  | (4, a, b, c, _, _, _) => (match i with | 0 => nI (a - 3) | 1 => nI (b - 3) | 2 => nI c | _ => 0)
  | (5, a, _, _, _, _, _) => (match i with | 0 => nI (a - 3) | _ => 0)
  | (_, a, b, c, d, _, _) => (match i with | 0 => nI (a - 3) | 1 => nI b | 2 => nI c | 3 => nI d | _ => 0)
def MAr (MI : Nat → Nat → Int32) (n : Nat) (R : Ru) : Prop := MI 10 n = nI R.1 ∧ ∀ i, i < 5 → MI 11 (n * 5 + i) = mArg R i
def ESame (b : Nat) (MI MI' : Nat → Nat → Int32) (ML ML' : Nat → Nat → Int64) (MV MV' : Nat → Int32) : Prop := (∀ j, j ≠ 0 → j ≠ 1 → j ≠ 2 → j ≠ 4 → j ≠ 5 → j ≠ 6 → j ≠ 7 → MI' j = MI j) ∧ (∀ p, (p < b * 24 ∨ b * 24 + 24 ≤ p) → MI' 0 p = MI 0 p ∧ MI' 1 p = MI 1 p ∧ MI' 2 p = MI 2 p ∧ ML' 3 p = ML 3 p) ∧ (∀ c, c ≠ b → MI' 4 c = MI 4 c) ∧ (∀ j, j ≠ 9 → MV' j = MV j)
theorem ESame.of {b : Nat} {MI MI1 MI' : Nat → Nat → Int32} {ML ML1 ML' : Nat → Nat → Int64} {MV MV1 : Nat → Int32} (w : WSame MI MI1 ML ML1 MV MV1) (s : BSame b MI1 MI' ML1 ML') : ESame b MI MI' ML ML' MV MV1 := by
  refine ⟨fun j h0 h1 h2 h4 h5 h6 h7 => (s.1 j h0 h1 h2 h4).trans (w.1 j h5 h6 h7), fun p hp => ?_, fun c hc => ?_, w.2.2⟩
  · obtain ⟨e0, e1, e2, e3⟩ := s.2.2.1 p hp
    rw [e0, e1, e2, e3, w.1 0 (by decide) (by decide) (by decide), w.1 1 (by decide) (by decide) (by decide), w.1 2 (by decide) (by decide) (by decide), w.2.1]
    exact ⟨rfl, rfl, rfl, rfl⟩
  · rw [s.2.2.2 c hc, w.1 4 (by decide) (by decide) (by decide)]
theorem BL.esame {b c : Nat} {MI MI' : Nat → Nat → Int32} {ML ML' : Nat → Nat → Int64} {MV MV' : Nat → Int32} {L : List Rw} (hB : BL MI ML c L) (s : ESame b MI MI' ML ML' MV MV') (hc : c ≠ b) : BL MI' ML' c L := by
  obtain ⟨h1, h2, h3⟩ := hB
  refine ⟨by rw [s.2.2.1 c hc]; exact h1, h2, fun i r hr => ?_⟩
  have hl := (List.getElem?_eq_some_iff.mp hr).1
  obtain ⟨e1, e2, e3, e4⟩ := h3 i r hr
  obtain ⟨f1, f2, f3, f4⟩ := s.2.1 (c * 24 + i) (by omega)
  exact ⟨by rw [f1]; exact e1, by rw [f2]; exact e2, by rw [f3]; exact e3, by rw [f4]; exact e4⟩
def EvP (o : Om) (h h' : AH) (m : Nat) (ad : Nat → Nat) (MI : Nat → Nat → Int32) (ML : Nat → Nat → Int64) (MV : Nat → Int32) (b : Nat) (C : List Rw) (ok : Bool) : Prop := ∃ MI' ML' MV', MH o h' m ad MI' ML' MV' ∧ ESame b MI MI' ML ML' MV MV' ∧ (ok = true → BL MI' ML' b C) ∧ (ok = false → MI' 0 = MI 0 ∧ MI' 1 = MI 1 ∧ MI' 2 = MI 2 ∧ MI' 4 = MI 4 ∧ ML' 3 = ML 3) ∧ Frm (mown m ad) h h'
set_option maxHeartbeats 4000000 in
set_option maxRecDepth 100000 in
/-- evaluate -/
theorem c_MD_evaluate (l : Launch) (o : Om) (h : AH) (m : Nat) (ad : Nat → Nat) (MI : Nat → Nat → Int32) (ML : Nat → Nat → Int64) (MV : Nat → Int32) (n base : Nat) (R : Ru) (Ls : Nat → List Rw) (hM : MH o h m ad MI ML MV) (hn : n < 10) (hbase : base ≤ 13) (hA : MAr MI n R) (hok : rok (3 + n) R) (hBL : ∀ i, i < 3 + n → BL MI ML (base + i) (Ls i)) : Mt l o yMD_evaluate cMD_evaluate 7 (some .boolean) ({ frames := 3, cells := 0, slots := 0, locals := 82 } : Room) [.ref m, .int (nI n), .int (nI base)] h (QI o (fun r h' => r = b01 (fitB 24 (srtW (evW R Ls))) ∧ EvP o h h' m ad MI ML MV (base + 3 + n) (srtW (evW R Ls)) (fitB 24 (srtW (evW R Ls))))) (0) (0) := by
  refine Met.ofV (by decide) (Nat.le_of_ble_eq_true rfl) (fun K hl ho C => ?_)
  subst hl; subst ho
  obtain ⟨kd, a, b, c, d, e, nn⟩ := R
  rcases kd with _ | _ | _ | _ | _ | _ | _ | kd
  · have hok : a < 3 := hok
    have hkd : MI 10 n = nI 0 := hA.1
    have a0 : MI 11 (n * 5) = _ := hA.2 0 (by omega)
    have a1 := hA.2 1 (by omega)
    have a2 := hA.2 2 (by omega)
    have a3 := hA.2 3 (by omega)
    have a4 := hA.2 4 (by omega)
    have hBa := hBL a (by omega)
    have hLa : (Ls a).length ≤ 24 := hBa.2.1
    have tail : ∀ (h1 : AH) (MI1 : Nat → Nat → Int32) (ML1 : Nat → Nat → Int64) (MV1 : Nat → Int32), MH (Ko K) h1 m ad MI1 ML1 MV1 → WL MI1 ML1 MV1 (evW (0, a, b, c, d, e, nn) Ls) → NdK (evW (0, a, b, c, d, e, nn) Ls) → WSame MI MI1 ML ML1 MV MV1 → Frm (mown m ad) h h1 → V K h1 0 0 (EndQ K (QI (Ko K) (fun r h' => r = b01 (fitB 24 (srtW (evW (0, a, b, c, d, e, nn) Ls))) ∧ EvP (Ko K) h h' m ad MI ML MV (base + 3 + n) (srtW (evW (0, a, b, c, d, e, nn) Ls)) (fitB 24 (srtW (evW (0, a, b, c, d, e, nn) Ls))))) 0 0) 256 [(0, .ref m), (1, .int (nI n)), (2, .int (nI base))] [] := by
      intro h1 MI1 ML1 MV1 hM1 hW1 hN1 hS1 hF1
      refine r_aload_n (n := 257) C dMD_evaluate_256 rfl rfl ?_
      refine r_iload_n (n := 258) C dMD_evaluate_257 rfl rfl ?_
      refine r_iconst (v := 3) (n := 259) C dMD_evaluate_258 rfl (by decide) ?_
      refine r_iadd (n := 260) C dMD_evaluate_259 rfl ?_
      refine V.eqi (nI_add _ 3) ?_
      refine r_iload_n (n := 261) C dMD_evaluate_260 rfl rfl ?_
      refine r_iadd (n := 262) C dMD_evaluate_261 rfl ?_
      refine V.eqi (nI_add _ _) ?_
      refine r_bipush (v := 24) (n := 264) C dMD_evaluate_262 rfl (by decide) ?_
      refine r_ci (n := 267) (rn_V (z := 2) (ci := 10) (T := TMD) C (c_MD_settle (Kl K) (Ko K) h1 m ad MI1 ML1 MV1 (base + 3 + n) 24 (evW (0, a, b, c, d, e, nn) Ls) hM1 (by omega) (by omega) hW1 hN1) tw_644 tw_646 ts_30 tw_4 tw_647 rfl rfl ndMD_settle ⟨Nat.le_of_ble_eq_true rfl, Nat.le_of_ble_eq_true rfl⟩ hM1.1 rfl rfl rfl (Nat.le_of_ble_eq_true rfl) dMD_evaluate_264 ⟨Nat.le_of_ble_eq_true rfl, Nat.le_of_ble_eq_true rfl⟩) rfl (fun y h2 hq => ?_)
      obtain ⟨e1, MI2, ML2, hM2, hS2, hB2, hN2, hF2⟩ := hq
      exact r_zret C dMD_evaluate_267 (by rw [e1]; exact b01_n _) (Nat.le_refl _) (Nat.le_refl _) ⟨e1, MI2, ML2, MV1, hM2, ESame.of hS1 hS2, hB2, (fun e => by obtain ⟨z1, z2⟩ := hN2 e; rw [z1, z2]; exact ⟨hS1.1 0 (by decide) (by decide) (by decide), hS1.1 1 (by decide) (by decide) (by decide), hS1.1 2 (by decide) (by decide) (by decide), hS1.1 4 (by decide) (by decide) (by decide), hS1.2.1⟩), hF1.tr hF2⟩
    have loop : ∀ (q i : Nat) (rv : Int32) (h1 : AH) (MI1 : Nat → Nat → Int32) (ML1 : Nat → Nat → Int64) (MV1 : Nat → Int32), (Ls a).length - i = q → i ≤ (Ls a).length → MH (Ko K) h1 m ad MI1 ML1 MV1 → WL MI1 ML1 MV1 (((Ls a).take i).foldl (emF uT) []) → WSame MI MI1 ML ML1 MV MV1 → Frm (mown m ad) h h1 → V K h1 0 0 (EndQ K (QI (Ko K) (fun r h' => r = b01 (fitB 24 (srtW (evW (0, a, b, c, d, e, nn) Ls))) ∧ EvP (Ko K) h h' m ad MI ML MV (base + 3 + n) (srtW (evW (0, a, b, c, d, e, nn) Ls)) (fitB 24 (srtW (evW (0, a, b, c, d, e, nn) Ls))))) 0 0) 59 [(0, .ref m), (1, .int (nI n)), (2, .int (nI base)), (4, .int (nI (base + a))), (5, .int rv), (6, .int (nI ((base + a) * 24 + i)))] [] := by
      intro q
      induction q using Nat.strongRecOn with
      | _ q ih =>
        intro i rv h1 MI1 ML1 MV1 hm hi hM1 hW1 hS1 hF1
        obtain ⟨hb1, hb2, hb3⟩ := hBa.same hS1
        have hl1 := emF_len (F := uT) (W := []) ((Ls a).take i)
        rw [List.length_take, Nat.min_eq_left hi] at hl1
        simp only [List.length_nil, Nat.zero_add] at hl1
        have s11 := hS1.1 11 (by decide) (by decide) (by decide)
        have hkd1 : MI1 10 n = nI 0 := by rw [hS1.1 10 (by decide) (by decide) (by decide)]; exact hkd
        refine r_iload (n := 61) C dMD_evaluate_59 rfl rfl ?_
        refine r_iload (n := 63) C dMD_evaluate_61 rfl rfl ?_
        refine r_bipush (v := 24) (n := 65) C dMD_evaluate_63 rfl (by decide) ?_
        refine r_imul (n := 66) C dMD_evaluate_65 rfl ?_
        refine V.eqi (x24 _) ?_
        refine r_aload_n (n := 67) C dMD_evaluate_66 rfl rfl ?_
        refine r_get (ci := 10) (n := 70) C hinMD rfl 4 (by decide) tw_539 rfl dMD_evaluate_67 rfl hM1.1 rfl ?_
        refine r_iload (n := 72) C dMD_evaluate_70 rfl rfl ?_
        refine r_ialdM (n := 73) C dMD_evaluate_72 rfl hM1 4 (by decide) (base + a) rfl (by show _ < 26; omega) ?_
        rw [hb1]
        refine r_iadd (n := 74) C dMD_evaluate_73 rfl ?_
        refine V.eqi (nI_add _ _) ?_
        refine r_icmp_ge (tgt := 159) (n := 77) C dMD_evaluate_74 (by decide) rfl (fun c_74 => ?_) (fun c_74 => ?_)
        · have hie : i = (Ls a).length := by have := (nI_leI (a := (base + a) * 24 + (Ls a).length) (b := (base + a) * 24 + i) (by omega) (by omega)).mp c_74; omega
          refine r_aload_n (n := 160) C dMD_evaluate_159 rfl rfl ?_
          refine r_get (ci := 10) (n := 163) C hinMD rfl 10 (by decide) tw_545 rfl dMD_evaluate_160 rfl hM1.1 rfl ?_
          refine r_iload_n (n := 164) C dMD_evaluate_163 rfl rfl ?_
          refine r_ialdM (n := 165) C dMD_evaluate_164 rfl hM1 10 (by decide) n rfl (by show _ < 10; omega) ?_
          rw [hkd1]
          refine r_iconst (v := 4) (n := 166) C dMD_evaluate_165 rfl (by decide) ?_
          refine r_icmp_ne (tgt := 256) (n := 169) C dMD_evaluate_166 (by decide) rfl (fun c_166 => ?_) (fun c_166 => ?_)
          · refine V.byk (ls' := [(0, .ref m), (1, .int (nI n)), (2, .int (nI base))]) rfl ?_
            exact tail h1 MI1 ML1 MV1 hM1 (by rw [hie, List.take_length] at hW1; exact hW1) (emF_nd _ List.Pairwise.nil) hS1 hF1
          · exact absurd c_166 (by decide)
        · have hlt : i < (Ls a).length := by
            rcases Nat.lt_or_ge i (Ls a).length with q1 | q1
            · exact q1
            · exact absurd (nI_le (a := (base + a) * 24 + (Ls a).length) (b := (base + a) * 24 + i) (by omega) (by omega)) c_74
          obtain ⟨r, hr⟩ : ∃ r, (Ls a)[i]? = some r := ⟨_, List.getElem?_eq_getElem hlt⟩
          obtain ⟨v0, v1, v2, v3⟩ := hb3 i r hr
          refine r_aload_n (n := 78) C dMD_evaluate_77 rfl rfl ?_
          refine r_get (ci := 10) (n := 81) C hinMD rfl 10 (by decide) tw_545 rfl dMD_evaluate_78 rfl hM1.1 rfl ?_
          refine r_iload_n (n := 82) C dMD_evaluate_81 rfl rfl ?_
          refine r_ialdM (n := 83) C dMD_evaluate_82 rfl hM1 10 (by decide) n rfl (by show _ < 10; omega) ?_
          rw [hkd1]
          refine r_iconst (v := 3) (n := 84) C dMD_evaluate_83 rfl (by decide) ?_
          refine r_icmp_ne (tgt := 99) (n := 87) C dMD_evaluate_84 (by decide) rfl (fun c_84 => ?_) (fun c_84 => ?_)
          · refine r_aload_n (n := 100) C dMD_evaluate_99 rfl rfl ?_
            refine r_get (ci := 10) (n := 103) C hinMD rfl 10 (by decide) tw_545 rfl dMD_evaluate_100 rfl hM1.1 rfl ?_
            refine r_iload_n (n := 104) C dMD_evaluate_103 rfl rfl ?_
            refine r_ialdM (n := 105) C dMD_evaluate_104 rfl hM1 10 (by decide) n rfl (by show _ < 10; omega) ?_
            rw [hkd1]
            refine r_iconst (v := 4) (n := 106) C dMD_evaluate_105 rfl (by decide) ?_
            refine r_icmp_ne (tgt := 144) (n := 109) C dMD_evaluate_106 (by decide) rfl (fun c_106 => ?_) (fun c_106 => ?_)
            · refine r_aload_n (n := 145) C dMD_evaluate_144 rfl rfl ?_
              refine r_iload_n (n := 146) C dMD_evaluate_145 rfl rfl ?_
              refine r_iload (n := 148) C dMD_evaluate_146 rfl rfl ?_
              refine r_iload (n := 150) C dMD_evaluate_148 rfl rfl ?_
              refine r_cv (n := 153) (rn_V (z := 3) (ci := 10) (T := TMD) C (c_MD_unary0 (Kl K) (Ko K) h1 m ad MI1 ML1 MV1 n ((base + a) * 24 + i) (base + a) _ r hM1 (by omega) (by omega) hW1 (by omega) v0 v1 v2 v3 hkd1) tw_628 tw_630 ts_26 tw_4 tw_631 rfl rfl ndMD_unary ⟨Nat.le_of_ble_eq_true rfl, Nat.le_of_ble_eq_true rfl⟩ hM1.1 rfl rfl rfl (Nat.le_of_ble_eq_true rfl) dMD_evaluate_150 ⟨Nat.le_of_ble_eq_true rfl, Nat.le_of_ble_eq_true rfl⟩) rfl (fun h2 hq => ?_)
              obtain ⟨MI2, ML2, MV2, hM2, hW2, hS2, hF2⟩ := hq
              refine r_iinc (n := 156) C dMD_evaluate_153 rfl rfl (nI_i _) (by decide) ?_
              refine r_goto (tgt := 59) C dMD_evaluate_156 (by decide) ?_
              refine V.byk (ls' := [(0, .ref m), (1, .int (nI n)), (2, .int (nI base)), (4, .int (nI (base + a))), (5, .int rv), (6, .int (nI ((base + a) * 24 + (i + 1))))]) rfl ?_
              exact ih _ (by omega) (i + 1) rv h2 MI2 ML2 MV2 rfl (by omega) hM2 (by rw [fold_take (emF uT) _ hr]; exact hW2) (hS1.tr hS2) (hF1.tr hF2)
            · exact absurd c_106 (by decide)
          · exact absurd c_84 (by decide)
    refine r_aload_n (n := 1) C dMD_evaluate_0 rfl rfl ?_
    refine r_iconst (v := 0) (n := 2) C dMD_evaluate_1 rfl (by decide) ?_
    refine r_put (ci := 10) (n := 5) C hinMD tyMD okMD nmMD rfl 9 (by decide) tw_544 rfl rfl (okMD 9 (by decide)) rfl rfl dMD_evaluate_2 rfl hM.1 (Nat.le_of_ble_eq_true rfl) ?_
    refine V.setV hM 9 (by decide) _ rfl (fun h1 hM1 hF1 => ?_)
    refine r_aload_n (n := 6) C dMD_evaluate_5 rfl rfl ?_
    refine r_get (ci := 10) (n := 9) C hinMD rfl 11 (by decide) tw_546 rfl dMD_evaluate_6 rfl hM1.1 rfl ?_
    refine r_iload_n (n := 10) C dMD_evaluate_9 rfl rfl ?_
    refine r_iconst (v := 5) (n := 11) C dMD_evaluate_10 rfl (by decide) ?_
    refine r_imul (n := 12) C dMD_evaluate_11 rfl ?_
    refine r_ialdM (n := 13) C dMD_evaluate_12 rfl hM1 11 (by decide) (n * 5) (x5 n) (by show _ < 50; omega) ?_
    rw [a0]
    refine r_istore_n (n := 14) C dMD_evaluate_13 rfl (by decide) ?_
    refine r_aload_n (n := 15) C dMD_evaluate_14 rfl rfl ?_
    refine r_get (ci := 10) (n := 18) C hinMD rfl 10 (by decide) tw_545 rfl dMD_evaluate_15 rfl hM1.1 rfl ?_
    refine r_iload_n (n := 19) C dMD_evaluate_18 rfl rfl ?_
    refine r_ialdM (n := 20) C dMD_evaluate_19 rfl hM1 10 (by decide) n rfl (by show _ < 10; omega) ?_
    rw [hkd]
    refine r_if_ne (tgt := 29) (n := 23) C dMD_evaluate_20 (by decide) rfl (fun c_20 => ?_) (fun c_20 => ?_)
    · exact absurd rfl c_20
    · refine r_iload_n (n := 24) C dMD_evaluate_23 rfl rfl ?_
      refine r_iload_n (n := 25) C dMD_evaluate_24 rfl rfl ?_
      refine r_iadd (n := 26) C dMD_evaluate_25 rfl ?_
      refine V.eqi (y := nI (base + a)) (nI_add _ _) ?_
      refine r_goto (tgt := 34) C dMD_evaluate_26 (by decide) ?_
      refine r_istore (n := 36) C dMD_evaluate_34 rfl (by decide) ?_
      refine r_iload_n (n := 37) C dMD_evaluate_36 rfl rfl ?_
      refine r_iconst (v := 3) (n := 38) C dMD_evaluate_37 rfl (by decide) ?_
      refine r_iadd (n := 39) C dMD_evaluate_38 rfl ?_
      refine V.eqi (nI_add _ 3) ?_
      refine r_aload_n (n := 40) C dMD_evaluate_39 rfl rfl ?_
      refine r_get (ci := 10) (n := 43) C hinMD rfl 11 (by decide) tw_546 rfl dMD_evaluate_40 rfl hM1.1 rfl ?_
      refine r_iload_n (n := 44) C dMD_evaluate_43 rfl rfl ?_
      refine r_iconst (v := 5) (n := 45) C dMD_evaluate_44 rfl (by decide) ?_
      refine r_imul (n := 46) C dMD_evaluate_45 rfl ?_
      refine r_iconst (v := 1) (n := 47) C dMD_evaluate_46 rfl (by decide) ?_
      refine r_iadd (n := 48) C dMD_evaluate_47 rfl ?_
      refine r_ialdM (n := 49) C dMD_evaluate_48 rfl hM1 11 (by decide) (n * 5 + 1) (x5i n 1) (by show _ < 50; omega) ?_
      refine r_iadd (n := 50) C dMD_evaluate_49 rfl ?_
      refine r_istore (n := 52) C dMD_evaluate_50 rfl (by decide) ?_
      refine r_iload (n := 54) C dMD_evaluate_52 rfl rfl ?_
      refine r_bipush (v := 24) (n := 56) C dMD_evaluate_54 rfl (by decide) ?_
      refine r_imul (n := 57) C dMD_evaluate_56 rfl ?_
      refine V.eqi (x24 _) ?_
      refine r_istore (n := 59) C dMD_evaluate_57 rfl (by decide) ?_
      refine V.byk (ls' := [(0, .ref m), (1, .int (nI n)), (2, .int (nI base)), (4, .int (nI (base + a))), (5, .int _), (6, .int (nI ((base + a) * 24 + 0)))]) rfl ?_
      exact loop _ 0 _ h1 MI ML _ rfl (Nat.zero_le _) hM1 ⟨rfl, Nat.zero_le _, fun i r hr => by simp at hr⟩ ⟨fun _ _ _ _ => rfl, rfl, fun j hj => va_up_ne _ _ hj⟩ hF1
  · obtain ⟨k1, k2, k3, k4⟩ : 3 ≤ a ∧ a < 3 + n ∧ b < 3 ∧ c < 4 := hok
    have hkd : MI 10 n = nI 1 := hA.1
    have a0 : MI 11 (n * 5) = _ := hA.2 0 (by omega)
    have a1 := hA.2 1 (by omega)
    have a2 := hA.2 2 (by omega)
    have a3 := hA.2 3 (by omega)
    have a4 := hA.2 4 (by omega)
    have hBa := hBL a (by omega)
    have hLa : (Ls a).length ≤ 24 := hBa.2.1
    have tail : ∀ (h1 : AH) (MI1 : Nat → Nat → Int32) (ML1 : Nat → Nat → Int64) (MV1 : Nat → Int32), MH (Ko K) h1 m ad MI1 ML1 MV1 → WL MI1 ML1 MV1 (evW (1, a, b, c, d, e, nn) Ls) → NdK (evW (1, a, b, c, d, e, nn) Ls) → WSame MI MI1 ML ML1 MV MV1 → Frm (mown m ad) h h1 → V K h1 0 0 (EndQ K (QI (Ko K) (fun r h' => r = b01 (fitB 24 (srtW (evW (1, a, b, c, d, e, nn) Ls))) ∧ EvP (Ko K) h h' m ad MI ML MV (base + 3 + n) (srtW (evW (1, a, b, c, d, e, nn) Ls)) (fitB 24 (srtW (evW (1, a, b, c, d, e, nn) Ls))))) 0 0) 256 [(0, .ref m), (1, .int (nI n)), (2, .int (nI base))] [] := by
      intro h1 MI1 ML1 MV1 hM1 hW1 hN1 hS1 hF1
      refine r_aload_n (n := 257) C dMD_evaluate_256 rfl rfl ?_
      refine r_iload_n (n := 258) C dMD_evaluate_257 rfl rfl ?_
      refine r_iconst (v := 3) (n := 259) C dMD_evaluate_258 rfl (by decide) ?_
      refine r_iadd (n := 260) C dMD_evaluate_259 rfl ?_
      refine V.eqi (nI_add _ 3) ?_
      refine r_iload_n (n := 261) C dMD_evaluate_260 rfl rfl ?_
      refine r_iadd (n := 262) C dMD_evaluate_261 rfl ?_
      refine V.eqi (nI_add _ _) ?_
      refine r_bipush (v := 24) (n := 264) C dMD_evaluate_262 rfl (by decide) ?_
      refine r_ci (n := 267) (rn_V (z := 2) (ci := 10) (T := TMD) C (c_MD_settle (Kl K) (Ko K) h1 m ad MI1 ML1 MV1 (base + 3 + n) 24 (evW (1, a, b, c, d, e, nn) Ls) hM1 (by omega) (by omega) hW1 hN1) tw_644 tw_646 ts_30 tw_4 tw_647 rfl rfl ndMD_settle ⟨Nat.le_of_ble_eq_true rfl, Nat.le_of_ble_eq_true rfl⟩ hM1.1 rfl rfl rfl (Nat.le_of_ble_eq_true rfl) dMD_evaluate_264 ⟨Nat.le_of_ble_eq_true rfl, Nat.le_of_ble_eq_true rfl⟩) rfl (fun y h2 hq => ?_)
      obtain ⟨e1, MI2, ML2, hM2, hS2, hB2, hN2, hF2⟩ := hq
      exact r_zret C dMD_evaluate_267 (by rw [e1]; exact b01_n _) (Nat.le_refl _) (Nat.le_refl _) ⟨e1, MI2, ML2, MV1, hM2, ESame.of hS1 hS2, hB2, (fun e => by obtain ⟨z1, z2⟩ := hN2 e; rw [z1, z2]; exact ⟨hS1.1 0 (by decide) (by decide) (by decide), hS1.1 1 (by decide) (by decide) (by decide), hS1.1 2 (by decide) (by decide) (by decide), hS1.1 4 (by decide) (by decide) (by decide), hS1.2.1⟩), hF1.tr hF2⟩
    have loop : ∀ (q i : Nat) (rv : Int32) (h1 : AH) (MI1 : Nat → Nat → Int32) (ML1 : Nat → Nat → Int64) (MV1 : Nat → Int32), (Ls a).length - i = q → i ≤ (Ls a).length → MH (Ko K) h1 m ad MI1 ML1 MV1 → WL MI1 ML1 MV1 (((Ls a).take i).foldl (emF (uF b c nn)) []) → WSame MI MI1 ML ML1 MV MV1 → Frm (mown m ad) h h1 → V K h1 0 0 (EndQ K (QI (Ko K) (fun r h' => r = b01 (fitB 24 (srtW (evW (1, a, b, c, d, e, nn) Ls))) ∧ EvP (Ko K) h h' m ad MI ML MV (base + 3 + n) (srtW (evW (1, a, b, c, d, e, nn) Ls)) (fitB 24 (srtW (evW (1, a, b, c, d, e, nn) Ls))))) 0 0) 59 [(0, .ref m), (1, .int (nI n)), (2, .int (nI base)), (4, .int (nI (base + a))), (5, .int rv), (6, .int (nI ((base + a) * 24 + i)))] [] := by
      intro q
      induction q using Nat.strongRecOn with
      | _ q ih =>
        intro i rv h1 MI1 ML1 MV1 hm hi hM1 hW1 hS1 hF1
        obtain ⟨hb1, hb2, hb3⟩ := hBa.same hS1
        have hl1 := emF_len (F := (uF b c nn)) (W := []) ((Ls a).take i)
        rw [List.length_take, Nat.min_eq_left hi] at hl1
        simp only [List.length_nil, Nat.zero_add] at hl1
        have s11 := hS1.1 11 (by decide) (by decide) (by decide)
        have hkd1 : MI1 10 n = nI 1 := by rw [hS1.1 10 (by decide) (by decide) (by decide)]; exact hkd
        refine r_iload (n := 61) C dMD_evaluate_59 rfl rfl ?_
        refine r_iload (n := 63) C dMD_evaluate_61 rfl rfl ?_
        refine r_bipush (v := 24) (n := 65) C dMD_evaluate_63 rfl (by decide) ?_
        refine r_imul (n := 66) C dMD_evaluate_65 rfl ?_
        refine V.eqi (x24 _) ?_
        refine r_aload_n (n := 67) C dMD_evaluate_66 rfl rfl ?_
        refine r_get (ci := 10) (n := 70) C hinMD rfl 4 (by decide) tw_539 rfl dMD_evaluate_67 rfl hM1.1 rfl ?_
        refine r_iload (n := 72) C dMD_evaluate_70 rfl rfl ?_
        refine r_ialdM (n := 73) C dMD_evaluate_72 rfl hM1 4 (by decide) (base + a) rfl (by show _ < 26; omega) ?_
        rw [hb1]
        refine r_iadd (n := 74) C dMD_evaluate_73 rfl ?_
        refine V.eqi (nI_add _ _) ?_
        refine r_icmp_ge (tgt := 159) (n := 77) C dMD_evaluate_74 (by decide) rfl (fun c_74 => ?_) (fun c_74 => ?_)
        · have hie : i = (Ls a).length := by have := (nI_leI (a := (base + a) * 24 + (Ls a).length) (b := (base + a) * 24 + i) (by omega) (by omega)).mp c_74; omega
          refine r_aload_n (n := 160) C dMD_evaluate_159 rfl rfl ?_
          refine r_get (ci := 10) (n := 163) C hinMD rfl 10 (by decide) tw_545 rfl dMD_evaluate_160 rfl hM1.1 rfl ?_
          refine r_iload_n (n := 164) C dMD_evaluate_163 rfl rfl ?_
          refine r_ialdM (n := 165) C dMD_evaluate_164 rfl hM1 10 (by decide) n rfl (by show _ < 10; omega) ?_
          rw [hkd1]
          refine r_iconst (v := 4) (n := 166) C dMD_evaluate_165 rfl (by decide) ?_
          refine r_icmp_ne (tgt := 256) (n := 169) C dMD_evaluate_166 (by decide) rfl (fun c_166 => ?_) (fun c_166 => ?_)
          · refine V.byk (ls' := [(0, .ref m), (1, .int (nI n)), (2, .int (nI base))]) rfl ?_
            exact tail h1 MI1 ML1 MV1 hM1 (by rw [hie, List.take_length] at hW1; exact hW1) (emF_nd _ List.Pairwise.nil) hS1 hF1
          · exact absurd c_166 (by decide)
        · have hlt : i < (Ls a).length := by
            rcases Nat.lt_or_ge i (Ls a).length with q1 | q1
            · exact q1
            · exact absurd (nI_le (a := (base + a) * 24 + (Ls a).length) (b := (base + a) * 24 + i) (by omega) (by omega)) c_74
          obtain ⟨r, hr⟩ : ∃ r, (Ls a)[i]? = some r := ⟨_, List.getElem?_eq_getElem hlt⟩
          obtain ⟨v0, v1, v2, v3⟩ := hb3 i r hr
          refine r_aload_n (n := 78) C dMD_evaluate_77 rfl rfl ?_
          refine r_get (ci := 10) (n := 81) C hinMD rfl 10 (by decide) tw_545 rfl dMD_evaluate_78 rfl hM1.1 rfl ?_
          refine r_iload_n (n := 82) C dMD_evaluate_81 rfl rfl ?_
          refine r_ialdM (n := 83) C dMD_evaluate_82 rfl hM1 10 (by decide) n rfl (by show _ < 10; omega) ?_
          rw [hkd1]
          refine r_iconst (v := 3) (n := 84) C dMD_evaluate_83 rfl (by decide) ?_
          refine r_icmp_ne (tgt := 99) (n := 87) C dMD_evaluate_84 (by decide) rfl (fun c_84 => ?_) (fun c_84 => ?_)
          · refine r_aload_n (n := 100) C dMD_evaluate_99 rfl rfl ?_
            refine r_get (ci := 10) (n := 103) C hinMD rfl 10 (by decide) tw_545 rfl dMD_evaluate_100 rfl hM1.1 rfl ?_
            refine r_iload_n (n := 104) C dMD_evaluate_103 rfl rfl ?_
            refine r_ialdM (n := 105) C dMD_evaluate_104 rfl hM1 10 (by decide) n rfl (by show _ < 10; omega) ?_
            rw [hkd1]
            refine r_iconst (v := 4) (n := 106) C dMD_evaluate_105 rfl (by decide) ?_
            refine r_icmp_ne (tgt := 144) (n := 109) C dMD_evaluate_106 (by decide) rfl (fun c_106 => ?_) (fun c_106 => ?_)
            · refine r_aload_n (n := 145) C dMD_evaluate_144 rfl rfl ?_
              refine r_iload_n (n := 146) C dMD_evaluate_145 rfl rfl ?_
              refine r_iload (n := 148) C dMD_evaluate_146 rfl rfl ?_
              refine r_iload (n := 150) C dMD_evaluate_148 rfl rfl ?_
              refine r_cv (n := 153) (rn_V (z := 3) (ci := 10) (T := TMD) C (c_MD_unary1 (Kl K) (Ko K) h1 m ad MI1 ML1 MV1 n ((base + a) * 24 + i) (base + a) _ r b c nn hM1 (by omega) (by omega) hW1 (by omega) v0 v1 v2 v3 hkd1 k3 k4 (by rw [s11]; exact a1) (by rw [s11]; exact a2) (by rw [s11]; exact a3)) tw_628 tw_630 ts_26 tw_4 tw_631 rfl rfl ndMD_unary ⟨Nat.le_of_ble_eq_true rfl, Nat.le_of_ble_eq_true rfl⟩ hM1.1 rfl rfl rfl (Nat.le_of_ble_eq_true rfl) dMD_evaluate_150 ⟨Nat.le_of_ble_eq_true rfl, Nat.le_of_ble_eq_true rfl⟩) rfl (fun h2 hq => ?_)
              obtain ⟨MI2, ML2, MV2, hM2, hW2, hS2, hF2⟩ := hq
              refine r_iinc (n := 156) C dMD_evaluate_153 rfl rfl (nI_i _) (by decide) ?_
              refine r_goto (tgt := 59) C dMD_evaluate_156 (by decide) ?_
              refine V.byk (ls' := [(0, .ref m), (1, .int (nI n)), (2, .int (nI base)), (4, .int (nI (base + a))), (5, .int rv), (6, .int (nI ((base + a) * 24 + (i + 1))))]) rfl ?_
              exact ih _ (by omega) (i + 1) rv h2 MI2 ML2 MV2 rfl (by omega) hM2 (by rw [fold_take (emF (uF b c nn)) _ hr]; exact hW2) (hS1.tr hS2) (hF1.tr hF2)
            · exact absurd c_106 (by decide)
          · exact absurd c_84 (by decide)
    refine r_aload_n (n := 1) C dMD_evaluate_0 rfl rfl ?_
    refine r_iconst (v := 0) (n := 2) C dMD_evaluate_1 rfl (by decide) ?_
    refine r_put (ci := 10) (n := 5) C hinMD tyMD okMD nmMD rfl 9 (by decide) tw_544 rfl rfl (okMD 9 (by decide)) rfl rfl dMD_evaluate_2 rfl hM.1 (Nat.le_of_ble_eq_true rfl) ?_
    refine V.setV hM 9 (by decide) _ rfl (fun h1 hM1 hF1 => ?_)
    refine r_aload_n (n := 6) C dMD_evaluate_5 rfl rfl ?_
    refine r_get (ci := 10) (n := 9) C hinMD rfl 11 (by decide) tw_546 rfl dMD_evaluate_6 rfl hM1.1 rfl ?_
    refine r_iload_n (n := 10) C dMD_evaluate_9 rfl rfl ?_
    refine r_iconst (v := 5) (n := 11) C dMD_evaluate_10 rfl (by decide) ?_
    refine r_imul (n := 12) C dMD_evaluate_11 rfl ?_
    refine r_ialdM (n := 13) C dMD_evaluate_12 rfl hM1 11 (by decide) (n * 5) (x5 n) (by show _ < 50; omega) ?_
    rw [a0]
    refine r_istore_n (n := 14) C dMD_evaluate_13 rfl (by decide) ?_
    refine r_aload_n (n := 15) C dMD_evaluate_14 rfl rfl ?_
    refine r_get (ci := 10) (n := 18) C hinMD rfl 10 (by decide) tw_545 rfl dMD_evaluate_15 rfl hM1.1 rfl ?_
    refine r_iload_n (n := 19) C dMD_evaluate_18 rfl rfl ?_
    refine r_ialdM (n := 20) C dMD_evaluate_19 rfl hM1 10 (by decide) n rfl (by show _ < 10; omega) ?_
    rw [hkd]
    refine r_if_ne (tgt := 29) (n := 23) C dMD_evaluate_20 (by decide) rfl (fun c_20 => ?_) (fun c_20 => ?_)
    · refine r_iload_n (n := 30) C dMD_evaluate_29 rfl rfl ?_
      refine r_iconst (v := 3) (n := 31) C dMD_evaluate_30 rfl (by decide) ?_
      refine r_iadd (n := 32) C dMD_evaluate_31 rfl ?_
      refine V.eqi (nI_add _ 3) ?_
      refine r_iload_n (n := 33) C dMD_evaluate_32 rfl rfl ?_
      refine r_iadd (n := 34) C dMD_evaluate_33 rfl ?_
      refine V.eqi (y := nI (base + a)) ((nI_add _ _).trans (congrArg nI (by omega))) ?_
      refine r_istore (n := 36) C dMD_evaluate_34 rfl (by decide) ?_
      refine r_iload_n (n := 37) C dMD_evaluate_36 rfl rfl ?_
      refine r_iconst (v := 3) (n := 38) C dMD_evaluate_37 rfl (by decide) ?_
      refine r_iadd (n := 39) C dMD_evaluate_38 rfl ?_
      refine V.eqi (nI_add _ 3) ?_
      refine r_aload_n (n := 40) C dMD_evaluate_39 rfl rfl ?_
      refine r_get (ci := 10) (n := 43) C hinMD rfl 11 (by decide) tw_546 rfl dMD_evaluate_40 rfl hM1.1 rfl ?_
      refine r_iload_n (n := 44) C dMD_evaluate_43 rfl rfl ?_
      refine r_iconst (v := 5) (n := 45) C dMD_evaluate_44 rfl (by decide) ?_
      refine r_imul (n := 46) C dMD_evaluate_45 rfl ?_
      refine r_iconst (v := 1) (n := 47) C dMD_evaluate_46 rfl (by decide) ?_
      refine r_iadd (n := 48) C dMD_evaluate_47 rfl ?_
      refine r_ialdM (n := 49) C dMD_evaluate_48 rfl hM1 11 (by decide) (n * 5 + 1) (x5i n 1) (by show _ < 50; omega) ?_
      refine r_iadd (n := 50) C dMD_evaluate_49 rfl ?_
      refine r_istore (n := 52) C dMD_evaluate_50 rfl (by decide) ?_
      refine r_iload (n := 54) C dMD_evaluate_52 rfl rfl ?_
      refine r_bipush (v := 24) (n := 56) C dMD_evaluate_54 rfl (by decide) ?_
      refine r_imul (n := 57) C dMD_evaluate_56 rfl ?_
      refine V.eqi (x24 _) ?_
      refine r_istore (n := 59) C dMD_evaluate_57 rfl (by decide) ?_
      refine V.byk (ls' := [(0, .ref m), (1, .int (nI n)), (2, .int (nI base)), (4, .int (nI (base + a))), (5, .int _), (6, .int (nI ((base + a) * 24 + 0)))]) rfl ?_
      exact loop _ 0 _ h1 MI ML _ rfl (Nat.zero_le _) hM1 ⟨rfl, Nat.zero_le _, fun i r hr => by simp at hr⟩ ⟨fun _ _ _ _ => rfl, rfl, fun j hj => va_up_ne _ _ hj⟩ hF1
    · exact absurd c_20 (by decide)
  · obtain ⟨k1, k2, k3, k4, k5⟩ : 3 ≤ a ∧ a < 3 + n ∧ b < 6 ∧ c < 6 ∧ d < 6 := hok
    have hkd : MI 10 n = nI 2 := hA.1
    have a0 : MI 11 (n * 5) = _ := hA.2 0 (by omega)
    have a1 := hA.2 1 (by omega)
    have a2 := hA.2 2 (by omega)
    have a3 := hA.2 3 (by omega)
    have a4 := hA.2 4 (by omega)
    have hBa := hBL a (by omega)
    have hLa : (Ls a).length ≤ 24 := hBa.2.1
    have tail : ∀ (h1 : AH) (MI1 : Nat → Nat → Int32) (ML1 : Nat → Nat → Int64) (MV1 : Nat → Int32), MH (Ko K) h1 m ad MI1 ML1 MV1 → WL MI1 ML1 MV1 (evW (2, a, b, c, d, e, nn) Ls) → NdK (evW (2, a, b, c, d, e, nn) Ls) → WSame MI MI1 ML ML1 MV MV1 → Frm (mown m ad) h h1 → V K h1 0 0 (EndQ K (QI (Ko K) (fun r h' => r = b01 (fitB 24 (srtW (evW (2, a, b, c, d, e, nn) Ls))) ∧ EvP (Ko K) h h' m ad MI ML MV (base + 3 + n) (srtW (evW (2, a, b, c, d, e, nn) Ls)) (fitB 24 (srtW (evW (2, a, b, c, d, e, nn) Ls))))) 0 0) 256 [(0, .ref m), (1, .int (nI n)), (2, .int (nI base))] [] := by
      intro h1 MI1 ML1 MV1 hM1 hW1 hN1 hS1 hF1
      refine r_aload_n (n := 257) C dMD_evaluate_256 rfl rfl ?_
      refine r_iload_n (n := 258) C dMD_evaluate_257 rfl rfl ?_
      refine r_iconst (v := 3) (n := 259) C dMD_evaluate_258 rfl (by decide) ?_
      refine r_iadd (n := 260) C dMD_evaluate_259 rfl ?_
      refine V.eqi (nI_add _ 3) ?_
      refine r_iload_n (n := 261) C dMD_evaluate_260 rfl rfl ?_
      refine r_iadd (n := 262) C dMD_evaluate_261 rfl ?_
      refine V.eqi (nI_add _ _) ?_
      refine r_bipush (v := 24) (n := 264) C dMD_evaluate_262 rfl (by decide) ?_
      refine r_ci (n := 267) (rn_V (z := 2) (ci := 10) (T := TMD) C (c_MD_settle (Kl K) (Ko K) h1 m ad MI1 ML1 MV1 (base + 3 + n) 24 (evW (2, a, b, c, d, e, nn) Ls) hM1 (by omega) (by omega) hW1 hN1) tw_644 tw_646 ts_30 tw_4 tw_647 rfl rfl ndMD_settle ⟨Nat.le_of_ble_eq_true rfl, Nat.le_of_ble_eq_true rfl⟩ hM1.1 rfl rfl rfl (Nat.le_of_ble_eq_true rfl) dMD_evaluate_264 ⟨Nat.le_of_ble_eq_true rfl, Nat.le_of_ble_eq_true rfl⟩) rfl (fun y h2 hq => ?_)
      obtain ⟨e1, MI2, ML2, hM2, hS2, hB2, hN2, hF2⟩ := hq
      exact r_zret C dMD_evaluate_267 (by rw [e1]; exact b01_n _) (Nat.le_refl _) (Nat.le_refl _) ⟨e1, MI2, ML2, MV1, hM2, ESame.of hS1 hS2, hB2, (fun e => by obtain ⟨z1, z2⟩ := hN2 e; rw [z1, z2]; exact ⟨hS1.1 0 (by decide) (by decide) (by decide), hS1.1 1 (by decide) (by decide) (by decide), hS1.1 2 (by decide) (by decide) (by decide), hS1.1 4 (by decide) (by decide) (by decide), hS1.2.1⟩), hF1.tr hF2⟩
    have loop : ∀ (q i : Nat) (rv : Int32) (h1 : AH) (MI1 : Nat → Nat → Int32) (ML1 : Nat → Nat → Int64) (MV1 : Nat → Int32), (Ls a).length - i = q → i ≤ (Ls a).length → MH (Ko K) h1 m ad MI1 ML1 MV1 → WL MI1 ML1 MV1 (((Ls a).take i).foldl (emF (uM b c d)) []) → WSame MI MI1 ML ML1 MV MV1 → Frm (mown m ad) h h1 → V K h1 0 0 (EndQ K (QI (Ko K) (fun r h' => r = b01 (fitB 24 (srtW (evW (2, a, b, c, d, e, nn) Ls))) ∧ EvP (Ko K) h h' m ad MI ML MV (base + 3 + n) (srtW (evW (2, a, b, c, d, e, nn) Ls)) (fitB 24 (srtW (evW (2, a, b, c, d, e, nn) Ls))))) 0 0) 59 [(0, .ref m), (1, .int (nI n)), (2, .int (nI base)), (4, .int (nI (base + a))), (5, .int rv), (6, .int (nI ((base + a) * 24 + i)))] [] := by
      intro q
      induction q using Nat.strongRecOn with
      | _ q ih =>
        intro i rv h1 MI1 ML1 MV1 hm hi hM1 hW1 hS1 hF1
        obtain ⟨hb1, hb2, hb3⟩ := hBa.same hS1
        have hl1 := emF_len (F := (uM b c d)) (W := []) ((Ls a).take i)
        rw [List.length_take, Nat.min_eq_left hi] at hl1
        simp only [List.length_nil, Nat.zero_add] at hl1
        have s11 := hS1.1 11 (by decide) (by decide) (by decide)
        have hkd1 : MI1 10 n = nI 2 := by rw [hS1.1 10 (by decide) (by decide) (by decide)]; exact hkd
        refine r_iload (n := 61) C dMD_evaluate_59 rfl rfl ?_
        refine r_iload (n := 63) C dMD_evaluate_61 rfl rfl ?_
        refine r_bipush (v := 24) (n := 65) C dMD_evaluate_63 rfl (by decide) ?_
        refine r_imul (n := 66) C dMD_evaluate_65 rfl ?_
        refine V.eqi (x24 _) ?_
        refine r_aload_n (n := 67) C dMD_evaluate_66 rfl rfl ?_
        refine r_get (ci := 10) (n := 70) C hinMD rfl 4 (by decide) tw_539 rfl dMD_evaluate_67 rfl hM1.1 rfl ?_
        refine r_iload (n := 72) C dMD_evaluate_70 rfl rfl ?_
        refine r_ialdM (n := 73) C dMD_evaluate_72 rfl hM1 4 (by decide) (base + a) rfl (by show _ < 26; omega) ?_
        rw [hb1]
        refine r_iadd (n := 74) C dMD_evaluate_73 rfl ?_
        refine V.eqi (nI_add _ _) ?_
        refine r_icmp_ge (tgt := 159) (n := 77) C dMD_evaluate_74 (by decide) rfl (fun c_74 => ?_) (fun c_74 => ?_)
        · have hie : i = (Ls a).length := by have := (nI_leI (a := (base + a) * 24 + (Ls a).length) (b := (base + a) * 24 + i) (by omega) (by omega)).mp c_74; omega
          refine r_aload_n (n := 160) C dMD_evaluate_159 rfl rfl ?_
          refine r_get (ci := 10) (n := 163) C hinMD rfl 10 (by decide) tw_545 rfl dMD_evaluate_160 rfl hM1.1 rfl ?_
          refine r_iload_n (n := 164) C dMD_evaluate_163 rfl rfl ?_
          refine r_ialdM (n := 165) C dMD_evaluate_164 rfl hM1 10 (by decide) n rfl (by show _ < 10; omega) ?_
          rw [hkd1]
          refine r_iconst (v := 4) (n := 166) C dMD_evaluate_165 rfl (by decide) ?_
          refine r_icmp_ne (tgt := 256) (n := 169) C dMD_evaluate_166 (by decide) rfl (fun c_166 => ?_) (fun c_166 => ?_)
          · refine V.byk (ls' := [(0, .ref m), (1, .int (nI n)), (2, .int (nI base))]) rfl ?_
            exact tail h1 MI1 ML1 MV1 hM1 (by rw [hie, List.take_length] at hW1; exact hW1) (emF_nd _ List.Pairwise.nil) hS1 hF1
          · exact absurd c_166 (by decide)
        · have hlt : i < (Ls a).length := by
            rcases Nat.lt_or_ge i (Ls a).length with q1 | q1
            · exact q1
            · exact absurd (nI_le (a := (base + a) * 24 + (Ls a).length) (b := (base + a) * 24 + i) (by omega) (by omega)) c_74
          obtain ⟨r, hr⟩ : ∃ r, (Ls a)[i]? = some r := ⟨_, List.getElem?_eq_getElem hlt⟩
          obtain ⟨v0, v1, v2, v3⟩ := hb3 i r hr
          refine r_aload_n (n := 78) C dMD_evaluate_77 rfl rfl ?_
          refine r_get (ci := 10) (n := 81) C hinMD rfl 10 (by decide) tw_545 rfl dMD_evaluate_78 rfl hM1.1 rfl ?_
          refine r_iload_n (n := 82) C dMD_evaluate_81 rfl rfl ?_
          refine r_ialdM (n := 83) C dMD_evaluate_82 rfl hM1 10 (by decide) n rfl (by show _ < 10; omega) ?_
          rw [hkd1]
          refine r_iconst (v := 3) (n := 84) C dMD_evaluate_83 rfl (by decide) ?_
          refine r_icmp_ne (tgt := 99) (n := 87) C dMD_evaluate_84 (by decide) rfl (fun c_84 => ?_) (fun c_84 => ?_)
          · refine r_aload_n (n := 100) C dMD_evaluate_99 rfl rfl ?_
            refine r_get (ci := 10) (n := 103) C hinMD rfl 10 (by decide) tw_545 rfl dMD_evaluate_100 rfl hM1.1 rfl ?_
            refine r_iload_n (n := 104) C dMD_evaluate_103 rfl rfl ?_
            refine r_ialdM (n := 105) C dMD_evaluate_104 rfl hM1 10 (by decide) n rfl (by show _ < 10; omega) ?_
            rw [hkd1]
            refine r_iconst (v := 4) (n := 106) C dMD_evaluate_105 rfl (by decide) ?_
            refine r_icmp_ne (tgt := 144) (n := 109) C dMD_evaluate_106 (by decide) rfl (fun c_106 => ?_) (fun c_106 => ?_)
            · refine r_aload_n (n := 145) C dMD_evaluate_144 rfl rfl ?_
              refine r_iload_n (n := 146) C dMD_evaluate_145 rfl rfl ?_
              refine r_iload (n := 148) C dMD_evaluate_146 rfl rfl ?_
              refine r_iload (n := 150) C dMD_evaluate_148 rfl rfl ?_
              refine r_cv (n := 153) (rn_V (z := 3) (ci := 10) (T := TMD) C (c_MD_unary2 (Kl K) (Ko K) h1 m ad MI1 ML1 MV1 n ((base + a) * 24 + i) (base + a) _ r b c d hM1 (by omega) (by omega) hW1 (by omega) v0 v1 v2 v3 hkd1 k3 k4 k5 (by rw [s11]; exact a1) (by rw [s11]; exact a2) (by rw [s11]; exact a3)) tw_628 tw_630 ts_26 tw_4 tw_631 rfl rfl ndMD_unary ⟨Nat.le_of_ble_eq_true rfl, Nat.le_of_ble_eq_true rfl⟩ hM1.1 rfl rfl rfl (Nat.le_of_ble_eq_true rfl) dMD_evaluate_150 ⟨Nat.le_of_ble_eq_true rfl, Nat.le_of_ble_eq_true rfl⟩) rfl (fun h2 hq => ?_)
              obtain ⟨MI2, ML2, MV2, hM2, hW2, hS2, hF2⟩ := hq
              refine r_iinc (n := 156) C dMD_evaluate_153 rfl rfl (nI_i _) (by decide) ?_
              refine r_goto (tgt := 59) C dMD_evaluate_156 (by decide) ?_
              refine V.byk (ls' := [(0, .ref m), (1, .int (nI n)), (2, .int (nI base)), (4, .int (nI (base + a))), (5, .int rv), (6, .int (nI ((base + a) * 24 + (i + 1))))]) rfl ?_
              exact ih _ (by omega) (i + 1) rv h2 MI2 ML2 MV2 rfl (by omega) hM2 (by rw [fold_take (emF (uM b c d)) _ hr]; exact hW2) (hS1.tr hS2) (hF1.tr hF2)
            · exact absurd c_106 (by decide)
          · exact absurd c_84 (by decide)
    refine r_aload_n (n := 1) C dMD_evaluate_0 rfl rfl ?_
    refine r_iconst (v := 0) (n := 2) C dMD_evaluate_1 rfl (by decide) ?_
    refine r_put (ci := 10) (n := 5) C hinMD tyMD okMD nmMD rfl 9 (by decide) tw_544 rfl rfl (okMD 9 (by decide)) rfl rfl dMD_evaluate_2 rfl hM.1 (Nat.le_of_ble_eq_true rfl) ?_
    refine V.setV hM 9 (by decide) _ rfl (fun h1 hM1 hF1 => ?_)
    refine r_aload_n (n := 6) C dMD_evaluate_5 rfl rfl ?_
    refine r_get (ci := 10) (n := 9) C hinMD rfl 11 (by decide) tw_546 rfl dMD_evaluate_6 rfl hM1.1 rfl ?_
    refine r_iload_n (n := 10) C dMD_evaluate_9 rfl rfl ?_
    refine r_iconst (v := 5) (n := 11) C dMD_evaluate_10 rfl (by decide) ?_
    refine r_imul (n := 12) C dMD_evaluate_11 rfl ?_
    refine r_ialdM (n := 13) C dMD_evaluate_12 rfl hM1 11 (by decide) (n * 5) (x5 n) (by show _ < 50; omega) ?_
    rw [a0]
    refine r_istore_n (n := 14) C dMD_evaluate_13 rfl (by decide) ?_
    refine r_aload_n (n := 15) C dMD_evaluate_14 rfl rfl ?_
    refine r_get (ci := 10) (n := 18) C hinMD rfl 10 (by decide) tw_545 rfl dMD_evaluate_15 rfl hM1.1 rfl ?_
    refine r_iload_n (n := 19) C dMD_evaluate_18 rfl rfl ?_
    refine r_ialdM (n := 20) C dMD_evaluate_19 rfl hM1 10 (by decide) n rfl (by show _ < 10; omega) ?_
    rw [hkd]
    refine r_if_ne (tgt := 29) (n := 23) C dMD_evaluate_20 (by decide) rfl (fun c_20 => ?_) (fun c_20 => ?_)
    · refine r_iload_n (n := 30) C dMD_evaluate_29 rfl rfl ?_
      refine r_iconst (v := 3) (n := 31) C dMD_evaluate_30 rfl (by decide) ?_
      refine r_iadd (n := 32) C dMD_evaluate_31 rfl ?_
      refine V.eqi (nI_add _ 3) ?_
      refine r_iload_n (n := 33) C dMD_evaluate_32 rfl rfl ?_
      refine r_iadd (n := 34) C dMD_evaluate_33 rfl ?_
      refine V.eqi (y := nI (base + a)) ((nI_add _ _).trans (congrArg nI (by omega))) ?_
      refine r_istore (n := 36) C dMD_evaluate_34 rfl (by decide) ?_
      refine r_iload_n (n := 37) C dMD_evaluate_36 rfl rfl ?_
      refine r_iconst (v := 3) (n := 38) C dMD_evaluate_37 rfl (by decide) ?_
      refine r_iadd (n := 39) C dMD_evaluate_38 rfl ?_
      refine V.eqi (nI_add _ 3) ?_
      refine r_aload_n (n := 40) C dMD_evaluate_39 rfl rfl ?_
      refine r_get (ci := 10) (n := 43) C hinMD rfl 11 (by decide) tw_546 rfl dMD_evaluate_40 rfl hM1.1 rfl ?_
      refine r_iload_n (n := 44) C dMD_evaluate_43 rfl rfl ?_
      refine r_iconst (v := 5) (n := 45) C dMD_evaluate_44 rfl (by decide) ?_
      refine r_imul (n := 46) C dMD_evaluate_45 rfl ?_
      refine r_iconst (v := 1) (n := 47) C dMD_evaluate_46 rfl (by decide) ?_
      refine r_iadd (n := 48) C dMD_evaluate_47 rfl ?_
      refine r_ialdM (n := 49) C dMD_evaluate_48 rfl hM1 11 (by decide) (n * 5 + 1) (x5i n 1) (by show _ < 50; omega) ?_
      refine r_iadd (n := 50) C dMD_evaluate_49 rfl ?_
      refine r_istore (n := 52) C dMD_evaluate_50 rfl (by decide) ?_
      refine r_iload (n := 54) C dMD_evaluate_52 rfl rfl ?_
      refine r_bipush (v := 24) (n := 56) C dMD_evaluate_54 rfl (by decide) ?_
      refine r_imul (n := 57) C dMD_evaluate_56 rfl ?_
      refine V.eqi (x24 _) ?_
      refine r_istore (n := 59) C dMD_evaluate_57 rfl (by decide) ?_
      refine V.byk (ls' := [(0, .ref m), (1, .int (nI n)), (2, .int (nI base)), (4, .int (nI (base + a))), (5, .int _), (6, .int (nI ((base + a) * 24 + 0)))]) rfl ?_
      exact loop _ 0 _ h1 MI ML _ rfl (Nat.zero_le _) hM1 ⟨rfl, Nat.zero_le _, fun i r hr => by simp at hr⟩ ⟨fun _ _ _ _ => rfl, rfl, fun j hj => va_up_ne _ _ hj⟩ hF1
    · exact absurd c_20 (by decide)
  · obtain ⟨k1, k2, k3, k4, k5, k6, k7⟩ : 3 ≤ a ∧ a < 3 + n ∧ 3 ≤ b ∧ b < 3 + n ∧ c < 3 ∧ d < 3 ∧ e < 216 := hok
    have hkd : MI 10 n = nI 3 := hA.1
    have a0 : MI 11 (n * 5) = _ := hA.2 0 (by omega)
    have a1 := hA.2 1 (by omega)
    have a2 := hA.2 2 (by omega)
    have a3 := hA.2 3 (by omega)
    have a4 := hA.2 4 (by omega)
    have hBa := hBL a (by omega)
    have hLa : (Ls a).length ≤ 24 := hBa.2.1
    have tail : ∀ (h1 : AH) (MI1 : Nat → Nat → Int32) (ML1 : Nat → Nat → Int64) (MV1 : Nat → Int32), MH (Ko K) h1 m ad MI1 ML1 MV1 → WL MI1 ML1 MV1 (evW (3, a, b, c, d, e, nn) Ls) → NdK (evW (3, a, b, c, d, e, nn) Ls) → WSame MI MI1 ML ML1 MV MV1 → Frm (mown m ad) h h1 → V K h1 0 0 (EndQ K (QI (Ko K) (fun r h' => r = b01 (fitB 24 (srtW (evW (3, a, b, c, d, e, nn) Ls))) ∧ EvP (Ko K) h h' m ad MI ML MV (base + 3 + n) (srtW (evW (3, a, b, c, d, e, nn) Ls)) (fitB 24 (srtW (evW (3, a, b, c, d, e, nn) Ls))))) 0 0) 256 [(0, .ref m), (1, .int (nI n)), (2, .int (nI base))] [] := by
      intro h1 MI1 ML1 MV1 hM1 hW1 hN1 hS1 hF1
      refine r_aload_n (n := 257) C dMD_evaluate_256 rfl rfl ?_
      refine r_iload_n (n := 258) C dMD_evaluate_257 rfl rfl ?_
      refine r_iconst (v := 3) (n := 259) C dMD_evaluate_258 rfl (by decide) ?_
      refine r_iadd (n := 260) C dMD_evaluate_259 rfl ?_
      refine V.eqi (nI_add _ 3) ?_
      refine r_iload_n (n := 261) C dMD_evaluate_260 rfl rfl ?_
      refine r_iadd (n := 262) C dMD_evaluate_261 rfl ?_
      refine V.eqi (nI_add _ _) ?_
      refine r_bipush (v := 24) (n := 264) C dMD_evaluate_262 rfl (by decide) ?_
      refine r_ci (n := 267) (rn_V (z := 2) (ci := 10) (T := TMD) C (c_MD_settle (Kl K) (Ko K) h1 m ad MI1 ML1 MV1 (base + 3 + n) 24 (evW (3, a, b, c, d, e, nn) Ls) hM1 (by omega) (by omega) hW1 hN1) tw_644 tw_646 ts_30 tw_4 tw_647 rfl rfl ndMD_settle ⟨Nat.le_of_ble_eq_true rfl, Nat.le_of_ble_eq_true rfl⟩ hM1.1 rfl rfl rfl (Nat.le_of_ble_eq_true rfl) dMD_evaluate_264 ⟨Nat.le_of_ble_eq_true rfl, Nat.le_of_ble_eq_true rfl⟩) rfl (fun y h2 hq => ?_)
      obtain ⟨e1, MI2, ML2, hM2, hS2, hB2, hN2, hF2⟩ := hq
      exact r_zret C dMD_evaluate_267 (by rw [e1]; exact b01_n _) (Nat.le_refl _) (Nat.le_refl _) ⟨e1, MI2, ML2, MV1, hM2, ESame.of hS1 hS2, hB2, (fun e => by obtain ⟨z1, z2⟩ := hN2 e; rw [z1, z2]; exact ⟨hS1.1 0 (by decide) (by decide) (by decide), hS1.1 1 (by decide) (by decide) (by decide), hS1.1 2 (by decide) (by decide) (by decide), hS1.1 4 (by decide) (by decide) (by decide), hS1.2.1⟩), hF1.tr hF2⟩
    have hBb := hBL b (by omega)
    have hLb : (Ls b).length ≤ 24 := hBb.2.1
    have loop : ∀ (q i : Nat) (h1 : AH) (MI1 : Nat → Nat → Int32) (ML1 : Nat → Nat → Int64) (MV1 : Nat → Int32), (Ls a).length - i = q → i ≤ (Ls a).length → MH (Ko K) h1 m ad MI1 ML1 MV1 → WL MI1 ML1 MV1 (((Ls a).take i).foldl (jG c d (e / 36) (e / 6 % 6) (e % 6) (Ls b)) []) → WSame MI MI1 ML ML1 MV MV1 → Frm (mown m ad) h h1 → V K h1 0 0 (EndQ K (QI (Ko K) (fun r h' => r = b01 (fitB 24 (srtW (evW (3, a, b, c, d, e, nn) Ls))) ∧ EvP (Ko K) h h' m ad MI ML MV (base + 3 + n) (srtW (evW (3, a, b, c, d, e, nn) Ls)) (fitB 24 (srtW (evW (3, a, b, c, d, e, nn) Ls))))) 0 0) 59 [(0, .ref m), (1, .int (nI n)), (2, .int (nI base)), (4, .int (nI (base + a))), (5, .int (nI (base + b))), (6, .int (nI ((base + a) * 24 + i)))] [] := by
      intro q
      induction q using Nat.strongRecOn with
      | _ q ih =>
        intro i h1 MI1 ML1 MV1 hm hi hM1 hW1 hS1 hF1
        obtain ⟨hb1, hb2, hb3⟩ := hBa.same hS1
        have hl1 := jG_len (lc := c) (rc := d) (x := e / 36) (y := e / 6 % 6) (z := e % 6) (R := Ls b) (W := []) ((Ls a).take i)
        rw [List.length_take, Nat.min_eq_left hi] at hl1
        simp only [List.length_nil, Nat.zero_add] at hl1
        have s11 := hS1.1 11 (by decide) (by decide) (by decide)
        have hkd1 : MI1 10 n = nI 3 := by rw [hS1.1 10 (by decide) (by decide) (by decide)]; exact hkd
        have hmul : i * (Ls b).length ≤ i * 24 := Nat.mul_le_mul_left _ hLb
        refine r_iload (n := 61) C dMD_evaluate_59 rfl rfl ?_
        refine r_iload (n := 63) C dMD_evaluate_61 rfl rfl ?_
        refine r_bipush (v := 24) (n := 65) C dMD_evaluate_63 rfl (by decide) ?_
        refine r_imul (n := 66) C dMD_evaluate_65 rfl ?_
        refine V.eqi (x24 _) ?_
        refine r_aload_n (n := 67) C dMD_evaluate_66 rfl rfl ?_
        refine r_get (ci := 10) (n := 70) C hinMD rfl 4 (by decide) tw_539 rfl dMD_evaluate_67 rfl hM1.1 rfl ?_
        refine r_iload (n := 72) C dMD_evaluate_70 rfl rfl ?_
        refine r_ialdM (n := 73) C dMD_evaluate_72 rfl hM1 4 (by decide) (base + a) rfl (by show _ < 26; omega) ?_
        rw [hb1]
        refine r_iadd (n := 74) C dMD_evaluate_73 rfl ?_
        refine V.eqi (nI_add _ _) ?_
        refine r_icmp_ge (tgt := 159) (n := 77) C dMD_evaluate_74 (by decide) rfl (fun c_74 => ?_) (fun c_74 => ?_)
        · have hie : i = (Ls a).length := by have := (nI_leI (a := (base + a) * 24 + (Ls a).length) (b := (base + a) * 24 + i) (by omega) (by omega)).mp c_74; omega
          refine r_aload_n (n := 160) C dMD_evaluate_159 rfl rfl ?_
          refine r_get (ci := 10) (n := 163) C hinMD rfl 10 (by decide) tw_545 rfl dMD_evaluate_160 rfl hM1.1 rfl ?_
          refine r_iload_n (n := 164) C dMD_evaluate_163 rfl rfl ?_
          refine r_ialdM (n := 165) C dMD_evaluate_164 rfl hM1 10 (by decide) n rfl (by show _ < 10; omega) ?_
          rw [hkd1]
          refine r_iconst (v := 4) (n := 166) C dMD_evaluate_165 rfl (by decide) ?_
          refine r_icmp_ne (tgt := 256) (n := 169) C dMD_evaluate_166 (by decide) rfl (fun c_166 => ?_) (fun c_166 => ?_)
          · refine V.byk (ls' := [(0, .ref m), (1, .int (nI n)), (2, .int (nI base))]) rfl ?_
            exact tail h1 MI1 ML1 MV1 hM1 (by rw [hie, List.take_length] at hW1; exact hW1) (jG_nd _ List.Pairwise.nil) hS1 hF1
          · exact absurd c_166 (by decide)
        · have hlt : i < (Ls a).length := by
            rcases Nat.lt_or_ge i (Ls a).length with q1 | q1
            · exact q1
            · exact absurd (nI_le (a := (base + a) * 24 + (Ls a).length) (b := (base + a) * 24 + i) (by omega) (by omega)) c_74
          obtain ⟨r, hr⟩ : ∃ r, (Ls a)[i]? = some r := ⟨_, List.getElem?_eq_getElem hlt⟩
          obtain ⟨v0, v1, v2, v3⟩ := hb3 i r hr
          refine r_aload_n (n := 78) C dMD_evaluate_77 rfl rfl ?_
          refine r_get (ci := 10) (n := 81) C hinMD rfl 10 (by decide) tw_545 rfl dMD_evaluate_78 rfl hM1.1 rfl ?_
          refine r_iload_n (n := 82) C dMD_evaluate_81 rfl rfl ?_
          refine r_ialdM (n := 83) C dMD_evaluate_82 rfl hM1 10 (by decide) n rfl (by show _ < 10; omega) ?_
          rw [hkd1]
          refine r_iconst (v := 3) (n := 84) C dMD_evaluate_83 rfl (by decide) ?_
          refine r_icmp_ne (tgt := 99) (n := 87) C dMD_evaluate_84 (by decide) rfl (fun c_84 => ?_) (fun c_84 => ?_)
          · exact absurd rfl c_84
          · refine r_aload_n (n := 88) C dMD_evaluate_87 rfl rfl ?_
            refine r_iload_n (n := 89) C dMD_evaluate_88 rfl rfl ?_
            refine r_iload (n := 91) C dMD_evaluate_89 rfl rfl ?_
            refine r_iload (n := 93) C dMD_evaluate_91 rfl rfl ?_
            refine r_cv (n := 96) (rn_V (z := 3) (ci := 10) (T := TMD) C (c_MD_joinOne (Kl K) (Ko K) h1 m ad MI1 ML1 MV1 n ((base + a) * 24 + i) (base + b) c d e (Ls b) _ r hM1 (by omega) (by omega) (by omega) k5 k6 k7 (hBb.same hS1) hW1 (by omega) (by rw [s11]; exact a2) (by rw [s11]; exact a3) (by rw [s11]; exact a4) v0 v1 v2 v3) tw_612 tw_614 ts_22 tw_4 tw_615 rfl rfl ndMD_joinOne ⟨Nat.le_of_ble_eq_true rfl, Nat.le_of_ble_eq_true rfl⟩ hM1.1 rfl rfl rfl (Nat.le_of_ble_eq_true rfl) dMD_evaluate_93 ⟨Nat.le_of_ble_eq_true rfl, Nat.le_of_ble_eq_true rfl⟩) rfl (fun h2 hq => ?_)
            obtain ⟨MI2, ML2, MV2, hM2, hW2, hS2, hF2⟩ := hq
            refine r_goto (tgt := 153) C dMD_evaluate_96 (by decide) ?_
            refine r_iinc (n := 156) C dMD_evaluate_153 rfl rfl (nI_i _) (by decide) ?_
            refine r_goto (tgt := 59) C dMD_evaluate_156 (by decide) ?_
            refine V.byk (ls' := [(0, .ref m), (1, .int (nI n)), (2, .int (nI base)), (4, .int (nI (base + a))), (5, .int (nI (base + b))), (6, .int (nI ((base + a) * 24 + (i + 1))))]) rfl ?_
            exact ih _ (by omega) (i + 1) h2 MI2 ML2 MV2 rfl (by omega) hM2 (by rw [fold_take (jG c d (e / 36) (e / 6 % 6) (e % 6) (Ls b)) _ hr]; exact hW2) (hS1.tr hS2) (hF1.tr hF2)
    refine r_aload_n (n := 1) C dMD_evaluate_0 rfl rfl ?_
    refine r_iconst (v := 0) (n := 2) C dMD_evaluate_1 rfl (by decide) ?_
    refine r_put (ci := 10) (n := 5) C hinMD tyMD okMD nmMD rfl 9 (by decide) tw_544 rfl rfl (okMD 9 (by decide)) rfl rfl dMD_evaluate_2 rfl hM.1 (Nat.le_of_ble_eq_true rfl) ?_
    refine V.setV hM 9 (by decide) _ rfl (fun h1 hM1 hF1 => ?_)
    refine r_aload_n (n := 6) C dMD_evaluate_5 rfl rfl ?_
    refine r_get (ci := 10) (n := 9) C hinMD rfl 11 (by decide) tw_546 rfl dMD_evaluate_6 rfl hM1.1 rfl ?_
    refine r_iload_n (n := 10) C dMD_evaluate_9 rfl rfl ?_
    refine r_iconst (v := 5) (n := 11) C dMD_evaluate_10 rfl (by decide) ?_
    refine r_imul (n := 12) C dMD_evaluate_11 rfl ?_
    refine r_ialdM (n := 13) C dMD_evaluate_12 rfl hM1 11 (by decide) (n * 5) (x5 n) (by show _ < 50; omega) ?_
    rw [a0]
    refine r_istore_n (n := 14) C dMD_evaluate_13 rfl (by decide) ?_
    refine r_aload_n (n := 15) C dMD_evaluate_14 rfl rfl ?_
    refine r_get (ci := 10) (n := 18) C hinMD rfl 10 (by decide) tw_545 rfl dMD_evaluate_15 rfl hM1.1 rfl ?_
    refine r_iload_n (n := 19) C dMD_evaluate_18 rfl rfl ?_
    refine r_ialdM (n := 20) C dMD_evaluate_19 rfl hM1 10 (by decide) n rfl (by show _ < 10; omega) ?_
    rw [hkd]
    refine r_if_ne (tgt := 29) (n := 23) C dMD_evaluate_20 (by decide) rfl (fun c_20 => ?_) (fun c_20 => ?_)
    · refine r_iload_n (n := 30) C dMD_evaluate_29 rfl rfl ?_
      refine r_iconst (v := 3) (n := 31) C dMD_evaluate_30 rfl (by decide) ?_
      refine r_iadd (n := 32) C dMD_evaluate_31 rfl ?_
      refine V.eqi (nI_add _ 3) ?_
      refine r_iload_n (n := 33) C dMD_evaluate_32 rfl rfl ?_
      refine r_iadd (n := 34) C dMD_evaluate_33 rfl ?_
      refine V.eqi (y := nI (base + a)) ((nI_add _ _).trans (congrArg nI (by omega))) ?_
      refine r_istore (n := 36) C dMD_evaluate_34 rfl (by decide) ?_
      refine r_iload_n (n := 37) C dMD_evaluate_36 rfl rfl ?_
      refine r_iconst (v := 3) (n := 38) C dMD_evaluate_37 rfl (by decide) ?_
      refine r_iadd (n := 39) C dMD_evaluate_38 rfl ?_
      refine V.eqi (nI_add _ 3) ?_
      refine r_aload_n (n := 40) C dMD_evaluate_39 rfl rfl ?_
      refine r_get (ci := 10) (n := 43) C hinMD rfl 11 (by decide) tw_546 rfl dMD_evaluate_40 rfl hM1.1 rfl ?_
      refine r_iload_n (n := 44) C dMD_evaluate_43 rfl rfl ?_
      refine r_iconst (v := 5) (n := 45) C dMD_evaluate_44 rfl (by decide) ?_
      refine r_imul (n := 46) C dMD_evaluate_45 rfl ?_
      refine r_iconst (v := 1) (n := 47) C dMD_evaluate_46 rfl (by decide) ?_
      refine r_iadd (n := 48) C dMD_evaluate_47 rfl ?_
      refine r_ialdM (n := 49) C dMD_evaluate_48 rfl hM1 11 (by decide) (n * 5 + 1) (x5i n 1) (by show _ < 50; omega) ?_
      rw [a1]
      refine r_iadd (n := 50) C dMD_evaluate_49 rfl ?_
      refine V.eqi (y := nI (base + b)) ((nI_add _ _).trans (congrArg nI (by omega))) ?_
      refine r_istore (n := 52) C dMD_evaluate_50 rfl (by decide) ?_
      refine r_iload (n := 54) C dMD_evaluate_52 rfl rfl ?_
      refine r_bipush (v := 24) (n := 56) C dMD_evaluate_54 rfl (by decide) ?_
      refine r_imul (n := 57) C dMD_evaluate_56 rfl ?_
      refine V.eqi (x24 _) ?_
      refine r_istore (n := 59) C dMD_evaluate_57 rfl (by decide) ?_
      refine V.byk (ls' := [(0, .ref m), (1, .int (nI n)), (2, .int (nI base)), (4, .int (nI (base + a))), (5, .int (nI (base + b))), (6, .int (nI ((base + a) * 24 + 0)))]) rfl ?_
      exact loop _ 0 h1 MI ML _ rfl (Nat.zero_le _) hM1 ⟨rfl, Nat.zero_le _, fun i r hr => by simp at hr⟩ ⟨fun _ _ _ _ => rfl, rfl, fun j hj => va_up_ne _ _ hj⟩ hF1
    · exact absurd c_20 (by decide)
  · obtain ⟨k1, k2, k3, k4, k5⟩ : 3 ≤ a ∧ a < 3 + n ∧ 3 ≤ b ∧ b < 3 + n ∧ c < 2 := hok
    have hkd : MI 10 n = nI 4 := hA.1
    have a0 : MI 11 (n * 5) = _ := hA.2 0 (by omega)
    have a1 := hA.2 1 (by omega)
    have a2 := hA.2 2 (by omega)
    have a3 := hA.2 3 (by omega)
    have a4 := hA.2 4 (by omega)
    have hBa := hBL a (by omega)
    have hLa : (Ls a).length ≤ 24 := hBa.2.1
    have tail : ∀ (h1 : AH) (MI1 : Nat → Nat → Int32) (ML1 : Nat → Nat → Int64) (MV1 : Nat → Int32), MH (Ko K) h1 m ad MI1 ML1 MV1 → WL MI1 ML1 MV1 (evW (4, a, b, c, d, e, nn) Ls) → NdK (evW (4, a, b, c, d, e, nn) Ls) → WSame MI MI1 ML ML1 MV MV1 → Frm (mown m ad) h h1 → V K h1 0 0 (EndQ K (QI (Ko K) (fun r h' => r = b01 (fitB 24 (srtW (evW (4, a, b, c, d, e, nn) Ls))) ∧ EvP (Ko K) h h' m ad MI ML MV (base + 3 + n) (srtW (evW (4, a, b, c, d, e, nn) Ls)) (fitB 24 (srtW (evW (4, a, b, c, d, e, nn) Ls))))) 0 0) 256 [(0, .ref m), (1, .int (nI n)), (2, .int (nI base))] [] := by
      intro h1 MI1 ML1 MV1 hM1 hW1 hN1 hS1 hF1
      refine r_aload_n (n := 257) C dMD_evaluate_256 rfl rfl ?_
      refine r_iload_n (n := 258) C dMD_evaluate_257 rfl rfl ?_
      refine r_iconst (v := 3) (n := 259) C dMD_evaluate_258 rfl (by decide) ?_
      refine r_iadd (n := 260) C dMD_evaluate_259 rfl ?_
      refine V.eqi (nI_add _ 3) ?_
      refine r_iload_n (n := 261) C dMD_evaluate_260 rfl rfl ?_
      refine r_iadd (n := 262) C dMD_evaluate_261 rfl ?_
      refine V.eqi (nI_add _ _) ?_
      refine r_bipush (v := 24) (n := 264) C dMD_evaluate_262 rfl (by decide) ?_
      refine r_ci (n := 267) (rn_V (z := 2) (ci := 10) (T := TMD) C (c_MD_settle (Kl K) (Ko K) h1 m ad MI1 ML1 MV1 (base + 3 + n) 24 (evW (4, a, b, c, d, e, nn) Ls) hM1 (by omega) (by omega) hW1 hN1) tw_644 tw_646 ts_30 tw_4 tw_647 rfl rfl ndMD_settle ⟨Nat.le_of_ble_eq_true rfl, Nat.le_of_ble_eq_true rfl⟩ hM1.1 rfl rfl rfl (Nat.le_of_ble_eq_true rfl) dMD_evaluate_264 ⟨Nat.le_of_ble_eq_true rfl, Nat.le_of_ble_eq_true rfl⟩) rfl (fun y h2 hq => ?_)
      obtain ⟨e1, MI2, ML2, hM2, hS2, hB2, hN2, hF2⟩ := hq
      exact r_zret C dMD_evaluate_267 (by rw [e1]; exact b01_n _) (Nat.le_refl _) (Nat.le_refl _) ⟨e1, MI2, ML2, MV1, hM2, ESame.of hS1 hS2, hB2, (fun e => by obtain ⟨z1, z2⟩ := hN2 e; rw [z1, z2]; exact ⟨hS1.1 0 (by decide) (by decide) (by decide), hS1.1 1 (by decide) (by decide) (by decide), hS1.1 2 (by decide) (by decide) (by decide), hS1.1 4 (by decide) (by decide) (by decide), hS1.2.1⟩), hF1.tr hF2⟩
    have hBb := hBL b (by omega)
    have hLb : (Ls b).length ≤ 24 := hBb.2.1
    have loop2 : ∀ (q i : Nat) (h1 : AH) (MI1 : Nat → Nat → Int32) (ML1 : Nat → Nat → Int64) (MV1 : Nat → Int32), (Ls b).length - i = q → i ≤ (Ls b).length → MH (Ko K) h1 m ad MI1 ML1 MV1 → WL MI1 ML1 MV1 (((Ls b).take i).foldl (emF (uC c)) ((Ls a).foldl (emF uT) [])) → WSame MI MI1 ML ML1 MV MV1 → Frm (mown m ad) h h1 → V K h1 0 0 (EndQ K (QI (Ko K) (fun r h' => r = b01 (fitB 24 (srtW (evW (4, a, b, c, d, e, nn) Ls))) ∧ EvP (Ko K) h h' m ad MI ML MV (base + 3 + n) (srtW (evW (4, a, b, c, d, e, nn) Ls)) (fitB 24 (srtW (evW (4, a, b, c, d, e, nn) Ls))))) 0 0) 176 [(0, .ref m), (1, .int (nI n)), (2, .int (nI base)), (5, .int (nI (base + b))), (6, .int (nI ((base + b) * 24 + i)))] [] := by
      intro q
      induction q using Nat.strongRecOn with
      | _ q ih =>
        intro i h1 MI1 ML1 MV1 hm hi hM1 hW1 hS1 hF1
        obtain ⟨hb1, hb2, hb3⟩ := hBb.same hS1
        have hl1 := emF_len (F := uC c) (W := ((Ls a).foldl (emF uT) [])) ((Ls b).take i)
        have hl2 := emF_len (F := uT) (W := []) (Ls a)
        rw [List.length_take] at hl1
        simp only [List.length_nil] at hl2
        refine r_iload (n := 178) C dMD_evaluate_176 rfl rfl ?_
        refine r_iload (n := 180) C dMD_evaluate_178 rfl rfl ?_
        refine r_bipush (v := 24) (n := 182) C dMD_evaluate_180 rfl (by decide) ?_
        refine r_imul (n := 183) C dMD_evaluate_182 rfl ?_
        refine V.eqi (x24 _) ?_
        refine r_aload_n (n := 184) C dMD_evaluate_183 rfl rfl ?_
        refine r_get (ci := 10) (n := 187) C hinMD rfl 4 (by decide) tw_539 rfl dMD_evaluate_184 rfl hM1.1 rfl ?_
        refine r_iload (n := 189) C dMD_evaluate_187 rfl rfl ?_
        refine r_ialdM (n := 190) C dMD_evaluate_189 rfl hM1 4 (by decide) (base + b) rfl (by show _ < 26; omega) ?_
        rw [hb1]
        refine r_iadd (n := 191) C dMD_evaluate_190 rfl ?_
        refine V.eqi (nI_add _ _) ?_
        refine r_icmp_ge (tgt := 256) (n := 194) C dMD_evaluate_191 (by decide) rfl (fun c_191 => ?_) (fun c_191 => ?_)
        · have hie : i = (Ls b).length := by have := (nI_leI (a := (base + b) * 24 + (Ls b).length) (b := (base + b) * 24 + i) (by omega) (by omega)).mp c_191; omega
          refine V.byk (ls' := [(0, .ref m), (1, .int (nI n)), (2, .int (nI base))]) rfl ?_
          exact tail h1 MI1 ML1 MV1 hM1 (by rw [hie, List.take_length] at hW1; exact hW1) (emF_nd _ (emF_nd _ List.Pairwise.nil)) hS1 hF1
        · have hlt : i < (Ls b).length := by
            rcases Nat.lt_or_ge i (Ls b).length with q1 | q1
            · exact q1
            · exact absurd (nI_le (a := (base + b) * 24 + (Ls b).length) (b := (base + b) * 24 + i) (by omega) (by omega)) c_191
          obtain ⟨r, hr⟩ : ∃ r, (Ls b)[i]? = some r := ⟨_, List.getElem?_eq_getElem hlt⟩
          obtain ⟨v0, v1, v2, v3⟩ := hb3 i r hr
          refine r_aload_n (n := 195) C dMD_evaluate_194 rfl rfl ?_
          refine r_aload_n (n := 196) C dMD_evaluate_195 rfl rfl ?_
          refine r_get (ci := 10) (n := 199) C hinMD rfl 0 (by decide) tw_535 rfl dMD_evaluate_196 rfl hM1.1 rfl ?_
          refine r_iload (n := 201) C dMD_evaluate_199 rfl rfl ?_
          refine r_ialdM (n := 202) C dMD_evaluate_201 rfl hM1 0 (by decide) ((base + b) * 24 + i) rfl (by show _ < 624; omega) ?_
          rw [v0]
          refine r_aload_n (n := 203) C dMD_evaluate_202 rfl rfl ?_
          refine r_get (ci := 10) (n := 206) C hinMD rfl 1 (by decide) tw_536 rfl dMD_evaluate_203 rfl hM1.1 rfl ?_
          refine r_iload (n := 208) C dMD_evaluate_206 rfl rfl ?_
          refine r_ialdM (n := 209) C dMD_evaluate_208 rfl hM1 1 (by decide) ((base + b) * 24 + i) rfl (by show _ < 624; omega) ?_
          rw [v1]
          refine r_aload_n (n := 210) C dMD_evaluate_209 rfl rfl ?_
          refine r_get (ci := 10) (n := 213) C hinMD rfl 2 (by decide) tw_537 rfl dMD_evaluate_210 rfl hM1.1 rfl ?_
          refine r_iload (n := 215) C dMD_evaluate_213 rfl rfl ?_
          refine r_ialdM (n := 216) C dMD_evaluate_215 rfl hM1 2 (by decide) ((base + b) * 24 + i) rfl (by show _ < 624; omega) ?_
          rw [v2]
          refine r_aload_n (n := 217) C dMD_evaluate_216 rfl rfl ?_
          refine r_get (ci := 10) (n := 220) C hinMD rfl 11 (by decide) tw_546 rfl dMD_evaluate_217 rfl hM1.1 rfl ?_
          refine r_iload_n (n := 221) C dMD_evaluate_220 rfl rfl ?_
          refine r_iconst (v := 5) (n := 222) C dMD_evaluate_221 rfl (by decide) ?_
          refine r_imul (n := 223) C dMD_evaluate_222 rfl ?_
          refine r_iconst (v := 2) (n := 224) C dMD_evaluate_223 rfl (by decide) ?_
          refine r_iadd (n := 225) C dMD_evaluate_224 rfl ?_
          refine r_ialdM (n := 226) C dMD_evaluate_225 rfl hM1 11 (by decide) (n * 5 + 2) (x5i n 2) (by show _ < 50; omega) ?_
          rw [hS1.1 11 (by decide) (by decide) (by decide), a2]
          refine r_if_ne (tgt := 239) (n := 229) C dMD_evaluate_226 (by decide) rfl (fun c_226 => ?_) (fun c_226 => ?_)
          · have hc0 : ¬ c = 0 := fun z => c_226 (by rw [z]; rfl)
            refine r_aload_n (n := 240) C dMD_evaluate_239 rfl rfl ?_
            refine r_get (ci := 10) (n := 243) C hinMD rfl 3 (by decide) tw_538 rfl dMD_evaluate_240 rfl hM1.1 rfl ?_
            refine r_iload (n := 245) C dMD_evaluate_243 rfl rfl ?_
            refine r_laldM (n := 246) C dMD_evaluate_245 rfl hM1 3 (by decide) ((base + b) * 24 + i) rfl (by show _ < 624; omega) ?_
            rw [v3]
            refine r_lneg (n := 247) C dMD_evaluate_246 rfl ?_
            refine r_cv (n := 250) (rn_V (z := 4) (ci := 10) (T := TMD) C (c_MD_emit (Kl K) (Ko K) h1 m ad MI1 ML1 MV1 _ r.1.1 r.1.2.1 r.1.2.2 (-r.2) hM1 hW1 (by omega)) tw_624 tw_626 ts_25 tw_4 tw_627 rfl rfl ndMD_emit ⟨Nat.le_of_ble_eq_true rfl, Nat.le_of_ble_eq_true rfl⟩ hM1.1 rfl rfl rfl (Nat.le_of_ble_eq_true rfl) dMD_evaluate_247 ⟨Nat.le_of_ble_eq_true rfl, Nat.le_of_ble_eq_true rfl⟩) rfl (fun h2 hq => ?_)
            obtain ⟨MI2, ML2, MV2, hM2, hW2, hS2, hF2⟩ := hq
            have hW2 : WL MI2 ML2 MV2 (emF (uC c) (((Ls b).take i).foldl (emF (uC c)) ((Ls a).foldl (emF uT) [])) r) := by rw [emF_s (q := (r.1, (-r.2))) (by unfold uC; rw [if_neg hc0])]; exact hW2
            refine r_iinc (n := 253) C dMD_evaluate_250 rfl rfl (nI_i _) (by decide) ?_
            refine r_goto (tgt := 176) C dMD_evaluate_253 (by decide) ?_
            refine V.byk (ls' := [(0, .ref m), (1, .int (nI n)), (2, .int (nI base)), (5, .int (nI (base + b))), (6, .int (nI ((base + b) * 24 + (i + 1))))]) rfl ?_
            exact ih _ (by omega) (i + 1) h2 MI2 ML2 MV2 rfl (by omega) hM2 (by rw [fold_take (emF (uC c)) _ hr]; exact hW2) (hS1.tr hS2) (hF1.tr hF2)
          · have hc0 : c = 0 := (nI_eq (a := c) (b := 0) (by omega) (by omega)).mp c_226
            refine r_aload_n (n := 230) C dMD_evaluate_229 rfl rfl ?_
            refine r_get (ci := 10) (n := 233) C hinMD rfl 3 (by decide) tw_538 rfl dMD_evaluate_230 rfl hM1.1 rfl ?_
            refine r_iload (n := 235) C dMD_evaluate_233 rfl rfl ?_
            refine r_laldM (n := 236) C dMD_evaluate_235 rfl hM1 3 (by decide) ((base + b) * 24 + i) rfl (by show _ < 624; omega) ?_
            rw [v3]
            refine r_goto (tgt := 247) C dMD_evaluate_236 (by decide) ?_
            refine r_cv (n := 250) (rn_V (z := 4) (ci := 10) (T := TMD) C (c_MD_emit (Kl K) (Ko K) h1 m ad MI1 ML1 MV1 _ r.1.1 r.1.2.1 r.1.2.2 r.2 hM1 hW1 (by omega)) tw_624 tw_626 ts_25 tw_4 tw_627 rfl rfl ndMD_emit ⟨Nat.le_of_ble_eq_true rfl, Nat.le_of_ble_eq_true rfl⟩ hM1.1 rfl rfl rfl (Nat.le_of_ble_eq_true rfl) dMD_evaluate_247 ⟨Nat.le_of_ble_eq_true rfl, Nat.le_of_ble_eq_true rfl⟩) rfl (fun h2 hq => ?_)
            obtain ⟨MI2, ML2, MV2, hM2, hW2, hS2, hF2⟩ := hq
            have hW2 : WL MI2 ML2 MV2 (emF (uC c) (((Ls b).take i).foldl (emF (uC c)) ((Ls a).foldl (emF uT) [])) r) := by rw [emF_s (q := (r.1, r.2)) (by unfold uC; rw [if_pos hc0])]; exact hW2
            refine r_iinc (n := 253) C dMD_evaluate_250 rfl rfl (nI_i _) (by decide) ?_
            refine r_goto (tgt := 176) C dMD_evaluate_253 (by decide) ?_
            refine V.byk (ls' := [(0, .ref m), (1, .int (nI n)), (2, .int (nI base)), (5, .int (nI (base + b))), (6, .int (nI ((base + b) * 24 + (i + 1))))]) rfl ?_
            exact ih _ (by omega) (i + 1) h2 MI2 ML2 MV2 rfl (by omega) hM2 (by rw [fold_take (emF (uC c)) _ hr]; exact hW2) (hS1.tr hS2) (hF1.tr hF2)
    have loop : ∀ (q i : Nat) (h1 : AH) (MI1 : Nat → Nat → Int32) (ML1 : Nat → Nat → Int64) (MV1 : Nat → Int32), (Ls a).length - i = q → i ≤ (Ls a).length → MH (Ko K) h1 m ad MI1 ML1 MV1 → WL MI1 ML1 MV1 (((Ls a).take i).foldl (emF uT) []) → WSame MI MI1 ML ML1 MV MV1 → Frm (mown m ad) h h1 → V K h1 0 0 (EndQ K (QI (Ko K) (fun r h' => r = b01 (fitB 24 (srtW (evW (4, a, b, c, d, e, nn) Ls))) ∧ EvP (Ko K) h h' m ad MI ML MV (base + 3 + n) (srtW (evW (4, a, b, c, d, e, nn) Ls)) (fitB 24 (srtW (evW (4, a, b, c, d, e, nn) Ls))))) 0 0) 59 [(0, .ref m), (1, .int (nI n)), (2, .int (nI base)), (4, .int (nI (base + a))), (5, .int (nI (base + b))), (6, .int (nI ((base + a) * 24 + i)))] [] := by
      intro q
      induction q using Nat.strongRecOn with
      | _ q ih =>
        intro i h1 MI1 ML1 MV1 hm hi hM1 hW1 hS1 hF1
        obtain ⟨hb1, hb2, hb3⟩ := hBa.same hS1
        have hl1 := emF_len (F := uT) (W := []) ((Ls a).take i)
        rw [List.length_take, Nat.min_eq_left hi] at hl1
        simp only [List.length_nil, Nat.zero_add] at hl1
        have s11 := hS1.1 11 (by decide) (by decide) (by decide)
        have hkd1 : MI1 10 n = nI 4 := by rw [hS1.1 10 (by decide) (by decide) (by decide)]; exact hkd
        refine r_iload (n := 61) C dMD_evaluate_59 rfl rfl ?_
        refine r_iload (n := 63) C dMD_evaluate_61 rfl rfl ?_
        refine r_bipush (v := 24) (n := 65) C dMD_evaluate_63 rfl (by decide) ?_
        refine r_imul (n := 66) C dMD_evaluate_65 rfl ?_
        refine V.eqi (x24 _) ?_
        refine r_aload_n (n := 67) C dMD_evaluate_66 rfl rfl ?_
        refine r_get (ci := 10) (n := 70) C hinMD rfl 4 (by decide) tw_539 rfl dMD_evaluate_67 rfl hM1.1 rfl ?_
        refine r_iload (n := 72) C dMD_evaluate_70 rfl rfl ?_
        refine r_ialdM (n := 73) C dMD_evaluate_72 rfl hM1 4 (by decide) (base + a) rfl (by show _ < 26; omega) ?_
        rw [hb1]
        refine r_iadd (n := 74) C dMD_evaluate_73 rfl ?_
        refine V.eqi (nI_add _ _) ?_
        refine r_icmp_ge (tgt := 159) (n := 77) C dMD_evaluate_74 (by decide) rfl (fun c_74 => ?_) (fun c_74 => ?_)
        · have hie : i = (Ls a).length := by have := (nI_leI (a := (base + a) * 24 + (Ls a).length) (b := (base + a) * 24 + i) (by omega) (by omega)).mp c_74; omega
          refine r_aload_n (n := 160) C dMD_evaluate_159 rfl rfl ?_
          refine r_get (ci := 10) (n := 163) C hinMD rfl 10 (by decide) tw_545 rfl dMD_evaluate_160 rfl hM1.1 rfl ?_
          refine r_iload_n (n := 164) C dMD_evaluate_163 rfl rfl ?_
          refine r_ialdM (n := 165) C dMD_evaluate_164 rfl hM1 10 (by decide) n rfl (by show _ < 10; omega) ?_
          rw [hkd1]
          refine r_iconst (v := 4) (n := 166) C dMD_evaluate_165 rfl (by decide) ?_
          refine r_icmp_ne (tgt := 256) (n := 169) C dMD_evaluate_166 (by decide) rfl (fun c_166 => ?_) (fun c_166 => ?_)
          · exact absurd rfl c_166
          · refine r_iload (n := 171) C dMD_evaluate_169 rfl rfl ?_
            refine r_bipush (v := 24) (n := 173) C dMD_evaluate_171 rfl (by decide) ?_
            refine r_imul (n := 174) C dMD_evaluate_173 rfl ?_
            refine V.eqi (x24 _) ?_
            refine r_istore (n := 176) C dMD_evaluate_174 rfl (by decide) ?_
            refine V.byk (ls' := [(0, .ref m), (1, .int (nI n)), (2, .int (nI base)), (5, .int (nI (base + b))), (6, .int (nI ((base + b) * 24 + 0)))]) rfl ?_
            exact loop2 _ 0 h1 MI1 ML1 MV1 rfl (Nat.zero_le _) hM1 (by rw [hie, List.take_length] at hW1; exact hW1) hS1 hF1
        · have hlt : i < (Ls a).length := by
            rcases Nat.lt_or_ge i (Ls a).length with q1 | q1
            · exact q1
            · exact absurd (nI_le (a := (base + a) * 24 + (Ls a).length) (b := (base + a) * 24 + i) (by omega) (by omega)) c_74
          obtain ⟨r, hr⟩ : ∃ r, (Ls a)[i]? = some r := ⟨_, List.getElem?_eq_getElem hlt⟩
          obtain ⟨v0, v1, v2, v3⟩ := hb3 i r hr
          refine r_aload_n (n := 78) C dMD_evaluate_77 rfl rfl ?_
          refine r_get (ci := 10) (n := 81) C hinMD rfl 10 (by decide) tw_545 rfl dMD_evaluate_78 rfl hM1.1 rfl ?_
          refine r_iload_n (n := 82) C dMD_evaluate_81 rfl rfl ?_
          refine r_ialdM (n := 83) C dMD_evaluate_82 rfl hM1 10 (by decide) n rfl (by show _ < 10; omega) ?_
          rw [hkd1]
          refine r_iconst (v := 3) (n := 84) C dMD_evaluate_83 rfl (by decide) ?_
          refine r_icmp_ne (tgt := 99) (n := 87) C dMD_evaluate_84 (by decide) rfl (fun c_84 => ?_) (fun c_84 => ?_)
          · refine r_aload_n (n := 100) C dMD_evaluate_99 rfl rfl ?_
            refine r_get (ci := 10) (n := 103) C hinMD rfl 10 (by decide) tw_545 rfl dMD_evaluate_100 rfl hM1.1 rfl ?_
            refine r_iload_n (n := 104) C dMD_evaluate_103 rfl rfl ?_
            refine r_ialdM (n := 105) C dMD_evaluate_104 rfl hM1 10 (by decide) n rfl (by show _ < 10; omega) ?_
            rw [hkd1]
            refine r_iconst (v := 4) (n := 106) C dMD_evaluate_105 rfl (by decide) ?_
            refine r_icmp_ne (tgt := 144) (n := 109) C dMD_evaluate_106 (by decide) rfl (fun c_106 => ?_) (fun c_106 => ?_)
            · exact absurd rfl c_106
            · refine r_aload_n (n := 110) C dMD_evaluate_109 rfl rfl ?_
              refine r_aload_n (n := 111) C dMD_evaluate_110 rfl rfl ?_
              refine r_get (ci := 10) (n := 114) C hinMD rfl 0 (by decide) tw_535 rfl dMD_evaluate_111 rfl hM1.1 rfl ?_
              refine r_iload (n := 116) C dMD_evaluate_114 rfl rfl ?_
              refine r_ialdM (n := 117) C dMD_evaluate_116 rfl hM1 0 (by decide) ((base + a) * 24 + i) rfl (by show _ < 624; omega) ?_
              rw [v0]
              refine r_aload_n (n := 118) C dMD_evaluate_117 rfl rfl ?_
              refine r_get (ci := 10) (n := 121) C hinMD rfl 1 (by decide) tw_536 rfl dMD_evaluate_118 rfl hM1.1 rfl ?_
              refine r_iload (n := 123) C dMD_evaluate_121 rfl rfl ?_
              refine r_ialdM (n := 124) C dMD_evaluate_123 rfl hM1 1 (by decide) ((base + a) * 24 + i) rfl (by show _ < 624; omega) ?_
              rw [v1]
              refine r_aload_n (n := 125) C dMD_evaluate_124 rfl rfl ?_
              refine r_get (ci := 10) (n := 128) C hinMD rfl 2 (by decide) tw_537 rfl dMD_evaluate_125 rfl hM1.1 rfl ?_
              refine r_iload (n := 130) C dMD_evaluate_128 rfl rfl ?_
              refine r_ialdM (n := 131) C dMD_evaluate_130 rfl hM1 2 (by decide) ((base + a) * 24 + i) rfl (by show _ < 624; omega) ?_
              rw [v2]
              refine r_aload_n (n := 132) C dMD_evaluate_131 rfl rfl ?_
              refine r_get (ci := 10) (n := 135) C hinMD rfl 3 (by decide) tw_538 rfl dMD_evaluate_132 rfl hM1.1 rfl ?_
              refine r_iload (n := 137) C dMD_evaluate_135 rfl rfl ?_
              refine r_laldM (n := 138) C dMD_evaluate_137 rfl hM1 3 (by decide) ((base + a) * 24 + i) rfl (by show _ < 624; omega) ?_
              rw [v3]
              refine r_cv (n := 141) (rn_V (z := 4) (ci := 10) (T := TMD) C (c_MD_emit (Kl K) (Ko K) h1 m ad MI1 ML1 MV1 _ r.1.1 r.1.2.1 r.1.2.2 r.2 hM1 hW1 (by omega)) tw_624 tw_626 ts_25 tw_4 tw_627 rfl rfl ndMD_emit ⟨Nat.le_of_ble_eq_true rfl, Nat.le_of_ble_eq_true rfl⟩ hM1.1 rfl rfl rfl (Nat.le_of_ble_eq_true rfl) dMD_evaluate_138 ⟨Nat.le_of_ble_eq_true rfl, Nat.le_of_ble_eq_true rfl⟩) rfl (fun h2 hq => ?_)
              obtain ⟨MI2, ML2, MV2, hM2, hW2, hS2, hF2⟩ := hq
              refine r_goto (tgt := 153) C dMD_evaluate_141 (by decide) ?_
              refine r_iinc (n := 156) C dMD_evaluate_153 rfl rfl (nI_i _) (by decide) ?_
              refine r_goto (tgt := 59) C dMD_evaluate_156 (by decide) ?_
              refine V.byk (ls' := [(0, .ref m), (1, .int (nI n)), (2, .int (nI base)), (4, .int (nI (base + a))), (5, .int (nI (base + b))), (6, .int (nI ((base + a) * 24 + (i + 1))))]) rfl ?_
              exact ih _ (by omega) (i + 1) h2 MI2 ML2 MV2 rfl (by omega) hM2 (by rw [fold_take (emF uT) _ hr]; exact hW2) (hS1.tr hS2) (hF1.tr hF2)
          · exact absurd c_84 (by decide)
    refine r_aload_n (n := 1) C dMD_evaluate_0 rfl rfl ?_
    refine r_iconst (v := 0) (n := 2) C dMD_evaluate_1 rfl (by decide) ?_
    refine r_put (ci := 10) (n := 5) C hinMD tyMD okMD nmMD rfl 9 (by decide) tw_544 rfl rfl (okMD 9 (by decide)) rfl rfl dMD_evaluate_2 rfl hM.1 (Nat.le_of_ble_eq_true rfl) ?_
    refine V.setV hM 9 (by decide) _ rfl (fun h1 hM1 hF1 => ?_)
    refine r_aload_n (n := 6) C dMD_evaluate_5 rfl rfl ?_
    refine r_get (ci := 10) (n := 9) C hinMD rfl 11 (by decide) tw_546 rfl dMD_evaluate_6 rfl hM1.1 rfl ?_
    refine r_iload_n (n := 10) C dMD_evaluate_9 rfl rfl ?_
    refine r_iconst (v := 5) (n := 11) C dMD_evaluate_10 rfl (by decide) ?_
    refine r_imul (n := 12) C dMD_evaluate_11 rfl ?_
    refine r_ialdM (n := 13) C dMD_evaluate_12 rfl hM1 11 (by decide) (n * 5) (x5 n) (by show _ < 50; omega) ?_
    rw [a0]
    refine r_istore_n (n := 14) C dMD_evaluate_13 rfl (by decide) ?_
    refine r_aload_n (n := 15) C dMD_evaluate_14 rfl rfl ?_
    refine r_get (ci := 10) (n := 18) C hinMD rfl 10 (by decide) tw_545 rfl dMD_evaluate_15 rfl hM1.1 rfl ?_
    refine r_iload_n (n := 19) C dMD_evaluate_18 rfl rfl ?_
    refine r_ialdM (n := 20) C dMD_evaluate_19 rfl hM1 10 (by decide) n rfl (by show _ < 10; omega) ?_
    rw [hkd]
    refine r_if_ne (tgt := 29) (n := 23) C dMD_evaluate_20 (by decide) rfl (fun c_20 => ?_) (fun c_20 => ?_)
    · refine r_iload_n (n := 30) C dMD_evaluate_29 rfl rfl ?_
      refine r_iconst (v := 3) (n := 31) C dMD_evaluate_30 rfl (by decide) ?_
      refine r_iadd (n := 32) C dMD_evaluate_31 rfl ?_
      refine V.eqi (nI_add _ 3) ?_
      refine r_iload_n (n := 33) C dMD_evaluate_32 rfl rfl ?_
      refine r_iadd (n := 34) C dMD_evaluate_33 rfl ?_
      refine V.eqi (y := nI (base + a)) ((nI_add _ _).trans (congrArg nI (by omega))) ?_
      refine r_istore (n := 36) C dMD_evaluate_34 rfl (by decide) ?_
      refine r_iload_n (n := 37) C dMD_evaluate_36 rfl rfl ?_
      refine r_iconst (v := 3) (n := 38) C dMD_evaluate_37 rfl (by decide) ?_
      refine r_iadd (n := 39) C dMD_evaluate_38 rfl ?_
      refine V.eqi (nI_add _ 3) ?_
      refine r_aload_n (n := 40) C dMD_evaluate_39 rfl rfl ?_
      refine r_get (ci := 10) (n := 43) C hinMD rfl 11 (by decide) tw_546 rfl dMD_evaluate_40 rfl hM1.1 rfl ?_
      refine r_iload_n (n := 44) C dMD_evaluate_43 rfl rfl ?_
      refine r_iconst (v := 5) (n := 45) C dMD_evaluate_44 rfl (by decide) ?_
      refine r_imul (n := 46) C dMD_evaluate_45 rfl ?_
      refine r_iconst (v := 1) (n := 47) C dMD_evaluate_46 rfl (by decide) ?_
      refine r_iadd (n := 48) C dMD_evaluate_47 rfl ?_
      refine r_ialdM (n := 49) C dMD_evaluate_48 rfl hM1 11 (by decide) (n * 5 + 1) (x5i n 1) (by show _ < 50; omega) ?_
      rw [a1]
      refine r_iadd (n := 50) C dMD_evaluate_49 rfl ?_
      refine V.eqi (y := nI (base + b)) ((nI_add _ _).trans (congrArg nI (by omega))) ?_
      refine r_istore (n := 52) C dMD_evaluate_50 rfl (by decide) ?_
      refine r_iload (n := 54) C dMD_evaluate_52 rfl rfl ?_
      refine r_bipush (v := 24) (n := 56) C dMD_evaluate_54 rfl (by decide) ?_
      refine r_imul (n := 57) C dMD_evaluate_56 rfl ?_
      refine V.eqi (x24 _) ?_
      refine r_istore (n := 59) C dMD_evaluate_57 rfl (by decide) ?_
      refine V.byk (ls' := [(0, .ref m), (1, .int (nI n)), (2, .int (nI base)), (4, .int (nI (base + a))), (5, .int (nI (base + b))), (6, .int (nI ((base + a) * 24 + 0)))]) rfl ?_
      exact loop _ 0 h1 MI ML _ rfl (Nat.zero_le _) hM1 ⟨rfl, Nat.zero_le _, fun i r hr => by simp at hr⟩ ⟨fun _ _ _ _ => rfl, rfl, fun j hj => va_up_ne _ _ hj⟩ hF1
    · exact absurd c_20 (by decide)
  · obtain ⟨k1, k2⟩ : 3 ≤ a ∧ a < 3 + n := hok
    have hkd : MI 10 n = nI 5 := hA.1
    have a0 : MI 11 (n * 5) = _ := hA.2 0 (by omega)
    have a1 := hA.2 1 (by omega)
    have a2 := hA.2 2 (by omega)
    have a3 := hA.2 3 (by omega)
    have a4 := hA.2 4 (by omega)
    have hBa := hBL a (by omega)
    have hLa : (Ls a).length ≤ 24 := hBa.2.1
    have tail : ∀ (h1 : AH) (MI1 : Nat → Nat → Int32) (ML1 : Nat → Nat → Int64) (MV1 : Nat → Int32), MH (Ko K) h1 m ad MI1 ML1 MV1 → WL MI1 ML1 MV1 (evW (5, a, b, c, d, e, nn) Ls) → NdK (evW (5, a, b, c, d, e, nn) Ls) → WSame MI MI1 ML ML1 MV MV1 → Frm (mown m ad) h h1 → V K h1 0 0 (EndQ K (QI (Ko K) (fun r h' => r = b01 (fitB 24 (srtW (evW (5, a, b, c, d, e, nn) Ls))) ∧ EvP (Ko K) h h' m ad MI ML MV (base + 3 + n) (srtW (evW (5, a, b, c, d, e, nn) Ls)) (fitB 24 (srtW (evW (5, a, b, c, d, e, nn) Ls))))) 0 0) 256 [(0, .ref m), (1, .int (nI n)), (2, .int (nI base))] [] := by
      intro h1 MI1 ML1 MV1 hM1 hW1 hN1 hS1 hF1
      refine r_aload_n (n := 257) C dMD_evaluate_256 rfl rfl ?_
      refine r_iload_n (n := 258) C dMD_evaluate_257 rfl rfl ?_
      refine r_iconst (v := 3) (n := 259) C dMD_evaluate_258 rfl (by decide) ?_
      refine r_iadd (n := 260) C dMD_evaluate_259 rfl ?_
      refine V.eqi (nI_add _ 3) ?_
      refine r_iload_n (n := 261) C dMD_evaluate_260 rfl rfl ?_
      refine r_iadd (n := 262) C dMD_evaluate_261 rfl ?_
      refine V.eqi (nI_add _ _) ?_
      refine r_bipush (v := 24) (n := 264) C dMD_evaluate_262 rfl (by decide) ?_
      refine r_ci (n := 267) (rn_V (z := 2) (ci := 10) (T := TMD) C (c_MD_settle (Kl K) (Ko K) h1 m ad MI1 ML1 MV1 (base + 3 + n) 24 (evW (5, a, b, c, d, e, nn) Ls) hM1 (by omega) (by omega) hW1 hN1) tw_644 tw_646 ts_30 tw_4 tw_647 rfl rfl ndMD_settle ⟨Nat.le_of_ble_eq_true rfl, Nat.le_of_ble_eq_true rfl⟩ hM1.1 rfl rfl rfl (Nat.le_of_ble_eq_true rfl) dMD_evaluate_264 ⟨Nat.le_of_ble_eq_true rfl, Nat.le_of_ble_eq_true rfl⟩) rfl (fun y h2 hq => ?_)
      obtain ⟨e1, MI2, ML2, hM2, hS2, hB2, hN2, hF2⟩ := hq
      exact r_zret C dMD_evaluate_267 (by rw [e1]; exact b01_n _) (Nat.le_refl _) (Nat.le_refl _) ⟨e1, MI2, ML2, MV1, hM2, ESame.of hS1 hS2, hB2, (fun e => by obtain ⟨z1, z2⟩ := hN2 e; rw [z1, z2]; exact ⟨hS1.1 0 (by decide) (by decide) (by decide), hS1.1 1 (by decide) (by decide) (by decide), hS1.1 2 (by decide) (by decide) (by decide), hS1.1 4 (by decide) (by decide) (by decide), hS1.2.1⟩), hF1.tr hF2⟩
    have loop : ∀ (q i : Nat) (rv : Int32) (h1 : AH) (MI1 : Nat → Nat → Int32) (ML1 : Nat → Nat → Int64) (MV1 : Nat → Int32), (Ls a).length - i = q → i ≤ (Ls a).length → MH (Ko K) h1 m ad MI1 ML1 MV1 → WL MI1 ML1 MV1 (((Ls a).take i).foldl (emF uD) []) → WSame MI MI1 ML ML1 MV MV1 → Frm (mown m ad) h h1 → V K h1 0 0 (EndQ K (QI (Ko K) (fun r h' => r = b01 (fitB 24 (srtW (evW (5, a, b, c, d, e, nn) Ls))) ∧ EvP (Ko K) h h' m ad MI ML MV (base + 3 + n) (srtW (evW (5, a, b, c, d, e, nn) Ls)) (fitB 24 (srtW (evW (5, a, b, c, d, e, nn) Ls))))) 0 0) 59 [(0, .ref m), (1, .int (nI n)), (2, .int (nI base)), (4, .int (nI (base + a))), (5, .int rv), (6, .int (nI ((base + a) * 24 + i)))] [] := by
      intro q
      induction q using Nat.strongRecOn with
      | _ q ih =>
        intro i rv h1 MI1 ML1 MV1 hm hi hM1 hW1 hS1 hF1
        obtain ⟨hb1, hb2, hb3⟩ := hBa.same hS1
        have hl1 := emF_len (F := uD) (W := []) ((Ls a).take i)
        rw [List.length_take, Nat.min_eq_left hi] at hl1
        simp only [List.length_nil, Nat.zero_add] at hl1
        have s11 := hS1.1 11 (by decide) (by decide) (by decide)
        have hkd1 : MI1 10 n = nI 5 := by rw [hS1.1 10 (by decide) (by decide) (by decide)]; exact hkd
        refine r_iload (n := 61) C dMD_evaluate_59 rfl rfl ?_
        refine r_iload (n := 63) C dMD_evaluate_61 rfl rfl ?_
        refine r_bipush (v := 24) (n := 65) C dMD_evaluate_63 rfl (by decide) ?_
        refine r_imul (n := 66) C dMD_evaluate_65 rfl ?_
        refine V.eqi (x24 _) ?_
        refine r_aload_n (n := 67) C dMD_evaluate_66 rfl rfl ?_
        refine r_get (ci := 10) (n := 70) C hinMD rfl 4 (by decide) tw_539 rfl dMD_evaluate_67 rfl hM1.1 rfl ?_
        refine r_iload (n := 72) C dMD_evaluate_70 rfl rfl ?_
        refine r_ialdM (n := 73) C dMD_evaluate_72 rfl hM1 4 (by decide) (base + a) rfl (by show _ < 26; omega) ?_
        rw [hb1]
        refine r_iadd (n := 74) C dMD_evaluate_73 rfl ?_
        refine V.eqi (nI_add _ _) ?_
        refine r_icmp_ge (tgt := 159) (n := 77) C dMD_evaluate_74 (by decide) rfl (fun c_74 => ?_) (fun c_74 => ?_)
        · have hie : i = (Ls a).length := by have := (nI_leI (a := (base + a) * 24 + (Ls a).length) (b := (base + a) * 24 + i) (by omega) (by omega)).mp c_74; omega
          refine r_aload_n (n := 160) C dMD_evaluate_159 rfl rfl ?_
          refine r_get (ci := 10) (n := 163) C hinMD rfl 10 (by decide) tw_545 rfl dMD_evaluate_160 rfl hM1.1 rfl ?_
          refine r_iload_n (n := 164) C dMD_evaluate_163 rfl rfl ?_
          refine r_ialdM (n := 165) C dMD_evaluate_164 rfl hM1 10 (by decide) n rfl (by show _ < 10; omega) ?_
          rw [hkd1]
          refine r_iconst (v := 4) (n := 166) C dMD_evaluate_165 rfl (by decide) ?_
          refine r_icmp_ne (tgt := 256) (n := 169) C dMD_evaluate_166 (by decide) rfl (fun c_166 => ?_) (fun c_166 => ?_)
          · refine V.byk (ls' := [(0, .ref m), (1, .int (nI n)), (2, .int (nI base))]) rfl ?_
            exact tail h1 MI1 ML1 MV1 hM1 (by rw [hie, List.take_length] at hW1; exact hW1) (emF_nd _ List.Pairwise.nil) hS1 hF1
          · exact absurd c_166 (by decide)
        · have hlt : i < (Ls a).length := by
            rcases Nat.lt_or_ge i (Ls a).length with q1 | q1
            · exact q1
            · exact absurd (nI_le (a := (base + a) * 24 + (Ls a).length) (b := (base + a) * 24 + i) (by omega) (by omega)) c_74
          obtain ⟨r, hr⟩ : ∃ r, (Ls a)[i]? = some r := ⟨_, List.getElem?_eq_getElem hlt⟩
          obtain ⟨v0, v1, v2, v3⟩ := hb3 i r hr
          refine r_aload_n (n := 78) C dMD_evaluate_77 rfl rfl ?_
          refine r_get (ci := 10) (n := 81) C hinMD rfl 10 (by decide) tw_545 rfl dMD_evaluate_78 rfl hM1.1 rfl ?_
          refine r_iload_n (n := 82) C dMD_evaluate_81 rfl rfl ?_
          refine r_ialdM (n := 83) C dMD_evaluate_82 rfl hM1 10 (by decide) n rfl (by show _ < 10; omega) ?_
          rw [hkd1]
          refine r_iconst (v := 3) (n := 84) C dMD_evaluate_83 rfl (by decide) ?_
          refine r_icmp_ne (tgt := 99) (n := 87) C dMD_evaluate_84 (by decide) rfl (fun c_84 => ?_) (fun c_84 => ?_)
          · refine r_aload_n (n := 100) C dMD_evaluate_99 rfl rfl ?_
            refine r_get (ci := 10) (n := 103) C hinMD rfl 10 (by decide) tw_545 rfl dMD_evaluate_100 rfl hM1.1 rfl ?_
            refine r_iload_n (n := 104) C dMD_evaluate_103 rfl rfl ?_
            refine r_ialdM (n := 105) C dMD_evaluate_104 rfl hM1 10 (by decide) n rfl (by show _ < 10; omega) ?_
            rw [hkd1]
            refine r_iconst (v := 4) (n := 106) C dMD_evaluate_105 rfl (by decide) ?_
            refine r_icmp_ne (tgt := 144) (n := 109) C dMD_evaluate_106 (by decide) rfl (fun c_106 => ?_) (fun c_106 => ?_)
            · refine r_aload_n (n := 145) C dMD_evaluate_144 rfl rfl ?_
              refine r_iload_n (n := 146) C dMD_evaluate_145 rfl rfl ?_
              refine r_iload (n := 148) C dMD_evaluate_146 rfl rfl ?_
              refine r_iload (n := 150) C dMD_evaluate_148 rfl rfl ?_
              refine r_cv (n := 153) (rn_V (z := 3) (ci := 10) (T := TMD) C (c_MD_unary5 (Kl K) (Ko K) h1 m ad MI1 ML1 MV1 n ((base + a) * 24 + i) (base + a) _ r hM1 (by omega) (by omega) hW1 (by omega) v0 v1 v2 v3 hkd1) tw_628 tw_630 ts_26 tw_4 tw_631 rfl rfl ndMD_unary ⟨Nat.le_of_ble_eq_true rfl, Nat.le_of_ble_eq_true rfl⟩ hM1.1 rfl rfl rfl (Nat.le_of_ble_eq_true rfl) dMD_evaluate_150 ⟨Nat.le_of_ble_eq_true rfl, Nat.le_of_ble_eq_true rfl⟩) rfl (fun h2 hq => ?_)
              obtain ⟨MI2, ML2, MV2, hM2, hW2, hS2, hF2⟩ := hq
              refine r_iinc (n := 156) C dMD_evaluate_153 rfl rfl (nI_i _) (by decide) ?_
              refine r_goto (tgt := 59) C dMD_evaluate_156 (by decide) ?_
              refine V.byk (ls' := [(0, .ref m), (1, .int (nI n)), (2, .int (nI base)), (4, .int (nI (base + a))), (5, .int rv), (6, .int (nI ((base + a) * 24 + (i + 1))))]) rfl ?_
              exact ih _ (by omega) (i + 1) rv h2 MI2 ML2 MV2 rfl (by omega) hM2 (by rw [fold_take (emF uD) _ hr]; exact hW2) (hS1.tr hS2) (hF1.tr hF2)
            · exact absurd c_106 (by decide)
          · exact absurd c_84 (by decide)
    refine r_aload_n (n := 1) C dMD_evaluate_0 rfl rfl ?_
    refine r_iconst (v := 0) (n := 2) C dMD_evaluate_1 rfl (by decide) ?_
    refine r_put (ci := 10) (n := 5) C hinMD tyMD okMD nmMD rfl 9 (by decide) tw_544 rfl rfl (okMD 9 (by decide)) rfl rfl dMD_evaluate_2 rfl hM.1 (Nat.le_of_ble_eq_true rfl) ?_
    refine V.setV hM 9 (by decide) _ rfl (fun h1 hM1 hF1 => ?_)
    refine r_aload_n (n := 6) C dMD_evaluate_5 rfl rfl ?_
    refine r_get (ci := 10) (n := 9) C hinMD rfl 11 (by decide) tw_546 rfl dMD_evaluate_6 rfl hM1.1 rfl ?_
    refine r_iload_n (n := 10) C dMD_evaluate_9 rfl rfl ?_
    refine r_iconst (v := 5) (n := 11) C dMD_evaluate_10 rfl (by decide) ?_
    refine r_imul (n := 12) C dMD_evaluate_11 rfl ?_
    refine r_ialdM (n := 13) C dMD_evaluate_12 rfl hM1 11 (by decide) (n * 5) (x5 n) (by show _ < 50; omega) ?_
    rw [a0]
    refine r_istore_n (n := 14) C dMD_evaluate_13 rfl (by decide) ?_
    refine r_aload_n (n := 15) C dMD_evaluate_14 rfl rfl ?_
    refine r_get (ci := 10) (n := 18) C hinMD rfl 10 (by decide) tw_545 rfl dMD_evaluate_15 rfl hM1.1 rfl ?_
    refine r_iload_n (n := 19) C dMD_evaluate_18 rfl rfl ?_
    refine r_ialdM (n := 20) C dMD_evaluate_19 rfl hM1 10 (by decide) n rfl (by show _ < 10; omega) ?_
    rw [hkd]
    refine r_if_ne (tgt := 29) (n := 23) C dMD_evaluate_20 (by decide) rfl (fun c_20 => ?_) (fun c_20 => ?_)
    · refine r_iload_n (n := 30) C dMD_evaluate_29 rfl rfl ?_
      refine r_iconst (v := 3) (n := 31) C dMD_evaluate_30 rfl (by decide) ?_
      refine r_iadd (n := 32) C dMD_evaluate_31 rfl ?_
      refine V.eqi (nI_add _ 3) ?_
      refine r_iload_n (n := 33) C dMD_evaluate_32 rfl rfl ?_
      refine r_iadd (n := 34) C dMD_evaluate_33 rfl ?_
      refine V.eqi (y := nI (base + a)) ((nI_add _ _).trans (congrArg nI (by omega))) ?_
      refine r_istore (n := 36) C dMD_evaluate_34 rfl (by decide) ?_
      refine r_iload_n (n := 37) C dMD_evaluate_36 rfl rfl ?_
      refine r_iconst (v := 3) (n := 38) C dMD_evaluate_37 rfl (by decide) ?_
      refine r_iadd (n := 39) C dMD_evaluate_38 rfl ?_
      refine V.eqi (nI_add _ 3) ?_
      refine r_aload_n (n := 40) C dMD_evaluate_39 rfl rfl ?_
      refine r_get (ci := 10) (n := 43) C hinMD rfl 11 (by decide) tw_546 rfl dMD_evaluate_40 rfl hM1.1 rfl ?_
      refine r_iload_n (n := 44) C dMD_evaluate_43 rfl rfl ?_
      refine r_iconst (v := 5) (n := 45) C dMD_evaluate_44 rfl (by decide) ?_
      refine r_imul (n := 46) C dMD_evaluate_45 rfl ?_
      refine r_iconst (v := 1) (n := 47) C dMD_evaluate_46 rfl (by decide) ?_
      refine r_iadd (n := 48) C dMD_evaluate_47 rfl ?_
      refine r_ialdM (n := 49) C dMD_evaluate_48 rfl hM1 11 (by decide) (n * 5 + 1) (x5i n 1) (by show _ < 50; omega) ?_
      refine r_iadd (n := 50) C dMD_evaluate_49 rfl ?_
      refine r_istore (n := 52) C dMD_evaluate_50 rfl (by decide) ?_
      refine r_iload (n := 54) C dMD_evaluate_52 rfl rfl ?_
      refine r_bipush (v := 24) (n := 56) C dMD_evaluate_54 rfl (by decide) ?_
      refine r_imul (n := 57) C dMD_evaluate_56 rfl ?_
      refine V.eqi (x24 _) ?_
      refine r_istore (n := 59) C dMD_evaluate_57 rfl (by decide) ?_
      refine V.byk (ls' := [(0, .ref m), (1, .int (nI n)), (2, .int (nI base)), (4, .int (nI (base + a))), (5, .int _), (6, .int (nI ((base + a) * 24 + 0)))]) rfl ?_
      exact loop _ 0 _ h1 MI ML _ rfl (Nat.zero_le _) hM1 ⟨rfl, Nat.zero_le _, fun i r hr => by simp at hr⟩ ⟨fun _ _ _ _ => rfl, rfl, fun j hj => va_up_ne _ _ hj⟩ hF1
    · exact absurd c_20 (by decide)
  · obtain ⟨k1, k2, k3, k4, k5⟩ : 3 ≤ a ∧ a < 3 + n ∧ b < 3 ∧ c < 3 ∧ d < 4 := hok
    have hkd : MI 10 n = nI 6 := hA.1
    have a0 : MI 11 (n * 5) = _ := hA.2 0 (by omega)
    have a1 := hA.2 1 (by omega)
    have a2 := hA.2 2 (by omega)
    have a3 := hA.2 3 (by omega)
    have a4 := hA.2 4 (by omega)
    have hBa := hBL a (by omega)
    have hLa : (Ls a).length ≤ 24 := hBa.2.1
    have tail : ∀ (h1 : AH) (MI1 : Nat → Nat → Int32) (ML1 : Nat → Nat → Int64) (MV1 : Nat → Int32), MH (Ko K) h1 m ad MI1 ML1 MV1 → WL MI1 ML1 MV1 (evW (6, a, b, c, d, e, nn) Ls) → NdK (evW (6, a, b, c, d, e, nn) Ls) → WSame MI MI1 ML ML1 MV MV1 → Frm (mown m ad) h h1 → V K h1 0 0 (EndQ K (QI (Ko K) (fun r h' => r = b01 (fitB 24 (srtW (evW (6, a, b, c, d, e, nn) Ls))) ∧ EvP (Ko K) h h' m ad MI ML MV (base + 3 + n) (srtW (evW (6, a, b, c, d, e, nn) Ls)) (fitB 24 (srtW (evW (6, a, b, c, d, e, nn) Ls))))) 0 0) 256 [(0, .ref m), (1, .int (nI n)), (2, .int (nI base))] [] := by
      intro h1 MI1 ML1 MV1 hM1 hW1 hN1 hS1 hF1
      refine r_aload_n (n := 257) C dMD_evaluate_256 rfl rfl ?_
      refine r_iload_n (n := 258) C dMD_evaluate_257 rfl rfl ?_
      refine r_iconst (v := 3) (n := 259) C dMD_evaluate_258 rfl (by decide) ?_
      refine r_iadd (n := 260) C dMD_evaluate_259 rfl ?_
      refine V.eqi (nI_add _ 3) ?_
      refine r_iload_n (n := 261) C dMD_evaluate_260 rfl rfl ?_
      refine r_iadd (n := 262) C dMD_evaluate_261 rfl ?_
      refine V.eqi (nI_add _ _) ?_
      refine r_bipush (v := 24) (n := 264) C dMD_evaluate_262 rfl (by decide) ?_
      refine r_ci (n := 267) (rn_V (z := 2) (ci := 10) (T := TMD) C (c_MD_settle (Kl K) (Ko K) h1 m ad MI1 ML1 MV1 (base + 3 + n) 24 (evW (6, a, b, c, d, e, nn) Ls) hM1 (by omega) (by omega) hW1 hN1) tw_644 tw_646 ts_30 tw_4 tw_647 rfl rfl ndMD_settle ⟨Nat.le_of_ble_eq_true rfl, Nat.le_of_ble_eq_true rfl⟩ hM1.1 rfl rfl rfl (Nat.le_of_ble_eq_true rfl) dMD_evaluate_264 ⟨Nat.le_of_ble_eq_true rfl, Nat.le_of_ble_eq_true rfl⟩) rfl (fun y h2 hq => ?_)
      obtain ⟨e1, MI2, ML2, hM2, hS2, hB2, hN2, hF2⟩ := hq
      exact r_zret C dMD_evaluate_267 (by rw [e1]; exact b01_n _) (Nat.le_refl _) (Nat.le_refl _) ⟨e1, MI2, ML2, MV1, hM2, ESame.of hS1 hS2, hB2, (fun e => by obtain ⟨z1, z2⟩ := hN2 e; rw [z1, z2]; exact ⟨hS1.1 0 (by decide) (by decide) (by decide), hS1.1 1 (by decide) (by decide) (by decide), hS1.1 2 (by decide) (by decide) (by decide), hS1.1 4 (by decide) (by decide) (by decide), hS1.2.1⟩), hF1.tr hF2⟩
    have loop : ∀ (q i : Nat) (rv : Int32) (h1 : AH) (MI1 : Nat → Nat → Int32) (ML1 : Nat → Nat → Int64) (MV1 : Nat → Int32), (Ls a).length - i = q → i ≤ (Ls a).length → MH (Ko K) h1 m ad MI1 ML1 MV1 → WL MI1 ML1 MV1 (((Ls a).take i).foldl (uG d b c (Ls a)) []) → WSame MI MI1 ML ML1 MV MV1 → Frm (mown m ad) h h1 → V K h1 0 0 (EndQ K (QI (Ko K) (fun r h' => r = b01 (fitB 24 (srtW (evW (6, a, b, c, d, e, nn) Ls))) ∧ EvP (Ko K) h h' m ad MI ML MV (base + 3 + n) (srtW (evW (6, a, b, c, d, e, nn) Ls)) (fitB 24 (srtW (evW (6, a, b, c, d, e, nn) Ls))))) 0 0) 59 [(0, .ref m), (1, .int (nI n)), (2, .int (nI base)), (4, .int (nI (base + a))), (5, .int rv), (6, .int (nI ((base + a) * 24 + i)))] [] := by
      intro q
      induction q using Nat.strongRecOn with
      | _ q ih =>
        intro i rv h1 MI1 ML1 MV1 hm hi hM1 hW1 hS1 hF1
        obtain ⟨hb1, hb2, hb3⟩ := hBa.same hS1
        have hl1 := uG_len (kd := d) (key := b) (col := c) (M0 := Ls a) (W := []) ((Ls a).take i)
        rw [List.length_take, Nat.min_eq_left hi] at hl1
        simp only [List.length_nil, Nat.zero_add] at hl1
        have s11 := hS1.1 11 (by decide) (by decide) (by decide)
        have hkd1 : MI1 10 n = nI 6 := by rw [hS1.1 10 (by decide) (by decide) (by decide)]; exact hkd
        refine r_iload (n := 61) C dMD_evaluate_59 rfl rfl ?_
        refine r_iload (n := 63) C dMD_evaluate_61 rfl rfl ?_
        refine r_bipush (v := 24) (n := 65) C dMD_evaluate_63 rfl (by decide) ?_
        refine r_imul (n := 66) C dMD_evaluate_65 rfl ?_
        refine V.eqi (x24 _) ?_
        refine r_aload_n (n := 67) C dMD_evaluate_66 rfl rfl ?_
        refine r_get (ci := 10) (n := 70) C hinMD rfl 4 (by decide) tw_539 rfl dMD_evaluate_67 rfl hM1.1 rfl ?_
        refine r_iload (n := 72) C dMD_evaluate_70 rfl rfl ?_
        refine r_ialdM (n := 73) C dMD_evaluate_72 rfl hM1 4 (by decide) (base + a) rfl (by show _ < 26; omega) ?_
        rw [hb1]
        refine r_iadd (n := 74) C dMD_evaluate_73 rfl ?_
        refine V.eqi (nI_add _ _) ?_
        refine r_icmp_ge (tgt := 159) (n := 77) C dMD_evaluate_74 (by decide) rfl (fun c_74 => ?_) (fun c_74 => ?_)
        · have hie : i = (Ls a).length := by have := (nI_leI (a := (base + a) * 24 + (Ls a).length) (b := (base + a) * 24 + i) (by omega) (by omega)).mp c_74; omega
          refine r_aload_n (n := 160) C dMD_evaluate_159 rfl rfl ?_
          refine r_get (ci := 10) (n := 163) C hinMD rfl 10 (by decide) tw_545 rfl dMD_evaluate_160 rfl hM1.1 rfl ?_
          refine r_iload_n (n := 164) C dMD_evaluate_163 rfl rfl ?_
          refine r_ialdM (n := 165) C dMD_evaluate_164 rfl hM1 10 (by decide) n rfl (by show _ < 10; omega) ?_
          rw [hkd1]
          refine r_iconst (v := 4) (n := 166) C dMD_evaluate_165 rfl (by decide) ?_
          refine r_icmp_ne (tgt := 256) (n := 169) C dMD_evaluate_166 (by decide) rfl (fun c_166 => ?_) (fun c_166 => ?_)
          · refine V.byk (ls' := [(0, .ref m), (1, .int (nI n)), (2, .int (nI base))]) rfl ?_
            exact tail h1 MI1 ML1 MV1 hM1 (by rw [hie, List.take_length] at hW1; exact hW1) (uG_nd _ List.Pairwise.nil) hS1 hF1
          · exact absurd c_166 (by decide)
        · have hlt : i < (Ls a).length := by
            rcases Nat.lt_or_ge i (Ls a).length with q1 | q1
            · exact q1
            · exact absurd (nI_le (a := (base + a) * 24 + (Ls a).length) (b := (base + a) * 24 + i) (by omega) (by omega)) c_74
          obtain ⟨r, hr⟩ : ∃ r, (Ls a)[i]? = some r := ⟨_, List.getElem?_eq_getElem hlt⟩
          obtain ⟨v0, v1, v2, v3⟩ := hb3 i r hr
          refine r_aload_n (n := 78) C dMD_evaluate_77 rfl rfl ?_
          refine r_get (ci := 10) (n := 81) C hinMD rfl 10 (by decide) tw_545 rfl dMD_evaluate_78 rfl hM1.1 rfl ?_
          refine r_iload_n (n := 82) C dMD_evaluate_81 rfl rfl ?_
          refine r_ialdM (n := 83) C dMD_evaluate_82 rfl hM1 10 (by decide) n rfl (by show _ < 10; omega) ?_
          rw [hkd1]
          refine r_iconst (v := 3) (n := 84) C dMD_evaluate_83 rfl (by decide) ?_
          refine r_icmp_ne (tgt := 99) (n := 87) C dMD_evaluate_84 (by decide) rfl (fun c_84 => ?_) (fun c_84 => ?_)
          · refine r_aload_n (n := 100) C dMD_evaluate_99 rfl rfl ?_
            refine r_get (ci := 10) (n := 103) C hinMD rfl 10 (by decide) tw_545 rfl dMD_evaluate_100 rfl hM1.1 rfl ?_
            refine r_iload_n (n := 104) C dMD_evaluate_103 rfl rfl ?_
            refine r_ialdM (n := 105) C dMD_evaluate_104 rfl hM1 10 (by decide) n rfl (by show _ < 10; omega) ?_
            rw [hkd1]
            refine r_iconst (v := 4) (n := 106) C dMD_evaluate_105 rfl (by decide) ?_
            refine r_icmp_ne (tgt := 144) (n := 109) C dMD_evaluate_106 (by decide) rfl (fun c_106 => ?_) (fun c_106 => ?_)
            · refine r_aload_n (n := 145) C dMD_evaluate_144 rfl rfl ?_
              refine r_iload_n (n := 146) C dMD_evaluate_145 rfl rfl ?_
              refine r_iload (n := 148) C dMD_evaluate_146 rfl rfl ?_
              refine r_iload (n := 150) C dMD_evaluate_148 rfl rfl ?_
              refine r_cv (n := 153) (rn_V (z := 3) (ci := 10) (T := TMD) C (c_MD_unary6 (Kl K) (Ko K) h1 m ad MI1 ML1 MV1 n ((base + a) * 24 + i) (base + a) _ r b c d (Ls a) hM1 (by omega) (by omega) hW1 (by omega) v0 v1 v2 v3 hkd1 (by omega) k3 k4 k5 (hBa.same hS1) (by rw [s11]; exact a1) (by rw [s11]; exact a2) (by rw [s11]; exact a3)) tw_628 tw_630 ts_26 tw_4 tw_631 rfl rfl ndMD_unary ⟨Nat.le_of_ble_eq_true rfl, Nat.le_of_ble_eq_true rfl⟩ hM1.1 rfl rfl rfl (Nat.le_of_ble_eq_true rfl) dMD_evaluate_150 ⟨Nat.le_of_ble_eq_true rfl, Nat.le_of_ble_eq_true rfl⟩) rfl (fun h2 hq => ?_)
              obtain ⟨MI2, ML2, MV2, hM2, hW2, hS2, hF2⟩ := hq
              refine r_iinc (n := 156) C dMD_evaluate_153 rfl rfl (nI_i _) (by decide) ?_
              refine r_goto (tgt := 59) C dMD_evaluate_156 (by decide) ?_
              refine V.byk (ls' := [(0, .ref m), (1, .int (nI n)), (2, .int (nI base)), (4, .int (nI (base + a))), (5, .int rv), (6, .int (nI ((base + a) * 24 + (i + 1))))]) rfl ?_
              exact ih _ (by omega) (i + 1) rv h2 MI2 ML2 MV2 rfl (by omega) hM2 (by rw [fold_take (uG d b c (Ls a)) _ hr]; exact hW2) (hS1.tr hS2) (hF1.tr hF2)
            · exact absurd c_106 (by decide)
          · exact absurd c_84 (by decide)
    refine r_aload_n (n := 1) C dMD_evaluate_0 rfl rfl ?_
    refine r_iconst (v := 0) (n := 2) C dMD_evaluate_1 rfl (by decide) ?_
    refine r_put (ci := 10) (n := 5) C hinMD tyMD okMD nmMD rfl 9 (by decide) tw_544 rfl rfl (okMD 9 (by decide)) rfl rfl dMD_evaluate_2 rfl hM.1 (Nat.le_of_ble_eq_true rfl) ?_
    refine V.setV hM 9 (by decide) _ rfl (fun h1 hM1 hF1 => ?_)
    refine r_aload_n (n := 6) C dMD_evaluate_5 rfl rfl ?_
    refine r_get (ci := 10) (n := 9) C hinMD rfl 11 (by decide) tw_546 rfl dMD_evaluate_6 rfl hM1.1 rfl ?_
    refine r_iload_n (n := 10) C dMD_evaluate_9 rfl rfl ?_
    refine r_iconst (v := 5) (n := 11) C dMD_evaluate_10 rfl (by decide) ?_
    refine r_imul (n := 12) C dMD_evaluate_11 rfl ?_
    refine r_ialdM (n := 13) C dMD_evaluate_12 rfl hM1 11 (by decide) (n * 5) (x5 n) (by show _ < 50; omega) ?_
    rw [a0]
    refine r_istore_n (n := 14) C dMD_evaluate_13 rfl (by decide) ?_
    refine r_aload_n (n := 15) C dMD_evaluate_14 rfl rfl ?_
    refine r_get (ci := 10) (n := 18) C hinMD rfl 10 (by decide) tw_545 rfl dMD_evaluate_15 rfl hM1.1 rfl ?_
    refine r_iload_n (n := 19) C dMD_evaluate_18 rfl rfl ?_
    refine r_ialdM (n := 20) C dMD_evaluate_19 rfl hM1 10 (by decide) n rfl (by show _ < 10; omega) ?_
    rw [hkd]
    refine r_if_ne (tgt := 29) (n := 23) C dMD_evaluate_20 (by decide) rfl (fun c_20 => ?_) (fun c_20 => ?_)
    · refine r_iload_n (n := 30) C dMD_evaluate_29 rfl rfl ?_
      refine r_iconst (v := 3) (n := 31) C dMD_evaluate_30 rfl (by decide) ?_
      refine r_iadd (n := 32) C dMD_evaluate_31 rfl ?_
      refine V.eqi (nI_add _ 3) ?_
      refine r_iload_n (n := 33) C dMD_evaluate_32 rfl rfl ?_
      refine r_iadd (n := 34) C dMD_evaluate_33 rfl ?_
      refine V.eqi (y := nI (base + a)) ((nI_add _ _).trans (congrArg nI (by omega))) ?_
      refine r_istore (n := 36) C dMD_evaluate_34 rfl (by decide) ?_
      refine r_iload_n (n := 37) C dMD_evaluate_36 rfl rfl ?_
      refine r_iconst (v := 3) (n := 38) C dMD_evaluate_37 rfl (by decide) ?_
      refine r_iadd (n := 39) C dMD_evaluate_38 rfl ?_
      refine V.eqi (nI_add _ 3) ?_
      refine r_aload_n (n := 40) C dMD_evaluate_39 rfl rfl ?_
      refine r_get (ci := 10) (n := 43) C hinMD rfl 11 (by decide) tw_546 rfl dMD_evaluate_40 rfl hM1.1 rfl ?_
      refine r_iload_n (n := 44) C dMD_evaluate_43 rfl rfl ?_
      refine r_iconst (v := 5) (n := 45) C dMD_evaluate_44 rfl (by decide) ?_
      refine r_imul (n := 46) C dMD_evaluate_45 rfl ?_
      refine r_iconst (v := 1) (n := 47) C dMD_evaluate_46 rfl (by decide) ?_
      refine r_iadd (n := 48) C dMD_evaluate_47 rfl ?_
      refine r_ialdM (n := 49) C dMD_evaluate_48 rfl hM1 11 (by decide) (n * 5 + 1) (x5i n 1) (by show _ < 50; omega) ?_
      refine r_iadd (n := 50) C dMD_evaluate_49 rfl ?_
      refine r_istore (n := 52) C dMD_evaluate_50 rfl (by decide) ?_
      refine r_iload (n := 54) C dMD_evaluate_52 rfl rfl ?_
      refine r_bipush (v := 24) (n := 56) C dMD_evaluate_54 rfl (by decide) ?_
      refine r_imul (n := 57) C dMD_evaluate_56 rfl ?_
      refine V.eqi (x24 _) ?_
      refine r_istore (n := 59) C dMD_evaluate_57 rfl (by decide) ?_
      refine V.byk (ls' := [(0, .ref m), (1, .int (nI n)), (2, .int (nI base)), (4, .int (nI (base + a))), (5, .int _), (6, .int (nI ((base + a) * 24 + 0)))]) rfl ?_
      exact loop _ 0 _ h1 MI ML _ rfl (Nat.zero_le _) hM1 ⟨rfl, Nat.zero_le _, fun i r hr => by simp at hr⟩ ⟨fun _ _ _ _ => rfl, rfl, fun j hj => va_up_ne _ _ hj⟩ hF1
    · exact absurd c_20 (by decide)
  · exact absurd hok id
