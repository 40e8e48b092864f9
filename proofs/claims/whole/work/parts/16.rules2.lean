/-! RULES: combination, join, group -/
def sgF (kd : Nat) : Int64 := if kd = 0 then 1 else -1
set_option maxHeartbeats 4000000 in
set_option maxRecDepth 100000 in
/-- CombineRule.fill -/
theorem c_CR_fill (l : Launch) (o : Om) (h : AH) (s r : Nat) (S : Nat → Nat × Nat × Nat × Nat) (Ls : Nat → List Rw) (wk : Nat × Nat × Nat × Nat) (f : Nat → Int32) (g : Nat → Int64) (lf rt kd : Nat) (hF : FP o h s S Ls wk) (hW : RA0 o h wk f g []) (hcw : wk.2.2.2 = 576) (hlf : lf < 13) (hrt : rt < 13) (hkd0 : kd < 2) (hr : h r = some (.inr (6, [.int (nI lf), .int (nI rt), .int (nI kd)]))) : Mt l o yCR_fill cCR_fill 7 none ({ frames := 4, cells := 0, slots := 0, locals := 125 } : Room) [.ref r, .ref s, .ref wk.1] h (QV o (fun h' => ∃ f' g', RA0 o h' wk f' g' (((Ls rt).foldl (CRf (sgF kd)) (Ls lf))) ∧ Off wk h h')) (0) (0) := by
  refine Met.ofV (by decide) (Nat.le_of_ble_eq_true rfl) (fun K hl ho C => ?_)
  subst hl; subst ho
  obtain ⟨fsl, hsl, hsll⟩ := hF.1
  obtain ⟨hfil, fil, gil, hRil⟩ := hsll lf hlf
  obtain ⟨djl, hsil, hlil⟩ := hF.2 lf hlf
  obtain ⟨fsr, hsr, hslr⟩ := hF.1
  obtain ⟨hfir, fir, gir, hRir⟩ := hslr rt hrt
  obtain ⟨djr, hsir, hlir⟩ := hF.2 rt hrt
  have hM : (Ls rt).length ≤ 24 := hlir
  have loop : ∀ (m i : Nat) (h1 : AH) (f1 : Nat → Int32) (g1 : Nat → Int64), (Ls rt).length - i = m → i ≤ (Ls rt).length → RA0 (Ko K) h1 wk f1 g1 (((Ls rt).take i).foldl (CRf (sgF kd)) (Ls lf)) → Off wk h h1 → V K h1 0 0 (EndQ K (QV (Ko K) (fun h' => ∃ f' g', RA0 (Ko K) h' wk f' g' (((Ls rt).foldl (CRf (sgF kd)) (Ls lf))) ∧ Off wk h h')) 0 0) 36 [(0, .ref r), (1, .ref s), (2, .ref wk.1), (3, .ref (S rt).1), (4, .long (sgF kd)), (6, .int (nI i))] [] := by
    intro m
    induction m using Nat.strongRecOn with
    | _ m ih =>
      intro i h1 f1 g1 hm hi hR1 hO1
      have hb1 := hR1.1
      have hIn := RA0.keep hW hRir djr hO1
      have hbi := hIn.1
      have hr1 := obj_keep hW hr (by decide) hO1
      have hl1 := (gdC (sgF kd)).len (L := (Ls lf)) ((Ls rt).take i)
      rw [List.length_take] at hl1
      try simp only [List.length_nil] at hl1
      refine r_iload (n := 38) C dCR_fill_36 rfl rfl ?_
      refine r_aload_n (n := 39) C dCR_fill_38 rfl rfl ?_
      refine r_ci (n := 42) (rn_V (z := 0) (ci := 0) (T := TRW) C (c_RW_size (Kl K) (Ko K) h1 (S rt) fir gir (Ls rt) hIn) tw_144 tw_145 tw_146 tw_2 tw_147 rfl rfl ndRW_size ⟨Nat.le_of_ble_eq_true rfl, Nat.le_of_ble_eq_true rfl⟩ (by assumption) rfl rfl rfl (Nat.le_of_ble_eq_true rfl) dCR_fill_39 ⟨Nat.le_of_ble_eq_true rfl, Nat.le_of_ble_eq_true rfl⟩) rfl (fun x ah hq => ?_)
      obtain ⟨e1, e2⟩ := hq
      subst e1
      rw [e2]
      refine r_icmp_ge (tgt := 67) (n := 45) C dCR_fill_42 (by decide) rfl (fun c_42 => ?_) (fun c_42 => ?_)
      · have hie : i = (Ls rt).length := by have := (nI_leI (by omega) (by omega)).mp c_42; omega
        exact r_vret C dCR_fill_67 (Nat.le_refl _) (Nat.le_refl _) ⟨f1, g1, by rw [hie, List.take_length] at hR1; exact hR1, hO1⟩
      · have hlt : i < (Ls rt).length := by
          rcases Nat.lt_or_ge i (Ls rt).length with q | q
          · exact q
          · exact absurd (nI_le q (by omega)) c_42
        obtain ⟨e, he⟩ : ∃ e, (Ls rt)[i]? = some e := ⟨_, List.getElem?_eq_getElem hlt⟩
        refine r_aload_n (n := 46) C dCR_fill_45 rfl rfl ?_
        refine r_aload_n (n := 47) C dCR_fill_46 rfl rfl ?_
        refine r_iload (n := 49) C dCR_fill_47 rfl rfl ?_
        refine r_lload (n := 51) C dCR_fill_49 rfl rfl ?_
        refine r_aload_n (n := 52) C dCR_fill_51 rfl rfl ?_
        refine r_iload (n := 54) C dCR_fill_52 rfl rfl ?_
        refine r_cl (n := 57) (rn_V (z := 1) (ci := 0) (T := TRW) C (c_RW_weightAt (Kl K) (Ko K) h1 (S rt) fir gir (Ls rt) i e hIn he) tw_148 tw_149 tw_150 tw_2 tw_151 rfl rfl ndRW_weightAt ⟨Nat.le_of_ble_eq_true rfl, Nat.le_of_ble_eq_true rfl⟩ (by assumption) rfl rfl rfl (Nat.le_of_ble_eq_true rfl) dCR_fill_54 ⟨Nat.le_of_ble_eq_true rfl, Nat.le_of_ble_eq_true rfl⟩) rfl (fun x ah hq => ?_)
        obtain ⟨e1, e2⟩ := hq
        subst e1
        rw [e2]
        refine r_lmul (n := 58) C dCR_fill_57 rfl ?_
        refine r_cv (n := 61) (rn_V (z := 3) (ci := 0) (T := TRW) C (c_RW_addRow (Kl K) (Ko K) h1 wk f1 g1 _ (S rt) fir gir (Ls rt) i e (sgF kd * e.2) hR1 hIn he ((gdC (sgF kd)).srt _ hsil) (by omega)) tw_152 tw_153 tw_154 tw_2 tw_155 rfl rfl ndRW_addRow ⟨Nat.le_of_ble_eq_true rfl, Nat.le_of_ble_eq_true rfl⟩ hb1 rfl rfl rfl (Nat.le_of_ble_eq_true rfl) dCR_fill_58 ⟨Nat.le_of_ble_eq_true rfl, Nat.le_of_ble_eq_true rfl⟩) rfl (fun h2 hq => ?_)
        obtain ⟨f2, g2, hR2, hO2⟩ := hq
        refine r_iinc (n := 64) C dCR_fill_61 rfl rfl (nI_i i) (by decide) ?_
        refine r_goto (tgt := 36) C dCR_fill_64 (by decide) ?_
        refine V.byk (ls' := [(0, .ref r), (1, .ref s), (2, .ref wk.1), (3, .ref (S rt).1), (4, .long (sgF kd)), (6, .int (nI (i + 1)))]) rfl ?_
        exact ih _ (by omega) (i + 1) h2 f2 g2 rfl (by omega) (by rw [fold_take (CRf (sgF kd)) _ he]; exact hR2) (hO1.tr hO2)
  refine r_aload_n (n := 1) C dCR_fill_0 rfl rfl ?_
  refine r_aload_n (n := 2) C dCR_fill_1 rfl rfl ?_
  refine r_aload_n (n := 3) C dCR_fill_2 rfl rfl ?_
  refine r_get (ci := 6) (n := 6) C hinCR rfl 0 (by decide) tw_378 rfl dCR_fill_3 rfl (by assumption) rfl ?_
  refine r_aald (n := 7) (t0 := 2) C dCR_fill_6 rfl (by assumption) rfl lf rfl (by omega) (by omega) hfil ?_
  refine r_cv (n := 10) (rn_V (z := 1) (ci := 0) (T := TRW) C (c_RW_copyFrom (Kl K) (Ko K) h wk f g [] (S lf) fil gil (Ls lf) hW hRil djl (by omega)) tw_133 tw_134 tw_135 tw_2 tw_136 rfl rfl ndRW_copyFrom ⟨Nat.le_of_ble_eq_true rfl, Nat.le_of_ble_eq_true rfl⟩ hW.1 rfl rfl rfl (Nat.le_of_ble_eq_true rfl) dCR_fill_7 ⟨Nat.le_of_ble_eq_true rfl, Nat.le_of_ble_eq_true rfl⟩) rfl (fun h1 hq => ?_)
  obtain ⟨f1, g1, hR1, hO1⟩ := hq
  have hr1 := obj_keep hW hr (by decide) hO1
  obtain ⟨fs1, hs1, hsl1⟩ := SA.keep hW ⟨fsr, hsr, hslr⟩ (fun i hi => (hF.2 i hi).1) hO1
  refine r_aload_n (n := 11) C dCR_fill_10 rfl rfl ?_
  refine r_aload_n (n := 12) C dCR_fill_11 rfl rfl ?_
  refine r_get (ci := 6) (n := 15) C hinCR rfl 1 (by decide) tw_379 rfl dCR_fill_12 rfl (by assumption) rfl ?_
  refine r_aald (n := 16) (t0 := 2) C dCR_fill_15 rfl hs1 rfl rt rfl (by omega) (by omega) (hsl1 rt hrt).1 ?_
  refine r_astore_n (n := 17) C dCR_fill_16 rfl (by decide) ?_
  refine r_aload_n (n := 18) C dCR_fill_17 rfl rfl ?_
  refine r_get (ci := 6) (n := 21) C hinCR rfl 2 (by decide) tw_380 rfl dCR_fill_18 rfl (by assumption) rfl ?_
  refine r_if_ne (tgt := 28) (n := 24) C dCR_fill_21 (by decide) rfl (fun c_21 => ?_) (fun c_21 => ?_)
  · have hkd : sgF kd = -1 := if_neg (fun e => c_21 (by rw [e]; rfl))
    refine r_ldc2 (n := 31) C tw_143 dCR_fill_28 rfl ?_
    refine V.eql hkd.symm ?_
    refine r_lstore (n := 33) C dCR_fill_31 rfl (by decide) ?_
    refine r_iconst (v := 0) (n := 34) C dCR_fill_33 rfl (by decide) ?_
    refine r_istore (n := 36) C dCR_fill_34 rfl (by decide) ?_
    refine V.byk (ls' := [(0, .ref r), (1, .ref s), (2, .ref wk.1), (3, .ref (S rt).1), (4, .long (sgF kd)), (6, .int (nI 0))]) rfl ?_
    exact loop _ 0 h1 f1 g1 rfl (Nat.zero_le _) hR1 hO1
  · have hkd : sgF kd = 1 := if_pos (by have := (nI_eq (a := kd) (b := 0) (by omega) (by omega)).mp c_21; exact this)
    refine r_lconst (v := 1) (n := 25) C dCR_fill_24 rfl (by decide) ?_
    refine V.eql hkd.symm ?_
    refine r_goto (tgt := 31) C dCR_fill_25 (by decide) ?_
    refine r_lstore (n := 33) C dCR_fill_31 rfl (by decide) ?_
    refine r_iconst (v := 0) (n := 34) C dCR_fill_33 rfl (by decide) ?_
    refine r_istore (n := 36) C dCR_fill_34 rfl (by decide) ?_
    refine V.byk (ls' := [(0, .ref r), (1, .ref s), (2, .ref wk.1), (3, .ref (S rt).1), (4, .long (sgF kd)), (6, .int (nI 0))]) rfl ?_
    exact loop _ 0 h1 f1 g1 rfl (Nat.zero_le _) hR1 hO1
set_option maxHeartbeats 4000000 in
set_option maxRecDepth 100000 in
/-- JoinRule.picked -/
theorem c_JR_picked (l : Launch) (o : Om) (h : AH) (A : Nat × Nat × Nat × Nat) (f : Nat → Int32) (g : Nat → Int64) (L : List Rw) (Bb : Nat × Nat × Nat × Nat) (fb : Nat → Int32) (gb : Nat → Int64) (M : List Rw) (i j c : Nat) (e q : Rw) (hR : RA0 o h A f g L) (hRb : RA0 o h Bb fb gb M) (he : L[i]? = some e) (hq0 : M[j]? = some q) (hc : c < 6) : Mt l o yJR_picked cJR_picked 5 (some .int) ({ frames := 1, cells := 0, slots := 0, locals := 22 } : Room) [.ref A.1, .int (nI i), .ref Bb.1, .int (nI j), .int (nI c)] h (QI o (fun x h' => x = pickF c e.1 q.1 ∧ h' = h)) (0) (0) := by
  refine Met.ofV (by decide) (Nat.le_of_ble_eq_true rfl) (fun K hl ho C => ?_)
  subst hl; subst ho
  refine r_iload (n := 2) C dJR_picked_0 rfl rfl ?_
  refine r_iconst (v := 3) (n := 3) C dJR_picked_2 rfl (by decide) ?_
  refine r_icmp_ge (tgt := 16) (n := 6) C dJR_picked_3 (by decide) rfl (fun c_3 => ?_) (fun c_3 => ?_)
  · have hz : ¬ c < 3 := by have := (nI_leI (a := 3) (b := c) (by omega) (by omega)).mp c_3; omega
    refine r_aload_n (n := 17) C dJR_picked_16 rfl rfl ?_
    refine r_iload_n (n := 18) C dJR_picked_17 rfl rfl ?_
    refine r_iload (n := 20) C dJR_picked_18 rfl rfl ?_
    refine r_iconst (v := 3) (n := 21) C dJR_picked_20 rfl (by decide) ?_
    refine r_isub (n := 22) C dJR_picked_21 rfl ?_
    refine V.eqi (y := nI (c - 3)) (pk_sub (a := c) (b := 3) (by omega)) ?_
    refine r_ci (n := 25) (rn_V (z := 2) (ci := 0) (T := TRW) C (c_RW_valueAt (Kl K) (Ko K) h Bb fb gb M j (c - 3) q hRb hq0 (by omega)) tw_246 tw_157 tw_158 tw_2 tw_159 rfl rfl ndRW_valueAt ⟨Nat.le_of_ble_eq_true rfl, Nat.le_of_ble_eq_true rfl⟩ hRb.1 rfl rfl rfl (Nat.le_of_ble_eq_true rfl) dJR_picked_22 ⟨Nat.le_of_ble_eq_true rfl, Nat.le_of_ble_eq_true rfl⟩) rfl (fun x ah hq => ?_)
    obtain ⟨e1, e2⟩ := hq
    subst e1
    rw [e2]
    exact r_iret C dJR_picked_25 (Nat.le_refl _) (Nat.le_refl _) ⟨(if_neg hz).symm, rfl⟩
  · have hz : c < 3 := by
      rcases Nat.lt_or_ge c 3 with q1 | q1
      · exact q1
      · exact absurd (nI_le (a := 3) (b := c) q1 (by omega)) c_3
    refine r_aload_n (n := 7) C dJR_picked_6 rfl rfl ?_
    refine r_iload_n (n := 8) C dJR_picked_7 rfl rfl ?_
    refine r_iload (n := 10) C dJR_picked_8 rfl rfl ?_
    refine r_ci (n := 13) (rn_V (z := 2) (ci := 0) (T := TRW) C (c_RW_valueAt (Kl K) (Ko K) h A f g L i c e hR he hz) tw_246 tw_157 tw_158 tw_2 tw_159 rfl rfl ndRW_valueAt ⟨Nat.le_of_ble_eq_true rfl, Nat.le_of_ble_eq_true rfl⟩ hR.1 rfl rfl rfl (Nat.le_of_ble_eq_true rfl) dJR_picked_10 ⟨Nat.le_of_ble_eq_true rfl, Nat.le_of_ble_eq_true rfl⟩) rfl (fun x ah hq => ?_)
    obtain ⟨e1, e2⟩ := hq
    subst e1
    rw [e2]
    refine r_goto (tgt := 25) C dJR_picked_13 (by decide) ?_
    exact r_iret C dJR_picked_25 (Nat.le_refl _) (Nat.le_refl _) ⟨(if_pos hz).symm, rfl⟩
def JO (lc rc x y z : Nat) (R : List Rw) : List Rw → Rw → List Rw := fun acc lr => R.foldl (JRf lc rc x y z lr) acc
theorem JO_srt {lc rc x y z : Nat} {R L : List Rw} (M : List Rw) (h : Srt L) : Srt (M.foldl (JO lc rc x y z R) L) := by
  induction M generalizing L with
  | nil => exact h
  | cons r M ih => exact ih ((gdJ lc rc x y z r).srt R h)
theorem JO_len {lc rc x y z : Nat} {R L : List Rw} (M : List Rw) : (M.foldl (JO lc rc x y z R) L).length ≤ L.length + M.length * R.length := by
  induction M generalizing L with
  | nil => simp
  | cons r M ih =>
    have h1 := ih (L := JO lc rc x y z R L r)
    have h2 : (JO lc rc x y z R L r).length ≤ L.length + R.length := (gdJ lc rc x y z r).len R
    simp only [List.foldl_cons, List.length_cons, Nat.succ_mul]
    omega
theorem div_n {a d : Nat} (ha : a < 2147483648) (h0 : 0 < d) (hd : d < 2147483648) : nI a / nI d = nI (a / d) := pk_div ha h0 hd
set_option maxHeartbeats 4000000 in
set_option maxRecDepth 100000 in
/-- JoinRule.fill -/
theorem c_JR_fill (l : Launch) (o : Om) (h : AH) (s r : Nat) (S : Nat → Nat × Nat × Nat × Nat) (Ls : Nat → List Rw) (wk : Nat × Nat × Nat × Nat) (f : Nat → Int32) (g : Nat → Int64) (lf rt lc rc pk : Nat) (hF : FP o h s S Ls wk) (hW : RA0 o h wk f g []) (hcw : wk.2.2.2 = 576) (hlf : lf < 13) (hrt : rt < 13) (hlc : lc < 3) (hrc : rc < 3) (hpk : pk < 216) (hr : h r = some (.inr (5, [.int (nI lf), .int (nI rt), .int (nI lc), .int (nI rc), .int (nI pk)]))) : Mt l o yJR_fill cJR_fill 10 none ({ frames := 3, cells := 0, slots := 0, locals := 101 } : Room) [.ref r, .ref s, .ref wk.1] h (QV o (fun h' => ∃ f' g', RA0 o h' wk f' g' (((Ls lf).foldl (JO lc rc (pk / 36) (pk / 6 % 6) (pk % 6) (Ls rt)) [])) ∧ Off wk h h')) (0) (0) := by
  refine Met.ofV (by decide) (Nat.le_of_ble_eq_true rfl) (fun K hl ho C => ?_)
  subst hl; subst ho
  obtain ⟨fsl, hsl, hsll⟩ := hF.1
  obtain ⟨hfil, fil, gil, hRil⟩ := hsll lf hlf
  obtain ⟨djl, hsil, hlil⟩ := hF.2 lf hlf
  obtain ⟨fsr, hsr, hslr⟩ := hF.1
  obtain ⟨hfir, fir, gir, hRir⟩ := hslr rt hrt
  obtain ⟨djr, hsir, hlir⟩ := hF.2 rt hrt
  have inner : ∀ (i : Nat) (e : Rw) (acc : List Rw), (Ls lf)[i]? = some e → i < 24 → Srt acc → acc.length ≤ i * (Ls rt).length → (∀ (h2 : AH) (f2 : Nat → Int32) (g2 : Nat → Int64), RA0 (Ko K) h2 wk f2 g2 ((Ls rt).foldl (JRf lc rc (pk / 36) (pk / 6 % 6) (pk % 6) e) acc) → Off wk h h2 → V K h2 0 0 (EndQ K (QV (Ko K) (fun h' => ∃ f' g', RA0 (Ko K) h' wk f' g' (((Ls lf).foldl (JO lc rc (pk / 36) (pk / 6 % 6) (pk % 6) (Ls rt)) [])) ∧ Off wk h h')) 0 0) 154 [(0, .ref r), (1, .ref s), (2, .ref wk.1), (3, .ref (S lf).1), (4, .ref (S rt).1), (5, .int (nI (pk / 36))), (6, .int (nI (pk / 6 % 6))), (7, .int (nI (pk % 6))), (8, .int (nI i))] []) → ∀ (m j : Nat) (h1 : AH) (f1 : Nat → Int32) (g1 : Nat → Int64), (Ls rt).length - j = m → j ≤ (Ls rt).length → RA0 (Ko K) h1 wk f1 g1 (((Ls rt).take j).foldl (JRf lc rc (pk / 36) (pk / 6 % 6) (pk % 6) e) acc) → Off wk h h1 → V K h1 0 0 (EndQ K (QV (Ko K) (fun h' => ∃ f' g', RA0 (Ko K) h' wk f' g' (((Ls lf).foldl (JO lc rc (pk / 36) (pk / 6 % 6) (pk % 6) (Ls rt)) [])) ∧ Off wk h h')) 0 0) 60 [(0, .ref r), (1, .ref s), (2, .ref wk.1), (3, .ref (S lf).1), (4, .ref (S rt).1), (5, .int (nI (pk / 36))), (6, .int (nI (pk / 6 % 6))), (7, .int (nI (pk % 6))), (8, .int (nI i)), (9, .int (nI j))] [] := by
    intro i e acc he hi24 hacc hal kk m
    induction m using Nat.strongRecOn with
    | _ m ih =>
      intro j h1 f1 g1 hm hj hR1 hO1
      have hb1 := hR1.1
      have hInl := RA0.keep hW hRil djl hO1
      have hInr := RA0.keep hW hRir djr hO1
      have hbl := hInl.1
      have hbr := hInr.1
      have hr1 := obj_keep hW hr (by decide) hO1
      have hl1 := (gdJ lc rc (pk / 36) (pk / 6 % 6) (pk % 6) e).len (L := acc) ((Ls rt).take j)
      rw [List.length_take] at hl1
      have hmul : i * (Ls rt).length ≤ 23 * 24 := Nat.mul_le_mul (by omega) hlir
      refine r_iload (n := 62) C dJR_fill_60 rfl rfl ?_
      refine r_aload (n := 64) C dJR_fill_62 rfl rfl ?_
      refine r_ci (n := 67) (rn_V (z := 0) (ci := 0) (T := TRW) C (c_RW_size (Kl K) (Ko K) h1 (S rt) fir gir (Ls rt) hInr) tw_245 tw_145 tw_146 tw_2 tw_147 rfl rfl ndRW_size ⟨Nat.le_of_ble_eq_true rfl, Nat.le_of_ble_eq_true rfl⟩ (by assumption) rfl rfl rfl (Nat.le_of_ble_eq_true rfl) dJR_fill_64 ⟨Nat.le_of_ble_eq_true rfl, Nat.le_of_ble_eq_true rfl⟩) rfl (fun v ah hq => ?_)
      obtain ⟨e1, e2⟩ := hq
      subst e1
      rw [e2]
      refine r_icmp_ge (tgt := 154) (n := 70) C dJR_fill_67 (by decide) rfl (fun c_67 => ?_) (fun c_67 => ?_)
      · have hie : j = (Ls rt).length := by have := (nI_leI (by omega) (by omega)).mp c_67; omega
        refine V.byk (ls' := [(0, .ref r), (1, .ref s), (2, .ref wk.1), (3, .ref (S lf).1), (4, .ref (S rt).1), (5, .int (nI (pk / 36))), (6, .int (nI (pk / 6 % 6))), (7, .int (nI (pk % 6))), (8, .int (nI i))]) rfl ?_
        exact kk h1 f1 g1 (by rw [hie, List.take_length] at hR1; exact hR1) hO1
      · have hlt : j < (Ls rt).length := by
          rcases Nat.lt_or_ge j (Ls rt).length with q | q
          · exact q
          · exact absurd (nI_le q (by omega)) c_67
        obtain ⟨q0, hq0⟩ : ∃ q0, (Ls rt)[j]? = some q0 := ⟨_, List.getElem?_eq_getElem hlt⟩
        refine r_aload_n (n := 71) C dJR_fill_70 rfl rfl ?_
        refine r_iload (n := 73) C dJR_fill_71 rfl rfl ?_
        refine r_aload_n (n := 74) C dJR_fill_73 rfl rfl ?_
        refine r_get (ci := 5) (n := 77) C hinJR rfl 2 (by decide) tw_354 rfl dJR_fill_74 rfl (by assumption) rfl ?_
        refine r_ci (n := 80) (rn_V (z := 2) (ci := 0) (T := TRW) C (c_RW_valueAt (Kl K) (Ko K) h1 (S lf) fil gil (Ls lf) i lc e hInl he hlc) tw_246 tw_157 tw_158 tw_2 tw_159 rfl rfl ndRW_valueAt ⟨Nat.le_of_ble_eq_true rfl, Nat.le_of_ble_eq_true rfl⟩ (by assumption) rfl rfl rfl (Nat.le_of_ble_eq_true rfl) dJR_fill_77 ⟨Nat.le_of_ble_eq_true rfl, Nat.le_of_ble_eq_true rfl⟩) rfl (fun v ah hq => ?_)
        obtain ⟨e1, e2⟩ := hq
        subst e1
        rw [e2]
        refine r_aload (n := 82) C dJR_fill_80 rfl rfl ?_
        refine r_iload (n := 84) C dJR_fill_82 rfl rfl ?_
        refine r_aload_n (n := 85) C dJR_fill_84 rfl rfl ?_
        refine r_get (ci := 5) (n := 88) C hinJR rfl 3 (by decide) tw_355 rfl dJR_fill_85 rfl (by assumption) rfl ?_
        refine r_ci (n := 91) (rn_V (z := 2) (ci := 0) (T := TRW) C (c_RW_valueAt (Kl K) (Ko K) h1 (S rt) fir gir (Ls rt) j rc q0 hInr hq0 hrc) tw_246 tw_157 tw_158 tw_2 tw_159 rfl rfl ndRW_valueAt ⟨Nat.le_of_ble_eq_true rfl, Nat.le_of_ble_eq_true rfl⟩ (by assumption) rfl rfl rfl (Nat.le_of_ble_eq_true rfl) dJR_fill_88 ⟨Nat.le_of_ble_eq_true rfl, Nat.le_of_ble_eq_true rfl⟩) rfl (fun v ah hq => ?_)
        obtain ⟨e1, e2⟩ := hq
        subst e1
        rw [e2]
        refine r_icmp_ne (tgt := 148) (n := 94) C dJR_fill_91 (by decide) rfl (fun c_91 => ?_) (fun c_91 => ?_)
        · refine r_iinc (n := 151) C dJR_fill_148 rfl rfl (nI_i j) (by decide) ?_
          refine r_goto (tgt := 60) C dJR_fill_151 (by decide) ?_
          refine V.byk (ls' := [(0, .ref r), (1, .ref s), (2, .ref wk.1), (3, .ref (S lf).1), (4, .ref (S rt).1), (5, .int (nI (pk / 36))), (6, .int (nI (pk / 6 % 6))), (7, .int (nI (pk % 6))), (8, .int (nI i)), (9, .int (nI (j + 1)))]) rfl ?_
          exact ih _ (by omega) (j + 1) h1 f1 g1 rfl (by omega) (by rw [fold_take (JRf lc rc (pk / 36) (pk / 6 % 6) (pk % 6) e) _ hq0]; unfold JRf; rw [if_neg c_91]; exact hR1) hO1
        · refine r_aload_n (n := 95) C dJR_fill_94 rfl rfl ?_
          refine r_aload_n (n := 96) C dJR_fill_95 rfl rfl ?_
          refine r_iload (n := 98) C dJR_fill_96 rfl rfl ?_
          refine r_aload (n := 100) C dJR_fill_98 rfl rfl ?_
          refine r_iload (n := 102) C dJR_fill_100 rfl rfl ?_
          refine r_iload (n := 104) C dJR_fill_102 rfl rfl ?_
          refine r_ci (n := 107) (rn_S (z := 5) C (c_JR_picked (Kl K) (Ko K) h1 (S lf) fil gil (Ls lf) (S rt) fir gir (Ls rt) i j (pk / 36) e q0 hInl hInr he hq0 (by omega)) tw_247 tw_248 tw_9 tw_249 rfl rfl ndJR_picked.2 ⟨Nat.le_of_ble_eq_true rfl, Nat.le_of_ble_eq_true rfl⟩ rfl rfl (Nat.le_of_ble_eq_true rfl) dJR_fill_104 ⟨Nat.le_of_ble_eq_true rfl, Nat.le_of_ble_eq_true rfl⟩) rfl (fun v ah hq => ?_)
          obtain ⟨e1, e2⟩ := hq
          subst e1
          rw [e2]
          refine r_aload_n (n := 108) C dJR_fill_107 rfl rfl ?_
          refine r_iload (n := 110) C dJR_fill_108 rfl rfl ?_
          refine r_aload (n := 112) C dJR_fill_110 rfl rfl ?_
          refine r_iload (n := 114) C dJR_fill_112 rfl rfl ?_
          refine r_iload (n := 116) C dJR_fill_114 rfl rfl ?_
          refine r_ci (n := 119) (rn_S (z := 5) C (c_JR_picked (Kl K) (Ko K) h1 (S lf) fil gil (Ls lf) (S rt) fir gir (Ls rt) i j (pk / 6 % 6) e q0 hInl hInr he hq0 (by omega)) tw_247 tw_248 tw_9 tw_249 rfl rfl ndJR_picked.2 ⟨Nat.le_of_ble_eq_true rfl, Nat.le_of_ble_eq_true rfl⟩ rfl rfl (Nat.le_of_ble_eq_true rfl) dJR_fill_116 ⟨Nat.le_of_ble_eq_true rfl, Nat.le_of_ble_eq_true rfl⟩) rfl (fun v ah hq => ?_)
          obtain ⟨e1, e2⟩ := hq
          subst e1
          rw [e2]
          refine r_aload_n (n := 120) C dJR_fill_119 rfl rfl ?_
          refine r_iload (n := 122) C dJR_fill_120 rfl rfl ?_
          refine r_aload (n := 124) C dJR_fill_122 rfl rfl ?_
          refine r_iload (n := 126) C dJR_fill_124 rfl rfl ?_
          refine r_iload (n := 128) C dJR_fill_126 rfl rfl ?_
          refine r_ci (n := 131) (rn_S (z := 5) C (c_JR_picked (Kl K) (Ko K) h1 (S lf) fil gil (Ls lf) (S rt) fir gir (Ls rt) i j (pk % 6) e q0 hInl hInr he hq0 (by omega)) tw_247 tw_248 tw_9 tw_249 rfl rfl ndJR_picked.2 ⟨Nat.le_of_ble_eq_true rfl, Nat.le_of_ble_eq_true rfl⟩ rfl rfl (Nat.le_of_ble_eq_true rfl) dJR_fill_128 ⟨Nat.le_of_ble_eq_true rfl, Nat.le_of_ble_eq_true rfl⟩) rfl (fun v ah hq => ?_)
          obtain ⟨e1, e2⟩ := hq
          subst e1
          rw [e2]
          refine r_aload_n (n := 132) C dJR_fill_131 rfl rfl ?_
          refine r_iload (n := 134) C dJR_fill_132 rfl rfl ?_
          refine r_cl (n := 137) (rn_V (z := 1) (ci := 0) (T := TRW) C (c_RW_weightAt (Kl K) (Ko K) h1 (S lf) fil gil (Ls lf) i e hInl he) tw_250 tw_149 tw_150 tw_2 tw_151 rfl rfl ndRW_weightAt ⟨Nat.le_of_ble_eq_true rfl, Nat.le_of_ble_eq_true rfl⟩ (by assumption) rfl rfl rfl (Nat.le_of_ble_eq_true rfl) dJR_fill_134 ⟨Nat.le_of_ble_eq_true rfl, Nat.le_of_ble_eq_true rfl⟩) rfl (fun v ah hq => ?_)
          obtain ⟨e1, e2⟩ := hq
          subst e1
          rw [e2]
          refine r_aload (n := 139) C dJR_fill_137 rfl rfl ?_
          refine r_iload (n := 141) C dJR_fill_139 rfl rfl ?_
          refine r_cl (n := 144) (rn_V (z := 1) (ci := 0) (T := TRW) C (c_RW_weightAt (Kl K) (Ko K) h1 (S rt) fir gir (Ls rt) j q0 hInr hq0) tw_250 tw_149 tw_150 tw_2 tw_151 rfl rfl ndRW_weightAt ⟨Nat.le_of_ble_eq_true rfl, Nat.le_of_ble_eq_true rfl⟩ (by assumption) rfl rfl rfl (Nat.le_of_ble_eq_true rfl) dJR_fill_141 ⟨Nat.le_of_ble_eq_true rfl, Nat.le_of_ble_eq_true rfl⟩) rfl (fun v ah hq => ?_)
          obtain ⟨e1, e2⟩ := hq
          subst e1
          rw [e2]
          refine r_lmul (n := 145) C dJR_fill_144 rfl ?_
          refine r_cv (n := 148) (rn_V (z := 4) (ci := 0) (T := TRW) C (c_RW_addWeight (Kl K) (Ko K) h1 wk f1 g1 _ (pickF (pk / 36) e.1 q0.1) (pickF (pk / 6 % 6) e.1 q0.1) (pickF (pk % 6) e.1 q0.1) (e.2 * q0.2) hR1 ((gdJ lc rc (pk / 36) (pk / 6 % 6) (pk % 6) e).srt _ hacc) (by omega)) tw_251 tw_161 tw_162 tw_2 tw_163 rfl rfl ndRW_addWeight ⟨Nat.le_of_ble_eq_true rfl, Nat.le_of_ble_eq_true rfl⟩ hb1 rfl rfl rfl (Nat.le_of_ble_eq_true rfl) dJR_fill_145 ⟨Nat.le_of_ble_eq_true rfl, Nat.le_of_ble_eq_true rfl⟩) rfl (fun h2 hq => ?_)
          obtain ⟨f2, g2, hR2, hO2⟩ := hq
          refine r_iinc (n := 151) C dJR_fill_148 rfl rfl (nI_i j) (by decide) ?_
          refine r_goto (tgt := 60) C dJR_fill_151 (by decide) ?_
          refine V.byk (ls' := [(0, .ref r), (1, .ref s), (2, .ref wk.1), (3, .ref (S lf).1), (4, .ref (S rt).1), (5, .int (nI (pk / 36))), (6, .int (nI (pk / 6 % 6))), (7, .int (nI (pk % 6))), (8, .int (nI i)), (9, .int (nI (j + 1)))]) rfl ?_
          exact ih _ (by omega) (j + 1) h2 f2 g2 rfl (by omega) (by rw [fold_take (JRf lc rc (pk / 36) (pk / 6 % 6) (pk % 6) e) _ hq0]; unfold JRf; rw [if_pos c_91]; exact hR2) (hO1.tr hO2)
  have outer : ∀ (m i : Nat) (h1 : AH) (f1 : Nat → Int32) (g1 : Nat → Int64), (Ls lf).length - i = m → i ≤ (Ls lf).length → RA0 (Ko K) h1 wk f1 g1 (((Ls lf).take i).foldl (JO lc rc (pk / 36) (pk / 6 % 6) (pk % 6) (Ls rt)) []) → Off wk h h1 → V K h1 0 0 (EndQ K (QV (Ko K) (fun h' => ∃ f' g', RA0 (Ko K) h' wk f' g' (((Ls lf).foldl (JO lc rc (pk / 36) (pk / 6 % 6) (pk % 6) (Ls rt)) [])) ∧ Off wk h h')) 0 0) 48 [(0, .ref r), (1, .ref s), (2, .ref wk.1), (3, .ref (S lf).1), (4, .ref (S rt).1), (5, .int (nI (pk / 36))), (6, .int (nI (pk / 6 % 6))), (7, .int (nI (pk % 6))), (8, .int (nI i))] [] := by
    intro m
    induction m using Nat.strongRecOn with
    | _ m ih =>
      intro i h1 f1 g1 hm hi hR1 hO1
      have hInl := RA0.keep hW hRil djl hO1
      have hbl := hInl.1
      have hl1 := JO_len (lc := lc) (rc := rc) (x := (pk / 36)) (y := (pk / 6 % 6)) (z := (pk % 6)) (R := Ls rt) (L := []) ((Ls lf).take i)
      rw [List.length_take, Nat.min_eq_left hi] at hl1
      simp only [List.length_nil, Nat.zero_add] at hl1
      refine r_iload (n := 50) C dJR_fill_48 rfl rfl ?_
      refine r_aload_n (n := 51) C dJR_fill_50 rfl rfl ?_
      refine r_ci (n := 54) (rn_V (z := 0) (ci := 0) (T := TRW) C (c_RW_size (Kl K) (Ko K) h1 (S lf) fil gil (Ls lf) hInl) tw_245 tw_145 tw_146 tw_2 tw_147 rfl rfl ndRW_size ⟨Nat.le_of_ble_eq_true rfl, Nat.le_of_ble_eq_true rfl⟩ (by assumption) rfl rfl rfl (Nat.le_of_ble_eq_true rfl) dJR_fill_51 ⟨Nat.le_of_ble_eq_true rfl, Nat.le_of_ble_eq_true rfl⟩) rfl (fun v ah hq => ?_)
      obtain ⟨e1, e2⟩ := hq
      subst e1
      rw [e2]
      refine r_icmp_ge (tgt := 160) (n := 57) C dJR_fill_54 (by decide) rfl (fun c_54 => ?_) (fun c_54 => ?_)
      · have hie : i = (Ls lf).length := by have := (nI_leI (by omega) (by omega)).mp c_54; omega
        exact r_vret C dJR_fill_160 (Nat.le_refl _) (Nat.le_refl _) ⟨f1, g1, by rw [hie, List.take_length] at hR1; exact hR1, hO1⟩
      · have hlt : i < (Ls lf).length := by
          rcases Nat.lt_or_ge i (Ls lf).length with q | q
          · exact q
          · exact absurd (nI_le q (by omega)) c_54
        obtain ⟨e, he⟩ : ∃ e, (Ls lf)[i]? = some e := ⟨_, List.getElem?_eq_getElem hlt⟩
        refine r_iconst (v := 0) (n := 58) C dJR_fill_57 rfl (by decide) ?_
        refine r_istore (n := 60) C dJR_fill_58 rfl (by decide) ?_
        refine V.byk (ls' := [(0, .ref r), (1, .ref s), (2, .ref wk.1), (3, .ref (S lf).1), (4, .ref (S rt).1), (5, .int (nI (pk / 36))), (6, .int (nI (pk / 6 % 6))), (7, .int (nI (pk % 6))), (8, .int (nI i)), (9, .int (nI 0))]) rfl ?_
        refine inner i e _ he (by omega) (JO_srt _ List.Pairwise.nil) hl1 (fun h2 f2 g2 hR2 hO2 => ?_) _ 0 h1 f1 g1 rfl (Nat.zero_le _) hR1 hO1
        refine r_iinc (n := 157) C dJR_fill_154 rfl rfl (nI_i i) (by decide) ?_
        refine r_goto (tgt := 48) C dJR_fill_157 (by decide) ?_
        refine V.byk (ls' := [(0, .ref r), (1, .ref s), (2, .ref wk.1), (3, .ref (S lf).1), (4, .ref (S rt).1), (5, .int (nI (pk / 36))), (6, .int (nI (pk / 6 % 6))), (7, .int (nI (pk % 6))), (8, .int (nI (i + 1)))]) rfl ?_
        exact ih _ (by omega) (i + 1) h2 f2 g2 rfl (by omega) (by rw [fold_take (JO lc rc (pk / 36) (pk / 6 % 6) (pk % 6) (Ls rt)) _ he]; exact hR2) hO2
  refine r_aload_n (n := 1) C dJR_fill_0 rfl rfl ?_
  refine r_aload_n (n := 2) C dJR_fill_1 rfl rfl ?_
  refine r_get (ci := 5) (n := 5) C hinJR rfl 0 (by decide) tw_352 rfl dJR_fill_2 rfl (by assumption) rfl ?_
  refine r_aald (n := 6) (t0 := 2) C dJR_fill_5 rfl (by assumption) rfl lf rfl (by omega) (by omega) hfil ?_
  refine r_astore_n (n := 7) C dJR_fill_6 rfl (by decide) ?_
  refine r_aload_n (n := 8) C dJR_fill_7 rfl rfl ?_
  refine r_aload_n (n := 9) C dJR_fill_8 rfl rfl ?_
  refine r_get (ci := 5) (n := 12) C hinJR rfl 1 (by decide) tw_353 rfl dJR_fill_9 rfl (by assumption) rfl ?_
  refine r_aald (n := 13) (t0 := 2) C dJR_fill_12 rfl hsl rfl rt rfl (by omega) (by omega) (hsll rt hrt).1 ?_
  refine r_astore (n := 15) C dJR_fill_13 rfl (by decide) ?_
  refine r_aload_n (n := 16) C dJR_fill_15 rfl rfl ?_
  refine r_get (ci := 5) (n := 19) C hinJR rfl 4 (by decide) tw_356 rfl dJR_fill_16 rfl (by assumption) rfl ?_
  refine r_bipush (v := 36) (n := 21) C dJR_fill_19 rfl (by decide) ?_
  refine r_idiv (n := 22) C dJR_fill_21 rfl (by decide) ?_
  refine V.eqi (y := nI (pk / 36)) (div_n (d := 36) (by omega) (by omega) (by omega)) ?_
  refine r_istore (n := 24) C dJR_fill_22 rfl (by decide) ?_
  refine r_aload_n (n := 25) C dJR_fill_24 rfl rfl ?_
  refine r_get (ci := 5) (n := 28) C hinJR rfl 4 (by decide) tw_356 rfl dJR_fill_25 rfl (by assumption) rfl ?_
  refine r_bipush (v := 6) (n := 30) C dJR_fill_28 rfl (by decide) ?_
  refine r_idiv (n := 31) C dJR_fill_30 rfl (by decide) ?_
  refine V.eqi (y := nI (pk / 6)) (div_n (d := 6) (by omega) (by omega) (by omega)) ?_
  refine r_bipush (v := 6) (n := 33) C dJR_fill_31 rfl (by decide) ?_
  refine r_irem (n := 34) C dJR_fill_33 rfl (by decide) ?_
  refine V.eqi (y := nI (pk / 6 % 6)) (pk_rem (a := pk / 6) (d := 6) (by omega) (by omega) (by omega)) ?_
  refine r_istore (n := 36) C dJR_fill_34 rfl (by decide) ?_
  refine r_aload_n (n := 37) C dJR_fill_36 rfl rfl ?_
  refine r_get (ci := 5) (n := 40) C hinJR rfl 4 (by decide) tw_356 rfl dJR_fill_37 rfl (by assumption) rfl ?_
  refine r_bipush (v := 6) (n := 42) C dJR_fill_40 rfl (by decide) ?_
  refine r_irem (n := 43) C dJR_fill_42 rfl (by decide) ?_
  refine V.eqi (y := nI (pk % 6)) (pk_rem (a := pk) (d := 6) (by omega) (by omega) (by omega)) ?_
  refine r_istore (n := 45) C dJR_fill_43 rfl (by decide) ?_
  refine r_iconst (v := 0) (n := 46) C dJR_fill_45 rfl (by decide) ?_
  refine r_istore (n := 48) C dJR_fill_46 rfl (by decide) ?_
  refine V.byk (ls' := [(0, .ref r), (1, .ref s), (2, .ref wk.1), (3, .ref (S lf).1), (4, .ref (S rt).1), (5, .int (nI (pk / 36))), (6, .int (nI (pk / 6 % 6))), (7, .int (nI (pk % 6))), (8, .int (nI 0))]) rfl ?_
  exact outer _ 0 h f g rfl (Nat.zero_le _) hW Off.rf
