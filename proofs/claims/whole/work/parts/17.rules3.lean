/-! RULES: group -/
def withB (key : Nat) (k : Int32) (q : Rw) : Bool := decide (0 < q.2) && decide (colv q.1 key = k)
def startV (kd col : Nat) (q : Rw) : Int32 := match kd with
  | 0 => q.2.toInt32
  | 1 => (q.2 * (colv q.1 col).toInt64).toInt32
  | _ => colv q.1 col
def joinV (kd : Nat) (a b : Int32) : Int32 := match kd with
  | 2 => if b < a then b else a
  | 3 => if a < b then b else a
  | _ => a + b
def gvF (kd key col : Nat) (k : Int32) (v : Int32) (q : Rw) : Int32 := if withB key k q = true then joinV kd v (startV kd col q) else v
def gval (kd key col : Nat) (M : List Rw) (i : Nat) (e : Rw) : Int32 := (M.drop (i + 1)).foldl (gvF kd key col (colv e.1 key)) (startV kd col e)
def GRi (kd key col : Nat) (M : List Rw) : Nat → List Rw
  | 0 => []
  | i + 1 => match M[i]? with
    | some e => if 0 < e.2 ∧ ((M.take i).any (withB key (colv e.1 key))) = false then addW (GRi kd key col M i) (colv e.1 key, gval kd key col M i e, 0) 1 else GRi kd key col M i
    | none => GRi kd key col M i
theorem GRi_srt (kd key col : Nat) (M : List Rw) : ∀ i, Srt (GRi kd key col M i)
  | 0 => List.Pairwise.nil
  | i + 1 => by
    unfold GRi
    split
    · split
      · exact addW_srt _ _ (GRi_srt kd key col M i)
      · exact GRi_srt kd key col M i
    · exact GRi_srt kd key col M i
theorem GRi_len (kd key col : Nat) (M : List Rw) : ∀ i, (GRi kd key col M i).length ≤ i
  | 0 => Nat.le_refl _
  | i + 1 => by
    have ih := GRi_len kd key col M i
    unfold GRi
    split
    · split
      · exact Nat.le_trans (addW_len _ _) (by omega)
      · omega
    · omega
theorem drop_take_succ {M : List Rw} {i j : Nat} {e : Rw} (hij : i ≤ j) (he : M[j]? = some e) : (M.take (j + 1)).drop i = (M.take j).drop i ++ [e] := by
  rw [List.take_succ, he, List.drop_append_of_le_length (by
    have := (List.getElem?_eq_some_iff.mp he).1
    rw [List.length_take]; omega)]
  rfl
set_option maxHeartbeats 4000000 in
set_option maxRecDepth 100000 in
/-- GroupRule.isWith -/
theorem c_GR_isWith (l : Launch) (o : Om) (h : AH) (r : Nat) (A : Nat × Nat × Nat × Nat) (f : Nat → Int32) (g : Nat → Int64) (L : List Rw) (inp key col kd : Nat) (i : Nat) (e : Rw) (k : Int32) (hR : RA0 o h A f g L) (hr : h r = some (.inr (8, [.int (nI inp), .int (nI key), .int (nI col), .int (nI kd)]))) (hkey : key < 3) (he : L[i]? = some e) : Mt l o yGR_isWith cGR_isWith 4 (some .boolean) ({ frames := 1, cells := 0, slots := 0, locals := 22 } : Room) [.ref r, .ref A.1, .int (nI i), .int k] h (QI o (fun x h' => x = b01 (withB key k e) ∧ h' = h)) (0) (0) := by
  refine Met.ofV (by decide) (Nat.le_of_ble_eq_true rfl) (fun K hl ho C => ?_)
  subst hl; subst ho
  refine r_aload_n (n := 1) C dGR_isWith_0 rfl rfl ?_
  refine r_iload_n (n := 2) C dGR_isWith_1 rfl rfl ?_
  refine r_cl (n := 5) (rn_V (z := 1) (ci := 0) (T := TRW) C (c_RW_weightAt (Kl K) (Ko K) h A f g L i e hR he) tw_211 tw_149 tw_150 tw_2 tw_151 rfl rfl ndRW_weightAt ⟨Nat.le_of_ble_eq_true rfl, Nat.le_of_ble_eq_true rfl⟩ hR.1 rfl rfl rfl (Nat.le_of_ble_eq_true rfl) dGR_isWith_2 ⟨Nat.le_of_ble_eq_true rfl, Nat.le_of_ble_eq_true rfl⟩) rfl (fun x ah hq => ?_)
  obtain ⟨e1, e2⟩ := hq
  subst e1
  rw [e2]
  refine r_lconst (v := 0) (n := 6) C dGR_isWith_5 rfl (by decide) ?_
  refine r_lcmp (n := 7) C dGR_isWith_6 rfl ?_
  refine r_if_le (tgt := 27) (n := 10) C dGR_isWith_7 (by decide) rfl (fun c_7 => ?_) (fun c_7 => ?_)
  · have hz : withB key k e = false := by
      unfold withB
      rw [decide_eq_false (Int64.not_lt.mpr ((lg_cmp_le _ _).mp c_7)), Bool.false_and]
    refine r_iconst (v := 0) (n := 28) C dGR_isWith_27 rfl (by decide) ?_
    exact r_zret C dGR_isWith_28 rfl (Nat.le_refl _) (Nat.le_refl _) ⟨by rw [hz]; rfl, rfl⟩
  · have hp : 0 < e.2 := Int64.not_le.mp (fun q => c_7 ((lg_cmp_le _ _).mpr q))
    refine r_aload_n (n := 11) C dGR_isWith_10 rfl rfl ?_
    refine r_iload_n (n := 12) C dGR_isWith_11 rfl rfl ?_
    refine r_aload_n (n := 13) C dGR_isWith_12 rfl rfl ?_
    refine r_get (ci := 8) (n := 16) C hinGR rfl 1 (by decide) tw_412 rfl dGR_isWith_13 rfl (by assumption) rfl ?_
    refine r_ci (n := 19) (rn_V (z := 2) (ci := 0) (T := TRW) C (c_RW_valueAt (Kl K) (Ko K) h A f g L i key e hR he hkey) tw_217 tw_157 tw_158 tw_2 tw_159 rfl rfl ndRW_valueAt ⟨Nat.le_of_ble_eq_true rfl, Nat.le_of_ble_eq_true rfl⟩ hR.1 rfl rfl rfl (Nat.le_of_ble_eq_true rfl) dGR_isWith_16 ⟨Nat.le_of_ble_eq_true rfl, Nat.le_of_ble_eq_true rfl⟩) rfl (fun x ah hq => ?_)
    obtain ⟨e1, e2⟩ := hq
    subst e1
    rw [e2]
    refine r_iload_n (n := 20) C dGR_isWith_19 rfl rfl ?_
    refine r_icmp_ne (tgt := 27) (n := 23) C dGR_isWith_20 (by decide) rfl (fun c_20 => ?_) (fun c_20 => ?_)
    · have hz : withB key k e = false := by
        unfold withB
        rw [decide_eq_false c_20, Bool.and_false]
      refine r_iconst (v := 0) (n := 28) C dGR_isWith_27 rfl (by decide) ?_
      exact r_zret C dGR_isWith_28 rfl (Nat.le_refl _) (Nat.le_refl _) ⟨by rw [hz]; rfl, rfl⟩
    · have hz : withB key k e = true := by
        unfold withB
        rw [decide_eq_true c_20, decide_eq_true hp]; rfl
      refine r_iconst (v := 1) (n := 24) C dGR_isWith_23 rfl (by decide) ?_
      refine r_goto (tgt := 28) C dGR_isWith_24 (by decide) ?_
      exact r_zret C dGR_isWith_28 rfl (Nat.le_refl _) (Nat.le_refl _) ⟨by rw [hz]; rfl, rfl⟩
set_option maxHeartbeats 4000000 in
set_option maxRecDepth 100000 in
/-- GroupRule.startValue -/
theorem c_GR_startValue (l : Launch) (o : Om) (h : AH) (r : Nat) (A : Nat × Nat × Nat × Nat) (f : Nat → Int32) (g : Nat → Int64) (L : List Rw) (inp key col kd : Nat) (i : Nat) (e : Rw) (hR : RA0 o h A f g L) (hr : h r = some (.inr (8, [.int (nI inp), .int (nI key), .int (nI col), .int (nI kd)]))) (hcol : col < 3) (hkd : kd < 4) (he : L[i]? = some e) : Mt l o yGR_startValue cGR_startValue 3 (some .int) ({ frames := 1, cells := 0, slots := 0, locals := 22 } : Room) [.ref r, .ref A.1, .int (nI i)] h (QI o (fun x h' => x = startV kd col e ∧ h' = h)) (0) (0) := by
  refine Met.ofV (by decide) (Nat.le_of_ble_eq_true rfl) (fun K hl ho C => ?_)
  subst hl; subst ho
  rcases (show kd = 0 ∨ kd = 1 ∨ kd = 2 ∨ kd = 3 by omega) with e0 | e0 | e0 | e0 <;> subst e0
  · refine r_aload_n (n := 1) C dGR_startValue_0 rfl rfl ?_
    refine r_get (ci := 8) (n := 4) C hinGR rfl 3 (by decide) tw_414 rfl dGR_startValue_1 rfl (by assumption) rfl ?_
    refine r_lookup (off := 28) (tgt := 32) C dGR_startValue_4 (by decide +kernel) (by decide +kernel) (by decide) ?_
    refine r_aload_n (n := 33) C dGR_startValue_32 rfl rfl ?_
    refine r_iload_n (n := 34) C dGR_startValue_33 rfl rfl ?_
    refine r_cl (n := 37) (rn_V (z := 1) (ci := 0) (T := TRW) C (c_RW_weightAt (Kl K) (Ko K) h A f g L i e hR he) tw_211 tw_149 tw_150 tw_2 tw_151 rfl rfl ndRW_weightAt ⟨Nat.le_of_ble_eq_true rfl, Nat.le_of_ble_eq_true rfl⟩ hR.1 rfl rfl rfl (Nat.le_of_ble_eq_true rfl) dGR_startValue_34 ⟨Nat.le_of_ble_eq_true rfl, Nat.le_of_ble_eq_true rfl⟩) rfl (fun x ah hq => ?_)
    obtain ⟨e1, e2⟩ := hq
    subst e1
    rw [e2]
    refine r_l2i (n := 38) C dGR_startValue_37 rfl ?_
    exact r_iret C dGR_startValue_38 (Nat.le_refl _) (Nat.le_refl _) ⟨rfl, rfl⟩
  · refine r_aload_n (n := 1) C dGR_startValue_0 rfl rfl ?_
    refine r_get (ci := 8) (n := 4) C hinGR rfl 3 (by decide) tw_414 rfl dGR_startValue_1 rfl (by assumption) rfl ?_
    refine r_lookup (off := 35) (tgt := 39) C dGR_startValue_4 (by decide +kernel) (by decide +kernel) (by decide) ?_
    refine r_aload_n (n := 40) C dGR_startValue_39 rfl rfl ?_
    refine r_iload_n (n := 41) C dGR_startValue_40 rfl rfl ?_
    refine r_cl (n := 44) (rn_V (z := 1) (ci := 0) (T := TRW) C (c_RW_weightAt (Kl K) (Ko K) h A f g L i e hR he) tw_211 tw_149 tw_150 tw_2 tw_151 rfl rfl ndRW_weightAt ⟨Nat.le_of_ble_eq_true rfl, Nat.le_of_ble_eq_true rfl⟩ hR.1 rfl rfl rfl (Nat.le_of_ble_eq_true rfl) dGR_startValue_41 ⟨Nat.le_of_ble_eq_true rfl, Nat.le_of_ble_eq_true rfl⟩) rfl (fun x ah hq => ?_)
    obtain ⟨e1, e2⟩ := hq
    subst e1
    rw [e2]
    refine r_aload_n (n := 45) C dGR_startValue_44 rfl rfl ?_
    refine r_iload_n (n := 46) C dGR_startValue_45 rfl rfl ?_
    refine r_aload_n (n := 47) C dGR_startValue_46 rfl rfl ?_
    refine r_get (ci := 8) (n := 50) C hinGR rfl 2 (by decide) tw_413 rfl dGR_startValue_47 rfl (by assumption) rfl ?_
    refine r_ci (n := 53) (rn_V (z := 2) (ci := 0) (T := TRW) C (c_RW_valueAt (Kl K) (Ko K) h A f g L i col e hR he hcol) tw_217 tw_157 tw_158 tw_2 tw_159 rfl rfl ndRW_valueAt ⟨Nat.le_of_ble_eq_true rfl, Nat.le_of_ble_eq_true rfl⟩ hR.1 rfl rfl rfl (Nat.le_of_ble_eq_true rfl) dGR_startValue_50 ⟨Nat.le_of_ble_eq_true rfl, Nat.le_of_ble_eq_true rfl⟩) rfl (fun x ah hq => ?_)
    obtain ⟨e1, e2⟩ := hq
    subst e1
    rw [e2]
    refine r_i2l (n := 54) C dGR_startValue_53 rfl ?_
    refine r_lmul (n := 55) C dGR_startValue_54 rfl ?_
    refine r_l2i (n := 56) C dGR_startValue_55 rfl ?_
    exact r_iret C dGR_startValue_56 (Nat.le_refl _) (Nat.le_refl _) ⟨rfl, rfl⟩
  · refine r_aload_n (n := 1) C dGR_startValue_0 rfl rfl ?_
    refine r_get (ci := 8) (n := 4) C hinGR rfl 3 (by decide) tw_414 rfl dGR_startValue_1 rfl (by assumption) rfl ?_
    refine r_lookup (off := 53) (tgt := 57) C dGR_startValue_4 (by decide +kernel) (by decide +kernel) (by decide) ?_
    refine r_aload_n (n := 58) C dGR_startValue_57 rfl rfl ?_
    refine r_iload_n (n := 59) C dGR_startValue_58 rfl rfl ?_
    refine r_aload_n (n := 60) C dGR_startValue_59 rfl rfl ?_
    refine r_get (ci := 8) (n := 63) C hinGR rfl 2 (by decide) tw_413 rfl dGR_startValue_60 rfl (by assumption) rfl ?_
    refine r_ci (n := 66) (rn_V (z := 2) (ci := 0) (T := TRW) C (c_RW_valueAt (Kl K) (Ko K) h A f g L i col e hR he hcol) tw_217 tw_157 tw_158 tw_2 tw_159 rfl rfl ndRW_valueAt ⟨Nat.le_of_ble_eq_true rfl, Nat.le_of_ble_eq_true rfl⟩ hR.1 rfl rfl rfl (Nat.le_of_ble_eq_true rfl) dGR_startValue_63 ⟨Nat.le_of_ble_eq_true rfl, Nat.le_of_ble_eq_true rfl⟩) rfl (fun x ah hq => ?_)
    obtain ⟨e1, e2⟩ := hq
    subst e1
    rw [e2]
    exact r_iret C dGR_startValue_66 (Nat.le_refl _) (Nat.le_refl _) ⟨rfl, rfl⟩
  · refine r_aload_n (n := 1) C dGR_startValue_0 rfl rfl ?_
    refine r_get (ci := 8) (n := 4) C hinGR rfl 3 (by decide) tw_414 rfl dGR_startValue_1 rfl (by assumption) rfl ?_
    refine r_lookup (off := 53) (tgt := 57) C dGR_startValue_4 (by decide +kernel) (by decide +kernel) (by decide) ?_
    refine r_aload_n (n := 58) C dGR_startValue_57 rfl rfl ?_
    refine r_iload_n (n := 59) C dGR_startValue_58 rfl rfl ?_
    refine r_aload_n (n := 60) C dGR_startValue_59 rfl rfl ?_
    refine r_get (ci := 8) (n := 63) C hinGR rfl 2 (by decide) tw_413 rfl dGR_startValue_60 rfl (by assumption) rfl ?_
    refine r_ci (n := 66) (rn_V (z := 2) (ci := 0) (T := TRW) C (c_RW_valueAt (Kl K) (Ko K) h A f g L i col e hR he hcol) tw_217 tw_157 tw_158 tw_2 tw_159 rfl rfl ndRW_valueAt ⟨Nat.le_of_ble_eq_true rfl, Nat.le_of_ble_eq_true rfl⟩ hR.1 rfl rfl rfl (Nat.le_of_ble_eq_true rfl) dGR_startValue_63 ⟨Nat.le_of_ble_eq_true rfl, Nat.le_of_ble_eq_true rfl⟩) rfl (fun x ah hq => ?_)
    obtain ⟨e1, e2⟩ := hq
    subst e1
    rw [e2]
    exact r_iret C dGR_startValue_66 (Nat.le_refl _) (Nat.le_refl _) ⟨rfl, rfl⟩
set_option maxHeartbeats 4000000 in
set_option maxRecDepth 100000 in
/-- GroupRule.joined -/
theorem c_GR_joined (l : Launch) (o : Om) (h : AH) (r : Nat) (inp key col kd : Nat) (a b : Int32) (hr : h r = some (.inr (8, [.int (nI inp), .int (nI key), .int (nI col), .int (nI kd)]))) (hkd : kd < 4) : Mt l o yGR_joined cGR_joined 3 (some .int) ({ frames := 1, cells := 0, slots := 0, locals := 24 } : Room) [.ref r, .int a, .int b] h (QI o (fun x h' => x = joinV kd a b ∧ h' = h)) (0) (0) := by
  refine Met.ofV (by decide) (Nat.le_of_ble_eq_true rfl) (fun K hl ho C => ?_)
  subst hl; subst ho
  rcases (show kd = 0 ∨ kd = 1 ∨ kd = 2 ∨ kd = 3 by omega) with e0 | e0 | e0 | e0 <;> subst e0
  · refine r_aload_n (n := 1) C dGR_joined_0 rfl rfl ?_
    refine r_get (ci := 8) (n := 4) C hinGR rfl 3 (by decide) tw_414 rfl dGR_joined_1 rfl (by assumption) rfl ?_
    refine r_lookup (off := 40) (tgt := 44) C dGR_joined_4 (by decide +kernel) (by decide +kernel) (by decide) ?_
    refine r_iload_n (n := 45) C dGR_joined_44 rfl rfl ?_
    refine r_iload_n (n := 46) C dGR_joined_45 rfl rfl ?_
    refine r_iadd (n := 47) C dGR_joined_46 rfl ?_
    exact r_iret C dGR_joined_47 (Nat.le_refl _) (Nat.le_refl _) ⟨rfl, rfl⟩
  · refine r_aload_n (n := 1) C dGR_joined_0 rfl rfl ?_
    refine r_get (ci := 8) (n := 4) C hinGR rfl 3 (by decide) tw_414 rfl dGR_joined_1 rfl (by assumption) rfl ?_
    refine r_lookup (off := 40) (tgt := 44) C dGR_joined_4 (by decide +kernel) (by decide +kernel) (by decide) ?_
    refine r_iload_n (n := 45) C dGR_joined_44 rfl rfl ?_
    refine r_iload_n (n := 46) C dGR_joined_45 rfl rfl ?_
    refine r_iadd (n := 47) C dGR_joined_46 rfl ?_
    exact r_iret C dGR_joined_47 (Nat.le_refl _) (Nat.le_refl _) ⟨rfl, rfl⟩
  · refine r_aload_n (n := 1) C dGR_joined_0 rfl rfl ?_
    refine r_get (ci := 8) (n := 4) C hinGR rfl 3 (by decide) tw_414 rfl dGR_joined_1 rfl (by assumption) rfl ?_
    refine r_lookup (off := 28) (tgt := 32) C dGR_joined_4 (by decide +kernel) (by decide +kernel) (by decide) ?_
    refine r_iload_n (n := 33) C dGR_joined_32 rfl rfl ?_
    refine r_iload_n (n := 34) C dGR_joined_33 rfl rfl ?_
    refine r_mmin (n := 37) C tw_234 tw_138 tw_7 tw_139 (Nat.le_of_ble_eq_true rfl) (Nat.le_of_ble_eq_true rfl) (Nat.zero_le _) (Nat.zero_le _) dGR_joined_34 rfl ?_
    exact r_iret C dGR_joined_37 (Nat.le_refl _) (Nat.le_refl _) ⟨rfl, rfl⟩
  · refine r_aload_n (n := 1) C dGR_joined_0 rfl rfl ?_
    refine r_get (ci := 8) (n := 4) C hinGR rfl 3 (by decide) tw_414 rfl dGR_joined_1 rfl (by assumption) rfl ?_
    refine r_lookup (off := 34) (tgt := 38) C dGR_joined_4 (by decide +kernel) (by decide +kernel) (by decide) ?_
    refine r_iload_n (n := 39) C dGR_joined_38 rfl rfl ?_
    refine r_iload_n (n := 40) C dGR_joined_39 rfl rfl ?_
    refine r_mmax (n := 43) C tw_235 tw_236 tw_7 tw_237 (Nat.le_of_ble_eq_true rfl) (Nat.le_of_ble_eq_true rfl) (Nat.zero_le _) (Nat.zero_le _) dGR_joined_40 rfl ?_
    exact r_iret C dGR_joined_43 (Nat.le_refl _) (Nat.le_refl _) ⟨rfl, rfl⟩
set_option maxHeartbeats 4000000 in
set_option maxRecDepth 100000 in
/-- GroupRule.isFirstOfItsKey -/
theorem c_GR_isFirst (l : Launch) (o : Om) (h : AH) (r : Nat) (A : Nat × Nat × Nat × Nat) (f : Nat → Int32) (g : Nat → Int64) (L : List Rw) (inp key col kd : Nat) (i : Nat) (e : Rw) (hR : RA0 o h A f g L) (hr : h r = some (.inr (8, [.int (nI inp), .int (nI key), .int (nI col), .int (nI kd)]))) (hkey : key < 3) (he : L[i]? = some e) : Mt l o yGR_isFirstOfItsKey cGR_isFirstOfItsKey 4 (some .boolean) ({ frames := 2, cells := 0, slots := 0, locals := 45 } : Room) [.ref r, .ref A.1, .int (nI i)] h (QI o (fun x h' => x = b01 (!((L.take i).any (withB key (colv e.1 key)))) ∧ h' = h)) (0) (0) := by
  refine Met.ofV (by decide) (Nat.le_of_ble_eq_true rfl) (fun K hl ho C => ?_)
  subst hl; subst ho
  have hil := (List.getElem?_eq_some_iff.mp he).1
  have hcl := hR.2.2.2
  have loop : ∀ (m j : Nat), i - j = m → j ≤ i → (L.take j).any (withB key (colv e.1 key)) = false → V K h 0 0 (EndQ K (QI (Ko K) (fun x h' => x = b01 (!((L.take i).any (withB key (colv e.1 key)))) ∧ h' = h)) 0 0) 2 [(0, .ref r), (1, .ref A.1), (2, .int (nI i)), (3, .int (nI j))] [] := by
    intro m
    induction m using Nat.strongRecOn with
    | _ m ih =>
      intro j hm hj hany
      refine r_iload_n (n := 3) C dGR_isFirstOfItsKey_2 rfl rfl ?_
      refine r_iload_n (n := 4) C dGR_isFirstOfItsKey_3 rfl rfl ?_
      refine r_icmp_ge (tgt := 33) (n := 7) C dGR_isFirstOfItsKey_4 (by decide) rfl (fun c_4 => ?_) (fun c_4 => ?_)
      · have hie : j = i := by have := (nI_leI (by omega) (by omega)).mp c_4; omega
        refine r_iconst (v := 1) (n := 34) C dGR_isFirstOfItsKey_33 rfl (by decide) ?_
        exact r_zret C dGR_isFirstOfItsKey_34 rfl (Nat.le_refl _) (Nat.le_refl _) ⟨by rw [hie] at hany; rw [hany]; rfl, rfl⟩
      · have hlt : j < i := by
          rcases Nat.lt_or_ge j i with q | q
          · exact q
          · exact absurd (nI_le q (by omega)) c_4
        obtain ⟨q0, hq0⟩ : ∃ q0, L[j]? = some q0 := ⟨_, List.getElem?_eq_getElem (by omega)⟩
        refine r_aload_n (n := 8) C dGR_isFirstOfItsKey_7 rfl rfl ?_
        refine r_aload_n (n := 9) C dGR_isFirstOfItsKey_8 rfl rfl ?_
        refine r_iload_n (n := 10) C dGR_isFirstOfItsKey_9 rfl rfl ?_
        refine r_aload_n (n := 11) C dGR_isFirstOfItsKey_10 rfl rfl ?_
        refine r_iload_n (n := 12) C dGR_isFirstOfItsKey_11 rfl rfl ?_
        refine r_aload_n (n := 13) C dGR_isFirstOfItsKey_12 rfl rfl ?_
        refine r_get (ci := 8) (n := 16) C hinGR rfl 1 (by decide) tw_412 rfl dGR_isFirstOfItsKey_13 rfl (by assumption) rfl ?_
        refine r_ci (n := 19) (rn_V (z := 2) (ci := 0) (T := TRW) C (c_RW_valueAt (Kl K) (Ko K) h A f g L i key e hR he hkey) tw_217 tw_157 tw_158 tw_2 tw_159 rfl rfl ndRW_valueAt ⟨Nat.le_of_ble_eq_true rfl, Nat.le_of_ble_eq_true rfl⟩ hR.1 rfl rfl rfl (Nat.le_of_ble_eq_true rfl) dGR_isFirstOfItsKey_16 ⟨Nat.le_of_ble_eq_true rfl, Nat.le_of_ble_eq_true rfl⟩) rfl (fun x ah hq => ?_)
        obtain ⟨e1, e2⟩ := hq
        subst e1
        rw [e2]
        refine r_ci (n := 22) (rn_V (z := 3) (ci := 8) (T := TGR) C (c_GR_isWith (Kl K) (Ko K) h r A f g L inp key col kd j q0 (colv e.1 key) hR hr hkey hq0) tw_218 tw_220 ts_8 tw_14 tw_221 rfl rfl ndGR_isWith ⟨Nat.le_of_ble_eq_true rfl, Nat.le_of_ble_eq_true rfl⟩ (by assumption) rfl rfl rfl (Nat.le_of_ble_eq_true rfl) dGR_isFirstOfItsKey_19 ⟨Nat.le_of_ble_eq_true rfl, Nat.le_of_ble_eq_true rfl⟩) rfl (fun x ah hq => ?_)
        obtain ⟨e1, e2⟩ := hq
        subst e1
        rw [e2]
        refine r_if_eq (tgt := 27) (n := 25) C dGR_isFirstOfItsKey_22 (by decide) rfl (fun c_22 => ?_) (fun c_22 => ?_)
        · have hz := b01_f c_22
          refine r_iinc (n := 30) C dGR_isFirstOfItsKey_27 rfl rfl (nI_i j) (by decide) ?_
          refine r_goto (tgt := 2) C dGR_isFirstOfItsKey_30 (by decide) ?_
          refine V.byk (ls' := [(0, .ref r), (1, .ref A.1), (2, .int (nI i)), (3, .int (nI (j + 1)))]) rfl ?_
          exact ih _ (by omega) (j + 1) rfl (by omega) (by rw [any_take hq0, hany, hz]; rfl)
        · have hz := b01_t c_22
          have hany2 : (L.take i).any (withB key (colv e.1 key)) = true := List.any_eq_true.mpr ⟨q0, List.mem_of_getElem? (i := j) (by rw [List.getElem?_take_of_lt hlt]; exact hq0), hz⟩
          refine r_iconst (v := 0) (n := 26) C dGR_isFirstOfItsKey_25 rfl (by decide) ?_
          exact r_zret C dGR_isFirstOfItsKey_26 rfl (Nat.le_refl _) (Nat.le_refl _) ⟨by rw [hany2]; rfl, rfl⟩
  refine r_iconst (v := 0) (n := 1) C dGR_isFirstOfItsKey_0 rfl (by decide) ?_
  refine r_istore_n (n := 2) C dGR_isFirstOfItsKey_1 rfl (by decide) ?_
  refine V.byk (ls' := [(0, .ref r), (1, .ref A.1), (2, .int (nI i)), (3, .int (nI 0))]) rfl ?_
  exact loop _ 0 rfl (Nat.zero_le _) rfl
set_option maxHeartbeats 4000000 in
set_option maxRecDepth 100000 in
/-- GroupRule.valueFrom -/
theorem c_GR_valueFrom (l : Launch) (o : Om) (h : AH) (r : Nat) (A : Nat × Nat × Nat × Nat) (f : Nat → Int32) (g : Nat → Int64) (L : List Rw) (inp key col kd : Nat) (i : Nat) (e : Rw) (hR : RA0 o h A f g L) (hr : h r = some (.inr (8, [.int (nI inp), .int (nI key), .int (nI col), .int (nI kd)]))) (hkey : key < 3) (hcol : col < 3) (hkd : kd < 4) (he : L[i]? = some e) : Mt l o yGR_valueFrom cGR_valueFrom 6 (some .int) ({ frames := 2, cells := 0, slots := 0, locals := 46 } : Room) [.ref r, .ref A.1, .int (nI i)] h (QI o (fun x h' => x = gval kd key col L i e ∧ h' = h)) (0) (0) := by
  refine Met.ofV (by decide) (Nat.le_of_ble_eq_true rfl) (fun K hl ho C => ?_)
  subst hl; subst ho
  have hil := (List.getElem?_eq_some_iff.mp he).1
  have hcl := hR.2.2.2
  have loop : ∀ (m j : Nat) (gv : Int32), L.length - j = m → i + 1 ≤ j → j ≤ L.length → gv = (((L.take j).drop (i + 1)).foldl (gvF kd key col (colv e.1 key)) (startV kd col e)) → V K h 0 0 (EndQ K (QI (Ko K) (fun x h' => x = gval kd key col L i e ∧ h' = h)) 0 0) 23 [(0, .ref r), (1, .ref A.1), (2, .int (nI i)), (3, .int (colv e.1 key)), (4, .int gv), (5, .int (nI j))] [] := by
    intro m
    induction m using Nat.strongRecOn with
    | _ m ih =>
      intro j gv hm hij hj hgv
      refine r_iload (n := 25) C dGR_valueFrom_23 rfl rfl ?_
      refine r_aload_n (n := 26) C dGR_valueFrom_25 rfl rfl ?_
      refine r_ci (n := 29) (rn_V (z := 0) (ci := 0) (T := TRW) C (c_RW_size (Kl K) (Ko K) h A f g L hR) tw_210 tw_145 tw_146 tw_2 tw_147 rfl rfl ndRW_size ⟨Nat.le_of_ble_eq_true rfl, Nat.le_of_ble_eq_true rfl⟩ hR.1 rfl rfl rfl (Nat.le_of_ble_eq_true rfl) dGR_valueFrom_26 ⟨Nat.le_of_ble_eq_true rfl, Nat.le_of_ble_eq_true rfl⟩) rfl (fun x ah hq => ?_)
      obtain ⟨e1, e2⟩ := hq
      subst e1
      rw [e2]
      refine r_icmp_ge (tgt := 64) (n := 32) C dGR_valueFrom_29 (by decide) rfl (fun c_29 => ?_) (fun c_29 => ?_)
      · have hie : j = L.length := by have := (nI_leI (by omega) (by omega)).mp c_29; omega
        refine r_iload (n := 66) C dGR_valueFrom_64 rfl rfl ?_
        exact r_iret C dGR_valueFrom_66 (Nat.le_refl _) (Nat.le_refl _) ⟨by rw [hgv, hie, List.take_length]; rfl, rfl⟩
      · have hlt : j < L.length := by
          rcases Nat.lt_or_ge j L.length with q | q
          · exact q
          · exact absurd (nI_le q (by omega)) c_29
        obtain ⟨q0, hq0⟩ : ∃ q0, L[j]? = some q0 := ⟨_, List.getElem?_eq_getElem hlt⟩
        have hst : (((L.take (j + 1)).drop (i + 1)).foldl (gvF kd key col (colv e.1 key)) (startV kd col e)) = gvF kd key col (colv e.1 key) gv q0 := by rw [drop_take_succ hij hq0, List.foldl_append, ← hgv]; rfl
        refine r_aload_n (n := 33) C dGR_valueFrom_32 rfl rfl ?_
        refine r_aload_n (n := 34) C dGR_valueFrom_33 rfl rfl ?_
        refine r_iload (n := 36) C dGR_valueFrom_34 rfl rfl ?_
        refine r_iload_n (n := 37) C dGR_valueFrom_36 rfl rfl ?_
        refine r_ci (n := 40) (rn_V (z := 3) (ci := 8) (T := TGR) C (c_GR_isWith (Kl K) (Ko K) h r A f g L inp key col kd j q0 (colv e.1 key) hR hr hkey hq0) tw_218 tw_220 ts_8 tw_14 tw_221 rfl rfl ndGR_isWith ⟨Nat.le_of_ble_eq_true rfl, Nat.le_of_ble_eq_true rfl⟩ (by assumption) rfl rfl rfl (Nat.le_of_ble_eq_true rfl) dGR_valueFrom_37 ⟨Nat.le_of_ble_eq_true rfl, Nat.le_of_ble_eq_true rfl⟩) rfl (fun x ah hq => ?_)
        obtain ⟨e1, e2⟩ := hq
        subst e1
        rw [e2]
        refine r_if_eq (tgt := 58) (n := 43) C dGR_valueFrom_40 (by decide) rfl (fun c_40 => ?_) (fun c_40 => ?_)
        · have hz := b01_f c_40
          refine r_iinc (n := 61) C dGR_valueFrom_58 rfl rfl (nI_i j) (by decide) ?_
          refine r_goto (tgt := 23) C dGR_valueFrom_61 (by decide) ?_
          refine V.byk (ls' := [(0, .ref r), (1, .ref A.1), (2, .int (nI i)), (3, .int (colv e.1 key)), (4, .int gv), (5, .int (nI (j + 1)))]) rfl ?_
          exact ih _ (by omega) (j + 1) gv rfl (by omega) (by omega) (by rw [hst]; unfold gvF; rw [hz]; rfl)
        · have hz := b01_t c_40
          refine r_aload_n (n := 44) C dGR_valueFrom_43 rfl rfl ?_
          refine r_iload (n := 46) C dGR_valueFrom_44 rfl rfl ?_
          refine r_aload_n (n := 47) C dGR_valueFrom_46 rfl rfl ?_
          refine r_aload_n (n := 48) C dGR_valueFrom_47 rfl rfl ?_
          refine r_iload (n := 50) C dGR_valueFrom_48 rfl rfl ?_
          refine r_ci (n := 53) (rn_V (z := 2) (ci := 8) (T := TGR) C (c_GR_startValue (Kl K) (Ko K) h r A f g L inp key col kd j q0 hR hr hcol hkd hq0) tw_226 tw_228 ts_10 tw_14 tw_229 rfl rfl ndGR_startValue ⟨Nat.le_of_ble_eq_true rfl, Nat.le_of_ble_eq_true rfl⟩ (by assumption) rfl rfl rfl (Nat.le_of_ble_eq_true rfl) dGR_valueFrom_50 ⟨Nat.le_of_ble_eq_true rfl, Nat.le_of_ble_eq_true rfl⟩) rfl (fun x ah hq => ?_)
          obtain ⟨e1, e2⟩ := hq
          subst e1
          rw [e2]
          refine r_ci (n := 56) (rn_V (z := 2) (ci := 8) (T := TGR) C (c_GR_joined (Kl K) (Ko K) h r inp key col kd gv (startV kd col q0) hr hkd) tw_230 tw_232 ts_11 tw_14 tw_233 rfl rfl ndGR_joined ⟨Nat.le_of_ble_eq_true rfl, Nat.le_of_ble_eq_true rfl⟩ (by assumption) rfl rfl rfl (Nat.le_of_ble_eq_true rfl) dGR_valueFrom_53 ⟨Nat.le_of_ble_eq_true rfl, Nat.le_of_ble_eq_true rfl⟩) rfl (fun x ah hq => ?_)
          obtain ⟨e1, e2⟩ := hq
          subst e1
          rw [e2]
          refine r_istore (n := 58) C dGR_valueFrom_56 rfl (by decide) ?_
          refine r_iinc (n := 61) C dGR_valueFrom_58 rfl rfl (nI_i j) (by decide) ?_
          refine r_goto (tgt := 23) C dGR_valueFrom_61 (by decide) ?_
          refine V.byk (ls' := [(0, .ref r), (1, .ref A.1), (2, .int (nI i)), (3, .int (colv e.1 key)), (4, .int (joinV kd gv (startV kd col q0))), (5, .int (nI (j + 1)))]) rfl ?_
          exact ih _ (by omega) (j + 1) _ rfl (by omega) (by omega) (by rw [hst]; unfold gvF; rw [hz]; rfl)
  refine r_aload_n (n := 1) C dGR_valueFrom_0 rfl rfl ?_
  refine r_iload_n (n := 2) C dGR_valueFrom_1 rfl rfl ?_
  refine r_aload_n (n := 3) C dGR_valueFrom_2 rfl rfl ?_
  refine r_get (ci := 8) (n := 6) C hinGR rfl 1 (by decide) tw_412 rfl dGR_valueFrom_3 rfl (by assumption) rfl ?_
  refine r_ci (n := 9) (rn_V (z := 2) (ci := 0) (T := TRW) C (c_RW_valueAt (Kl K) (Ko K) h A f g L i key e hR he hkey) tw_217 tw_157 tw_158 tw_2 tw_159 rfl rfl ndRW_valueAt ⟨Nat.le_of_ble_eq_true rfl, Nat.le_of_ble_eq_true rfl⟩ hR.1 rfl rfl rfl (Nat.le_of_ble_eq_true rfl) dGR_valueFrom_6 ⟨Nat.le_of_ble_eq_true rfl, Nat.le_of_ble_eq_true rfl⟩) rfl (fun x ah hq => ?_)
  obtain ⟨e1, e2⟩ := hq
  subst e1
  rw [e2]
  refine r_istore_n (n := 10) C dGR_valueFrom_9 rfl (by decide) ?_
  refine r_aload_n (n := 11) C dGR_valueFrom_10 rfl rfl ?_
  refine r_aload_n (n := 12) C dGR_valueFrom_11 rfl rfl ?_
  refine r_iload_n (n := 13) C dGR_valueFrom_12 rfl rfl ?_
  refine r_ci (n := 16) (rn_V (z := 2) (ci := 8) (T := TGR) C (c_GR_startValue (Kl K) (Ko K) h r A f g L inp key col kd i e hR hr hcol hkd he) tw_226 tw_228 ts_10 tw_14 tw_229 rfl rfl ndGR_startValue ⟨Nat.le_of_ble_eq_true rfl, Nat.le_of_ble_eq_true rfl⟩ (by assumption) rfl rfl rfl (Nat.le_of_ble_eq_true rfl) dGR_valueFrom_13 ⟨Nat.le_of_ble_eq_true rfl, Nat.le_of_ble_eq_true rfl⟩) rfl (fun x ah hq => ?_)
  obtain ⟨e1, e2⟩ := hq
  subst e1
  rw [e2]
  refine r_istore (n := 18) C dGR_valueFrom_16 rfl (by decide) ?_
  refine r_iload_n (n := 19) C dGR_valueFrom_18 rfl rfl ?_
  refine r_iconst (v := 1) (n := 20) C dGR_valueFrom_19 rfl (by decide) ?_
  refine r_iadd (n := 21) C dGR_valueFrom_20 rfl ?_
  refine V.eqi (nI_1 i) ?_
  refine r_istore (n := 23) C dGR_valueFrom_21 rfl (by decide) ?_
  refine V.byk (ls' := [(0, .ref r), (1, .ref A.1), (2, .int (nI i)), (3, .int (colv e.1 key)), (4, .int (startV kd col e)), (5, .int (nI (i + 1)))]) rfl ?_
  exact loop _ (i + 1) _ rfl (Nat.le_refl _) (by omega) (by rw [List.drop_eq_nil_of_le (by rw [List.length_take]; omega)]; rfl)
set_option maxHeartbeats 4000000 in
set_option maxRecDepth 100000 in
/-- GroupRule.fill -/
theorem c_GR_fill (l : Launch) (o : Om) (h : AH) (s r : Nat) (S : Nat → Nat × Nat × Nat × Nat) (Ls : Nat → List Rw) (wk : Nat × Nat × Nat × Nat) (f : Nat → Int32) (g : Nat → Int64) (inp key col kd : Nat) (hF : FP o h s S Ls wk) (hW : RA0 o h wk f g []) (hcw : wk.2.2.2 = 576) (hinp : inp < 13) (hkey : key < 3) (hcol : col < 3) (hkd : kd < 4) (hr : h r = some (.inr (8, [.int (nI inp), .int (nI key), .int (nI col), .int (nI kd)]))) : Mt l o yGR_fill cGR_fill 5 none ({ frames := 3, cells := 0, slots := 0, locals := 101 } : Room) [.ref r, .ref s, .ref wk.1] h (QV o (fun h' => ∃ f' g', RA0 o h' wk f' g' ((GRi kd key col (Ls inp) (Ls inp).length)) ∧ Off wk h h')) (0) (0) := by
  refine Met.ofV (by decide) (Nat.le_of_ble_eq_true rfl) (fun K hl ho C => ?_)
  subst hl; subst ho
  obtain ⟨fs, hs, hsl⟩ := hF.1
  obtain ⟨hfi, fi, gi, hRi⟩ := hsl inp hinp
  obtain ⟨dj, hsi, hli⟩ := hF.2 inp hinp
  have hM : (Ls inp).length ≤ 24 := hli
  have loop : ∀ (m i : Nat) (h1 : AH) (f1 : Nat → Int32) (g1 : Nat → Int64), (Ls inp).length - i = m → i ≤ (Ls inp).length → RA0 (Ko K) h1 wk f1 g1 (GRi kd key col (Ls inp) i) → Off wk h h1 → V K h1 0 0 (EndQ K (QV (Ko K) (fun h' => ∃ f' g', RA0 (Ko K) h' wk f' g' ((GRi kd key col (Ls inp) (Ls inp).length)) ∧ Off wk h h')) 0 0) 10 [(0, .ref r), (1, .ref s), (2, .ref wk.1), (3, .ref (S inp).1), (4, .int (nI i))] [] := by
    intro m
    induction m using Nat.strongRecOn with
    | _ m ih =>
      intro i h1 f1 g1 hm hi hR1 hO1
      have hb1 := hR1.1
      have hIn := RA0.keep hW hRi dj hO1
      have hbi := hIn.1
      have hr1 := obj_keep hW hr (by decide) hO1
      have hl1 := GRi_len kd key col (Ls inp) i
      refine r_iload (n := 12) C dGR_fill_10 rfl rfl ?_
      refine r_aload_n (n := 13) C dGR_fill_12 rfl rfl ?_
      refine r_ci (n := 16) (rn_V (z := 0) (ci := 0) (T := TRW) C (c_RW_size (Kl K) (Ko K) h1 (S inp) fi gi (Ls inp) hIn) tw_210 tw_145 tw_146 tw_2 tw_147 rfl rfl ndRW_size ⟨Nat.le_of_ble_eq_true rfl, Nat.le_of_ble_eq_true rfl⟩ (by assumption) rfl rfl rfl (Nat.le_of_ble_eq_true rfl) dGR_fill_13 ⟨Nat.le_of_ble_eq_true rfl, Nat.le_of_ble_eq_true rfl⟩) rfl (fun x ah hq => ?_)
      obtain ⟨e1, e2⟩ := hq
      subst e1
      rw [e2]
      refine r_icmp_ge (tgt := 69) (n := 19) C dGR_fill_16 (by decide) rfl (fun c_16 => ?_) (fun c_16 => ?_)
      · have hie : i = (Ls inp).length := by have := (nI_leI (by omega) (by omega)).mp c_16; omega
        exact r_vret C dGR_fill_69 (Nat.le_refl _) (Nat.le_refl _) ⟨f1, g1, by rw [hie] at hR1; exact hR1, hO1⟩
      · have hlt : i < (Ls inp).length := by
          rcases Nat.lt_or_ge i (Ls inp).length with q | q
          · exact q
          · exact absurd (nI_le q (by omega)) c_16
        obtain ⟨e, he⟩ : ∃ e, (Ls inp)[i]? = some e := ⟨_, List.getElem?_eq_getElem hlt⟩
        refine r_aload_n (n := 20) C dGR_fill_19 rfl rfl ?_
        refine r_iload (n := 22) C dGR_fill_20 rfl rfl ?_
        refine r_cl (n := 25) (rn_V (z := 1) (ci := 0) (T := TRW) C (c_RW_weightAt (Kl K) (Ko K) h1 (S inp) fi gi (Ls inp) i e hIn he) tw_211 tw_149 tw_150 tw_2 tw_151 rfl rfl ndRW_weightAt ⟨Nat.le_of_ble_eq_true rfl, Nat.le_of_ble_eq_true rfl⟩ (by assumption) rfl rfl rfl (Nat.le_of_ble_eq_true rfl) dGR_fill_22 ⟨Nat.le_of_ble_eq_true rfl, Nat.le_of_ble_eq_true rfl⟩) rfl (fun x ah hq => ?_)
        obtain ⟨e1, e2⟩ := hq
        subst e1
        rw [e2]
        refine r_lconst (v := 0) (n := 26) C dGR_fill_25 rfl (by decide) ?_
        refine r_lcmp (n := 27) C dGR_fill_26 rfl ?_
        refine r_if_le (tgt := 63) (n := 30) C dGR_fill_27 (by decide) rfl (fun c_27 => ?_) (fun c_27 => ?_)
        · have hz : ¬ 0 < e.2 := Int64.not_lt.mpr ((lg_cmp_le _ _).mp c_27)
          refine r_iinc (n := 66) C dGR_fill_63 rfl rfl (nI_i i) (by decide) ?_
          refine r_goto (tgt := 10) C dGR_fill_66 (by decide) ?_
          refine V.byk (ls' := [(0, .ref r), (1, .ref s), (2, .ref wk.1), (3, .ref (S inp).1), (4, .int (nI (i + 1)))]) rfl ?_
          exact ih _ (by omega) (i + 1) h1 f1 g1 rfl (by omega) (by unfold GRi; rw [he]; simp only [hz, false_and, if_false]; exact hR1) hO1
        · have hz : 0 < e.2 := Int64.not_le.mp (fun q => c_27 ((lg_cmp_le _ _).mpr q))
          refine r_aload_n (n := 31) C dGR_fill_30 rfl rfl ?_
          refine r_aload_n (n := 32) C dGR_fill_31 rfl rfl ?_
          refine r_iload (n := 34) C dGR_fill_32 rfl rfl ?_
          refine r_ci (n := 37) (rn_V (z := 2) (ci := 8) (T := TGR) C (c_GR_isFirst (Kl K) (Ko K) h1 r (S inp) fi gi (Ls inp) inp key col kd i e hIn hr1 hkey he) tw_212 tw_214 ts_7 tw_14 tw_216 rfl rfl ndGR_isFirstOfItsKey ⟨Nat.le_of_ble_eq_true rfl, Nat.le_of_ble_eq_true rfl⟩ (by assumption) rfl rfl rfl (Nat.le_of_ble_eq_true rfl) dGR_fill_34 ⟨Nat.le_of_ble_eq_true rfl, Nat.le_of_ble_eq_true rfl⟩) rfl (fun x ah hq => ?_)
          obtain ⟨e1, e2⟩ := hq
          subst e1
          rw [e2]
          refine r_if_eq (tgt := 63) (n := 40) C dGR_fill_37 (by decide) rfl (fun c_37 => ?_) (fun c_37 => ?_)
          · have hy : ((Ls inp).take i).any (withB key (colv e.1 key)) = true := by have := b01_f c_37; simpa using this
            refine r_iinc (n := 66) C dGR_fill_63 rfl rfl (nI_i i) (by decide) ?_
            refine r_goto (tgt := 10) C dGR_fill_66 (by decide) ?_
            refine V.byk (ls' := [(0, .ref r), (1, .ref s), (2, .ref wk.1), (3, .ref (S inp).1), (4, .int (nI (i + 1)))]) rfl ?_
            exact ih _ (by omega) (i + 1) h1 f1 g1 rfl (by omega) (by unfold GRi; rw [he]; simp only [hy]; rw [if_neg (fun q => Bool.noConfusion q.2)]; exact hR1) hO1
          · have hy : ((Ls inp).take i).any (withB key (colv e.1 key)) = false := by have := b01_t c_37; simpa using this
            refine r_aload_n (n := 41) C dGR_fill_40 rfl rfl ?_
            refine r_aload_n (n := 42) C dGR_fill_41 rfl rfl ?_
            refine r_iload (n := 44) C dGR_fill_42 rfl rfl ?_
            refine r_aload_n (n := 45) C dGR_fill_44 rfl rfl ?_
            refine r_get (ci := 8) (n := 48) C hinGR rfl 1 (by decide) tw_412 rfl dGR_fill_45 rfl (by assumption) rfl ?_
            refine r_ci (n := 51) (rn_V (z := 2) (ci := 0) (T := TRW) C (c_RW_valueAt (Kl K) (Ko K) h1 (S inp) fi gi (Ls inp) i key e hIn he hkey) tw_217 tw_157 tw_158 tw_2 tw_159 rfl rfl ndRW_valueAt ⟨Nat.le_of_ble_eq_true rfl, Nat.le_of_ble_eq_true rfl⟩ (by assumption) rfl rfl rfl (Nat.le_of_ble_eq_true rfl) dGR_fill_48 ⟨Nat.le_of_ble_eq_true rfl, Nat.le_of_ble_eq_true rfl⟩) rfl (fun x ah hq => ?_)
            obtain ⟨e1, e2⟩ := hq
            subst e1
            rw [e2]
            refine r_aload_n (n := 52) C dGR_fill_51 rfl rfl ?_
            refine r_aload_n (n := 53) C dGR_fill_52 rfl rfl ?_
            refine r_iload (n := 55) C dGR_fill_53 rfl rfl ?_
            refine r_ci (n := 58) (rn_V (z := 2) (ci := 8) (T := TGR) C (c_GR_valueFrom (Kl K) (Ko K) h1 r (S inp) fi gi (Ls inp) inp key col kd i e hIn hr1 hkey hcol hkd he) tw_222 tw_224 ts_9 tw_14 tw_225 rfl rfl ndGR_valueFrom ⟨Nat.le_of_ble_eq_true rfl, Nat.le_of_ble_eq_true rfl⟩ (by assumption) rfl rfl rfl (Nat.le_of_ble_eq_true rfl) dGR_fill_55 ⟨Nat.le_of_ble_eq_true rfl, Nat.le_of_ble_eq_true rfl⟩) rfl (fun x ah hq => ?_)
            obtain ⟨e1, e2⟩ := hq
            subst e1
            rw [e2]
            refine r_iconst (v := 0) (n := 59) C dGR_fill_58 rfl (by decide) ?_
            refine r_lconst (v := 1) (n := 60) C dGR_fill_59 rfl (by decide) ?_
            refine r_cv (n := 63) (rn_V (z := 4) (ci := 0) (T := TRW) C (c_RW_addWeight (Kl K) (Ko K) h1 wk f1 g1 _ (colv e.1 key) (gval kd key col (Ls inp) i e) 0 1 hR1 (GRi_srt _ _ _ _ _) (by omega)) tw_238 tw_161 tw_162 tw_2 tw_163 rfl rfl ndRW_addWeight ⟨Nat.le_of_ble_eq_true rfl, Nat.le_of_ble_eq_true rfl⟩ hb1 rfl rfl rfl (Nat.le_of_ble_eq_true rfl) dGR_fill_60 ⟨Nat.le_of_ble_eq_true rfl, Nat.le_of_ble_eq_true rfl⟩) rfl (fun h2 hq => ?_)
            obtain ⟨f2, g2, hR2, hO2⟩ := hq
            refine r_iinc (n := 66) C dGR_fill_63 rfl rfl (nI_i i) (by decide) ?_
            refine r_goto (tgt := 10) C dGR_fill_66 (by decide) ?_
            refine V.byk (ls' := [(0, .ref r), (1, .ref s), (2, .ref wk.1), (3, .ref (S inp).1), (4, .int (nI (i + 1)))]) rfl ?_
            exact ih _ (by omega) (i + 1) h2 f2 g2 rfl (by omega) (by unfold GRi; rw [he]; show RA0 _ h2 wk f2 g2 (if 0 < e.2 ∧ _ then _ else _); rw [if_pos ⟨hz, hy⟩]; exact hR2) (hO1.tr hO2)
  refine r_aload_n (n := 1) C dGR_fill_0 rfl rfl ?_
  refine r_aload_n (n := 2) C dGR_fill_1 rfl rfl ?_
  refine r_get (ci := 8) (n := 5) C hinGR rfl 0 (by decide) tw_411 rfl dGR_fill_2 rfl (by assumption) rfl ?_
  refine r_aald (n := 6) (t0 := 2) C dGR_fill_5 rfl (by assumption) rfl inp rfl (by omega) (by omega) hfi ?_
  refine r_astore_n (n := 7) C dGR_fill_6 rfl (by decide) ?_
  refine r_iconst (v := 0) (n := 8) C dGR_fill_7 rfl (by decide) ?_
  refine r_istore (n := 10) C dGR_fill_8 rfl (by decide) ?_
  refine V.byk (ls' := [(0, .ref r), (1, .ref s), (2, .ref wk.1), (3, .ref (S inp).1), (4, .int (nI 0))]) rfl ?_
  exact loop _ 0 h f g rfl (Nat.zero_le _) hW Off.rf
