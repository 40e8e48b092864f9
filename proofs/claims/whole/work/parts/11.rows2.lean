/-! ROWS, what changes them -/
def Off (A : Nat × Nat × Nat × Nat) (h h' : AH) : Prop := ∀ q : Nat, q ≠ A.1 → q ≠ A.2.1 → q ≠ A.2.2.1 → h' q = h q
theorem Off.rf {A : Nat × Nat × Nat × Nat} {h : AH} : Off A h h := fun _ _ _ _ => rfl
theorem Off.tr {A : Nat × Nat × Nat × Nat} {h h1 h2 : AH} (a : Off A h h1) (b : Off A h1 h2) : Off A h h2 := fun q q1 q2 q3 => (b q q1 q2 q3).trans (a q q1 q2 q3)
theorem Off.p1 {A : Nat × Nat × Nat × Nat} {h h1 : AH} (a : Off A h h1) (x : va_E) : Off A h (hu h1 A.1 x) := fun q q1 q2 q3 => (hu_ne _ _ q1).trans (a q q1 q2 q3)
theorem Off.p2 {A : Nat × Nat × Nat × Nat} {h h1 : AH} (a : Off A h h1) (x : va_E) : Off A h (hu h1 A.2.1 x) := fun q q1 q2 q3 => (hu_ne _ _ q2).trans (a q q1 q2 q3)
theorem Off.p3 {A : Nat × Nat × Nat × Nat} {h h1 : AH} (a : Off A h h1) (x : va_E) : Off A h (hu h1 A.2.2.1 x) := fun q q1 q2 q3 => (hu_ne _ _ q3).trans (a q q1 q2 q3)
theorem RA0.ne {o : Om} {h : AH} {A : Nat × Nat × Nat × Nat} {f : Nat → Int32} {g : Nat → Int64} {L : List Rw} (hR : RA0 o h A f g L) : A.1 ≠ A.2.1 ∧ A.1 ≠ A.2.2.1 ∧ A.2.1 ≠ A.2.2.1 := by
  obtain ⟨hA, hV, hW, -, -, -⟩ := hR
  refine ⟨fun e => ?_, fun e => ?_, fun e => ?_⟩
  · rw [e, hV] at hA; simp at hA
  · rw [e, hW] at hA; simp at hA
  · rw [e, hW] at hV; simp at hV
def hitK (L : List Rw) (p : Nat) (k : Ky) : Bool := match L[p]? with
  | some r => decide (r.1 = k)
  | none => false
theorem hitK_t {L : List Rw} {p : Nat} {k : Ky} (h : hitK L p k = true) : ∃ r, L[p]? = some r ∧ r.1 = k := by
  unfold hitK at h
  split at h
  · next r hr => exact ⟨r, hr, of_decide_eq_true h⟩
  · cases h
theorem hitK_f {L : List Rw} {p : Nat} {k : Ky} (h : ¬ hitK L p k = true) : ∀ r, L[p]? = some r → r.1 ≠ k := by
  intro r hr e
  unfold hitK at h
  rw [hr] at h
  exact h (decide_eq_true e)
def b01 (b : Bool) : Int32 := if b = true then 1 else 0
theorem b01_t {b : Bool} (h : ¬ b01 b = 0) : b = true := by cases b <;> simp_all [b01]
theorem b01_f {b : Bool} (h : b01 b = 0) : b = false := by
  cases b
  · rfl
  · exact absurd h (by decide)
set_option maxHeartbeats 4000000 in
set_option maxRecDepth 100000 in
/-- Rows.isAt -/
theorem c_RW_isAt (l : Launch) (o : Om) (h : AH) (A : Nat × Nat × Nat × Nat) (f : Nat → Int32) (g : Nat → Int64) (L : List Rw) (p : Nat) (a b c : Int32) (hR : RA0 o h A f g L) (hp : p ≤ L.length) : Mt l o yRW_isAt cRW_isAt 5 (some .boolean) ({ frames := 1, cells := 0, slots := 0, locals := 25 } : Room) [.ref A.1, .int (nI p), .int a, .int b, .int c] h (QI o (fun x h' => x = b01 (hitK L p (a, b, c)) ∧ h' = h)) (0) (0) := by
  refine Met.ofV (by decide) (Nat.le_of_ble_eq_true rfl) (fun K hl ho C => ?_)
  subst hl; subst ho
  obtain ⟨hA, hV, hW, hn, hcap, hE⟩ := id hR
  refine r_iload_n (n := 1) C dRW_isAt_0 rfl rfl ?_
  refine r_aload_n (n := 2) C dRW_isAt_1 rfl rfl ?_
  refine r_get (ci := 0) (n := 5) C hinRW rfl 2 (by decide) tw_35 rfl dRW_isAt_2 rfl (by assumption) rfl ?_
  refine r_icmp_ge (tgt := 24) (n := 8) C dRW_isAt_5 (by decide) rfl (fun c_5 => ?_) (fun c_5 => ?_)
  · have hz : hitK L p (a, b, c) = false := by
      have hl : L.length ≤ p := (nI_leI (by omega) (by omega)).mp c_5
      unfold hitK
      rw [List.getElem?_eq_none hl]
    refine r_iconst (v := 0) (n := 25) C dRW_isAt_24 rfl (by decide) ?_
    exact r_zret C dRW_isAt_25 rfl (Nat.le_refl _) (Nat.le_refl _) ⟨by rw [hz]; rfl, rfl⟩
  · have hlt : p < L.length := by
      rcases Nat.lt_or_ge p L.length with q | q
      · exact q
      · exact absurd (nI_le q (by omega)) c_5
    obtain ⟨r, hr⟩ : ∃ r, L[p]? = some r := ⟨_, List.getElem?_eq_getElem hlt⟩
    refine r_aload_n (n := 9) C dRW_isAt_8 rfl rfl ?_
    refine r_iload_n (n := 10) C dRW_isAt_9 rfl rfl ?_
    refine r_iload_n (n := 11) C dRW_isAt_10 rfl rfl ?_
    refine r_iload_n (n := 12) C dRW_isAt_11 rfl rfl ?_
    refine r_iload (n := 14) C dRW_isAt_12 rfl rfl ?_
    refine r_ci (n := 17) (rn_V (z := 4) (ci := 0) (T := TRW) C (c_RW_compareAt (Kl K) (Ko K) h A f g L p r a b c hR hr) tw_168 tw_170 ts_3 tw_2 tw_171 rfl rfl ndRW_compareAt ⟨Nat.le_of_ble_eq_true rfl, Nat.le_of_ble_eq_true rfl⟩ (by assumption) rfl rfl rfl (Nat.le_of_ble_eq_true rfl) dRW_isAt_14 ⟨Nat.le_of_ble_eq_true rfl, Nat.le_of_ble_eq_true rfl⟩) rfl (fun x h1 hq => ?_)
    obtain ⟨e1, e2⟩ := hq
    subst e1
    rw [e2]
    refine r_if_ne (tgt := 24) (n := 20) C dRW_isAt_17 (by decide) rfl (fun c_17 => ?_) (fun c_17 => ?_)
    · have hz : hitK L p (a, b, c) = false := by
        unfold hitK
        rw [hr]
        exact decide_eq_false (fun e => c_17 ((cmpK_eq _ _).mpr e))
      refine r_iconst (v := 0) (n := 25) C dRW_isAt_24 rfl (by decide) ?_
      exact r_zret C dRW_isAt_25 rfl (Nat.le_refl _) (Nat.le_refl _) ⟨by rw [hz]; rfl, rfl⟩
    · have hz : hitK L p (a, b, c) = true := by
        unfold hitK
        rw [hr]
        exact decide_eq_true ((cmpK_eq _ _).mp c_17)
      refine r_iconst (v := 1) (n := 21) C dRW_isAt_20 rfl (by decide) ?_
      refine r_goto (tgt := 25) C dRW_isAt_21 (by decide) ?_
      exact r_zret C dRW_isAt_25 rfl (Nat.le_refl _) (Nat.le_refl _) ⟨by rw [hz]; rfl, rfl⟩
set_option maxHeartbeats 4000000 in
set_option maxRecDepth 100000 in
/-- Rows.weightOf -/
theorem c_RW_weightOf (l : Launch) (o : Om) (h : AH) (A : Nat × Nat × Nat × Nat) (f : Nat → Int32) (g : Nat → Int64) (L : List Rw) (a b c : Int32) (hR : RA0 o h A f g L) (hs : Srt L) : Mt l o yRW_weightOf cRW_weightOf 5 (some .long) ({ frames := 2, cells := 0, slots := 0, locals := 51 } : Room) [.ref A.1, .int a, .int b, .int c] h (QL o (fun x h' => x = wt L (a, b, c) ∧ h' = h)) (0) (0) := by
  refine Met.ofV (by decide) (Nat.le_of_ble_eq_true rfl) (fun K hl ho C => ?_)
  subst hl; subst ho
  obtain ⟨hA, hV, hW, hn, hcap, hE⟩ := id hR
  refine r_aload_n (n := 1) C dRW_weightOf_0 rfl rfl ?_
  refine r_iload_n (n := 2) C dRW_weightOf_1 rfl rfl ?_
  refine r_iload_n (n := 3) C dRW_weightOf_2 rfl rfl ?_
  refine r_iload_n (n := 4) C dRW_weightOf_3 rfl rfl ?_
  refine r_ci (n := 7) (rn_V (z := 3) (ci := 0) (T := TRW) C (c_RW_placeOf (Kl K) (Ko K) h A f g L a b c hR hs) tw_164 tw_166 ts_2 tw_2 tw_167 rfl rfl ndRW_placeOf ⟨Nat.le_of_ble_eq_true rfl, Nat.le_of_ble_eq_true rfl⟩ (by assumption) rfl rfl rfl (Nat.le_of_ble_eq_true rfl) dRW_weightOf_4 ⟨Nat.le_of_ble_eq_true rfl, Nat.le_of_ble_eq_true rfl⟩) rfl (fun x h1 hq => ?_)
  obtain ⟨p, e1, hpl, e2⟩ := hq
  subst e1
  rw [e2]
  have hp := hpl.1
  refine r_istore (n := 9) C dRW_weightOf_7 rfl (by decide) ?_
  refine r_aload_n (n := 10) C dRW_weightOf_9 rfl rfl ?_
  refine r_iload (n := 12) C dRW_weightOf_10 rfl rfl ?_
  refine r_iload_n (n := 13) C dRW_weightOf_12 rfl rfl ?_
  refine r_iload_n (n := 14) C dRW_weightOf_13 rfl rfl ?_
  refine r_iload_n (n := 15) C dRW_weightOf_14 rfl rfl ?_
  refine r_ci (n := 18) (rn_V (z := 4) (ci := 0) (T := TRW) C (c_RW_isAt (Kl K) (Ko K) h A f g L p a b c hR hp) tw_172 tw_174 ts_4 tw_2 tw_175 rfl rfl ndRW_isAt ⟨Nat.le_of_ble_eq_true rfl, Nat.le_of_ble_eq_true rfl⟩ (by assumption) rfl rfl rfl (Nat.le_of_ble_eq_true rfl) dRW_weightOf_15 ⟨Nat.le_of_ble_eq_true rfl, Nat.le_of_ble_eq_true rfl⟩) rfl (fun x h1 hq => ?_)
  obtain ⟨e1, e2⟩ := hq
  subst e1
  rw [e2]
  refine r_if_eq (tgt := 31) (n := 21) C dRW_weightOf_18 (by decide) rfl (fun c_18 => ?_) (fun c_18 => ?_)
  · refine r_lconst (v := 0) (n := 32) C dRW_weightOf_31 rfl (by decide) ?_
    exact r_lret C dRW_weightOf_32 (Nat.le_refl _) (Nat.le_refl _) ⟨(wt_not hs hpl (hitK_f (by rw [b01_f c_18]; decide))).symm, rfl⟩
  · obtain ⟨r, hr, hrk⟩ := hitK_t (b01_t c_18)
    have hlt := (List.getElem?_eq_some_iff.mp hr).1
    refine r_aload_n (n := 22) C dRW_weightOf_21 rfl rfl ?_
    refine r_get (ci := 0) (n := 25) C hinRW rfl 1 (by decide) tw_34 rfl dRW_weightOf_22 rfl (by assumption) rfl ?_
    refine r_iload (n := 27) C dRW_weightOf_25 rfl rfl ?_
    refine r_lald (n := 28) C dRW_weightOf_27 rfl (by assumption) p rfl (by omega) (by omega) ?_
    refine r_goto (tgt := 32) C dRW_weightOf_28 (by decide) ?_
    exact r_lret C dRW_weightOf_32 (Nat.le_refl _) (Nat.le_refl _) ⟨((hE p r hr).2.2.2).trans (wt_at hpl hr hrk).symm, rfl⟩
set_option maxHeartbeats 4000000 in
set_option maxRecDepth 100000 in
/-- Rows.clear -/
theorem c_RW_clear (l : Launch) (o : Om) (h : AH) (A : Nat × Nat × Nat × Nat) (f : Nat → Int32) (g : Nat → Int64) (L : List Rw) (hR : RA0 o h A f g L) : Mt l o yRW_clear cRW_clear 1 none ({ frames := 0, cells := 0, slots := 0, locals := 0 } : Room) [.ref A.1] h (QV o (fun h' => ∃ f' g', RA0 o h' A f' g' ([]) ∧ Off A h h')) (0) (0) := by
  refine Met.ofV (by decide) (Nat.le_of_ble_eq_true rfl) (fun K hl ho C => ?_)
  subst hl; subst ho
  obtain ⟨hA, hV, hW, hn, hcap, hE⟩ := id hR
  obtain ⟨n12, n13, n23⟩ := hR.ne
  refine r_aload_n (n := 1) C dRW_clear_0 rfl rfl ?_
  refine r_iconst (v := 0) (n := 2) C dRW_clear_1 rfl (by decide) ?_
  refine r_put (ci := 0) (n := 5) C hinRW tyRW okRW nmRW rfl 2 (by decide) tw_35 rfl rfl (okRW 2 (by decide)) rfl rfl dRW_clear_2 rfl (by assumption) (Nat.le_of_ble_eq_true rfl) ?_
  exact r_vret C dRW_clear_5 (Nat.le_refl _) (Nat.le_refl _) ⟨f, g, ⟨hu_eq _ _ _, (hu_ne _ _ (Ne.symm n12)).trans hV, (hu_ne _ _ (Ne.symm n13)).trans hW, Nat.zero_le _, hcap, Enc_nil f g⟩, Off.rf.p1 _⟩
set_option maxHeartbeats 4000000 in
set_option maxRecDepth 100000 in
/-- Rows.insertAt -/
theorem c_RW_insertAt (l : Launch) (o : Om) (h : AH) (A : Nat × Nat × Nat × Nat) (f : Nat → Int32) (g : Nat → Int64) (L : List Rw) (p : Nat) (a b c : Int32) (w : Int64) (hR : RA0 o h A f g L) (hp : p ≤ L.length) (hroom : L.length < A.2.2.2) : Mt l o yRW_insertAt cRW_insertAt 8 none ({ frames := 1, cells := 0, slots := 0, locals := 48 } : Room) [.ref A.1, .int (nI p), .int a, .int b, .int c, .long w] h (QV o (fun h' => ∃ f' g', RA0 o h' A f' g' (L.take p ++ ((a, b, c), w) :: L.drop p) ∧ Off A h h')) (0) (0) := by
  refine Met.ofV (by decide) (Nat.le_of_ble_eq_true rfl) (fun K hl ho C => ?_)
  subst hl; subst ho
  obtain ⟨hA, hV, hW, hn, hcap, hE⟩ := id hR
  obtain ⟨n12, n13, n23⟩ := hR.ne
  have hlen : (L.take p ++ ((a, b, c), w) :: L.drop p).length = L.length + 1 := by simp; omega
  refine r_iload_n (n := 1) C dRW_insertAt_0 rfl rfl ?_
  refine r_iconst (v := 3) (n := 2) C dRW_insertAt_1 rfl (by decide) ?_
  refine r_imul (n := 3) C dRW_insertAt_2 rfl ?_
  refine r_istore (n := 5) C dRW_insertAt_3 rfl (by decide) ?_
  refine r_aload_n (n := 6) C dRW_insertAt_5 rfl rfl ?_
  refine r_get (ci := 0) (n := 9) C hinRW rfl 0 (by decide) tw_33 rfl dRW_insertAt_6 rfl (by assumption) rfl ?_
  refine r_iload (n := 11) C dRW_insertAt_9 rfl rfl ?_
  refine r_aload_n (n := 12) C dRW_insertAt_11 rfl rfl ?_
  refine r_get (ci := 0) (n := 15) C hinRW rfl 0 (by decide) tw_33 rfl dRW_insertAt_12 rfl (by assumption) rfl ?_
  refine r_iload (n := 17) C dRW_insertAt_15 rfl rfl ?_
  refine r_iconst (v := 3) (n := 18) C dRW_insertAt_17 rfl (by decide) ?_
  refine r_iadd (n := 19) C dRW_insertAt_18 rfl ?_
  refine r_aload_n (n := 20) C dRW_insertAt_19 rfl rfl ?_
  refine r_get (ci := 0) (n := 23) C hinRW rfl 2 (by decide) tw_35 rfl dRW_insertAt_20 rfl (by assumption) rfl ?_
  refine r_iload_n (n := 24) C dRW_insertAt_23 rfl rfl ?_
  refine r_isub (n := 25) C dRW_insertAt_24 rfl ?_
  refine r_iconst (v := 3) (n := 26) C dRW_insertAt_25 rfl (by decide) ?_
  refine r_imul (n := 27) C dRW_insertAt_26 rfl ?_
  refine r_copyi (n := 30) C tw_140 tw_142 tw_141 tw_8 dRW_insertAt_27 rfl hV hV (p * 3) (p * 3 + 3) ((L.length - p) * 3) (ix0 p) (by rw [ix0, show (3 : Int32) = nI 3 from rfl, nI_add]) (by rw [pk_sub hp, ix0]) (by omega) (by omega) (by omega) (by omega) (Nat.le_of_ble_eq_true rfl) (Nat.le_of_ble_eq_true rfl) ?_
  generalize eh1 : hu h A.2.1 _ = h1
  have hA1 := ((congrFun eh1.symm A.1).trans (hu_ne _ _ n12)).trans hA
  have hV1 := (congrFun eh1.symm A.2.1).trans (hu_eq _ _ _)
  have hW1 := ((congrFun eh1.symm A.2.2.1).trans (hu_ne _ _ (Ne.symm n23))).trans hW
  have hO1 : Off A h h1 := eh1 ▸ Off.p2 Off.rf _
  refine r_aload_n (n := 31) C dRW_insertAt_30 rfl rfl ?_
  refine r_get (ci := 0) (n := 34) C hinRW rfl 1 (by decide) tw_34 rfl dRW_insertAt_31 rfl (by assumption) rfl ?_
  refine r_iload_n (n := 35) C dRW_insertAt_34 rfl rfl ?_
  refine r_aload_n (n := 36) C dRW_insertAt_35 rfl rfl ?_
  refine r_get (ci := 0) (n := 39) C hinRW rfl 1 (by decide) tw_34 rfl dRW_insertAt_36 rfl (by assumption) rfl ?_
  refine r_iload_n (n := 40) C dRW_insertAt_39 rfl rfl ?_
  refine r_iconst (v := 1) (n := 41) C dRW_insertAt_40 rfl (by decide) ?_
  refine r_iadd (n := 42) C dRW_insertAt_41 rfl ?_
  refine r_aload_n (n := 43) C dRW_insertAt_42 rfl rfl ?_
  refine r_get (ci := 0) (n := 46) C hinRW rfl 2 (by decide) tw_35 rfl dRW_insertAt_43 rfl (by assumption) rfl ?_
  refine r_iload_n (n := 47) C dRW_insertAt_46 rfl rfl ?_
  refine r_isub (n := 48) C dRW_insertAt_47 rfl ?_
  refine r_copyl (n := 51) C tw_140 tw_142 tw_141 tw_8 dRW_insertAt_48 rfl hW1 hW1 p (p + 1) (L.length - p) rfl (nI_1 p) (pk_sub hp) (by omega) (by omega) (by omega) (by omega) (Nat.le_of_ble_eq_true rfl) (Nat.le_of_ble_eq_true rfl) ?_
  generalize eh2 : hu h1 A.2.2.1 _ = h2
  have hA2 := ((congrFun eh2.symm A.1).trans (hu_ne _ _ n13)).trans hA1
  have hV2 := ((congrFun eh2.symm A.2.1).trans (hu_ne _ _ n23)).trans hV1
  have hW2 := (congrFun eh2.symm A.2.2.1).trans (hu_eq _ _ _)
  have hO2 : Off A h h2 := eh2 ▸ Off.p3 hO1 _
  refine r_aload_n (n := 52) C dRW_insertAt_51 rfl rfl ?_
  refine r_get (ci := 0) (n := 55) C hinRW rfl 0 (by decide) tw_33 rfl dRW_insertAt_52 rfl (by assumption) rfl ?_
  refine r_iload (n := 57) C dRW_insertAt_55 rfl rfl ?_
  refine r_iload_n (n := 58) C dRW_insertAt_57 rfl rfl ?_
  refine r_iast (n := 59) C dRW_insertAt_58 rfl hV2 (p * 3) (ix0 p) (by omega) (by omega) ?_
  generalize eh3 : hu h2 A.2.1 _ = h3
  have hA3 := ((congrFun eh3.symm A.1).trans (hu_ne _ _ n12)).trans hA2
  have hV3 := (congrFun eh3.symm A.2.1).trans (hu_eq _ _ _)
  have hW3 := ((congrFun eh3.symm A.2.2.1).trans (hu_ne _ _ (Ne.symm n23))).trans hW2
  have hO3 : Off A h h3 := eh3 ▸ Off.p2 hO2 _
  refine r_aload_n (n := 60) C dRW_insertAt_59 rfl rfl ?_
  refine r_get (ci := 0) (n := 63) C hinRW rfl 0 (by decide) tw_33 rfl dRW_insertAt_60 rfl (by assumption) rfl ?_
  refine r_iload (n := 65) C dRW_insertAt_63 rfl rfl ?_
  refine r_iconst (v := 1) (n := 66) C dRW_insertAt_65 rfl (by decide) ?_
  refine r_iadd (n := 67) C dRW_insertAt_66 rfl ?_
  refine r_iload_n (n := 68) C dRW_insertAt_67 rfl rfl ?_
  refine r_iast (n := 69) C dRW_insertAt_68 rfl hV3 (p * 3 + 1) (ix1 p) (by omega) (by omega) ?_
  generalize eh4 : hu h3 A.2.1 _ = h4
  have hA4 := ((congrFun eh4.symm A.1).trans (hu_ne _ _ n12)).trans hA3
  have hV4 := (congrFun eh4.symm A.2.1).trans (hu_eq _ _ _)
  have hW4 := ((congrFun eh4.symm A.2.2.1).trans (hu_ne _ _ (Ne.symm n23))).trans hW3
  have hO4 : Off A h h4 := eh4 ▸ Off.p2 hO3 _
  refine r_aload_n (n := 70) C dRW_insertAt_69 rfl rfl ?_
  refine r_get (ci := 0) (n := 73) C hinRW rfl 0 (by decide) tw_33 rfl dRW_insertAt_70 rfl (by assumption) rfl ?_
  refine r_iload (n := 75) C dRW_insertAt_73 rfl rfl ?_
  refine r_iconst (v := 2) (n := 76) C dRW_insertAt_75 rfl (by decide) ?_
  refine r_iadd (n := 77) C dRW_insertAt_76 rfl ?_
  refine r_iload (n := 79) C dRW_insertAt_77 rfl rfl ?_
  refine r_iast (n := 80) C dRW_insertAt_79 rfl hV4 (p * 3 + 2) (ix2 p) (by omega) (by omega) ?_
  generalize eh5 : hu h4 A.2.1 _ = h5
  have hA5 := ((congrFun eh5.symm A.1).trans (hu_ne _ _ n12)).trans hA4
  have hV5 := (congrFun eh5.symm A.2.1).trans (hu_eq _ _ _)
  have hW5 := ((congrFun eh5.symm A.2.2.1).trans (hu_ne _ _ (Ne.symm n23))).trans hW4
  have hO5 : Off A h h5 := eh5 ▸ Off.p2 hO4 _
  refine r_aload_n (n := 81) C dRW_insertAt_80 rfl rfl ?_
  refine r_get (ci := 0) (n := 84) C hinRW rfl 1 (by decide) tw_34 rfl dRW_insertAt_81 rfl (by assumption) rfl ?_
  refine r_iload_n (n := 85) C dRW_insertAt_84 rfl rfl ?_
  refine r_lload (n := 87) C dRW_insertAt_85 rfl rfl ?_
  refine r_last (n := 88) C dRW_insertAt_87 rfl hW5 p rfl (by omega) (by omega) ?_
  generalize eh6 : hu h5 A.2.2.1 _ = h6
  have hA6 := ((congrFun eh6.symm A.1).trans (hu_ne _ _ n13)).trans hA5
  have hV6 := ((congrFun eh6.symm A.2.1).trans (hu_ne _ _ n23)).trans hV5
  have hW6 := (congrFun eh6.symm A.2.2.1).trans (hu_eq _ _ _)
  have hO6 : Off A h h6 := eh6 ▸ Off.p3 hO5 _
  refine r_aload_n (n := 89) C dRW_insertAt_88 rfl rfl ?_
  refine r_dup (n := 90) C dRW_insertAt_89 rfl rfl ?_
  refine r_get (ci := 0) (n := 93) C hinRW rfl 2 (by decide) tw_35 rfl dRW_insertAt_90 rfl (by assumption) rfl ?_
  refine r_iconst (v := 1) (n := 94) C dRW_insertAt_93 rfl (by decide) ?_
  refine r_iadd (n := 95) C dRW_insertAt_94 rfl ?_
  refine V.eqi (nI_1 L.length) ?_
  refine r_put (ci := 0) (n := 98) C hinRW tyRW okRW nmRW rfl 2 (by decide) tw_35 rfl rfl (okRW 2 (by decide)) rfl rfl dRW_insertAt_95 rfl hA6 (Nat.le_of_ble_eq_true rfl) ?_
  generalize eh7 : hu h6 A.1 _ = h7
  have hA7 := (congrFun eh7.symm A.1).trans (hu_eq _ _ _)
  have hV7 := ((congrFun eh7.symm A.2.1).trans (hu_ne _ _ (Ne.symm n12))).trans hV6
  have hW7 := ((congrFun eh7.symm A.2.2.1).trans (hu_ne _ _ (Ne.symm n13))).trans hW6
  have hO7 : Off A h h7 := eh7 ▸ Off.p1 hO6 _
  exact r_vret C dRW_insertAt_98 (Nat.le_refl _) (Nat.le_refl _) ⟨_, _, ⟨hA7.trans (by rw [hlen]; rfl), hV7, hW7, by rw [hlen]; omega, hcap, Enc_ins hE hp a b c w⟩, hO7⟩
set_option maxHeartbeats 4000000 in
set_option maxRecDepth 100000 in
/-- Rows.addWeight -/
theorem c_RW_addWeight (l : Launch) (o : Om) (h : AH) (A : Nat × Nat × Nat × Nat) (f : Nat → Int32) (g : Nat → Int64) (L : List Rw) (a b c : Int32) (w : Int64) (hR : RA0 o h A f g L) (hs : Srt L) (hroom : L.length < A.2.2.2) : Mt l o yRW_addWeight cRW_addWeight 7 none ({ frames := 2, cells := 0, slots := 0, locals := 75 } : Room) [.ref A.1, .int a, .int b, .int c, .long w] h (QV o (fun h' => ∃ f' g', RA0 o h' A f' g' (addW L (a, b, c) w) ∧ Off A h h')) (0) (0) := by
  refine Met.ofV (by decide) (Nat.le_of_ble_eq_true rfl) (fun K hl ho C => ?_)
  subst hl; subst ho
  obtain ⟨hA, hV, hW, hn, hcap, hE⟩ := id hR
  obtain ⟨n12, n13, n23⟩ := hR.ne
  refine r_aload_n (n := 1) C dRW_addWeight_0 rfl rfl ?_
  refine r_iload_n (n := 2) C dRW_addWeight_1 rfl rfl ?_
  refine r_iload_n (n := 3) C dRW_addWeight_2 rfl rfl ?_
  refine r_iload_n (n := 4) C dRW_addWeight_3 rfl rfl ?_
  refine r_ci (n := 7) (rn_V (z := 3) (ci := 0) (T := TRW) C (c_RW_placeOf (Kl K) (Ko K) h A f g L a b c hR hs) tw_164 tw_166 ts_2 tw_2 tw_167 rfl rfl ndRW_placeOf ⟨Nat.le_of_ble_eq_true rfl, Nat.le_of_ble_eq_true rfl⟩ (by assumption) rfl rfl rfl (Nat.le_of_ble_eq_true rfl) dRW_addWeight_4 ⟨Nat.le_of_ble_eq_true rfl, Nat.le_of_ble_eq_true rfl⟩) rfl (fun x h1 hq => ?_)
  obtain ⟨p, e1, hpl, e2⟩ := hq
  subst e1
  rw [e2]
  have hp := hpl.1
  refine r_istore (n := 9) C dRW_addWeight_7 rfl (by decide) ?_
  refine r_aload_n (n := 10) C dRW_addWeight_9 rfl rfl ?_
  refine r_iload (n := 12) C dRW_addWeight_10 rfl rfl ?_
  refine r_iload_n (n := 13) C dRW_addWeight_12 rfl rfl ?_
  refine r_iload_n (n := 14) C dRW_addWeight_13 rfl rfl ?_
  refine r_iload_n (n := 15) C dRW_addWeight_14 rfl rfl ?_
  refine r_ci (n := 18) (rn_V (z := 4) (ci := 0) (T := TRW) C (c_RW_isAt (Kl K) (Ko K) h A f g L p a b c hR hp) tw_172 tw_174 ts_4 tw_2 tw_175 rfl rfl ndRW_isAt ⟨Nat.le_of_ble_eq_true rfl, Nat.le_of_ble_eq_true rfl⟩ (by assumption) rfl rfl rfl (Nat.le_of_ble_eq_true rfl) dRW_addWeight_15 ⟨Nat.le_of_ble_eq_true rfl, Nat.le_of_ble_eq_true rfl⟩) rfl (fun x h1 hq => ?_)
  obtain ⟨e1, e2⟩ := hq
  subst e1
  rw [e2]
  refine r_if_eq (tgt := 36) (n := 21) C dRW_addWeight_18 (by decide) rfl (fun c_18 => ?_) (fun c_18 => ?_)
  · have hno := hitK_f (L := L) (p := p) (k := (a, b, c)) (by rw [b01_f c_18]; decide)
    have heq := addW_in w hpl hno
    refine r_aload_n (n := 37) C dRW_addWeight_36 rfl rfl ?_
    refine r_get (ci := 0) (n := 40) C hinRW rfl 2 (by decide) tw_35 rfl dRW_addWeight_37 rfl (by assumption) rfl ?_
    refine r_aload_n (n := 41) C dRW_addWeight_40 rfl rfl ?_
    refine r_get (ci := 0) (n := 44) C hinRW rfl 1 (by decide) tw_34 rfl dRW_addWeight_41 rfl (by assumption) rfl ?_
    refine r_lalen (n := 45) C dRW_addWeight_44 rfl (by assumption) ?_
    refine r_icmp_ge (tgt := 59) (n := 48) C dRW_addWeight_45 (by decide) rfl (fun c_45 => ?_) (fun c_45 => ?_)
    · exact absurd ((nI_leI (by omega) (by omega)).mp c_45) (by omega)
    · refine r_aload_n (n := 49) C dRW_addWeight_48 rfl rfl ?_
      refine r_iload (n := 51) C dRW_addWeight_49 rfl rfl ?_
      refine r_iload_n (n := 52) C dRW_addWeight_51 rfl rfl ?_
      refine r_iload_n (n := 53) C dRW_addWeight_52 rfl rfl ?_
      refine r_iload_n (n := 54) C dRW_addWeight_53 rfl rfl ?_
      refine r_lload (n := 56) C dRW_addWeight_54 rfl rfl ?_
      refine r_cv (n := 59) (rn_V (z := 5) (ci := 0) (T := TRW) C (c_RW_insertAt (Kl K) (Ko K) h A f g L p a b c w hR hp hroom) tw_176 tw_178 ts_5 tw_2 tw_179 rfl rfl ndRW_insertAt ⟨Nat.le_of_ble_eq_true rfl, Nat.le_of_ble_eq_true rfl⟩ (by assumption) rfl rfl rfl (Nat.le_of_ble_eq_true rfl) dRW_addWeight_56 ⟨Nat.le_of_ble_eq_true rfl, Nat.le_of_ble_eq_true rfl⟩) rfl (fun h1 hq => ?_)
      obtain ⟨f', g', hR1, hO1⟩ := hq
      exact r_vret C dRW_addWeight_59 (Nat.le_refl _) (Nat.le_refl _) ⟨f', g', by rw [heq]; exact hR1, hO1⟩
  · obtain ⟨r, hr, hrk⟩ := hitK_t (b01_t c_18)
    have hlt := (List.getElem?_eq_some_iff.mp hr).1
    refine r_aload_n (n := 22) C dRW_addWeight_21 rfl rfl ?_
    refine r_get (ci := 0) (n := 25) C hinRW rfl 1 (by decide) tw_34 rfl dRW_addWeight_22 rfl (by assumption) rfl ?_
    refine r_iload (n := 27) C dRW_addWeight_25 rfl rfl ?_
    refine r_dup2 (n := 28) C dRW_addWeight_27 rfl rfl rfl ?_
    refine r_lald (n := 29) C dRW_addWeight_28 rfl (by assumption) p rfl (by omega) (by omega) ?_
    refine r_lload (n := 31) C dRW_addWeight_29 rfl rfl ?_
    refine r_ladd (n := 32) C dRW_addWeight_31 rfl ?_
    refine r_last (n := 33) C dRW_addWeight_32 rfl hW p rfl (by omega) (by omega) ?_
    generalize eh1 : hu h A.2.2.1 _ = h1
    have hA1 := ((congrFun eh1.symm A.1).trans (hu_ne _ _ n13)).trans hA
    have hV1 := ((congrFun eh1.symm A.2.1).trans (hu_ne _ _ n23)).trans hV
    have hW1 := (congrFun eh1.symm A.2.2.1).trans (hu_eq _ _ _)
    have hO1 : Off A h h1 := eh1 ▸ Off.p3 Off.rf _
    refine r_goto (tgt := 59) C dRW_addWeight_33 (by decide) ?_
    have hgp : g p = r.2 := (hE p r hr).2.2.2
    have heq : L.set p (r.1, g p + w) = addW L (a, b, c) w := by rw [addW_at w hpl hr hrk, hrk, hgp]
    have hlen : (addW L (a, b, c) w).length = L.length := by rw [← heq, List.length_set]
    exact r_vret C dRW_addWeight_59 (Nat.le_refl _) (Nat.le_refl _) ⟨_, _, ⟨hA1.trans (by rw [hlen]), hV1, hW1, by rw [hlen]; exact hn, hcap, heq ▸ Enc_set hE hr _⟩, hO1⟩
