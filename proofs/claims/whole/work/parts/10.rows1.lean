/-! ROWS: a Rows object (A: its address, its ints, its longs, its capacity) that holds a list of rows -/
def RA0 (o : Om) (h : AH) (A : Nat × Nat × Nat × Nat) (f : Nat → Int32) (g : Nat → Int64) (L : List Rw) : Prop := h A.1 = some (.inr (0, [.ref A.2.1, .ref A.2.2.1, .int (nI L.length)])) ∧ h A.2.1 = some (.inl (o.2.1 0, A.2.2.2 * 3, .inl f)) ∧ h A.2.2.1 = some (.inl (o.2.1 1, A.2.2.2, .inr (.inl g))) ∧ L.length ≤ A.2.2.2 ∧ A.2.2.2 ≤ 576 ∧ Enc f g L
def RA (o : Om) (h : AH) (A : Nat × Nat × Nat × Nat) (L : List Rw) : Prop := ∃ (f : Nat → Int32) (g : Nat → Int64), RA0 o h A f g L
def colv (k : Ky) (c : Nat) : Int32 := match c with
  | 0 => k.1
  | 1 => k.2.1
  | _ => k.2.2
theorem ix0 (i : Nat) : nI i * 3 = nI (i * 3) := by rw [show (3 : Int32) = nI 3 from rfl, pk_mul]
theorem ix1 (i : Nat) : nI i * 3 + 1 = nI (i * 3 + 1) := by rw [ix0]; exact nI_1 _
theorem ix2 (i : Nat) : nI i * 3 + 2 = nI (i * 3 + 2) := by rw [ix0, show (2 : Int32) = nI 2 from rfl, nI_add]
theorem ixc (i c : Nat) : nI i * 3 + nI c = nI (i * 3 + c) := by rw [ix0, nI_add]
theorem Enc_col {f : Nat → Int32} {g : Nat → Int64} {L : List Rw} (h : Enc f g L) {i : Nat} {r : Rw} (hi : L[i]? = some r) {c : Nat} (hc : c < 3) : f (i * 3 + c) = colv r.1 c := by
  obtain ⟨e1, e2, e3, -⟩ := h i r hi
  match c, hc with
  | 0, _ => exact e1
  | 1, _ => exact e2
  | 2, _ => exact e3
def cmpK (x y : Ky) : Int32 := if x.1 = y.1 then (if x.2.1 = y.2.1 then (if x.2.2 = y.2.2 then 0 else if y.2.2 ≤ x.2.2 then 1 else -1) else if y.2.1 ≤ x.2.1 then 1 else -1) else if y.1 ≤ x.1 then 1 else -1
theorem cmpK_eq (x y : Ky) : cmpK x y = 0 ↔ x = y := by
  obtain ⟨a, b, c⟩ := x
  obtain ⟨a', b', c'⟩ := y
  have n1 : ¬ (1 : Int32) = 0 := by decide
  have n2 : ¬ (-1 : Int32) = 0 := by decide
  simp only [cmpK, Prod.mk.injEq]
  split
  · split
    · split
      · simp_all
      · split <;> simp_all
    · split <;> simp_all
  · split <;> simp_all
theorem cmpK_ge (x y : Ky) : 0 ≤ cmpK x y ↔ ¬ kz x < kz y := by
  obtain ⟨a, b, c⟩ := x
  obtain ⟨a', b', c'⟩ := y
  have n1 : (0 : Int32) ≤ 1 := by decide
  have n2 : ¬ (0 : Int32) ≤ -1 := by decide
  have n3 : (0 : Int32) ≤ 0 := by decide
  rw [kz_lt]
  simp only [cmpK, Int32.le_iff_toInt_le, Int32.lt_iff_toInt_lt, ← Int32.toInt_inj] at *
  split
  · split
    · split
      · simp_all
      · split
        · simp_all <;> omega
        · simp_all
    · split
      · simp_all <;> omega
      · simp_all
  · split
    · simp_all <;> omega
    · simp_all <;> omega
theorem mid_eq {a b : Nat} (ha : a < 1073741824) (hb : b < 1073741824) : (nI a + nI b) / 2 = nI ((a + b) / 2) := by
  rw [nI_add, show (2 : Int32) = nI 2 from rfl]
  exact pk_div (by omega) (by omega) (by omega)
set_option maxHeartbeats 4000000 in
set_option maxRecDepth 100000 in
/-- Rows.size -/
theorem c_RW_size (l : Launch) (o : Om) (h : AH) (A : Nat × Nat × Nat × Nat) (f : Nat → Int32) (g : Nat → Int64) (L : List Rw) (hR : RA0 o h A f g L) : Mt l o yRW_size cRW_size 1 (some .int) ({ frames := 0, cells := 0, slots := 0, locals := 0 } : Room) [.ref A.1] h (QI o (fun r h' => r = nI L.length ∧ h' = h)) (0) (0) := by
  refine Met.ofV (by decide) (Nat.le_of_ble_eq_true rfl) (fun K hl ho C => ?_)
  subst hl; subst ho
  obtain ⟨hA, hV, hW, hn, hcap, hE⟩ := id hR
  refine r_aload_n (n := 1) C dRW_size_0 rfl rfl ?_
  refine r_get (ci := 0) (n := 4) C hinRW rfl 2 (by decide) tw_35 rfl dRW_size_1 rfl (by assumption) rfl ?_
  exact r_iret C dRW_size_4 (Nat.le_refl _) (Nat.le_refl _) ⟨rfl, rfl⟩
set_option maxHeartbeats 4000000 in
set_option maxRecDepth 100000 in
/-- Rows.weightAt -/
theorem c_RW_weightAt (l : Launch) (o : Om) (h : AH) (A : Nat × Nat × Nat × Nat) (f : Nat → Int32) (g : Nat → Int64) (L : List Rw) (i : Nat) (r : Rw) (hR : RA0 o h A f g L) (hi : L[i]? = some r) : Mt l o yRW_weightAt cRW_weightAt 2 (some .long) ({ frames := 0, cells := 0, slots := 0, locals := 0 } : Room) [.ref A.1, .int (nI i)] h (QL o (fun x h' => x = r.2 ∧ h' = h)) (0) (0) := by
  refine Met.ofV (by decide) (Nat.le_of_ble_eq_true rfl) (fun K hl ho C => ?_)
  subst hl; subst ho
  obtain ⟨hA, hV, hW, hn, hcap, hE⟩ := id hR
  have hlt := (List.getElem?_eq_some_iff.mp hi).1
  refine r_aload_n (n := 1) C dRW_weightAt_0 rfl rfl ?_
  refine r_get (ci := 0) (n := 4) C hinRW rfl 1 (by decide) tw_34 rfl dRW_weightAt_1 rfl (by assumption) rfl ?_
  refine r_iload_n (n := 5) C dRW_weightAt_4 rfl rfl ?_
  refine r_lald (n := 6) C dRW_weightAt_5 rfl (by assumption) i rfl (by omega) (by omega) ?_
  exact r_lret C dRW_weightAt_6 (Nat.le_refl _) (Nat.le_refl _) ⟨(hE i r hi).2.2.2, rfl⟩
set_option maxHeartbeats 4000000 in
set_option maxRecDepth 100000 in
/-- Rows.valueAt -/
theorem c_RW_valueAt (l : Launch) (o : Om) (h : AH) (A : Nat × Nat × Nat × Nat) (f : Nat → Int32) (g : Nat → Int64) (L : List Rw) (i c : Nat) (r : Rw) (hR : RA0 o h A f g L) (hi : L[i]? = some r) (hc : c < 3) : Mt l o yRW_valueAt cRW_valueAt 3 (some .int) ({ frames := 0, cells := 0, slots := 0, locals := 0 } : Room) [.ref A.1, .int (nI i), .int (nI c)] h (QI o (fun x h' => x = colv r.1 c ∧ h' = h)) (0) (0) := by
  refine Met.ofV (by decide) (Nat.le_of_ble_eq_true rfl) (fun K hl ho C => ?_)
  subst hl; subst ho
  obtain ⟨hA, hV, hW, hn, hcap, hE⟩ := id hR
  have hlt := (List.getElem?_eq_some_iff.mp hi).1
  refine r_aload_n (n := 1) C dRW_valueAt_0 rfl rfl ?_
  refine r_get (ci := 0) (n := 4) C hinRW rfl 0 (by decide) tw_33 rfl dRW_valueAt_1 rfl (by assumption) rfl ?_
  refine r_iload_n (n := 5) C dRW_valueAt_4 rfl rfl ?_
  refine r_iconst (v := 3) (n := 6) C dRW_valueAt_5 rfl (by decide) ?_
  refine r_imul (n := 7) C dRW_valueAt_6 rfl ?_
  refine r_iload_n (n := 8) C dRW_valueAt_7 rfl rfl ?_
  refine r_iadd (n := 9) C dRW_valueAt_8 rfl ?_
  refine r_iald (n := 10) C dRW_valueAt_9 rfl (by assumption) (i * 3 + c) (ixc i c) (by omega) (by omega) ?_
  exact r_iret C dRW_valueAt_10 (Nat.le_refl _) (Nat.le_refl _) ⟨Enc_col hE hi hc, rfl⟩
set_option maxHeartbeats 4000000 in
set_option maxRecDepth 100000 in
/-- Rows.compareAt -/
theorem c_RW_compareAt (l : Launch) (o : Om) (h : AH) (A : Nat × Nat × Nat × Nat) (f : Nat → Int32) (g : Nat → Int64) (L : List Rw) (i : Nat) (r : Rw) (a b c : Int32) (hR : RA0 o h A f g L) (hi : L[i]? = some r) : Mt l o yRW_compareAt cRW_compareAt 6 (some .int) ({ frames := 0, cells := 0, slots := 0, locals := 0 } : Room) [.ref A.1, .int (nI i), .int a, .int b, .int c] h (QI o (fun x h' => x = cmpK r.1 (a, b, c) ∧ h' = h)) (0) (0) := by
  refine Met.ofV (by decide) (Nat.le_of_ble_eq_true rfl) (fun K hl ho C => ?_)
  subst hl; subst ho
  obtain ⟨hA, hV, hW, hn, hcap, hE⟩ := id hR
  have hlt := (List.getElem?_eq_some_iff.mp hi).1
  obtain ⟨e1, e2, e3, -⟩ := hE i r hi
  refine r_iload_n (n := 1) C dRW_compareAt_0 rfl rfl ?_
  refine r_iconst (v := 3) (n := 2) C dRW_compareAt_1 rfl (by decide) ?_
  refine r_imul (n := 3) C dRW_compareAt_2 rfl ?_
  refine r_istore (n := 5) C dRW_compareAt_3 rfl (by decide) ?_
  refine r_aload_n (n := 6) C dRW_compareAt_5 rfl rfl ?_
  refine r_get (ci := 0) (n := 9) C hinRW rfl 0 (by decide) tw_33 rfl dRW_compareAt_6 rfl (by assumption) rfl ?_
  refine r_iload (n := 11) C dRW_compareAt_9 rfl rfl ?_
  refine r_iald (n := 12) C dRW_compareAt_11 rfl (by assumption) (i * 3) (ix0 i) (by omega) (by omega) ?_
  refine r_iload_n (n := 13) C dRW_compareAt_12 rfl rfl ?_
  refine r_icmp_eq (tgt := 33) (n := 16) C dRW_compareAt_13 (by decide) rfl (fun c_13 => ?_) (fun c_13 => ?_)
  · refine r_aload_n (n := 34) C dRW_compareAt_33 rfl rfl ?_
    refine r_get (ci := 0) (n := 37) C hinRW rfl 0 (by decide) tw_33 rfl dRW_compareAt_34 rfl (by assumption) rfl ?_
    refine r_iload (n := 39) C dRW_compareAt_37 rfl rfl ?_
    refine r_iconst (v := 1) (n := 40) C dRW_compareAt_39 rfl (by decide) ?_
    refine r_iadd (n := 41) C dRW_compareAt_40 rfl ?_
    refine r_iald (n := 42) C dRW_compareAt_41 rfl (by assumption) (i * 3 + 1) (ix1 i) (by omega) (by omega) ?_
    refine r_iload_n (n := 43) C dRW_compareAt_42 rfl rfl ?_
    refine r_icmp_eq (tgt := 65) (n := 46) C dRW_compareAt_43 (by decide) rfl (fun c_43 => ?_) (fun c_43 => ?_)
    · refine r_aload_n (n := 66) C dRW_compareAt_65 rfl rfl ?_
      refine r_get (ci := 0) (n := 69) C hinRW rfl 0 (by decide) tw_33 rfl dRW_compareAt_66 rfl (by assumption) rfl ?_
      refine r_iload (n := 71) C dRW_compareAt_69 rfl rfl ?_
      refine r_iconst (v := 2) (n := 72) C dRW_compareAt_71 rfl (by decide) ?_
      refine r_iadd (n := 73) C dRW_compareAt_72 rfl ?_
      refine r_iald (n := 74) C dRW_compareAt_73 rfl (by assumption) (i * 3 + 2) (ix2 i) (by omega) (by omega) ?_
      refine r_iload (n := 76) C dRW_compareAt_74 rfl rfl ?_
      refine r_icmp_eq (tgt := 99) (n := 79) C dRW_compareAt_76 (by decide) rfl (fun c_76 => ?_) (fun c_76 => ?_)
      · refine r_iconst (v := 0) (n := 100) C dRW_compareAt_99 rfl (by decide) ?_
        exact r_iret C dRW_compareAt_100 (Nat.le_refl _) (Nat.le_refl _) ⟨by simp only [e1, e2, e3] at *; simp [cmpK, *], rfl⟩
      · refine r_aload_n (n := 80) C dRW_compareAt_79 rfl rfl ?_
        refine r_get (ci := 0) (n := 83) C hinRW rfl 0 (by decide) tw_33 rfl dRW_compareAt_80 rfl (by assumption) rfl ?_
        refine r_iload (n := 85) C dRW_compareAt_83 rfl rfl ?_
        refine r_iconst (v := 2) (n := 86) C dRW_compareAt_85 rfl (by decide) ?_
        refine r_iadd (n := 87) C dRW_compareAt_86 rfl ?_
        refine r_iald (n := 88) C dRW_compareAt_87 rfl (by assumption) (i * 3 + 2) (ix2 i) (by omega) (by omega) ?_
        refine r_iload (n := 90) C dRW_compareAt_88 rfl rfl ?_
        refine r_icmp_ge (tgt := 97) (n := 93) C dRW_compareAt_90 (by decide) rfl (fun c_90 => ?_) (fun c_90 => ?_)
        · refine r_iconst (v := 1) (n := 98) C dRW_compareAt_97 rfl (by decide) ?_
          exact r_iret C dRW_compareAt_98 (Nat.le_refl _) (Nat.le_refl _) ⟨by simp only [e1, e2, e3] at *; simp [cmpK, *], rfl⟩
        · refine r_iconst (v := -1) (n := 94) C dRW_compareAt_93 rfl (by decide) ?_
          refine r_goto (tgt := 98) C dRW_compareAt_94 (by decide) ?_
          exact r_iret C dRW_compareAt_98 (Nat.le_refl _) (Nat.le_refl _) ⟨by simp only [e1, e2, e3] at *; simp [cmpK, *], rfl⟩
    · refine r_aload_n (n := 47) C dRW_compareAt_46 rfl rfl ?_
      refine r_get (ci := 0) (n := 50) C hinRW rfl 0 (by decide) tw_33 rfl dRW_compareAt_47 rfl (by assumption) rfl ?_
      refine r_iload (n := 52) C dRW_compareAt_50 rfl rfl ?_
      refine r_iconst (v := 1) (n := 53) C dRW_compareAt_52 rfl (by decide) ?_
      refine r_iadd (n := 54) C dRW_compareAt_53 rfl ?_
      refine r_iald (n := 55) C dRW_compareAt_54 rfl (by assumption) (i * 3 + 1) (ix1 i) (by omega) (by omega) ?_
      refine r_iload_n (n := 56) C dRW_compareAt_55 rfl rfl ?_
      refine r_icmp_ge (tgt := 63) (n := 59) C dRW_compareAt_56 (by decide) rfl (fun c_56 => ?_) (fun c_56 => ?_)
      · refine r_iconst (v := 1) (n := 64) C dRW_compareAt_63 rfl (by decide) ?_
        exact r_iret C dRW_compareAt_64 (Nat.le_refl _) (Nat.le_refl _) ⟨by simp only [e1, e2, e3] at *; simp [cmpK, *], rfl⟩
      · refine r_iconst (v := -1) (n := 60) C dRW_compareAt_59 rfl (by decide) ?_
        refine r_goto (tgt := 64) C dRW_compareAt_60 (by decide) ?_
        exact r_iret C dRW_compareAt_64 (Nat.le_refl _) (Nat.le_refl _) ⟨by simp only [e1, e2, e3] at *; simp [cmpK, *], rfl⟩
  · refine r_aload_n (n := 17) C dRW_compareAt_16 rfl rfl ?_
    refine r_get (ci := 0) (n := 20) C hinRW rfl 0 (by decide) tw_33 rfl dRW_compareAt_17 rfl (by assumption) rfl ?_
    refine r_iload (n := 22) C dRW_compareAt_20 rfl rfl ?_
    refine r_iald (n := 23) C dRW_compareAt_22 rfl (by assumption) (i * 3) (ix0 i) (by omega) (by omega) ?_
    refine r_iload_n (n := 24) C dRW_compareAt_23 rfl rfl ?_
    refine r_icmp_ge (tgt := 31) (n := 27) C dRW_compareAt_24 (by decide) rfl (fun c_24 => ?_) (fun c_24 => ?_)
    · refine r_iconst (v := 1) (n := 32) C dRW_compareAt_31 rfl (by decide) ?_
      exact r_iret C dRW_compareAt_32 (Nat.le_refl _) (Nat.le_refl _) ⟨by simp only [e1, e2, e3] at *; simp [cmpK, *], rfl⟩
    · refine r_iconst (v := -1) (n := 28) C dRW_compareAt_27 rfl (by decide) ?_
      refine r_goto (tgt := 32) C dRW_compareAt_28 (by decide) ?_
      exact r_iret C dRW_compareAt_32 (Nat.le_refl _) (Nat.le_refl _) ⟨by simp only [e1, e2, e3] at *; simp [cmpK, *], rfl⟩
set_option maxHeartbeats 4000000 in
set_option maxRecDepth 100000 in
/-- Rows.placeOf -/
theorem c_RW_placeOf (l : Launch) (o : Om) (h : AH) (A : Nat × Nat × Nat × Nat) (f : Nat → Int32) (g : Nat → Int64) (L : List Rw) (a b c : Int32) (hR : RA0 o h A f g L) (hs : Srt L) : Mt l o yRW_placeOf cRW_placeOf 7 (some .int) ({ frames := 1, cells := 0, slots := 0, locals := 25 } : Room) [.ref A.1, .int a, .int b, .int c] h (QI o (fun x h' => ∃ p, x = nI p ∧ PlaceP L (a, b, c) p ∧ h' = h)) (0) (0) := by
  refine Met.ofV (by decide) (Nat.le_of_ble_eq_true rfl) (fun K hl ho C => ?_)
  subst hl; subst ho
  obtain ⟨hA, hV, hW, hn, hcap, hE⟩ := id hR
  have loop : ∀ (m lo hi : Nat), hi - lo = m → lo ≤ hi → hi ≤ L.length → (∀ (i : Nat) (q : Rw), i < lo → L[i]? = some q → kz q.1 < kz (a, b, c)) → (∀ (i : Nat) (q : Rw), hi ≤ i → L[i]? = some q → kz (a, b, c) ≤ kz q.1) → V K h 0 0 (EndQ K (QI (Ko K) (fun x h' => ∃ p, x = nI p ∧ PlaceP L (a, b, c) p ∧ h' = h)) 0 0) 9 [(0, .ref A.1), (1, .int a), (2, .int b), (3, .int c), (4, .int (nI lo)), (5, .int (nI hi))] [] := by
    intro m
    induction m using Nat.strongRecOn with
    | _ m ih =>
      intro lo hi hm hlh0 hhl hlo hhi
      refine r_iload (n := 11) C dRW_placeOf_9 rfl rfl ?_
      refine r_iload (n := 13) C dRW_placeOf_11 rfl rfl ?_
      refine r_icmp_ge (tgt := 53) (n := 16) C dRW_placeOf_13 (by decide) rfl (fun c_13 => ?_) (fun c_13 => ?_)
      · have e : lo = hi := by have := (nI_leI (by omega) (by omega)).mp c_13; omega
        subst e
        refine r_iload (n := 55) C dRW_placeOf_53 rfl rfl ?_
        exact r_iret C dRW_placeOf_55 (Nat.le_refl _) (Nat.le_refl _) ⟨lo, rfl, ⟨hhl, hlo, hhi⟩, rfl⟩
      · have hlh : lo < hi := by
          rcases Nat.lt_or_ge lo hi with q | q
          · exact q
          · exact absurd (nI_le q (by omega)) c_13
        obtain ⟨md, hmd⟩ : ∃ md, md = (lo + hi) / 2 := ⟨_, rfl⟩
        have hml : md < L.length := by omega
        obtain ⟨r, hr⟩ : ∃ r, L[md]? = some r := ⟨_, List.getElem?_eq_getElem hml⟩
        refine r_iload (n := 18) C dRW_placeOf_16 rfl rfl ?_
        refine r_iload (n := 20) C dRW_placeOf_18 rfl rfl ?_
        refine r_iadd (n := 21) C dRW_placeOf_20 rfl ?_
        refine r_iconst (v := 2) (n := 22) C dRW_placeOf_21 rfl (by decide) ?_
        refine r_idiv (n := 23) C dRW_placeOf_22 rfl (by decide) ?_
        refine V.eqi (y := nI md) (by rw [hmd]; exact mid_eq (by omega) (by omega)) ?_
        refine r_istore (n := 25) C dRW_placeOf_23 rfl (by decide) ?_
        refine r_aload_n (n := 26) C dRW_placeOf_25 rfl rfl ?_
        refine r_iload (n := 28) C dRW_placeOf_26 rfl rfl ?_
        refine r_iload_n (n := 29) C dRW_placeOf_28 rfl rfl ?_
        refine r_iload_n (n := 30) C dRW_placeOf_29 rfl rfl ?_
        refine r_iload_n (n := 31) C dRW_placeOf_30 rfl rfl ?_
        refine r_ci (n := 34) (rn_V (z := 4) (ci := 0) (T := TRW) C (c_RW_compareAt (Kl K) (Ko K) h A f g L md r a b c hR hr) tw_168 tw_170 ts_3 tw_2 tw_171 rfl rfl ndRW_compareAt ⟨Nat.le_of_ble_eq_true rfl, Nat.le_of_ble_eq_true rfl⟩ (by assumption) rfl rfl rfl (Nat.le_of_ble_eq_true rfl) dRW_placeOf_31 ⟨Nat.le_of_ble_eq_true rfl, Nat.le_of_ble_eq_true rfl⟩) rfl (fun x h1 hq => ?_)
        obtain ⟨e1, e2⟩ := hq
        subst e1
        rw [e2]
        refine r_if_ge (tgt := 46) (n := 37) C dRW_placeOf_34 (by decide) rfl (fun c_34 => ?_) (fun c_34 => ?_)
        · refine r_iload (n := 48) C dRW_placeOf_46 rfl rfl ?_
          refine r_istore (n := 50) C dRW_placeOf_48 rfl (by decide) ?_
          refine r_goto (tgt := 9) C dRW_placeOf_50 (by decide) ?_
          refine V.byk (ls' := [(0, .ref A.1), (1, .int a), (2, .int b), (3, .int c), (4, .int (nI lo)), (5, .int (nI md))]) rfl ?_
          refine ih (md - lo) (by omega) lo md rfl (by omega) (by omega) hlo (fun i q hi2 hq => ?_)
          have h4 := (cmpK_ge _ _).mp c_34
          rcases Nat.lt_or_ge i hi with h6 | h6
          · rcases Nat.lt_or_ge md i with h7 | h7
            · have := srt_get hs h7 hr hq; omega
            · have : i = md := by omega
              subst this
              rw [hr] at hq
              cases hq
              omega
          · exact hhi i q h6 hq
        · refine r_iload (n := 39) C dRW_placeOf_37 rfl rfl ?_
          refine r_iconst (v := 1) (n := 40) C dRW_placeOf_39 rfl (by decide) ?_
          refine r_iadd (n := 41) C dRW_placeOf_40 rfl ?_
          refine V.eqi (nI_1 md) ?_
          refine r_istore (n := 43) C dRW_placeOf_41 rfl (by decide) ?_
          refine r_goto (tgt := 50) C dRW_placeOf_43 (by decide) ?_
          refine r_goto (tgt := 9) C dRW_placeOf_50 (by decide) ?_
          refine V.byk (ls' := [(0, .ref A.1), (1, .int a), (2, .int b), (3, .int c), (4, .int (nI (md + 1))), (5, .int (nI hi))]) rfl ?_
          refine ih (hi - (md + 1)) (by omega) (md + 1) hi rfl (by omega) (by omega) (fun i q hi2 hq => ?_) hhi
          have h4 : kz r.1 < kz (a, b, c) := by
            rcases Int.lt_or_le (kz r.1) (kz (a, b, c)) with h5 | h5
            · exact h5
            · exact absurd ((cmpK_ge _ _).mpr (by omega)) c_34
          rcases Nat.lt_or_ge i md with h7 | h7
          · have := srt_get hs h7 hq hr; omega
          · have : i = md := by omega
            subst this
            rw [hr] at hq
            cases hq
            exact h4
  refine r_iconst (v := 0) (n := 1) C dRW_placeOf_0 rfl (by decide) ?_
  refine r_istore (n := 3) C dRW_placeOf_1 rfl (by decide) ?_
  refine r_aload_n (n := 4) C dRW_placeOf_3 rfl rfl ?_
  refine r_get (ci := 0) (n := 7) C hinRW rfl 2 (by decide) tw_35 rfl dRW_placeOf_4 rfl (by assumption) rfl ?_
  refine r_istore (n := 9) C dRW_placeOf_7 rfl (by decide) ?_
  refine V.byk (ls' := [(0, .ref A.1), (1, .int a), (2, .int b), (3, .int c), (4, .int (nI 0)), (5, .int (nI L.length))]) rfl ?_
  exact loop _ 0 L.length rfl (Nat.zero_le _) (Nat.le_refl _) (fun i q h0 => absurd h0 (Nat.not_lt_zero _)) (fun i q h0 hq => absurd (List.getElem?_eq_some_iff.mp hq).1 (by omega))
