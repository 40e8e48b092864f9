/-! PURE: rows, keys, sorted lists with weights -/
abbrev Ky : Type := Int32 × Int32 × Int32
abbrev Rw : Type := Ky × Int64
def kz (k : Ky) : Int := (k.1.toInt * 4294967296 + k.2.1.toInt) * 4294967296 + k.2.2.toInt
theorem i32_lo (x : Int32) : -2147483648 ≤ x.toInt := by have := Int32.le_toInt x; simpa using this
theorem i32_hi (x : Int32) : x.toInt < 2147483648 := by have := Int32.toInt_lt x; simpa using this
theorem kz_inj {x y : Ky} (h : kz x = kz y) : x = y := by
  obtain ⟨a, b, c⟩ := x
  obtain ⟨a', b', c'⟩ := y
  simp only [kz] at h
  have h1 := i32_lo a; have h2 := i32_hi a; have h3 := i32_lo b; have h4 := i32_hi b; have h5 := i32_lo c; have h6 := i32_hi c
  have g1 := i32_lo a'; have g2 := i32_hi a'; have g3 := i32_lo b'; have g4 := i32_hi b'; have g5 := i32_lo c'; have g6 := i32_hi c'
  have e1 : a.toInt = a'.toInt := by omega
  have e2 : b.toInt = b'.toInt := by omega
  have e3 : c.toInt = c'.toInt := by omega
  rw [Int32.toInt_inj.mp e1, Int32.toInt_inj.mp e2, Int32.toInt_inj.mp e3]
theorem kz_lt {a b c a' b' c' : Int32} : kz (a, b, c) < kz (a', b', c') ↔ a < a' ∨ (a = a' ∧ (b < b' ∨ (b = b' ∧ c < c'))) := by
  simp only [kz, Int32.lt_iff_toInt_lt, ← Int32.toInt_inj]
  have h1 := i32_lo a; have h2 := i32_hi a; have h3 := i32_lo b; have h4 := i32_hi b; have h5 := i32_lo c; have h6 := i32_hi c
  have g1 := i32_lo a'; have g2 := i32_hi a'; have g3 := i32_lo b'; have g4 := i32_hi b'; have g5 := i32_lo c'; have g6 := i32_hi c'
  constructor
  · intro h; omega
  · intro h; omega
def Srt (L : List Rw) : Prop := L.Pairwise (fun x y => kz x.1 < kz y.1)
def wt : List Rw → Ky → Int64
  | [], _ => 0
  | r :: L, k => if r.1 = k then r.2 else wt L k
def addW : List Rw → Ky → Int64 → List Rw
  | [], k, w => [(k, w)]
  | r :: L, k, w => if kz k < kz r.1 then (k, w) :: r :: L else if r.1 = k then (k, r.2 + w) :: L else r :: addW L k w
theorem wt_lt {L : List Rw} {k : Ky} (h : ∀ r ∈ L, kz k < kz r.1) : wt L k = 0 := by
  induction L with
  | nil => rfl
  | cons r L ih =>
    have h1 := h r List.mem_cons_self
    have h2 : ¬ r.1 = k := fun e => by rw [e] at h1; omega
    simp only [wt, if_neg h2]
    exact ih (fun q hq => h q (List.mem_cons_of_mem _ hq))
theorem addW_mem {L : List Rw} {k : Ky} {w : Int64} : ∀ r ∈ addW L k w, r.1 = k ∨ ∃ q ∈ L, q.1 = r.1 := by
  induction L with
  | nil =>
    intro r hr
    simp only [addW, List.mem_singleton] at hr
    exact Or.inl (by rw [hr])
  | cons q L ih =>
    intro r hr
    simp only [addW] at hr
    split at hr
    · rcases List.mem_cons.mp hr with e | e
      · exact Or.inl (by rw [e])
      · exact Or.inr ⟨r, e, rfl⟩
    · split at hr
      · rcases List.mem_cons.mp hr with e | e
        · exact Or.inl (by rw [e])
        · exact Or.inr ⟨r, List.mem_cons_of_mem _ e, rfl⟩
      · rcases List.mem_cons.mp hr with e | e
        · exact Or.inr ⟨q, List.mem_cons_self, by rw [e]⟩
        · rcases ih r e with h | ⟨q', h1, h2⟩
          · exact Or.inl h
          · exact Or.inr ⟨q', List.mem_cons_of_mem _ h1, h2⟩
theorem addW_srt {L : List Rw} (k : Ky) (w : Int64) (h : Srt L) : Srt (addW L k w) := by
  induction L with
  | nil => exact List.pairwise_singleton _ _
  | cons q L ih =>
    obtain ⟨h1, h2⟩ := List.pairwise_cons.mp h
    simp only [addW]
    split
    · next hk =>
      refine List.pairwise_cons.mpr ⟨fun r hr => ?_, h⟩
      rcases List.mem_cons.mp hr with e | e
      · rw [e]; exact hk
      · exact Int.lt_trans hk (h1 r e)
    · next hk =>
      split
      · next he =>
        refine List.pairwise_cons.mpr ⟨fun r hr => ?_, h2⟩
        have := h1 r hr
        rw [he] at this
        exact this
      · next he =>
        refine List.pairwise_cons.mpr ⟨fun r hr => ?_, ih h2⟩
        rcases addW_mem r hr with e | ⟨q', e1, e2⟩
        · rw [e]
          have : kz q.1 ≠ kz k := fun z => he (kz_inj z)
          omega
        · rw [← e2]; exact h1 q' e1
theorem addW_wt {L : List Rw} (k : Ky) (w : Int64) (h : Srt L) (k' : Ky) : wt (addW L k w) k' = wt L k' + (if k' = k then w else 0) := by
  induction L with
  | nil =>
    simp only [addW, wt]
    by_cases e : k = k'
    · simp [e]
    · simp [e, Ne.symm e]
  | cons q L ih =>
    obtain ⟨h1, h2⟩ := List.pairwise_cons.mp h
    simp only [addW]
    split
    · next hk =>
      by_cases e : k = k'
      · subst e
        have hz : wt (q :: L) k = 0 := wt_lt (fun r hr => by
          rcases List.mem_cons.mp hr with e | e
          · rw [e]; exact hk
          · exact Int.lt_trans hk (h1 r e))
        rw [hz]
        simp [wt]
      · simp [wt, e, Ne.symm e]
    · next hk =>
      split
      · next he =>
        by_cases e : k = k'
        · subst e; simp [wt, he]
        · have : ¬ q.1 = k' := by rw [he]; exact e
          simp [wt, e, Ne.symm e, this]
      · next he =>
        by_cases e : q.1 = k'
        · have : ¬ k' = k := fun z => he (e.trans z)
          simp [wt, e, this]
        · simp only [wt, if_neg e]
          exact ih h2
theorem addW_len {L : List Rw} (k : Ky) (w : Int64) : (addW L k w).length ≤ L.length + 1 := by
  induction L with
  | nil => simp [addW]
  | cons q L ih =>
    simp only [addW]
    split
    · simp
    · split
      · simp
      · simp only [List.length_cons]; omega
/-- rows whose weight isn't 0 -/
def nz (L : List Rw) : List Rw := L.filter (fun r => decide (r.2 ≠ 0))
theorem nz_srt {L : List Rw} (h : Srt L) : Srt (nz L) := List.Pairwise.filter _ h
theorem nz_mem {L : List Rw} {r : Rw} : r ∈ nz L ↔ r ∈ L ∧ r.2 ≠ 0 := by simp [nz]
theorem nz_wt {L : List Rw} (h : Srt L) (k : Ky) : wt (nz L) k = wt L k := by
  induction L with
  | nil => rfl
  | cons q L ih =>
    obtain ⟨h1, h2⟩ := List.pairwise_cons.mp h
    have ih := ih h2
    by_cases hq : q.2 = 0
    · have e : nz (q :: L) = nz L := by simp [nz, hq]
      rw [e, ih]
      by_cases hk : q.1 = k
      · simp only [wt, if_pos hk, hq]
        exact wt_lt (fun r hr => by rw [← hk]; exact h1 r hr)
      · simp [wt, hk]
    · have e : nz (q :: L) = q :: nz L := by simp [nz, hq]
      rw [e]
      simp only [wt, ih]
theorem nz_nz {L : List Rw} (h : ∀ r ∈ L, r.2 ≠ 0) : nz L = L := List.filter_eq_self.mpr (fun r hr => by simpa using h r hr)
theorem wt_mem {L : List Rw} (h : Srt L) {r : Rw} (hr : r ∈ L) : wt L r.1 = r.2 := by
  induction L with
  | nil => cases hr
  | cons q L ih =>
    obtain ⟨h1, h2⟩ := List.pairwise_cons.mp h
    rcases List.mem_cons.mp hr with e | e
    · subst e; simp [wt]
    · have hlt := h1 r e
      have : ¬ q.1 = r.1 := fun z => by rw [z] at hlt; omega
      simp only [wt, if_neg this]
      exact ih h2 e
theorem wt_none {L : List Rw} {k : Ky} (h : ∀ r ∈ L, r.1 ≠ k) : wt L k = 0 := by
  induction L with
  | nil => rfl
  | cons q L ih =>
    simp only [wt, if_neg (h q List.mem_cons_self)]
    exact ih (fun r hr => h r (List.mem_cons_of_mem _ hr))
theorem mem_of_wt {L : List Rw} {k : Ky} (h : wt L k ≠ 0) : (k, wt L k) ∈ L := by
  induction L with
  | nil => exact absurd rfl h
  | cons q L ih =>
    by_cases e : q.1 = k
    · have : wt (q :: L) k = q.2 := by simp [wt, e]
      rw [this, ← e]
      exact List.mem_cons_self
    · have : wt (q :: L) k = wt L k := by simp [wt, e]
      rw [this] at h ⊢
      exact List.mem_cons_of_mem _ (ih h)
/-- sorted lists without zeros are told by their weights -/
theorem eq_of_wt {L M : List Rw} (hL : Srt L) (hM : Srt M) (zL : ∀ r ∈ L, r.2 ≠ 0) (zM : ∀ r ∈ M, r.2 ≠ 0) (e : ∀ k, wt L k = wt M k) : L = M := by
  have sub : ∀ {A B : List Rw}, Srt A → (∀ r ∈ A, r.2 ≠ 0) → (∀ k, wt A k = wt B k) → ∀ r ∈ A, r ∈ B := by
    intro A B hA zA hAB r hr
    have h1 := wt_mem hA hr
    have h2 := hAB r.1
    have h3 : wt B r.1 ≠ 0 := by rw [← h2, h1]; exact zA r hr
    have h4 := mem_of_wt h3
    rw [← h2, h1] at h4
    exact h4
  have s1 := sub hL zL e
  have s2 := sub hM zM (fun k => (e k).symm)
  clear sub zL zM e
  induction L generalizing M with
  | nil =>
    cases M with
    | nil => rfl
    | cons q M => exact absurd (s2 q List.mem_cons_self) List.not_mem_nil
  | cons p L ih =>
    cases M with
    | nil => exact absurd (s1 p List.mem_cons_self) List.not_mem_nil
    | cons q M =>
      obtain ⟨a1, a2⟩ := List.pairwise_cons.mp hL
      obtain ⟨b1, b2⟩ := List.pairwise_cons.mp hM
      have hpq : p = q := by
        rcases List.mem_cons.mp (s1 p List.mem_cons_self) with h | h
        · exact h
        · rcases List.mem_cons.mp (s2 q List.mem_cons_self) with h' | h'
          · exact h'.symm
          · have := b1 p h
            have := a1 q h'
            omega
      subst hpq
      congr 1
      refine ih a2 b2 (fun r hr => ?_) (fun r hr => ?_)
      · rcases List.mem_cons.mp (s1 r (List.mem_cons_of_mem _ hr)) with h | h
        · have := a1 r hr
          rw [h] at this
          omega
        · exact h
      · rcases List.mem_cons.mp (s2 r (List.mem_cons_of_mem _ hr)) with h | h
        · have := b1 r hr
          rw [h] at this
          omega
        · exact h
/-- p is the place of the first row that doesn't come before k -/
def PlaceP (L : List Rw) (k : Ky) (p : Nat) : Prop := p ≤ L.length ∧ (∀ (i : Nat) (r : Rw), i < p → L[i]? = some r → kz r.1 < kz k) ∧ (∀ (i : Nat) (r : Rw), p ≤ i → L[i]? = some r → kz k ≤ kz r.1)
theorem PlaceP.tail {r : Rw} {L : List Rw} {k : Ky} {p : Nat} (h : PlaceP (r :: L) k (p + 1)) : kz r.1 < kz k ∧ PlaceP L k p := by
  obtain ⟨h1, h2, h3⟩ := h
  refine ⟨h2 0 r (Nat.succ_pos p) rfl, by simpa using h1, fun i q hi hq => h2 (i + 1) q (by omega) (by simpa using hq), fun i q hi hq => h3 (i + 1) q (by omega) (by simpa using hq)⟩
theorem addW_at {L : List Rw} {k : Ky} {p : Nat} {r : Rw} (w : Int64) (h : PlaceP L k p) (hr : L[p]? = some r) (hk : r.1 = k) : addW L k w = L.set p (k, r.2 + w) := by
  induction L generalizing p with
  | nil => simp at hr
  | cons q L ih =>
    cases p with
    | zero =>
      simp only [List.getElem?_cons_zero, Option.some.injEq] at hr
      subst hr
      have : ¬ kz k < kz q.1 := by rw [hk]; omega
      simp [addW, this, hk]
    | succ p =>
      obtain ⟨h1, h2⟩ := h.tail
      have n1 : ¬ kz k < kz q.1 := by omega
      have n2 : ¬ q.1 = k := fun e => by rw [e] at h1; omega
      simp only [addW, if_neg n1, if_neg n2, List.set_cons_succ]
      rw [ih h2 (by simpa using hr)]
theorem addW_in {L : List Rw} {k : Ky} {p : Nat} (w : Int64) (h : PlaceP L k p) (hk : ∀ r, L[p]? = some r → r.1 ≠ k) : addW L k w = L.take p ++ (k, w) :: L.drop p := by
  induction L generalizing p with
  | nil =>
    have : p = 0 := by have := h.1; simpa using this
    subst this
    rfl
  | cons q L ih =>
    cases p with
    | zero =>
      have h1 := h.2.2 0 q (Nat.le_refl 0) rfl
      have h2 := hk q rfl
      have h3 : kz k ≠ kz q.1 := fun e => h2 (kz_inj e).symm
      have : kz k < kz q.1 := by omega
      simp [addW, this]
    | succ p =>
      obtain ⟨h1, h2⟩ := h.tail
      have n1 : ¬ kz k < kz q.1 := by omega
      have n2 : ¬ q.1 = k := fun e => by rw [e] at h1; omega
      simp only [addW, if_neg n1, if_neg n2, List.take_succ_cons, List.drop_succ_cons, List.cons_append]
      rw [ih h2 (fun r hr => hk r (by simpa using hr))]
theorem wt_at {L : List Rw} {k : Ky} {p : Nat} {r : Rw} (h : PlaceP L k p) (hr : L[p]? = some r) (hk : r.1 = k) : wt L k = r.2 := by
  induction L generalizing p with
  | nil => simp at hr
  | cons q L ih =>
    cases p with
    | zero =>
      simp only [List.getElem?_cons_zero, Option.some.injEq] at hr
      subst hr
      simp [wt, hk]
    | succ p =>
      obtain ⟨h1, h2⟩ := h.tail
      have n2 : ¬ q.1 = k := fun e => by rw [e] at h1; omega
      simp only [wt, if_neg n2]
      exact ih h2 (by simpa using hr)
theorem wt_not {L : List Rw} {k : Ky} {p : Nat} (hs : Srt L) (h : PlaceP L k p) (hk : ∀ r, L[p]? = some r → r.1 ≠ k) : wt L k = 0 := by
  induction L generalizing p with
  | nil => rfl
  | cons q L ih =>
    obtain ⟨s1, s2⟩ := List.pairwise_cons.mp hs
    cases p with
    | zero =>
      have h1 := h.2.2 0 q (Nat.le_refl 0) rfl
      have h2 := hk q rfl
      have h3 : kz k ≠ kz q.1 := fun e => h2 (kz_inj e).symm
      refine wt_lt (fun r hr => ?_)
      rcases List.mem_cons.mp hr with e | e
      · rw [e]; omega
      · have := s1 r e; omega
    | succ p =>
      obtain ⟨h1, h2⟩ := h.tail
      have n2 : ¬ q.1 = k := fun e => by rw [e] at h1; omega
      simp only [wt, if_neg n2]
      exact ih s2 h2 (fun r hr => hk r (by simpa using hr))
/-- in a sorted list what stands before is smaller -/
theorem srt_get {L : List Rw} (h : Srt L) {i j : Nat} {x y : Rw} (hij : i < j) (hx : L[i]? = some x) (hy : L[j]? = some y) : kz x.1 < kz y.1 := by
  obtain ⟨h1, e1⟩ := List.getElem?_eq_some_iff.mp hx
  obtain ⟨h2, e2⟩ := List.getElem?_eq_some_iff.mp hy
  have := List.pairwise_iff_getElem.mp h i j h1 h2 hij
  rw [e1, e2] at this
  exact this
