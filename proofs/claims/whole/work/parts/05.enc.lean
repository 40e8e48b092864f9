/-! how a list of rows lies in an array of ints (three to a row) and an array of longs -/
def EncA (f : Nat → Int32) (g : Nat → Int64) (i : Nat) (r : Rw) : Prop := f (i * 3) = r.1.1 ∧ f (i * 3 + 1) = r.1.2.1 ∧ f (i * 3 + 2) = r.1.2.2 ∧ g i = r.2
def Enc (f : Nat → Int32) (g : Nat → Int64) (L : List Rw) : Prop := ∀ (i : Nat) (r : Rw), L[i]? = some r → EncA f g i r
theorem Enc_nil (f : Nat → Int32) (g : Nat → Int64) : Enc f g [] := fun i r h => by simp at h
theorem Enc_set {f : Nat → Int32} {g : Nat → Int64} {L : List Rw} (h : Enc f g L) {p : Nat} {r : Rw} (hp : L[p]? = some r) (w : Int64) : Enc f (vp_updL g p w) (L.set p (r.1, w)) := by
  intro i q hq
  have hl := (List.getElem?_eq_some_iff.mp hp).1
  by_cases e : i = p
  · subst e
    rw [List.getElem?_set_self hl] at hq
    cases hq
    obtain ⟨e1, e2, e3, e4⟩ := h i r hp
    exact ⟨e1, e2, e3, pk_uLs⟩
  · rw [List.getElem?_set_ne (Ne.symm e)] at hq
    obtain ⟨e1, e2, e3, e4⟩ := h i q hq
    exact ⟨e1, e2, e3, by rw [pk_uLn e]; exact e4⟩
theorem Enc_ins {f : Nat → Int32} {g : Nat → Int64} {L : List Rw} (h : Enc f g L) {p : Nat} (hp : p ≤ L.length) (a b c : Int32) (w : Int64) : Enc (upd (upd (upd (va_cpy f f (p * 3) (p * 3 + 3) ((L.length - p) * 3)) (p * 3) a) (p * 3 + 1) b) (p * 3 + 2) c) (vp_updL (va_cpy g g p (p + 1) (L.length - p)) p w) (L.take p ++ ((a, b, c), w) :: L.drop p) := by
  intro i r hr
  have hlt : (L.take p).length = p := by rw [List.length_take]; omega
  rcases Nat.lt_trichotomy i p with hi | hi | hi
  · have e : L[i]? = some r := by
      rw [List.getElem?_append_left (by omega), List.getElem?_take_of_lt hi] at hr
      exact hr
    obtain ⟨e1, e2, e3, e4⟩ := h i r e
    refine ⟨?_, ?_, ?_, ?_⟩
    · rw [pk_un (by omega), pk_un (by omega), pk_un (by omega), pk_cpy_out (Or.inl (by omega))]; exact e1
    · rw [pk_un (by omega), pk_un (by omega), pk_un (by omega), pk_cpy_out (Or.inl (by omega))]; exact e2
    · rw [pk_un (by omega), pk_un (by omega), pk_un (by omega), pk_cpy_out (Or.inl (by omega))]; exact e3
    · rw [pk_uLn (by omega), pk_cpy_out (Or.inl (by omega))]; exact e4
  · subst hi
    rw [List.getElem?_append_right (by omega), hlt, Nat.sub_self, List.getElem?_cons_zero] at hr
    cases hr
    refine ⟨?_, ?_, ?_, ?_⟩
    · rw [pk_un (by omega), pk_un (by omega), pk_us]
    · rw [pk_un (by omega), pk_us]
    · rw [pk_us]
    · rw [pk_uLs]
  · obtain ⟨j, rfl⟩ : ∃ j, i = p + 1 + j := ⟨i - p - 1, by omega⟩
    rw [List.getElem?_append_right (by omega), hlt, show p + 1 + j - p = j + 1 by omega, List.getElem?_cons_succ, List.getElem?_drop] at hr
    have hl := (List.getElem?_eq_some_iff.mp hr).1
    obtain ⟨e1, e2, e3, e4⟩ := h _ r hr
    refine ⟨?_, ?_, ?_, ?_⟩
    · rw [pk_un (by omega), pk_un (by omega), pk_un (by omega), pk_cpy_in (by omega) (by omega), ← e1]; congr 1; omega
    · rw [pk_un (by omega), pk_un (by omega), pk_un (by omega), pk_cpy_in (by omega) (by omega), ← e2]; congr 1; omega
    · rw [pk_un (by omega), pk_un (by omega), pk_un (by omega), pk_cpy_in (by omega) (by omega), ← e3]; congr 1; omega
    · rw [pk_uLn (by omega), pk_cpy_in (by omega) (by omega), ← e4]; congr 1; omega
theorem Enc_copy {f f' : Nat → Int32} {g g' : Nat → Int64} {L : List Rw} (h : Enc f g L) {n : Nat} (hn : n = L.length) : Enc (va_cpy f f' 0 0 (n * 3)) (va_cpy g g' 0 0 n) L := by
  intro i r hr
  have hl := (List.getElem?_eq_some_iff.mp hr).1
  obtain ⟨e1, e2, e3, e4⟩ := h i r hr
  refine ⟨?_, ?_, ?_, ?_⟩
  · rw [pk_cpy_in (by omega) (by omega), ← e1]; congr 1; omega
  · rw [pk_cpy_in (by omega) (by omega), ← e2]; congr 1; omega
  · rw [pk_cpy_in (by omega) (by omega), ← e3]; congr 1; omega
  · rw [pk_cpy_in (by omega) (by omega), ← e4]; congr 1; omega
theorem Enc_snoc {f f' : Nat → Int32} {g g' : Nat → Int64} {M : List Rw} {r : Rw} (h : Enc f g M) (hf : ∀ j, j < M.length * 3 → f' j = f j) (hg : ∀ j, j < M.length → g' j = g j) (hr : EncA f' g' M.length r) : Enc f' g' (M ++ [r]) := by
  intro i q hq
  by_cases hi : i < M.length
  · rw [List.getElem?_append_left hi] at hq
    obtain ⟨e1, e2, e3, e4⟩ := h i q hq
    exact ⟨by rw [hf _ (by omega)]; exact e1, by rw [hf _ (by omega)]; exact e2, by rw [hf _ (by omega)]; exact e3, by rw [hg _ (by omega)]; exact e4⟩
  · rw [List.getElem?_append_right (by omega)] at hq
    have hz := (List.getElem?_eq_some_iff.mp hq).1
    have e : i = M.length := by simp at hz; omega
    subst e
    rw [Nat.sub_self] at hq
    cases hq
    exact hr
theorem nz_take {L : List Rw} {i : Nat} {r : Rw} (h : L[i]? = some r) : nz (L.take (i + 1)) = nz (L.take i) ++ (if r.2 = 0 then [] else [r]) := by
  rw [List.take_succ, h]
  by_cases e : r.2 = 0
  · simp [nz, List.filter_append, e]
  · simp [nz, List.filter_append, e]
theorem nz_len {L : List Rw} {i : Nat} : (nz (L.take i)).length ≤ i := Nat.le_trans (List.length_filter_le _ _) (by rw [List.length_take]; omega)
