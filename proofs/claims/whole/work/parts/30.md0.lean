/-! THE REFERENCE: its cells: an object with 17 arrays; ints by field (MI), longs by field (ML), numbers by field (MV) -/
def intK (k : Nat) : Bool := match k with
  | 0 | 1 | 2 | 4 | 5 | 6 | 7 | 10 | 11 | 12 | 14 | 15 | 16 | 17 | 18 => true
  | _ => false
def lonK (k : Nat) : Bool := match k with
  | 3 | 8 => true
  | _ => false
def numK (k : Nat) : Bool := match k with
  | 9 | 13 | 19 => true
  | _ => false
def lenM (k : Nat) : Nat := match k with
  | 0 | 1 | 2 | 3 => 624
  | 4 => 26
  | 5 | 6 | 7 | 8 => 600
  | 10 | 12 => 10
  | 11 => 50
  | _ => 12
theorem lenM_lt (k : Nat) : lenM k < 2147483648 := by unfold lenM; split <;> decide
abbrev ofM (ad : Nat → Nat) (MV : Nat → Int32) : List Value := [.ref (ad 0), .ref (ad 1), .ref (ad 2), .ref (ad 3), .ref (ad 4), .ref (ad 5), .ref (ad 6), .ref (ad 7), .ref (ad 8), .int (MV 9), .ref (ad 10), .ref (ad 11), .ref (ad 12), .int (MV 13), .ref (ad 14), .ref (ad 15), .ref (ad 16), .ref (ad 17), .ref (ad 18), .int (MV 19)]
def MH (o : Om) (h : AH) (m : Nat) (ad : Nat → Nat) (MI : Nat → Nat → Int32) (ML : Nat → Nat → Int64) (MV : Nat → Int32) : Prop :=
  h m = some (.inr (10, ofM ad MV)) ∧ (∀ k, intK k = true → h (ad k) = some (.inl (o.2.1 0, lenM k, .inl (MI k)))) ∧ (∀ k, lonK k = true → h (ad k) = some (.inl (o.2.1 1, lenM k, .inr (.inl (ML k))))) ∧ (∀ i j, (intK i || lonK i) = true → (intK j || lonK j) = true → i ≠ j → ad i ≠ ad j)
def mown (m : Nat) (ad : Nat → Nat) (q : Nat) : Prop := q = m ∨ ∃ k, (intK k || lonK k) = true ∧ q = ad k
section MHS
variable {o : Om} {h h' : AH} {m : Nat} {ad : Nat → Nat} {MI : Nat → Nat → Int32} {ML : Nat → Nat → Int64} {MV : Nat → Int32}
theorem MH.m_ne (hM : MH o h m ad MI ML MV) {k : Nat} (hk : (intK k || lonK k) = true) : m ≠ ad k := fun e => by
  have h0 := hM.1
  cases hi : intK k with
  | true => have := hM.2.1 k hi; rw [← e, h0] at this; simp at this
  | false =>
    rw [hi] at hk
    have := hM.2.2.1 k hk
    rw [← e, h0] at this; simp at this
theorem MH.setI (hM : MH o h m ad MI ML MV) (k : Nat) (hk : intK k = true) (f : Nat → Int32) : MH o (hu h (ad k) (.inl (o.2.1 0, lenM k, .inl f))) m ad (va_up MI k f) ML MV := by
  have hk2 : (intK k || lonK k) = true := by rw [hk]; rfl
  refine ⟨(hu_ne _ _ (hM.m_ne hk2)).trans hM.1, fun j hj => ?_, fun j hj => ?_, hM.2.2.2⟩
  · by_cases e : j = k
    · subst e; rw [hu_eq, va_up_self]
    · rw [hu_ne _ _ (hM.2.2.2 j k (by rw [hj]; rfl) hk2 e), va_up_ne _ _ e]; exact hM.2.1 j hj
  · have e : j ≠ k := fun e => by rw [e] at hj; unfold intK lonK at *; split at hj <;> simp_all
    rw [hu_ne _ _ (hM.2.2.2 j k (by rw [hj, Bool.or_true]) hk2 e)]; exact hM.2.2.1 j hj
theorem MH.setL (hM : MH o h m ad MI ML MV) (k : Nat) (hk : lonK k = true) (f : Nat → Int64) : MH o (hu h (ad k) (.inl (o.2.1 1, lenM k, .inr (.inl f)))) m ad MI (va_up ML k f) MV := by
  have hk2 : (intK k || lonK k) = true := by rw [hk, Bool.or_true]
  refine ⟨(hu_ne _ _ (hM.m_ne hk2)).trans hM.1, fun j hj => ?_, fun j hj => ?_, hM.2.2.2⟩
  · have e : j ≠ k := fun e => by rw [e] at hj; unfold intK lonK at *; split at hk <;> simp_all
    rw [hu_ne _ _ (hM.2.2.2 j k (by rw [hj]; rfl) hk2 e)]; exact hM.2.1 j hj
  · by_cases e : j = k
    · subst e; rw [hu_eq, va_up_self]
    · rw [hu_ne _ _ (hM.2.2.2 j k (by rw [hj, Bool.or_true]) hk2 e), va_up_ne _ _ e]; exact hM.2.2.1 j hj
theorem MH.setV (hM : MH o h m ad MI ML MV) (MV' : Nat → Int32) : MH o (hu h m (.inr (10, ofM ad MV'))) m ad MI ML MV' :=
  ⟨hu_eq _ _ _, fun j hj => (hu_ne _ _ (Ne.symm (hM.m_ne (by rw [hj]; rfl)))).trans (hM.2.1 j hj), fun j hj => (hu_ne _ _ (Ne.symm (hM.m_ne (by rw [hj, Bool.or_true])))).trans (hM.2.2.1 j hj), hM.2.2.2⟩
end MHS
section MHR
variable {K : Kx} {h : AH} {cells slots : Nat} {Q : State → Prop} {pc n : Nat} {ls : List (Nat × Value)} {st : List Value} {cc : ByteArray} {nL : Nat} {own nm : String} {rm : Room} {ret : Option FieldType}
variable {m : Nat} {ad : Nat → Nat} {MI : Nat → Nat → Int32} {ML : Nat → Nat → Int64} {MV : Nat → Int32}
theorem r_ialdM {i : Int32} (C : Cx K cc nL own rm ret nm) (d : decode cc pc = .ok (.iaload, 1)) (hn : pc + 1 = n) (hM : MH (Ko K) h m ad MI ML MV) (k : Nat) (hk : intK k = true) (j : Nat) (hi : i = nI j) (hj : j < lenM k) (kk : V K h cells slots Q n ls (.int (MI k j) :: st)) : V K h cells slots Q pc ls (.int i :: .ref (ad k) :: st) :=
  r_iald C d hn (hM.2.1 k hk) j hi hj (lenM_lt k) kk
theorem r_laldM {i : Int32} (C : Cx K cc nL own rm ret nm) (d : decode cc pc = .ok (.laload, 1)) (hn : pc + 1 = n) (hM : MH (Ko K) h m ad MI ML MV) (k : Nat) (hk : lonK k = true) (j : Nat) (hi : i = nI j) (hj : j < lenM k) (kk : V K h cells slots Q n ls (.long (ML k j) :: st)) : V K h cells slots Q pc ls (.int i :: .ref (ad k) :: st) :=
  r_lald C d hn (hM.2.2.1 k hk) j hi hj (lenM_lt k) kk
theorem r_iastM {i x : Int32} (C : Cx K cc nL own rm ret nm) (d : decode cc pc = .ok (.iastore, 1)) (hn : pc + 1 = n) (hM : MH (Ko K) h m ad MI ML MV) (k : Nat) (hk : intK k = true) (j : Nat) (hi : i = nI j) (hj : j < lenM k) (kk : ∀ h' : AH, MH (Ko K) h' m ad (va_up MI k (upd (MI k) j x)) ML MV → Frm (mown m ad) h h' → V K h' cells slots Q n ls st) : V K h cells slots Q pc ls (.int x :: .int i :: .ref (ad k) :: st) :=
  r_iast C d hn (hM.2.1 k hk) j hi hj (lenM_lt k) (kk _ (hM.setI k hk _) (hu_frm.mono (fun q e => Or.inr ⟨k, by rw [hk]; rfl, e⟩)))
theorem r_lastM {i : Int32} {x : Int64} (C : Cx K cc nL own rm ret nm) (d : decode cc pc = .ok (.lastore, 1)) (hn : pc + 1 = n) (hM : MH (Ko K) h m ad MI ML MV) (k : Nat) (hk : lonK k = true) (j : Nat) (hi : i = nI j) (hj : j < lenM k) (kk : ∀ h' : AH, MH (Ko K) h' m ad MI (va_up ML k (vp_updL (ML k) j x)) MV → Frm (mown m ad) h h' → V K h' cells slots Q n ls st) : V K h cells slots Q pc ls (.long x :: .int i :: .ref (ad k) :: st) :=
  r_last C d hn (hM.2.2.1 k hk) j hi hj (lenM_lt k) (kk _ (hM.setL k hk _) (hu_frm.mono (fun q e => Or.inr ⟨k, by rw [hk, Bool.or_true], e⟩)))
theorem V.setV {fs : List Value} (hM : MH (Ko K) h m ad MI ML MV) (k : Nat) (hk : numK k = true) (x : Int32) (hfs : ofM ad (va_up MV k x) = fs) (kk : ∀ h' : AH, MH (Ko K) h' m ad MI ML (va_up MV k x) → Frm (mown m ad) h h' → V K h' cells slots Q pc ls st) : V K (hu h m (.inr (10, fs))) cells slots Q pc ls st := by
  subst hfs
  exact kk _ (hM.setV _) (hu_frm.mono (fun q e => Or.inl e))
end MHR
/-- rows in a block of the reference -/
def BL (MI : Nat → Nat → Int32) (ML : Nat → Nat → Int64) (b : Nat) (L : List Rw) : Prop := MI 4 b = nI L.length ∧ L.length ≤ 24 ∧ ∀ (i : Nat) (r : Rw), L[i]? = some r → MI 0 (b * 24 + i) = r.1.1 ∧ MI 1 (b * 24 + i) = r.1.2.1 ∧ MI 2 (b * 24 + i) = r.1.2.2 ∧ ML 3 (b * 24 + i) = r.2
/-- its work list -/
def WL (MI : Nat → Nat → Int32) (ML : Nat → Nat → Int64) (MV : Nat → Int32) (W : List Rw) : Prop := MV 9 = nI W.length ∧ W.length ≤ 600 ∧ ∀ (i : Nat) (r : Rw), W[i]? = some r → MI 5 i = r.1.1 ∧ MI 6 i = r.1.2.1 ∧ MI 7 i = r.1.2.2 ∧ ML 8 i = r.2
def emW : List Rw → Ky → Int64 → List Rw
  | [], k, w => [(k, w)]
  | r :: L, k, w => if r.1 = k then (k, r.2 + w) :: L else r :: emW L k w
theorem emW_len {L : List Rw} (k : Ky) (w : Int64) : (emW L k w).length ≤ L.length + 1 := by
  induction L with
  | nil => exact Nat.le_refl _
  | cons r L ih =>
    unfold emW; split
    · simp
    · simp only [List.length_cons]; omega
theorem emW_wt {L : List Rw} (k : Ky) (w : Int64) (k' : Ky) : wt (emW L k w) k' = wt L k' + (if k' = k then w else 0) := by
  induction L with
  | nil =>
    simp only [emW, wt]
    by_cases e : k = k'
    · simp [e]
    · simp [e, Ne.symm e]
  | cons r L ih =>
    unfold emW; split
    · next he =>
      by_cases e : k = k'
      · subst e; simp [wt, he]
      · have : ¬ r.1 = k' := by rw [he]; exact e
        simp [wt, e, Ne.symm e, this]
    · next he =>
      by_cases e : r.1 = k'
      · have : ¬ k' = k := fun z => he (e.trans z)
        simp [wt, e, this]
      · simp only [wt, if_neg e]; exact ih
theorem emW_hit {L : List Rw} {k : Ky} {w : Int64} {i : Nat} {r : Rw} (hn : ∀ (j : Nat) (q : Rw), j < i → L[j]? = some q → q.1 ≠ k) (hr : L[i]? = some r) (hk : r.1 = k) : emW L k w = L.set i (k, r.2 + w) := by
  induction L generalizing i with
  | nil => simp at hr
  | cons q L ih =>
    cases i with
    | zero =>
      simp only [List.getElem?_cons_zero, Option.some.injEq] at hr
      subst hr
      simp [emW, hk]
    | succ i =>
      have h0 := hn 0 q (by omega) rfl
      simp only [emW, if_neg h0, List.set_cons_succ]
      rw [ih (i := i) (fun j q' hj hq' => hn (j + 1) q' (by omega) (by simpa using hq')) (by simpa using hr)]
theorem emW_new {L : List Rw} {k : Ky} {w : Int64} (hn : ∀ q ∈ L, q.1 ≠ k) : emW L k w = L ++ [(k, w)] := by
  induction L with
  | nil => rfl
  | cons q L ih =>
    simp only [emW, if_neg (hn q List.mem_cons_self), List.cons_append]
    rw [ih (fun r hr => hn r (List.mem_cons_of_mem _ hr))]
set_option maxHeartbeats 4000000 in
set_option maxRecDepth 100000 in
/-- out -/
theorem c_MD_out (l : Launch) (o : Om) (h : AH) (m : Nat) (fs : List Value) (v n : Int32) (hm : h m = some (.inr (10, fs))) : Mt l o yMD_out cMD_out 3 (some .boolean) ({ frames := 0, cells := 0, slots := 0, locals := 0 } : Room) [.ref m, .int v, .int n] h (QI o (fun x h' => x = b01 (!inR v n) ∧ h' = h)) (0) (0) := by
  refine Met.ofV (by decide) (Nat.le_of_ble_eq_true rfl) (fun K hl ho C => ?_)
  subst hl; subst ho
  refine r_iload_n (n := 1) C dMD_out_0 rfl rfl ?_
  refine r_if_lt (tgt := 9) (n := 4) C dMD_out_1 (by decide) rfl (fun c_1 => ?_) (fun c_1 => ?_)
  · have hz : inR v n = false := by unfold inR; rw [decide_eq_false (p := ¬ v < 0) (fun q => q c_1)]; rfl
    refine r_iconst (v := 1) (n := 10) C dMD_out_9 rfl (by decide) ?_
    refine r_goto (tgt := 14) C dMD_out_10 (by decide) ?_
    exact r_zret C dMD_out_14 rfl (Nat.le_refl _) (Nat.le_refl _) ⟨by rw [hz]; rfl, rfl⟩
  · refine r_iload_n (n := 5) C dMD_out_4 rfl rfl ?_
    refine r_iload_n (n := 6) C dMD_out_5 rfl rfl ?_
    refine r_icmp_lt (tgt := 13) (n := 9) C dMD_out_6 (by decide) rfl (fun c_6 => ?_) (fun c_6 => ?_)
    · have hz : inR v n = true := by unfold inR; rw [decide_eq_true (Int32.not_le.mpr c_6), decide_eq_true c_1]; rfl
      refine r_iconst (v := 0) (n := 14) C dMD_out_13 rfl (by decide) ?_
      exact r_zret C dMD_out_14 rfl (Nat.le_refl _) (Nat.le_refl _) ⟨by rw [hz]; rfl, rfl⟩
    · have hz : inR v n = false := by unfold inR; rw [decide_eq_false (p := ¬ n ≤ v) (fun q => q (Int32.not_lt.mp c_6)), Bool.and_false]
      refine r_iconst (v := 1) (n := 10) C dMD_out_9 rfl (by decide) ?_
      refine r_goto (tgt := 14) C dMD_out_10 (by decide) ?_
      exact r_zret C dMD_out_14 rfl (Nat.le_refl _) (Nat.le_refl _) ⟨by rw [hz]; rfl, rfl⟩
set_option maxHeartbeats 4000000 in
set_option maxRecDepth 100000 in
/-- column -/
theorem c_MD_column (l : Launch) (o : Om) (h : AH) (m : Nat) (ad : Nat → Nat) (MI : Nat → Nat → Int32) (ML : Nat → Nat → Int64) (MV : Nat → Int32) (a c : Nat) (k : Ky) (hM : MH o h m ad MI ML MV) (ha : a < 624) (hc : c < 3) (h0 : MI 0 a = k.1) (h1 : MI 1 a = k.2.1) (h2 : MI 2 a = k.2.2) : Mt l o yMD_column cMD_column 3 (some .int) ({ frames := 0, cells := 0, slots := 0, locals := 0 } : Room) [.ref m, .int (nI a), .int (nI c)] h (QI o (fun x h' => x = colv k c ∧ h' = h)) (0) (0) := by
  refine Met.ofV (by decide) (Nat.le_of_ble_eq_true rfl) (fun K hl ho C => ?_)
  subst hl; subst ho
  refine r_iload_n (n := 1) C dMD_column_0 rfl rfl ?_
  refine r_if_ne (tgt := 13) (n := 4) C dMD_column_1 (by decide) rfl (fun c_1 => ?_) (fun c_1 => ?_)
  · refine r_iload_n (n := 14) C dMD_column_13 rfl rfl ?_
    refine r_iconst (v := 1) (n := 15) C dMD_column_14 rfl (by decide) ?_
    refine r_icmp_ne (tgt := 27) (n := 18) C dMD_column_15 (by decide) rfl (fun c_15 => ?_) (fun c_15 => ?_)
    · have hc2 : c = 2 := by
        have h1 : c ≠ 0 := fun e => c_1 (by rw [e]; rfl)
        have h2 : c ≠ 1 := fun e => c_15 (by rw [e]; rfl)
        omega
      subst hc2
      refine r_aload_n (n := 28) C dMD_column_27 rfl rfl ?_
      refine r_get (ci := 10) (n := 31) C hinMD rfl 2 (by decide) tw_537 rfl dMD_column_28 rfl hM.1 rfl ?_
      refine r_iload_n (n := 32) C dMD_column_31 rfl rfl ?_
      refine r_ialdM (n := 33) C dMD_column_32 rfl hM 2 (by decide) a rfl (by show _ < 624; omega) ?_
      exact r_iret C dMD_column_33 (Nat.le_refl _) (Nat.le_refl _) ⟨h2, rfl⟩
    · have hc1 : c = 1 := (nI_eq (a := c) (b := 1) (by omega) (by omega)).mp c_15
      subst hc1
      refine r_aload_n (n := 19) C dMD_column_18 rfl rfl ?_
      refine r_get (ci := 10) (n := 22) C hinMD rfl 1 (by decide) tw_536 rfl dMD_column_19 rfl hM.1 rfl ?_
      refine r_iload_n (n := 23) C dMD_column_22 rfl rfl ?_
      refine r_ialdM (n := 24) C dMD_column_23 rfl hM 1 (by decide) a rfl (by show _ < 624; omega) ?_
      refine r_goto (tgt := 33) C dMD_column_24 (by decide) ?_
      exact r_iret C dMD_column_33 (Nat.le_refl _) (Nat.le_refl _) ⟨h1, rfl⟩
  · have hc0 : c = 0 := (nI_eq (a := c) (b := 0) (by omega) (by omega)).mp c_1
    subst hc0
    refine r_aload_n (n := 5) C dMD_column_4 rfl rfl ?_
    refine r_get (ci := 10) (n := 8) C hinMD rfl 0 (by decide) tw_535 rfl dMD_column_5 rfl hM.1 rfl ?_
    refine r_iload_n (n := 9) C dMD_column_8 rfl rfl ?_
    refine r_ialdM (n := 10) C dMD_column_9 rfl hM 0 (by decide) a rfl (by show _ < 624; omega) ?_
    refine r_goto (tgt := 33) C dMD_column_10 (by decide) ?_
    exact r_iret C dMD_column_33 (Nat.le_refl _) (Nat.le_refl _) ⟨h0, rfl⟩
set_option maxHeartbeats 4000000 in
set_option maxRecDepth 100000 in
/-- passes -/
theorem c_MD_passes (l : Launch) (o : Om) (h : AH) (m t : Nat) (v n : Int32) (ht : t < 4) : Mt l o yMD_passes cMD_passes 4 (some .boolean) ({ frames := 0, cells := 0, slots := 0, locals := 0 } : Room) [.ref m, .int v, .int (nI t), .int n] h (QI o (fun x h' => x = b01 (letsF t n v) ∧ h' = h)) (0) (0) := by
  refine Met.ofV (by decide) (Nat.le_of_ble_eq_true rfl) (fun K hl ho C => ?_)
  subst hl; subst ho
  rcases (show t = 0 ∨ t = 1 ∨ t = 2 ∨ t = 3 by omega) with e | e | e | e <;> subst e
  · refine r_iload_n (n := 1) C dMD_passes_0 rfl rfl ?_
    refine r_if_ne (tgt := 15) (n := 4) C dMD_passes_1 (by decide) rfl (fun c_1 => ?_) (fun c_1 => ?_)
    · exact absurd rfl c_1
    · refine r_iload_n (n := 5) C dMD_passes_4 rfl rfl ?_
      refine r_iload_n (n := 6) C dMD_passes_5 rfl rfl ?_
      refine r_icmp_ne (tgt := 13) (n := 9) C dMD_passes_6 (by decide) rfl (fun c_6 => ?_) (fun c_6 => ?_)
      · refine r_iconst (v := 0) (n := 14) C dMD_passes_13 rfl (by decide) ?_
        exact r_zret C dMD_passes_14 rfl (Nat.le_refl _) (Nat.le_refl _) ⟨by simp [letsF, b01, *], rfl⟩
      · refine r_iconst (v := 1) (n := 10) C dMD_passes_9 rfl (by decide) ?_
        refine r_goto (tgt := 14) C dMD_passes_10 (by decide) ?_
        exact r_zret C dMD_passes_14 rfl (Nat.le_refl _) (Nat.le_refl _) ⟨by simp [letsF, b01, *], rfl⟩
  · refine r_iload_n (n := 1) C dMD_passes_0 rfl rfl ?_
    refine r_if_ne (tgt := 15) (n := 4) C dMD_passes_1 (by decide) rfl (fun c_1 => ?_) (fun c_1 => ?_)
    · refine r_iload_n (n := 16) C dMD_passes_15 rfl rfl ?_
      refine r_iconst (v := 1) (n := 17) C dMD_passes_16 rfl (by decide) ?_
      refine r_icmp_ne (tgt := 31) (n := 20) C dMD_passes_17 (by decide) rfl (fun c_17 => ?_) (fun c_17 => ?_)
      · exact absurd rfl c_17
      · refine r_iload_n (n := 21) C dMD_passes_20 rfl rfl ?_
        refine r_iload_n (n := 22) C dMD_passes_21 rfl rfl ?_
        refine r_icmp_ge (tgt := 29) (n := 25) C dMD_passes_22 (by decide) rfl (fun c_22 => ?_) (fun c_22 => ?_)
        · refine r_iconst (v := 0) (n := 30) C dMD_passes_29 rfl (by decide) ?_
          exact r_zret C dMD_passes_30 rfl (Nat.le_refl _) (Nat.le_refl _) ⟨by simp [letsF, b01, *], rfl⟩
        · refine r_iconst (v := 1) (n := 26) C dMD_passes_25 rfl (by decide) ?_
          refine r_goto (tgt := 30) C dMD_passes_26 (by decide) ?_
          exact r_zret C dMD_passes_30 rfl (Nat.le_refl _) (Nat.le_refl _) ⟨by simp [letsF, b01, *], rfl⟩
    · exact absurd c_1 (by decide)
  · refine r_iload_n (n := 1) C dMD_passes_0 rfl rfl ?_
    refine r_if_ne (tgt := 15) (n := 4) C dMD_passes_1 (by decide) rfl (fun c_1 => ?_) (fun c_1 => ?_)
    · refine r_iload_n (n := 16) C dMD_passes_15 rfl rfl ?_
      refine r_iconst (v := 1) (n := 17) C dMD_passes_16 rfl (by decide) ?_
      refine r_icmp_ne (tgt := 31) (n := 20) C dMD_passes_17 (by decide) rfl (fun c_17 => ?_) (fun c_17 => ?_)
      · refine r_iload_n (n := 32) C dMD_passes_31 rfl rfl ?_
        refine r_iconst (v := 2) (n := 33) C dMD_passes_32 rfl (by decide) ?_
        refine r_icmp_ne (tgt := 49) (n := 36) C dMD_passes_33 (by decide) rfl (fun c_33 => ?_) (fun c_33 => ?_)
        · exact absurd rfl c_33
        · refine r_iload_n (n := 37) C dMD_passes_36 rfl rfl ?_
          refine r_iload_n (n := 38) C dMD_passes_37 rfl rfl ?_
          refine r_icmp_le (tgt := 45) (n := 41) C dMD_passes_38 (by decide) rfl (fun c_38 => ?_) (fun c_38 => ?_)
          · refine r_iconst (v := 0) (n := 46) C dMD_passes_45 rfl (by decide) ?_
            refine r_goto (tgt := 59) C dMD_passes_46 (by decide) ?_
            exact r_zret C dMD_passes_59 rfl (Nat.le_refl _) (Nat.le_refl _) ⟨by simp [letsF, b01, *], rfl⟩
          · refine r_iconst (v := 1) (n := 42) C dMD_passes_41 rfl (by decide) ?_
            refine r_goto (tgt := 59) C dMD_passes_42 (by decide) ?_
            exact r_zret C dMD_passes_59 rfl (Nat.le_refl _) (Nat.le_refl _) ⟨by simp [letsF, b01, *], rfl⟩
      · exact absurd c_17 (by decide)
    · exact absurd c_1 (by decide)
  · refine r_iload_n (n := 1) C dMD_passes_0 rfl rfl ?_
    refine r_if_ne (tgt := 15) (n := 4) C dMD_passes_1 (by decide) rfl (fun c_1 => ?_) (fun c_1 => ?_)
    · refine r_iload_n (n := 16) C dMD_passes_15 rfl rfl ?_
      refine r_iconst (v := 1) (n := 17) C dMD_passes_16 rfl (by decide) ?_
      refine r_icmp_ne (tgt := 31) (n := 20) C dMD_passes_17 (by decide) rfl (fun c_17 => ?_) (fun c_17 => ?_)
      · refine r_iload_n (n := 32) C dMD_passes_31 rfl rfl ?_
        refine r_iconst (v := 2) (n := 33) C dMD_passes_32 rfl (by decide) ?_
        refine r_icmp_ne (tgt := 49) (n := 36) C dMD_passes_33 (by decide) rfl (fun c_33 => ?_) (fun c_33 => ?_)
        · refine r_iload_n (n := 50) C dMD_passes_49 rfl rfl ?_
          refine r_iload_n (n := 51) C dMD_passes_50 rfl rfl ?_
          refine r_icmp_eq (tgt := 58) (n := 54) C dMD_passes_51 (by decide) rfl (fun c_51 => ?_) (fun c_51 => ?_)
          · refine r_iconst (v := 0) (n := 59) C dMD_passes_58 rfl (by decide) ?_
            exact r_zret C dMD_passes_59 rfl (Nat.le_refl _) (Nat.le_refl _) ⟨by simp [letsF, b01, *], rfl⟩
          · refine r_iconst (v := 1) (n := 55) C dMD_passes_54 rfl (by decide) ?_
            refine r_goto (tgt := 59) C dMD_passes_55 (by decide) ?_
            exact r_zret C dMD_passes_59 rfl (Nat.le_refl _) (Nat.le_refl _) ⟨by simp [letsF, b01, *], rfl⟩
        · exact absurd c_33 (by decide)
      · exact absurd c_17 (by decide)
    · exact absurd c_1 (by decide)
