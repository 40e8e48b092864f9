/-! PENDING: the list of changes (a table, a row, a number) -/
abbrev Pn : Type := Int32 × Ky × Int32
def PEnc (ft fv fb : Nat → Int32) (pl : List Pn) : Prop := ∀ (i : Nat) (e : Pn), pl[i]? = some e → ft i = e.1 ∧ fv (i * 3) = e.2.1.1 ∧ fv (i * 3 + 1) = e.2.1.2.1 ∧ fv (i * 3 + 2) = e.2.1.2.2 ∧ fb i = e.2.2
def PA0 (o : Om) (h : AH) (P : Nat × Nat × Nat × Nat) (ft fv fb : Nat → Int32) (pl : List Pn) : Prop := h P.1 = some (.inr (1, [.ref P.2.1, .ref P.2.2.1, .ref P.2.2.2, .int (nI pl.length)])) ∧ h P.2.1 = some (.inl (o.2.1 0, 12, .inl ft)) ∧ h P.2.2.1 = some (.inl (o.2.1 0, 36, .inl fv)) ∧ h P.2.2.2 = some (.inl (o.2.1 0, 12, .inl fb)) ∧ pl.length ≤ 12 ∧ PEnc ft fv fb pl ∧ P.2.1 ≠ P.2.2.1 ∧ P.2.1 ≠ P.2.2.2 ∧ P.2.2.1 ≠ P.2.2.2
def PA (o : Om) (h : AH) (P : Nat × Nat × Nat × Nat) (pl : List Pn) : Prop := ∃ ft fv fb, PA0 o h P ft fv fb pl
def POff (P : Nat × Nat × Nat × Nat) (h h' : AH) : Prop := ∀ q : Nat, q ≠ P.1 → q ≠ P.2.1 → q ≠ P.2.2.1 → q ≠ P.2.2.2 → h' q = h q
/-- none of its arrays is the ints of A -/
def PD (P A : Nat × Nat × Nat × Nat) : Prop := P.2.1 ≠ A.2.1 ∧ P.2.2.1 ≠ A.2.1 ∧ P.2.2.2 ≠ A.2.1
theorem PA0.keep {o : Om} {h h' : AH} {P A : Nat × Nat × Nat × Nat} {ft fv fb : Nat → Int32} {pl : List Pn} {f : Nat → Int32} {g : Nat → Int64} {L : List Rw} (hA : RA0 o h A f g L) (hP : PA0 o h P ft fv fb pl) (d : PD P A) (off : Off A h h') : PA0 o h' P ft fv fb pl := by
  obtain ⟨a1, a2, a3, -, -, -⟩ := hA
  obtain ⟨b1, b2, b3, b4, b5, b6, b7⟩ := hP
  refine ⟨(off _ (fun e => ?_) (fun e => ?_) (fun e => ?_)).trans b1, (off _ (fun e => ?_) d.1 (fun e => ?_)).trans b2, (off _ (fun e => ?_) d.2.1 (fun e => ?_)).trans b3, (off _ (fun e => ?_) d.2.2 (fun e => ?_)).trans b4, b5, b6, b7⟩
  · rw [e, a1] at b1; simp at b1
  · rw [e, a2] at b1; simp at b1
  · rw [e, a3] at b1; simp at b1
  · rw [e, a1] at b2; simp at b2
  · rw [e, a3] at b2; simp at b2
  · rw [e, a1] at b3; simp at b3
  · rw [e, a3] at b3; simp at b3
  · rw [e, a1] at b4; simp at b4
  · rw [e, a3] at b4; simp at b4
theorem RA0.keepP {o : Om} {h h' : AH} {P A : Nat × Nat × Nat × Nat} {ft fv fb : Nat → Int32} {pl : List Pn} {f : Nat → Int32} {g : Nat → Int64} {L : List Rw} (hA : RA0 o h A f g L) (hP : PA0 o h P ft fv fb pl) (d : PD P A) (off : POff P h h') : RA0 o h' A f g L := by
  obtain ⟨a1, a2, a3, a4, a5, a6⟩ := hA
  obtain ⟨b1, b2, b3, b4, -, -, -⟩ := hP
  refine ⟨(off _ (fun e => ?_) (fun e => ?_) (fun e => ?_) (fun e => ?_)).trans a1, (off _ (fun e => ?_) d.1.symm d.2.1.symm d.2.2.symm).trans a2, (off _ (fun e => ?_) (fun e => ?_) (fun e => ?_) (fun e => ?_)).trans a3, a4, a5, a6⟩
  · rw [e, b1] at a1; simp at a1
  · rw [e, b2] at a1; simp at a1
  · rw [e, b3] at a1; simp at a1
  · rw [e, b4] at a1; simp at a1
  · rw [e, b1] at a2; simp at a2
  · rw [e, b1] at a3; simp at a3
  · rw [e, b2] at a3; simp at a3
  · rw [e, b3] at a3; simp at a3
  · rw [e, b4] at a3; simp at a3
def addP (t : Int32) (L : List Rw) (pl : List Pn) : List Rw := pl.foldl (fun L e => if e.1 = t then addW L e.2.1 e.2.2.toInt64 else L) L
theorem addP_take {t : Int32} {L : List Rw} {pl : List Pn} {i : Nat} {e : Pn} (h : pl[i]? = some e) : addP t L (pl.take (i + 1)) = if e.1 = t then addW (addP t L (pl.take i)) e.2.1 e.2.2.toInt64 else addP t L (pl.take i) := by
  unfold addP
  rw [List.take_succ, h]
  simp [List.foldl_append]
theorem addP_srt {t : Int32} {L : List Rw} (pl : List Pn) (h : Srt L) : Srt (addP t L pl) := by
  induction pl generalizing L with
  | nil => exact h
  | cons e pl ih =>
    show Srt (addP t (if e.1 = t then addW L e.2.1 e.2.2.toInt64 else L) pl)
    apply ih
    split
    · exact addW_srt _ _ h
    · exact h
theorem addP_len {t : Int32} {L : List Rw} (pl : List Pn) : (addP t L pl).length ≤ L.length + pl.length := by
  induction pl generalizing L with
  | nil => exact Nat.le_refl _
  | cons e pl ih =>
    show (addP t (if e.1 = t then addW L e.2.1 e.2.2.toInt64 else L) pl).length ≤ _
    have := ih (L := if e.1 = t then addW L e.2.1 e.2.2.toInt64 else L)
    have h2 : (if e.1 = t then addW L e.2.1 e.2.2.toInt64 else L).length ≤ L.length + 1 := by
      split
      · exact addW_len _ _
      · omega
    simp only [List.length_cons]
    omega
theorem PEnc_snoc {ft fv fb ft' fv' fb' : Nat → Int32} {pl : List Pn} {e : Pn} (h : PEnc ft fv fb pl) (h1 : ∀ j, j < pl.length → ft' j = ft j) (h2 : ∀ j, j < pl.length * 3 → fv' j = fv j) (h3 : ∀ j, j < pl.length → fb' j = fb j) (he : ft' pl.length = e.1 ∧ fv' (pl.length * 3) = e.2.1.1 ∧ fv' (pl.length * 3 + 1) = e.2.1.2.1 ∧ fv' (pl.length * 3 + 2) = e.2.1.2.2 ∧ fb' pl.length = e.2.2) : PEnc ft' fv' fb' (pl ++ [e]) := by
  intro i q hq
  by_cases hi : i < pl.length
  · rw [List.getElem?_append_left hi] at hq
    obtain ⟨e1, e2, e3, e4, e5⟩ := h i q hq
    exact ⟨by rw [h1 _ hi]; exact e1, by rw [h2 _ (by omega)]; exact e2, by rw [h2 _ (by omega)]; exact e3, by rw [h2 _ (by omega)]; exact e4, by rw [h3 _ hi]; exact e5⟩
  · rw [List.getElem?_append_right (by omega)] at hq
    have hz := (List.getElem?_eq_some_iff.mp hq).1
    have e : i = pl.length := by simp at hz; omega
    subst e
    rw [Nat.sub_self] at hq
    cases hq
    exact he
theorem PA0.ne {o : Om} {h : AH} {P : Nat × Nat × Nat × Nat} {ft fv fb : Nat → Int32} {pl : List Pn} (hP : PA0 o h P ft fv fb pl) : P.1 ≠ P.2.1 ∧ P.1 ≠ P.2.2.1 ∧ P.1 ≠ P.2.2.2 := by
  obtain ⟨b1, b2, b3, b4, -, -, -⟩ := hP
  refine ⟨fun e => ?_, fun e => ?_, fun e => ?_⟩
  · rw [e, b2] at b1; simp at b1
  · rw [e, b3] at b1; simp at b1
  · rw [e, b4] at b1; simp at b1
theorem POff.rf {P : Nat × Nat × Nat × Nat} {h : AH} : POff P h h := fun _ _ _ _ _ => rfl
theorem POff.p1 {P : Nat × Nat × Nat × Nat} {h h1 : AH} (a : POff P h h1) (x : va_E) : POff P h (hu h1 P.1 x) := fun q q1 q2 q3 q4 => (hu_ne _ _ q1).trans (a q q1 q2 q3 q4)
theorem POff.p2 {P : Nat × Nat × Nat × Nat} {h h1 : AH} (a : POff P h h1) (x : va_E) : POff P h (hu h1 P.2.1 x) := fun q q1 q2 q3 q4 => (hu_ne _ _ q2).trans (a q q1 q2 q3 q4)
theorem POff.p3 {P : Nat × Nat × Nat × Nat} {h h1 : AH} (a : POff P h h1) (x : va_E) : POff P h (hu h1 P.2.2.1 x) := fun q q1 q2 q3 q4 => (hu_ne _ _ q3).trans (a q q1 q2 q3 q4)
theorem POff.p4 {P : Nat × Nat × Nat × Nat} {h h1 : AH} (a : POff P h h1) (x : va_E) : POff P h (hu h1 P.2.2.2 x) := fun q q1 q2 q3 q4 => (hu_ne _ _ q4).trans (a q q1 q2 q3 q4)
set_option maxHeartbeats 4000000 in
set_option maxRecDepth 100000 in
/-- Pending.size -/
theorem c_PD_size (l : Launch) (o : Om) (h : AH) (P : Nat × Nat × Nat × Nat) (ft fv fb : Nat → Int32) (pl : List Pn) (hR : PA0 o h P ft fv fb pl) : Mt l o yPD_size cPD_size 1 (some .int) ({ frames := 0, cells := 0, slots := 0, locals := 0 } : Room) [.ref P.1] h (QI o (fun r h' => r = nI pl.length ∧ h' = h)) (0) (0) := by
  refine Met.ofV (by decide) (Nat.le_of_ble_eq_true rfl) (fun K hl ho C => ?_)
  subst hl; subst ho
  obtain ⟨hp1, hp2, hp3, hp4, hn, hE, m23, m24, m34⟩ := id hR
  obtain ⟨m12, m13, m14⟩ := hR.ne
  refine r_aload_n (n := 1) C dPD_size_0 rfl rfl ?_
  refine r_get (ci := 1) (n := 4) C hinPD rfl 3 (by decide) tw_54 rfl dPD_size_1 rfl (by assumption) rfl ?_
  exact r_iret C dPD_size_4 (Nat.le_refl _) (Nat.le_refl _) ⟨rfl, rfl⟩
set_option maxHeartbeats 4000000 in
set_option maxRecDepth 100000 in
/-- Pending.clear -/
theorem c_PD_clear (l : Launch) (o : Om) (h : AH) (P : Nat × Nat × Nat × Nat) (ft fv fb : Nat → Int32) (pl : List Pn) (hR : PA0 o h P ft fv fb pl) : Mt l o yPD_clear cPD_clear 1 none ({ frames := 0, cells := 0, slots := 0, locals := 0 } : Room) [.ref P.1] h (QV o (fun h' => PA o h' P [] ∧ POff P h h')) (0) (0) := by
  refine Met.ofV (by decide) (Nat.le_of_ble_eq_true rfl) (fun K hl ho C => ?_)
  subst hl; subst ho
  obtain ⟨hp1, hp2, hp3, hp4, hn, hE, m23, m24, m34⟩ := id hR
  obtain ⟨m12, m13, m14⟩ := hR.ne
  refine r_aload_n (n := 1) C dPD_clear_0 rfl rfl ?_
  refine r_iconst (v := 0) (n := 2) C dPD_clear_1 rfl (by decide) ?_
  refine r_put (ci := 1) (n := 5) C hinPD tyPD okPD nmPD rfl 3 (by decide) tw_54 rfl rfl (okPD 3 (by decide)) rfl rfl dPD_clear_2 rfl (by assumption) (Nat.le_of_ble_eq_true rfl) ?_
  generalize eh1 : hu h P.1 _ = h1
  have hp1_1 := (congrFun eh1.symm P.1).trans (hu_eq _ _ _)
  have hp2_1 := ((congrFun eh1.symm P.2.1).trans (hu_ne _ _ (Ne.symm m12))).trans hp2
  have hp3_1 := ((congrFun eh1.symm P.2.2.1).trans (hu_ne _ _ (Ne.symm m13))).trans hp3
  have hp4_1 := ((congrFun eh1.symm P.2.2.2).trans (hu_ne _ _ (Ne.symm m14))).trans hp4
  have hO1 : POff P h h1 := eh1 ▸ POff.p1 POff.rf _
  exact r_vret C dPD_clear_5 (Nat.le_refl _) (Nat.le_refl _) ⟨⟨ft, fv, fb, hp1_1, hp2_1, hp3_1, hp4_1, Nat.zero_le _, (fun i e h0 => by simp at h0), m23, m24, m34⟩, hO1⟩
set_option maxHeartbeats 4000000 in
set_option maxRecDepth 100000 in
/-- Pending.append -/
theorem c_PD_append (l : Launch) (o : Om) (h : AH) (P : Nat × Nat × Nat × Nat) (ft fv fb : Nat → Int32) (pl : List Pn) (t a b c y : Int32) (hR : PA0 o h P ft fv fb pl) (hroom : pl.length < 12) : Mt l o yPD_append cPD_append 7 none ({ frames := 0, cells := 0, slots := 0, locals := 0 } : Room) [.ref P.1, .int t, .int a, .int b, .int c, .int y] h (QV o (fun h' => PA o h' P (pl ++ [(t, (a, b, c), y)]) ∧ POff P h h')) (0) (0) := by
  refine Met.ofV (by decide) (Nat.le_of_ble_eq_true rfl) (fun K hl ho C => ?_)
  subst hl; subst ho
  obtain ⟨hp1, hp2, hp3, hp4, hn, hE, m23, m24, m34⟩ := id hR
  obtain ⟨m12, m13, m14⟩ := hR.ne
  refine r_aload_n (n := 1) C dPD_append_0 rfl rfl ?_
  refine r_get (ci := 1) (n := 4) C hinPD rfl 3 (by decide) tw_54 rfl dPD_append_1 rfl (by assumption) rfl ?_
  refine r_bipush (v := 12) (n := 6) C dPD_append_4 rfl (by decide) ?_
  refine r_icmp_lt (tgt := 10) (n := 9) C dPD_append_6 (by decide) rfl (fun c_6 => ?_) (fun c_6 => ?_)
  · refine r_aload_n (n := 11) C dPD_append_10 rfl rfl ?_
    refine r_get (ci := 1) (n := 14) C hinPD rfl 3 (by decide) tw_54 rfl dPD_append_11 rfl (by assumption) rfl ?_
    refine r_iconst (v := 3) (n := 15) C dPD_append_14 rfl (by decide) ?_
    refine r_imul (n := 16) C dPD_append_15 rfl ?_
    refine r_istore (n := 18) C dPD_append_16 rfl (by decide) ?_
    refine r_aload_n (n := 19) C dPD_append_18 rfl rfl ?_
    refine r_get (ci := 1) (n := 22) C hinPD rfl 0 (by decide) tw_51 rfl dPD_append_19 rfl (by assumption) rfl ?_
    refine r_aload_n (n := 23) C dPD_append_22 rfl rfl ?_
    refine r_get (ci := 1) (n := 26) C hinPD rfl 3 (by decide) tw_54 rfl dPD_append_23 rfl (by assumption) rfl ?_
    refine r_iload_n (n := 27) C dPD_append_26 rfl rfl ?_
    refine r_iast (n := 28) C dPD_append_27 rfl hp2 pl.length rfl (by omega) (by omega) ?_
    generalize eh1 : hu h P.2.1 _ = h1
    have hp1_1 := ((congrFun eh1.symm P.1).trans (hu_ne _ _ m12)).trans hp1
    have hp2_1 := (congrFun eh1.symm P.2.1).trans (hu_eq _ _ _)
    have hp3_1 := ((congrFun eh1.symm P.2.2.1).trans (hu_ne _ _ (Ne.symm m23))).trans hp3
    have hp4_1 := ((congrFun eh1.symm P.2.2.2).trans (hu_ne _ _ (Ne.symm m24))).trans hp4
    have hO1 : POff P h h1 := eh1 ▸ POff.p2 POff.rf _
    refine r_aload_n (n := 29) C dPD_append_28 rfl rfl ?_
    refine r_get (ci := 1) (n := 32) C hinPD rfl 1 (by decide) tw_52 rfl dPD_append_29 rfl (by assumption) rfl ?_
    refine r_iload (n := 34) C dPD_append_32 rfl rfl ?_
    refine r_iload_n (n := 35) C dPD_append_34 rfl rfl ?_
    refine r_iast (n := 36) C dPD_append_35 rfl hp3_1 (pl.length * 3) (ix0 _) (by omega) (by omega) ?_
    generalize eh2 : hu h1 P.2.2.1 _ = h2
    have hp1_2 := ((congrFun eh2.symm P.1).trans (hu_ne _ _ m13)).trans hp1_1
    have hp2_2 := ((congrFun eh2.symm P.2.1).trans (hu_ne _ _ m23)).trans hp2_1
    have hp3_2 := (congrFun eh2.symm P.2.2.1).trans (hu_eq _ _ _)
    have hp4_2 := ((congrFun eh2.symm P.2.2.2).trans (hu_ne _ _ (Ne.symm m34))).trans hp4_1
    have hO2 : POff P h h2 := eh2 ▸ POff.p3 hO1 _
    refine r_aload_n (n := 37) C dPD_append_36 rfl rfl ?_
    refine r_get (ci := 1) (n := 40) C hinPD rfl 1 (by decide) tw_52 rfl dPD_append_37 rfl (by assumption) rfl ?_
    refine r_iload (n := 42) C dPD_append_40 rfl rfl ?_
    refine r_iconst (v := 1) (n := 43) C dPD_append_42 rfl (by decide) ?_
    refine r_iadd (n := 44) C dPD_append_43 rfl ?_
    refine r_iload_n (n := 45) C dPD_append_44 rfl rfl ?_
    refine r_iast (n := 46) C dPD_append_45 rfl hp3_2 (pl.length * 3 + 1) (ix1 _) (by omega) (by omega) ?_
    generalize eh3 : hu h2 P.2.2.1 _ = h3
    have hp1_3 := ((congrFun eh3.symm P.1).trans (hu_ne _ _ m13)).trans hp1_2
    have hp2_3 := ((congrFun eh3.symm P.2.1).trans (hu_ne _ _ m23)).trans hp2_2
    have hp3_3 := (congrFun eh3.symm P.2.2.1).trans (hu_eq _ _ _)
    have hp4_3 := ((congrFun eh3.symm P.2.2.2).trans (hu_ne _ _ (Ne.symm m34))).trans hp4_2
    have hO3 : POff P h h3 := eh3 ▸ POff.p3 hO2 _
    refine r_aload_n (n := 47) C dPD_append_46 rfl rfl ?_
    refine r_get (ci := 1) (n := 50) C hinPD rfl 1 (by decide) tw_52 rfl dPD_append_47 rfl (by assumption) rfl ?_
    refine r_iload (n := 52) C dPD_append_50 rfl rfl ?_
    refine r_iconst (v := 2) (n := 53) C dPD_append_52 rfl (by decide) ?_
    refine r_iadd (n := 54) C dPD_append_53 rfl ?_
    refine r_iload (n := 56) C dPD_append_54 rfl rfl ?_
    refine r_iast (n := 57) C dPD_append_56 rfl hp3_3 (pl.length * 3 + 2) (ix2 _) (by omega) (by omega) ?_
    generalize eh4 : hu h3 P.2.2.1 _ = h4
    have hp1_4 := ((congrFun eh4.symm P.1).trans (hu_ne _ _ m13)).trans hp1_3
    have hp2_4 := ((congrFun eh4.symm P.2.1).trans (hu_ne _ _ m23)).trans hp2_3
    have hp3_4 := (congrFun eh4.symm P.2.2.1).trans (hu_eq _ _ _)
    have hp4_4 := ((congrFun eh4.symm P.2.2.2).trans (hu_ne _ _ (Ne.symm m34))).trans hp4_3
    have hO4 : POff P h h4 := eh4 ▸ POff.p3 hO3 _
    refine r_aload_n (n := 58) C dPD_append_57 rfl rfl ?_
    refine r_get (ci := 1) (n := 61) C hinPD rfl 2 (by decide) tw_53 rfl dPD_append_58 rfl (by assumption) rfl ?_
    refine r_aload_n (n := 62) C dPD_append_61 rfl rfl ?_
    refine r_get (ci := 1) (n := 65) C hinPD rfl 3 (by decide) tw_54 rfl dPD_append_62 rfl (by assumption) rfl ?_
    refine r_iload (n := 67) C dPD_append_65 rfl rfl ?_
    refine r_iast (n := 68) C dPD_append_67 rfl hp4_4 pl.length rfl (by omega) (by omega) ?_
    generalize eh5 : hu h4 P.2.2.2 _ = h5
    have hp1_5 := ((congrFun eh5.symm P.1).trans (hu_ne _ _ m14)).trans hp1_4
    have hp2_5 := ((congrFun eh5.symm P.2.1).trans (hu_ne _ _ m24)).trans hp2_4
    have hp3_5 := ((congrFun eh5.symm P.2.2.1).trans (hu_ne _ _ m34)).trans hp3_4
    have hp4_5 := (congrFun eh5.symm P.2.2.2).trans (hu_eq _ _ _)
    have hO5 : POff P h h5 := eh5 ▸ POff.p4 hO4 _
    refine r_aload_n (n := 69) C dPD_append_68 rfl rfl ?_
    refine r_dup (n := 70) C dPD_append_69 rfl rfl ?_
    refine r_get (ci := 1) (n := 73) C hinPD rfl 3 (by decide) tw_54 rfl dPD_append_70 rfl (by assumption) rfl ?_
    refine r_iconst (v := 1) (n := 74) C dPD_append_73 rfl (by decide) ?_
    refine r_iadd (n := 75) C dPD_append_74 rfl ?_
    refine V.eqi (nI_1 _) ?_
    refine r_put (ci := 1) (n := 78) C hinPD tyPD okPD nmPD rfl 3 (by decide) tw_54 rfl rfl (okPD 3 (by decide)) rfl rfl dPD_append_75 rfl hp1_5 (Nat.le_of_ble_eq_true rfl) ?_
    generalize eh6 : hu h5 P.1 _ = h6
    have hp1_6 := (congrFun eh6.symm P.1).trans (hu_eq _ _ _)
    have hp2_6 := ((congrFun eh6.symm P.2.1).trans (hu_ne _ _ (Ne.symm m12))).trans hp2_5
    have hp3_6 := ((congrFun eh6.symm P.2.2.1).trans (hu_ne _ _ (Ne.symm m13))).trans hp3_5
    have hp4_6 := ((congrFun eh6.symm P.2.2.2).trans (hu_ne _ _ (Ne.symm m14))).trans hp4_5
    have hO6 : POff P h h6 := eh6 ▸ POff.p1 hO5 _
    exact r_vret C dPD_append_78 (Nat.le_refl _) (Nat.le_refl _) ⟨⟨_, _, _, hp1_6.trans (by rw [List.length_append]; rfl), hp2_6, hp3_6, hp4_6, by rw [List.length_append]; exact hroom, PEnc_snoc hE (fun j hj => pk_un (by omega)) (fun j hj => by rw [pk_un (by omega), pk_un (by omega), pk_un (by omega)]) (fun j hj => pk_un (by omega)) ⟨pk_us, by rw [pk_un (by omega), pk_un (by omega), pk_us], by rw [pk_un (by omega), pk_us], pk_us, pk_us⟩, m23, m24, m34⟩, hO6⟩
  · exact absurd (nI_lt hroom (by omega)) c_6
set_option maxHeartbeats 4000000 in
set_option maxRecDepth 100000 in
/-- Pending.addTo -/
theorem c_PD_addTo (l : Launch) (o : Om) (h : AH) (P : Nat × Nat × Nat × Nat) (ft fv fb : Nat → Int32) (pl : List Pn) (A : Nat × Nat × Nat × Nat) (f : Nat → Int32) (g : Nat → Int64) (L : List Rw) (t : Int32) (hR : PA0 o h P ft fv fb pl) (hRA : RA0 o h A f g L) (pd : PD P A) (hs : Srt L) (hroom : L.length + pl.length ≤ A.2.2.2) : Mt l o yPD_addTo cPD_addTo 5 none ({ frames := 3, cells := 0, slots := 0, locals := 101 } : Room) [.ref P.1, .ref A.1, .int t] h (QV o (fun h' => ∃ f' g', RA0 o h' A f' g' (addP t L pl) ∧ Off A h h')) (0) (0) := by
  refine Met.ofV (by decide) (Nat.le_of_ble_eq_true rfl) (fun K hl ho C => ?_)
  subst hl; subst ho
  obtain ⟨hp1, hp2, hp3, hp4, hn, hE, m23, m24, m34⟩ := id hR
  obtain ⟨m12, m13, m14⟩ := hR.ne
  have loop : ∀ (m i : Nat) (h1 : AH) (f1 : Nat → Int32) (g1 : Nat → Int64), pl.length - i = m → i ≤ pl.length → RA0 (Ko K) h1 A f1 g1 (addP t L (pl.take i)) → Off A h h1 → V K h1 0 0 (EndQ K (QV (Ko K) (fun h' => ∃ f' g', RA0 (Ko K) h' A f' g' (addP t L pl) ∧ Off A h h')) 0 0) 2 [(0, .ref P.1), (1, .ref A.1), (2, .int t), (3, .int (nI i))] [] := by
    intro m
    induction m using Nat.strongRecOn with
    | _ m ih =>
      intro i h1 f1 g1 hm hi hR1 hO1
      obtain ⟨hq1, hq2, hq3, hq4, -, -, -, -, -⟩ := PA0.keep hRA hR pd hO1
      have hbA : h1 A.1 = _ := hR1.1
      refine r_iload_n (n := 3) C dPD_addTo_2 rfl rfl ?_
      refine r_aload_n (n := 4) C dPD_addTo_3 rfl rfl ?_
      refine r_get (ci := 1) (n := 7) C hinPD rfl 3 (by decide) tw_54 rfl dPD_addTo_4 rfl (by assumption) rfl ?_
      refine r_icmp_ge (tgt := 67) (n := 10) C dPD_addTo_7 (by decide) rfl (fun c_7 => ?_) (fun c_7 => ?_)
      · have hie : i = pl.length := by have := (nI_leI (by omega) (by omega)).mp c_7; omega
        exact r_vret C dPD_addTo_67 (Nat.le_refl _) (Nat.le_refl _) ⟨f1, g1, by rw [hie, List.take_length] at hR1; exact hR1, hO1⟩
      · have hlt : i < pl.length := by
          rcases Nat.lt_or_ge i pl.length with q | q
          · exact q
          · exact absurd (nI_le q (by omega)) c_7
        obtain ⟨e, he⟩ : ∃ e, pl[i]? = some e := ⟨_, List.getElem?_eq_getElem hlt⟩
        obtain ⟨e1, e2, e3, e4, e5⟩ := hE i e he
        refine r_aload_n (n := 11) C dPD_addTo_10 rfl rfl ?_
        refine r_get (ci := 1) (n := 14) C hinPD rfl 0 (by decide) tw_51 rfl dPD_addTo_11 rfl (by assumption) rfl ?_
        refine r_iload_n (n := 15) C dPD_addTo_14 rfl rfl ?_
        refine r_iald (n := 16) C dPD_addTo_15 rfl hq2 i rfl (by omega) (by omega) ?_
        refine r_iload_n (n := 17) C dPD_addTo_16 rfl rfl ?_
        refine r_icmp_ne (tgt := 61) (n := 20) C dPD_addTo_17 (by decide) rfl (fun c_17 => ?_) (fun c_17 => ?_)
        · have hz : ¬ e.1 = t := by rw [← e1]; exact c_17
          refine r_iinc (n := 64) C dPD_addTo_61 rfl rfl (nI_i i) (by decide) ?_
          refine r_goto (tgt := 2) C dPD_addTo_64 (by decide) ?_
          refine V.byk (ls' := [(0, .ref P.1), (1, .ref A.1), (2, .int t), (3, .int (nI (i + 1)))]) rfl ?_
          exact ih _ (by omega) (i + 1) h1 f1 g1 rfl (by omega) (by rw [addP_take he, if_neg hz]; exact hR1) hO1
        · have hz : e.1 = t := by rw [← e1]; exact c_17
          have hl1 := addP_len (t := t) (L := L) (pl.take i)
          rw [List.length_take] at hl1
          refine r_iload_n (n := 21) C dPD_addTo_20 rfl rfl ?_
          refine r_iconst (v := 3) (n := 22) C dPD_addTo_21 rfl (by decide) ?_
          refine r_imul (n := 23) C dPD_addTo_22 rfl ?_
          refine r_istore (n := 25) C dPD_addTo_23 rfl (by decide) ?_
          refine r_aload_n (n := 26) C dPD_addTo_25 rfl rfl ?_
          refine r_aload_n (n := 27) C dPD_addTo_26 rfl rfl ?_
          refine r_get (ci := 1) (n := 30) C hinPD rfl 1 (by decide) tw_52 rfl dPD_addTo_27 rfl (by assumption) rfl ?_
          refine r_iload (n := 32) C dPD_addTo_30 rfl rfl ?_
          refine r_iald (n := 33) C dPD_addTo_32 rfl hq3 (i * 3) (ix0 i) (by omega) (by omega) ?_
          refine r_aload_n (n := 34) C dPD_addTo_33 rfl rfl ?_
          refine r_get (ci := 1) (n := 37) C hinPD rfl 1 (by decide) tw_52 rfl dPD_addTo_34 rfl (by assumption) rfl ?_
          refine r_iload (n := 39) C dPD_addTo_37 rfl rfl ?_
          refine r_iconst (v := 1) (n := 40) C dPD_addTo_39 rfl (by decide) ?_
          refine r_iadd (n := 41) C dPD_addTo_40 rfl ?_
          refine r_iald (n := 42) C dPD_addTo_41 rfl hq3 (i * 3 + 1) (ix1 i) (by omega) (by omega) ?_
          refine r_aload_n (n := 43) C dPD_addTo_42 rfl rfl ?_
          refine r_get (ci := 1) (n := 46) C hinPD rfl 1 (by decide) tw_52 rfl dPD_addTo_43 rfl (by assumption) rfl ?_
          refine r_iload (n := 48) C dPD_addTo_46 rfl rfl ?_
          refine r_iconst (v := 2) (n := 49) C dPD_addTo_48 rfl (by decide) ?_
          refine r_iadd (n := 50) C dPD_addTo_49 rfl ?_
          refine r_iald (n := 51) C dPD_addTo_50 rfl hq3 (i * 3 + 2) (ix2 i) (by omega) (by omega) ?_
          refine r_aload_n (n := 52) C dPD_addTo_51 rfl rfl ?_
          refine r_get (ci := 1) (n := 55) C hinPD rfl 2 (by decide) tw_53 rfl dPD_addTo_52 rfl (by assumption) rfl ?_
          refine r_iload_n (n := 56) C dPD_addTo_55 rfl rfl ?_
          refine r_iald (n := 57) C dPD_addTo_56 rfl hq4 i rfl (by omega) (by omega) ?_
          refine r_i2l (n := 58) C dPD_addTo_57 rfl ?_
          refine r_cv (n := 61) (rn_V (z := 4) (ci := 0) (T := TRW) C (c_RW_addWeight (Kl K) (Ko K) h1 A f1 g1 _ (fv (i * 3)) (fv (i * 3 + 1)) (fv (i * 3 + 2)) (fb i).toInt64 hR1 (addP_srt _ hs) (by omega)) tw_452 tw_161 tw_162 tw_2 tw_163 rfl rfl ndRW_addWeight ⟨Nat.le_of_ble_eq_true rfl, Nat.le_of_ble_eq_true rfl⟩ (by assumption) rfl rfl rfl (Nat.le_of_ble_eq_true rfl) dPD_addTo_58 ⟨Nat.le_of_ble_eq_true rfl, Nat.le_of_ble_eq_true rfl⟩) rfl (fun h2 hq => ?_)
          obtain ⟨f2, g2, hR2, hO2⟩ := hq
          rw [e2, e3, e4, e5] at hR2
          refine r_iinc (n := 64) C dPD_addTo_61 rfl rfl (nI_i i) (by decide) ?_
          refine r_goto (tgt := 2) C dPD_addTo_64 (by decide) ?_
          refine V.byk (ls' := [(0, .ref P.1), (1, .ref A.1), (2, .int t), (3, .int (nI (i + 1)))]) rfl ?_
          exact ih _ (by omega) (i + 1) h2 f2 g2 rfl (by omega) (by rw [addP_take he, if_pos hz]; exact hR2) (hO1.tr hO2)
  refine r_iconst (v := 0) (n := 1) C dPD_addTo_0 rfl (by decide) ?_
  refine r_istore_n (n := 2) C dPD_addTo_1 rfl (by decide) ?_
  refine V.byk (ls' := [(0, .ref P.1), (1, .ref A.1), (2, .int t), (3, .int (nI 0))]) rfl ?_
  exact loop _ 0 h f g rfl (Nat.zero_le _) hRA Off.rf
set_option maxHeartbeats 4000000 in
set_option maxRecDepth 100000 in
/-- Pending() -/
theorem c_PD_init (l : Launch) (o : Om) (h : AH) (a : Nat) (ha : h a = some (.inr (1, [.null, .null, .null, .int 0]))) : Mt l o yPD_init cPD_init 1 none ({ frames := 1, cells := 3, slots := 60, locals := 24 } : Room) [.ref a] h (QV o (fun h' => ∃ t v b, h t = none ∧ h v = none ∧ h b = none ∧ PA o h' (a, t, v, b) [] ∧ POff (a, t, v, b) h h')) (3) (60) := by
  refine Met.ofV (by decide) (Nat.le_of_ble_eq_true rfl) (fun K hl ho C => ?_)
  subst hl; subst ho
  refine r_aload_n (n := 1) C dPD_init_0 rfl rfl ?_
  refine r_objInit (n := 4) C tw_50 tw_21 tw_22 dPD_init_1 rfl (Nat.le_of_ble_eq_true rfl) (Nat.le_of_ble_eq_true rfl) ?_
  refine r_aload_n (n := 5) C dPD_init_4 rfl rfl ?_
  refine r_bipush (v := 12) (n := 7) C dPD_init_5 rfl (by decide) ?_
  refine r_newi (n := 9) C tw_43 dPD_init_7 rfl rfl (by decide) (by decide) (Nat.le_of_ble_eq_true rfl) (Nat.le_of_ble_eq_true rfl) (fun t ht0 => ?_)
  have nt : t ≠ a := fun e => by rw [e, ha] at ht0; cases ht0
  generalize eh1 : hu h t _ = h1
  have ha1 := ((congrFun eh1.symm a).trans (hu_ne _ _ (Ne.symm nt))).trans ha
  have ht1 := (congrFun eh1.symm t).trans (hu_eq _ _ _)
  refine r_putF (ci := 1) (n := 12) C hinPD tyPD okPD nmPD rfl 0 (by decide) tw_51 rfl rfl rfl rfl (okPD 0 (by decide)) rfl rfl dPD_init_9 rfl ha1 (Nat.le_of_ble_eq_true rfl) ?_
  generalize eh2 : hu h1 a _ = h2
  have ha2 := (congrFun eh2.symm a).trans (hu_eq _ _ _)
  have ht2 := ((congrFun eh2.symm t).trans (hu_ne _ _ nt)).trans ht1
  refine r_aload_n (n := 13) C dPD_init_12 rfl rfl ?_
  refine r_bipush (v := 36) (n := 15) C dPD_init_13 rfl (by decide) ?_
  refine r_newi (n := 17) C tw_43 dPD_init_15 rfl rfl (by decide) (by decide) (Nat.le_of_ble_eq_true rfl) (Nat.le_of_ble_eq_true rfl) (fun v hv0 => ?_)
  have nv : v ≠ a := fun e => by rw [e, ha2] at hv0; cases hv0
  have nvt : v ≠ t := fun e => by rw [e, ht2] at hv0; cases hv0
  have hv00 : h v = none := by rw [← eh2, hu_ne _ _ nv, ← eh1, hu_ne _ _ nvt] at hv0; exact hv0
  generalize eh3 : hu h2 v _ = h3
  have ha3 := ((congrFun eh3.symm a).trans (hu_ne _ _ (Ne.symm nv))).trans ha2
  have ht3 := ((congrFun eh3.symm t).trans (hu_ne _ _ (Ne.symm nvt))).trans ht2
  have hv3 := (congrFun eh3.symm v).trans (hu_eq _ _ _)
  refine r_putF (ci := 1) (n := 20) C hinPD tyPD okPD nmPD rfl 1 (by decide) tw_52 rfl rfl rfl rfl (okPD 1 (by decide)) rfl rfl dPD_init_17 rfl ha3 (Nat.le_of_ble_eq_true rfl) ?_
  generalize eh4 : hu h3 a _ = h4
  have ha4 := (congrFun eh4.symm a).trans (hu_eq _ _ _)
  have ht4 := ((congrFun eh4.symm t).trans (hu_ne _ _ nt)).trans ht3
  have hv4 := ((congrFun eh4.symm v).trans (hu_ne _ _ nv)).trans hv3
  refine r_aload_n (n := 21) C dPD_init_20 rfl rfl ?_
  refine r_bipush (v := 12) (n := 23) C dPD_init_21 rfl (by decide) ?_
  refine r_newi (n := 25) C tw_43 dPD_init_23 rfl rfl (by decide) (by decide) (Nat.le_of_ble_eq_true rfl) (Nat.le_of_ble_eq_true rfl) (fun b hb0 => ?_)
  have nb : b ≠ a := fun e => by rw [e, ha4] at hb0; cases hb0
  have nbt : b ≠ t := fun e => by rw [e, ht4] at hb0; cases hb0
  have nbv : b ≠ v := fun e => by rw [e, hv4] at hb0; cases hb0
  have hb00 : h b = none := by rw [← eh4, hu_ne _ _ nb, ← eh3, hu_ne _ _ nbv, ← eh2, hu_ne _ _ nb, ← eh1, hu_ne _ _ nbt] at hb0; exact hb0
  generalize eh5 : hu h4 b _ = h5
  have ha5 := ((congrFun eh5.symm a).trans (hu_ne _ _ (Ne.symm nb))).trans ha4
  have ht5 := ((congrFun eh5.symm t).trans (hu_ne _ _ (Ne.symm nbt))).trans ht4
  have hv5 := ((congrFun eh5.symm v).trans (hu_ne _ _ (Ne.symm nbv))).trans hv4
  have hb5 := (congrFun eh5.symm b).trans (hu_eq _ _ _)
  refine r_putF (ci := 1) (n := 28) C hinPD tyPD okPD nmPD rfl 2 (by decide) tw_53 rfl rfl rfl rfl (okPD 2 (by decide)) rfl rfl dPD_init_25 rfl ha5 (Nat.le_of_ble_eq_true rfl) ?_
  generalize eh6 : hu h5 a _ = h6
  have ha6 := (congrFun eh6.symm a).trans (hu_eq _ _ _)
  have ht6 := ((congrFun eh6.symm t).trans (hu_ne _ _ nt)).trans ht5
  have hv6 := ((congrFun eh6.symm v).trans (hu_ne _ _ nv)).trans hv5
  have hb6 := ((congrFun eh6.symm b).trans (hu_ne _ _ nb)).trans hb5
  refine r_aload_n (n := 29) C dPD_init_28 rfl rfl ?_
  refine r_iconst (v := 0) (n := 30) C dPD_init_29 rfl (by decide) ?_
  refine r_put (ci := 1) (n := 33) C hinPD tyPD okPD nmPD rfl 3 (by decide) tw_54 rfl rfl (okPD 3 (by decide)) rfl rfl dPD_init_30 rfl ha6 (Nat.le_of_ble_eq_true rfl) ?_
  generalize eh7 : hu h6 a _ = h7
  have ha7 := (congrFun eh7.symm a).trans (hu_eq _ _ _)
  have ht7 := ((congrFun eh7.symm t).trans (hu_ne _ _ nt)).trans ht6
  have hv7 := ((congrFun eh7.symm v).trans (hu_ne _ _ nv)).trans hv6
  have hb7 := ((congrFun eh7.symm b).trans (hu_ne _ _ nb)).trans hb6
  exact r_vret C dPD_init_33 (Nat.le_refl _) (Nat.le_refl _) ⟨t, v, b, ht0, hv00, hb00, ⟨_, _, _, ha7, ht7, hv7, hb7, Nat.zero_le _, (fun i e h0 => by simp at h0), Ne.symm nvt, Ne.symm nbt, Ne.symm nbv⟩, fun q q1 q2 q3 q4 => by rw [← eh7, hu_ne _ _ q1, ← eh6, hu_ne _ _ q1, ← eh5, hu_ne _ _ q4, ← eh4, hu_ne _ _ q1, ← eh3, hu_ne _ _ q3, ← eh2, hu_ne _ _ q1, ← eh1, hu_ne _ _ q2]⟩
set_option maxHeartbeats 4000000 in
set_option maxRecDepth 100000 in
/-- Record() -/
theorem c_RC_init (l : Launch) (o : Om) (h : AH) (a : Nat)  : Mt l o yRC_init cRC_init 1 none ({ frames := 1, cells := 0, slots := 0, locals := 16 } : Room) [.ref a] h (QV o (fun h' => h' = h)) (0) (0) := by
  refine Met.ofV (by decide) (Nat.le_of_ble_eq_true rfl) (fun K hl ho C => ?_)
  subst hl; subst ho
  refine r_aload_n (n := 1) C dRC_init_0 rfl rfl ?_
  refine r_objInit (n := 4) C tw_106 tw_21 tw_22 dRC_init_1 rfl (Nat.le_of_ble_eq_true rfl) (Nat.le_of_ble_eq_true rfl) ?_
  exact r_vret C dRC_init_4 (Nat.le_refl _) (Nat.le_refl _) rfl
set_option maxHeartbeats 4000000 in
set_option maxRecDepth 100000 in
/-- DeltaViews$TableRule() -/
theorem c_TR_init (l : Launch) (o : Om) (h : AH) (a : Nat) (p0 : Int32) (ha : h a = some (.inr (2, [.int 0]))) : Mt l o yTR_init cTR_init 2 none ({ frames := 2, cells := 0, slots := 0, locals := 36 } : Room) [.ref a, .int p0] h (QV o (fun h' => h' = hu h a (.inr (2, [.int p0])))) (0) (0) := by
  refine Met.ofV (by decide) (Nat.le_of_ble_eq_true rfl) (fun K hl ho C => ?_)
  subst hl; subst ho
  refine r_aload_n (n := 1) C dTR_init_0 rfl rfl ?_
  refine r_cv (n := 4) (rn_I (z := 0) C (c_RC_init (Kl K) (Ko K) h a) tw_103 tw_104 tw_5 rfl tw_105 rfl rfl ndRC_init.2 ⟨Nat.le_of_ble_eq_true rfl, Nat.le_of_ble_eq_true rfl⟩ rfl rfl (Nat.le_of_ble_eq_true rfl) dTR_init_1 ⟨Nat.le_of_ble_eq_true rfl, Nat.le_of_ble_eq_true rfl⟩) rfl (fun h1 hq => ?_)
  rw [hq]
  refine r_aload_n (n := 5) C dTR_init_4 rfl rfl ?_
  refine r_iload_n (n := 6) C dTR_init_5 rfl rfl ?_
  refine r_putF (ci := 2) (n := 9) C hinTR tyTR okTR nmTR rfl 0 (by decide) tw_107 rfl rfl rfl rfl (okTR 0 (by decide)) rfl rfl dTR_init_6 rfl ha (Nat.le_of_ble_eq_true rfl) ?_
  exact r_vret C dTR_init_9 (Nat.le_refl _) (Nat.le_refl _) rfl
set_option maxHeartbeats 4000000 in
set_option maxRecDepth 100000 in
/-- DeltaViews$FilterRule() -/
theorem c_FR_init (l : Launch) (o : Om) (h : AH) (a : Nat) (p0 p1 p2 p3 : Int32) (ha : h a = some (.inr (3, [.int 0, .int 0, .int 0, .int 0]))) : Mt l o yFR_init cFR_init 5 none ({ frames := 2, cells := 0, slots := 0, locals := 36 } : Room) [.ref a, .int p0, .int p1, .int p2, .int p3] h (QV o (fun h' => h' = hu h a (.inr (3, [.int p0, .int p1, .int p2, .int p3])))) (0) (0) := by
  refine Met.ofV (by decide) (Nat.le_of_ble_eq_true rfl) (fun K hl ho C => ?_)
  subst hl; subst ho
  refine r_aload_n (n := 1) C dFR_init_0 rfl rfl ?_
  refine r_cv (n := 4) (rn_I (z := 0) C (c_RC_init (Kl K) (Ko K) h a) tw_305 tw_104 tw_5 rfl tw_105 rfl rfl ndRC_init.2 ⟨Nat.le_of_ble_eq_true rfl, Nat.le_of_ble_eq_true rfl⟩ rfl rfl (Nat.le_of_ble_eq_true rfl) dFR_init_1 ⟨Nat.le_of_ble_eq_true rfl, Nat.le_of_ble_eq_true rfl⟩) rfl (fun h1 hq => ?_)
  rw [hq]
  refine r_aload_n (n := 5) C dFR_init_4 rfl rfl ?_
  refine r_iload_n (n := 6) C dFR_init_5 rfl rfl ?_
  refine r_putF (ci := 3) (n := 9) C hinFR tyFR okFR nmFR rfl 0 (by decide) tw_306 rfl rfl rfl rfl (okFR 0 (by decide)) rfl rfl dFR_init_6 rfl ha (Nat.le_of_ble_eq_true rfl) ?_
  refine r_aload_n (n := 10) C dFR_init_9 rfl rfl ?_
  refine r_iload_n (n := 11) C dFR_init_10 rfl rfl ?_
  refine r_putF (ci := 3) (n := 14) C hinFR tyFR okFR nmFR rfl 1 (by decide) tw_307 rfl rfl rfl rfl (okFR 1 (by decide)) rfl rfl dFR_init_11 rfl (hu_eq _ _ _) (Nat.le_of_ble_eq_true rfl) ?_
  refine r_aload_n (n := 15) C dFR_init_14 rfl rfl ?_
  refine r_iload_n (n := 16) C dFR_init_15 rfl rfl ?_
  refine r_putF (ci := 3) (n := 19) C hinFR tyFR okFR nmFR rfl 2 (by decide) tw_308 rfl rfl rfl rfl (okFR 2 (by decide)) rfl rfl dFR_init_16 rfl (hu_eq _ _ _) (Nat.le_of_ble_eq_true rfl) ?_
  refine r_aload_n (n := 20) C dFR_init_19 rfl rfl ?_
  refine r_iload (n := 22) C dFR_init_20 rfl rfl ?_
  refine r_putF (ci := 3) (n := 25) C hinFR tyFR okFR nmFR rfl 3 (by decide) tw_309 rfl rfl rfl rfl (okFR 3 (by decide)) rfl rfl dFR_init_22 rfl (hu_eq _ _ _) (Nat.le_of_ble_eq_true rfl) ?_
  exact r_vret C dFR_init_25 (Nat.le_refl _) (Nat.le_refl _) (by rw [hu_hu, hu_hu, hu_hu]; rfl)
set_option maxHeartbeats 4000000 in
set_option maxRecDepth 100000 in
/-- DeltaViews$MapRule() -/
theorem c_MR_init (l : Launch) (o : Om) (h : AH) (a : Nat) (p0 p1 p2 p3 : Int32) (ha : h a = some (.inr (4, [.int 0, .int 0, .int 0, .int 0]))) : Mt l o yMR_init cMR_init 5 none ({ frames := 2, cells := 0, slots := 0, locals := 36 } : Room) [.ref a, .int p0, .int p1, .int p2, .int p3] h (QV o (fun h' => h' = hu h a (.inr (4, [.int p0, .int p1, .int p2, .int p3])))) (0) (0) := by
  refine Met.ofV (by decide) (Nat.le_of_ble_eq_true rfl) (fun K hl ho C => ?_)
  subst hl; subst ho
  refine r_aload_n (n := 1) C dMR_init_0 rfl rfl ?_
  refine r_cv (n := 4) (rn_I (z := 0) C (c_RC_init (Kl K) (Ko K) h a) tw_328 tw_104 tw_5 rfl tw_105 rfl rfl ndRC_init.2 ⟨Nat.le_of_ble_eq_true rfl, Nat.le_of_ble_eq_true rfl⟩ rfl rfl (Nat.le_of_ble_eq_true rfl) dMR_init_1 ⟨Nat.le_of_ble_eq_true rfl, Nat.le_of_ble_eq_true rfl⟩) rfl (fun h1 hq => ?_)
  rw [hq]
  refine r_aload_n (n := 5) C dMR_init_4 rfl rfl ?_
  refine r_iload_n (n := 6) C dMR_init_5 rfl rfl ?_
  refine r_putF (ci := 4) (n := 9) C hinMR tyMR okMR nmMR rfl 0 (by decide) tw_329 rfl rfl rfl rfl (okMR 0 (by decide)) rfl rfl dMR_init_6 rfl ha (Nat.le_of_ble_eq_true rfl) ?_
  refine r_aload_n (n := 10) C dMR_init_9 rfl rfl ?_
  refine r_iload_n (n := 11) C dMR_init_10 rfl rfl ?_
  refine r_putF (ci := 4) (n := 14) C hinMR tyMR okMR nmMR rfl 1 (by decide) tw_330 rfl rfl rfl rfl (okMR 1 (by decide)) rfl rfl dMR_init_11 rfl (hu_eq _ _ _) (Nat.le_of_ble_eq_true rfl) ?_
  refine r_aload_n (n := 15) C dMR_init_14 rfl rfl ?_
  refine r_iload_n (n := 16) C dMR_init_15 rfl rfl ?_
  refine r_putF (ci := 4) (n := 19) C hinMR tyMR okMR nmMR rfl 2 (by decide) tw_331 rfl rfl rfl rfl (okMR 2 (by decide)) rfl rfl dMR_init_16 rfl (hu_eq _ _ _) (Nat.le_of_ble_eq_true rfl) ?_
  refine r_aload_n (n := 20) C dMR_init_19 rfl rfl ?_
  refine r_iload (n := 22) C dMR_init_20 rfl rfl ?_
  refine r_putF (ci := 4) (n := 25) C hinMR tyMR okMR nmMR rfl 3 (by decide) tw_332 rfl rfl rfl rfl (okMR 3 (by decide)) rfl rfl dMR_init_22 rfl (hu_eq _ _ _) (Nat.le_of_ble_eq_true rfl) ?_
  exact r_vret C dMR_init_25 (Nat.le_refl _) (Nat.le_refl _) (by rw [hu_hu, hu_hu, hu_hu]; rfl)
set_option maxHeartbeats 4000000 in
set_option maxRecDepth 100000 in
/-- DeltaViews$JoinRule() -/
theorem c_JR_init (l : Launch) (o : Om) (h : AH) (a : Nat) (p0 p1 p2 p3 p4 : Int32) (ha : h a = some (.inr (5, [.int 0, .int 0, .int 0, .int 0, .int 0]))) : Mt l o yJR_init cJR_init 6 none ({ frames := 2, cells := 0, slots := 0, locals := 36 } : Room) [.ref a, .int p0, .int p1, .int p2, .int p3, .int p4] h (QV o (fun h' => h' = hu h a (.inr (5, [.int p0, .int p1, .int p2, .int p3, .int p4])))) (0) (0) := by
  refine Met.ofV (by decide) (Nat.le_of_ble_eq_true rfl) (fun K hl ho C => ?_)
  subst hl; subst ho
  refine r_aload_n (n := 1) C dJR_init_0 rfl rfl ?_
  refine r_cv (n := 4) (rn_I (z := 0) C (c_RC_init (Kl K) (Ko K) h a) tw_351 tw_104 tw_5 rfl tw_105 rfl rfl ndRC_init.2 ⟨Nat.le_of_ble_eq_true rfl, Nat.le_of_ble_eq_true rfl⟩ rfl rfl (Nat.le_of_ble_eq_true rfl) dJR_init_1 ⟨Nat.le_of_ble_eq_true rfl, Nat.le_of_ble_eq_true rfl⟩) rfl (fun h1 hq => ?_)
  rw [hq]
  refine r_aload_n (n := 5) C dJR_init_4 rfl rfl ?_
  refine r_iload_n (n := 6) C dJR_init_5 rfl rfl ?_
  refine r_putF (ci := 5) (n := 9) C hinJR tyJR okJR nmJR rfl 0 (by decide) tw_352 rfl rfl rfl rfl (okJR 0 (by decide)) rfl rfl dJR_init_6 rfl ha (Nat.le_of_ble_eq_true rfl) ?_
  refine r_aload_n (n := 10) C dJR_init_9 rfl rfl ?_
  refine r_iload_n (n := 11) C dJR_init_10 rfl rfl ?_
  refine r_putF (ci := 5) (n := 14) C hinJR tyJR okJR nmJR rfl 1 (by decide) tw_353 rfl rfl rfl rfl (okJR 1 (by decide)) rfl rfl dJR_init_11 rfl (hu_eq _ _ _) (Nat.le_of_ble_eq_true rfl) ?_
  refine r_aload_n (n := 15) C dJR_init_14 rfl rfl ?_
  refine r_iload_n (n := 16) C dJR_init_15 rfl rfl ?_
  refine r_putF (ci := 5) (n := 19) C hinJR tyJR okJR nmJR rfl 2 (by decide) tw_354 rfl rfl rfl rfl (okJR 2 (by decide)) rfl rfl dJR_init_16 rfl (hu_eq _ _ _) (Nat.le_of_ble_eq_true rfl) ?_
  refine r_aload_n (n := 20) C dJR_init_19 rfl rfl ?_
  refine r_iload (n := 22) C dJR_init_20 rfl rfl ?_
  refine r_putF (ci := 5) (n := 25) C hinJR tyJR okJR nmJR rfl 3 (by decide) tw_355 rfl rfl rfl rfl (okJR 3 (by decide)) rfl rfl dJR_init_22 rfl (hu_eq _ _ _) (Nat.le_of_ble_eq_true rfl) ?_
  refine r_aload_n (n := 26) C dJR_init_25 rfl rfl ?_
  refine r_iload (n := 28) C dJR_init_26 rfl rfl ?_
  refine r_putF (ci := 5) (n := 31) C hinJR tyJR okJR nmJR rfl 4 (by decide) tw_356 rfl rfl rfl rfl (okJR 4 (by decide)) rfl rfl dJR_init_28 rfl (hu_eq _ _ _) (Nat.le_of_ble_eq_true rfl) ?_
  exact r_vret C dJR_init_31 (Nat.le_refl _) (Nat.le_refl _) (by rw [hu_hu, hu_hu, hu_hu, hu_hu]; rfl)
set_option maxHeartbeats 4000000 in
set_option maxRecDepth 100000 in
/-- DeltaViews$CombineRule() -/
theorem c_CR_init (l : Launch) (o : Om) (h : AH) (a : Nat) (p0 p1 p2 : Int32) (ha : h a = some (.inr (6, [.int 0, .int 0, .int 0]))) : Mt l o yCR_init cCR_init 4 none ({ frames := 2, cells := 0, slots := 0, locals := 36 } : Room) [.ref a, .int p0, .int p1, .int p2] h (QV o (fun h' => h' = hu h a (.inr (6, [.int p0, .int p1, .int p2])))) (0) (0) := by
  refine Met.ofV (by decide) (Nat.le_of_ble_eq_true rfl) (fun K hl ho C => ?_)
  subst hl; subst ho
  refine r_aload_n (n := 1) C dCR_init_0 rfl rfl ?_
  refine r_cv (n := 4) (rn_I (z := 0) C (c_RC_init (Kl K) (Ko K) h a) tw_377 tw_104 tw_5 rfl tw_105 rfl rfl ndRC_init.2 ⟨Nat.le_of_ble_eq_true rfl, Nat.le_of_ble_eq_true rfl⟩ rfl rfl (Nat.le_of_ble_eq_true rfl) dCR_init_1 ⟨Nat.le_of_ble_eq_true rfl, Nat.le_of_ble_eq_true rfl⟩) rfl (fun h1 hq => ?_)
  rw [hq]
  refine r_aload_n (n := 5) C dCR_init_4 rfl rfl ?_
  refine r_iload_n (n := 6) C dCR_init_5 rfl rfl ?_
  refine r_putF (ci := 6) (n := 9) C hinCR tyCR okCR nmCR rfl 0 (by decide) tw_378 rfl rfl rfl rfl (okCR 0 (by decide)) rfl rfl dCR_init_6 rfl ha (Nat.le_of_ble_eq_true rfl) ?_
  refine r_aload_n (n := 10) C dCR_init_9 rfl rfl ?_
  refine r_iload_n (n := 11) C dCR_init_10 rfl rfl ?_
  refine r_putF (ci := 6) (n := 14) C hinCR tyCR okCR nmCR rfl 1 (by decide) tw_379 rfl rfl rfl rfl (okCR 1 (by decide)) rfl rfl dCR_init_11 rfl (hu_eq _ _ _) (Nat.le_of_ble_eq_true rfl) ?_
  refine r_aload_n (n := 15) C dCR_init_14 rfl rfl ?_
  refine r_iload_n (n := 16) C dCR_init_15 rfl rfl ?_
  refine r_putF (ci := 6) (n := 19) C hinCR tyCR okCR nmCR rfl 2 (by decide) tw_380 rfl rfl rfl rfl (okCR 2 (by decide)) rfl rfl dCR_init_16 rfl (hu_eq _ _ _) (Nat.le_of_ble_eq_true rfl) ?_
  exact r_vret C dCR_init_19 (Nat.le_refl _) (Nat.le_refl _) (by rw [hu_hu, hu_hu]; rfl)
set_option maxHeartbeats 4000000 in
set_option maxRecDepth 100000 in
/-- DeltaViews$DistinctRule() -/
theorem c_DR_init (l : Launch) (o : Om) (h : AH) (a : Nat) (p0 : Int32) (ha : h a = some (.inr (7, [.int 0]))) : Mt l o yDR_init cDR_init 2 none ({ frames := 2, cells := 0, slots := 0, locals := 36 } : Room) [.ref a, .int p0] h (QV o (fun h' => h' = hu h a (.inr (7, [.int p0])))) (0) (0) := by
  refine Met.ofV (by decide) (Nat.le_of_ble_eq_true rfl) (fun K hl ho C => ?_)
  subst hl; subst ho
  refine r_aload_n (n := 1) C dDR_init_0 rfl rfl ?_
  refine r_cv (n := 4) (rn_I (z := 0) C (c_RC_init (Kl K) (Ko K) h a) tw_397 tw_104 tw_5 rfl tw_105 rfl rfl ndRC_init.2 ⟨Nat.le_of_ble_eq_true rfl, Nat.le_of_ble_eq_true rfl⟩ rfl rfl (Nat.le_of_ble_eq_true rfl) dDR_init_1 ⟨Nat.le_of_ble_eq_true rfl, Nat.le_of_ble_eq_true rfl⟩) rfl (fun h1 hq => ?_)
  rw [hq]
  refine r_aload_n (n := 5) C dDR_init_4 rfl rfl ?_
  refine r_iload_n (n := 6) C dDR_init_5 rfl rfl ?_
  refine r_putF (ci := 7) (n := 9) C hinDR tyDR okDR nmDR rfl 0 (by decide) tw_398 rfl rfl rfl rfl (okDR 0 (by decide)) rfl rfl dDR_init_6 rfl ha (Nat.le_of_ble_eq_true rfl) ?_
  exact r_vret C dDR_init_9 (Nat.le_refl _) (Nat.le_refl _) rfl
set_option maxHeartbeats 4000000 in
set_option maxRecDepth 100000 in
/-- DeltaViews$GroupRule() -/
theorem c_GR_init (l : Launch) (o : Om) (h : AH) (a : Nat) (p0 p1 p2 p3 : Int32) (ha : h a = some (.inr (8, [.int 0, .int 0, .int 0, .int 0]))) : Mt l o yGR_init cGR_init 5 none ({ frames := 2, cells := 0, slots := 0, locals := 36 } : Room) [.ref a, .int p0, .int p1, .int p2, .int p3] h (QV o (fun h' => h' = hu h a (.inr (8, [.int p0, .int p1, .int p2, .int p3])))) (0) (0) := by
  refine Met.ofV (by decide) (Nat.le_of_ble_eq_true rfl) (fun K hl ho C => ?_)
  subst hl; subst ho
  refine r_aload_n (n := 1) C dGR_init_0 rfl rfl ?_
  refine r_cv (n := 4) (rn_I (z := 0) C (c_RC_init (Kl K) (Ko K) h a) tw_410 tw_104 tw_5 rfl tw_105 rfl rfl ndRC_init.2 ⟨Nat.le_of_ble_eq_true rfl, Nat.le_of_ble_eq_true rfl⟩ rfl rfl (Nat.le_of_ble_eq_true rfl) dGR_init_1 ⟨Nat.le_of_ble_eq_true rfl, Nat.le_of_ble_eq_true rfl⟩) rfl (fun h1 hq => ?_)
  rw [hq]
  refine r_aload_n (n := 5) C dGR_init_4 rfl rfl ?_
  refine r_iload_n (n := 6) C dGR_init_5 rfl rfl ?_
  refine r_putF (ci := 8) (n := 9) C hinGR tyGR okGR nmGR rfl 0 (by decide) tw_411 rfl rfl rfl rfl (okGR 0 (by decide)) rfl rfl dGR_init_6 rfl ha (Nat.le_of_ble_eq_true rfl) ?_
  refine r_aload_n (n := 10) C dGR_init_9 rfl rfl ?_
  refine r_iload_n (n := 11) C dGR_init_10 rfl rfl ?_
  refine r_putF (ci := 8) (n := 14) C hinGR tyGR okGR nmGR rfl 1 (by decide) tw_412 rfl rfl rfl rfl (okGR 1 (by decide)) rfl rfl dGR_init_11 rfl (hu_eq _ _ _) (Nat.le_of_ble_eq_true rfl) ?_
  refine r_aload_n (n := 15) C dGR_init_14 rfl rfl ?_
  refine r_iload_n (n := 16) C dGR_init_15 rfl rfl ?_
  refine r_putF (ci := 8) (n := 19) C hinGR tyGR okGR nmGR rfl 2 (by decide) tw_413 rfl rfl rfl rfl (okGR 2 (by decide)) rfl rfl dGR_init_16 rfl (hu_eq _ _ _) (Nat.le_of_ble_eq_true rfl) ?_
  refine r_aload_n (n := 20) C dGR_init_19 rfl rfl ?_
  refine r_iload (n := 22) C dGR_init_20 rfl rfl ?_
  refine r_putF (ci := 8) (n := 25) C hinGR tyGR okGR nmGR rfl 3 (by decide) tw_414 rfl rfl rfl rfl (okGR 3 (by decide)) rfl rfl dGR_init_22 rfl (hu_eq _ _ _) (Nat.le_of_ble_eq_true rfl) ?_
  exact r_vret C dGR_init_25 (Nat.le_refl _) (Nat.le_refl _) (by rw [hu_hu, hu_hu, hu_hu]; rfl)
