/-! ROWS: what goes over all of them -/
theorem nI_i (i : Nat) : nI i + Int32.ofInt 1 = nI (i + 1) := nI_1 i
theorem ftake {p : Rw → Bool} {L : List Rw} {i : Nat} {r : Rw} (h : L[i]? = some r) : ((L.take (i + 1)).filter p).length = ((L.take i).filter p).length + (if p r = true then 1 else 0) := by
  rw [List.take_succ, h]
  by_cases hp : p r = true <;> simp [List.filter_append, hp]
theorem fold_take {β : Type} (F : β → Rw → β) (b : β) {L : List Rw} {i : Nat} {r : Rw} (h : L[i]? = some r) : (L.take (i + 1)).foldl F b = F ((L.take i).foldl F b) r := by
  rw [List.take_succ, h]
  simp [List.foldl_append]
theorem any_take {p : Rw → Bool} {L : List Rw} {i : Nat} {r : Rw} (h : L[i]? = some r) : (L.take (i + 1)).any p = ((L.take i).any p || p r) := by
  rw [List.take_succ, h]
  simp [List.any_append]
theorem all_take {p : Rw → Bool} {L : List Rw} {i : Nat} {r : Rw} (h : L[i]? = some r) : (L.take (i + 1)).all p = ((L.take i).all p && p r) := by
  rw [List.take_succ, h]
  simp [List.all_append]
def sumW (L : List Rw) : Int64 := L.foldl (fun s r => s + r.2) 0
def sumC (c : Nat) (L : List Rw) : Int64 := L.foldl (fun s r => s + r.2 * (colv r.1 c).toInt64) 0
def okW (w : Int64) : Bool := decide (w ≤ 1000000) && decide (-1000000 ≤ w)
def diffs (L M : List Rw) : Nat := (L.filter (fun r => decide (wt M r.1 ≠ r.2))).length + (M.filter (fun r => decide (wt L r.1 = 0))).length
def Dj (A B : Nat × Nat × Nat × Nat) : Prop := A.1 ≠ B.1 ∧ A.2.1 ≠ B.2.1 ∧ A.2.2.1 ≠ B.2.2.1
theorem RA0.keep {o : Om} {h h' : AH} {A B : Nat × Nat × Nat × Nat} {f fb : Nat → Int32} {g gb : Nat → Int64} {L M : List Rw} (hA : RA0 o h A f g L) (hB : RA0 o h B fb gb M) (dj : Dj A B) (off : Off A h h') : RA0 o h' B fb gb M := by
  obtain ⟨a1, a2, a3, -, -, -⟩ := hA
  obtain ⟨b1, b2, b3, b4, b5, b6⟩ := hB
  refine ⟨(off _ dj.1.symm (fun e => ?_) (fun e => ?_)).trans b1, (off _ (fun e => ?_) dj.2.1.symm (fun e => ?_)).trans b2, (off _ (fun e => ?_) (fun e => ?_) dj.2.2.symm).trans b3, b4, b5, b6⟩
  · rw [e, a2] at b1; simp at b1
  · rw [e, a3] at b1; simp at b1
  · rw [e, a1] at b2; simp at b2
  · rw [e, a3] at b2; simp at b2
  · rw [e, a1] at b3; simp at b3
  · rw [e, a2] at b3; simp at b3
set_option maxHeartbeats 4000000 in
set_option maxRecDepth 100000 in
/-- Rows.addRow -/
theorem c_RW_addRow (l : Launch) (o : Om) (h : AH) (A : Nat × Nat × Nat × Nat) (f : Nat → Int32) (g : Nat → Int64) (L : List Rw) (Bb : Nat × Nat × Nat × Nat) (fb : Nat → Int32) (gb : Nat → Int64) (M : List Rw) (i : Nat) (r : Rw) (w : Int64) (hR : RA0 o h A f g L) (hRb : RA0 o h Bb fb gb M) (hi : M[i]? = some r) (hs : Srt L) (hroom : L.length < A.2.2.2) : Mt l o yRW_addRow cRW_addRow 5 none ({ frames := 3, cells := 0, slots := 0, locals := 101 } : Room) [.ref A.1, .ref Bb.1, .int (nI i), .long w] h (QV o (fun h' => ∃ f' g', RA0 o h' A f' g' (addW L r.1 w) ∧ Off A h h')) (0) (0) := by
  refine Met.ofV (by decide) (Nat.le_of_ble_eq_true rfl) (fun K hl ho C => ?_)
  subst hl; subst ho
  obtain ⟨hA, hV, hW, hn, hcap, hE⟩ := id hR
  obtain ⟨hAb, hVb, hWb, hnb, hcapb, hEb⟩ := id hRb
  refine r_aload_n (n := 1) C dRW_addRow_0 rfl rfl ?_
  refine r_aload_n (n := 2) C dRW_addRow_1 rfl rfl ?_
  refine r_iload_n (n := 3) C dRW_addRow_2 rfl rfl ?_
  refine r_iconst (v := 0) (n := 4) C dRW_addRow_3 rfl (by decide) ?_
  refine r_ci (n := 7) (rn_V (z := 2) (ci := 0) (T := TRW) C (c_RW_valueAt (Kl K) (Ko K) h Bb fb gb M i 0 r hRb hi (by decide)) tw_156 tw_157 tw_158 tw_2 tw_159 rfl rfl ndRW_valueAt ⟨Nat.le_of_ble_eq_true rfl, Nat.le_of_ble_eq_true rfl⟩ (by assumption) rfl rfl rfl (Nat.le_of_ble_eq_true rfl) dRW_addRow_4 ⟨Nat.le_of_ble_eq_true rfl, Nat.le_of_ble_eq_true rfl⟩) rfl (fun x h1 hq => ?_)
  obtain ⟨e1, e2⟩ := hq
  subst e1
  rw [e2]
  refine r_aload_n (n := 8) C dRW_addRow_7 rfl rfl ?_
  refine r_iload_n (n := 9) C dRW_addRow_8 rfl rfl ?_
  refine r_iconst (v := 1) (n := 10) C dRW_addRow_9 rfl (by decide) ?_
  refine r_ci (n := 13) (rn_V (z := 2) (ci := 0) (T := TRW) C (c_RW_valueAt (Kl K) (Ko K) h Bb fb gb M i 1 r hRb hi (by decide)) tw_156 tw_157 tw_158 tw_2 tw_159 rfl rfl ndRW_valueAt ⟨Nat.le_of_ble_eq_true rfl, Nat.le_of_ble_eq_true rfl⟩ (by assumption) rfl rfl rfl (Nat.le_of_ble_eq_true rfl) dRW_addRow_10 ⟨Nat.le_of_ble_eq_true rfl, Nat.le_of_ble_eq_true rfl⟩) rfl (fun x h1 hq => ?_)
  obtain ⟨e1, e2⟩ := hq
  subst e1
  rw [e2]
  refine r_aload_n (n := 14) C dRW_addRow_13 rfl rfl ?_
  refine r_iload_n (n := 15) C dRW_addRow_14 rfl rfl ?_
  refine r_iconst (v := 2) (n := 16) C dRW_addRow_15 rfl (by decide) ?_
  refine r_ci (n := 19) (rn_V (z := 2) (ci := 0) (T := TRW) C (c_RW_valueAt (Kl K) (Ko K) h Bb fb gb M i 2 r hRb hi (by decide)) tw_156 tw_157 tw_158 tw_2 tw_159 rfl rfl ndRW_valueAt ⟨Nat.le_of_ble_eq_true rfl, Nat.le_of_ble_eq_true rfl⟩ (by assumption) rfl rfl rfl (Nat.le_of_ble_eq_true rfl) dRW_addRow_16 ⟨Nat.le_of_ble_eq_true rfl, Nat.le_of_ble_eq_true rfl⟩) rfl (fun x h1 hq => ?_)
  obtain ⟨e1, e2⟩ := hq
  subst e1
  rw [e2]
  refine r_lload_n (n := 20) C dRW_addRow_19 rfl rfl ?_
  refine r_cv (n := 23) (rn_V (z := 4) (ci := 0) (T := TRW) C (c_RW_addWeight (Kl K) (Ko K) h A f g L r.1.1 r.1.2.1 r.1.2.2 w hR hs hroom) tw_160 tw_161 tw_162 tw_2 tw_163 rfl rfl ndRW_addWeight ⟨Nat.le_of_ble_eq_true rfl, Nat.le_of_ble_eq_true rfl⟩ (by assumption) rfl rfl rfl (Nat.le_of_ble_eq_true rfl) dRW_addRow_20 ⟨Nat.le_of_ble_eq_true rfl, Nat.le_of_ble_eq_true rfl⟩) rfl (fun h1 hq => ?_)
  exact r_vret C dRW_addRow_23 (Nat.le_refl _) (Nat.le_refl _) hq
set_option maxHeartbeats 4000000 in
set_option maxRecDepth 100000 in
/-- Rows.copyFrom -/
theorem c_RW_copyFrom (l : Launch) (o : Om) (h : AH) (A : Nat × Nat × Nat × Nat) (f : Nat → Int32) (g : Nat → Int64) (L : List Rw) (Bb : Nat × Nat × Nat × Nat) (fb : Nat → Int32) (gb : Nat → Int64) (M : List Rw) (hR : RA0 o h A f g L) (hRb : RA0 o h Bb fb gb M) (dj : Dj A Bb) (hfit : M.length ≤ A.2.2.2) : Mt l o yRW_copyFrom cRW_copyFrom 2 none ({ frames := 1, cells := 0, slots := 0, locals := 48 } : Room) [.ref A.1, .ref Bb.1] h (QV o (fun h' => ∃ f' g', RA0 o h' A f' g' (M) ∧ Off A h h')) (0) (0) := by
  refine Met.ofV (by decide) (Nat.le_of_ble_eq_true rfl) (fun K hl ho C => ?_)
  subst hl; subst ho
  obtain ⟨hA, hV, hW, hn, hcap, hE⟩ := id hR
  obtain ⟨hAb, hVb, hWb, hnb, hcapb, hEb⟩ := id hRb
  obtain ⟨n12, n13, n23⟩ := hR.ne
  refine r_aload_n (n := 1) C dRW_copyFrom_0 rfl rfl ?_
  refine r_aload_n (n := 2) C dRW_copyFrom_1 rfl rfl ?_
  refine r_get (ci := 0) (n := 5) C hinRW rfl 2 (by decide) tw_35 rfl dRW_copyFrom_2 rfl (by assumption) rfl ?_
  refine r_aload_n (n := 6) C dRW_copyFrom_5 rfl rfl ?_
  refine r_get (ci := 0) (n := 9) C hinRW rfl 1 (by decide) tw_34 rfl dRW_copyFrom_6 rfl (by assumption) rfl ?_
  refine r_lalen (n := 10) C dRW_copyFrom_9 rfl (by assumption) ?_
  refine r_mmin (n := 13) C tw_137 tw_138 tw_7 tw_139 (Nat.le_of_ble_eq_true rfl) (Nat.le_of_ble_eq_true rfl) (Nat.zero_le _) (Nat.zero_le _) dRW_copyFrom_10 rfl ?_
  refine V.eqi (y := nI M.length) (if_neg (nI_nlt hfit (by omega))) ?_
  refine r_put (ci := 0) (n := 16) C hinRW tyRW okRW nmRW rfl 2 (by decide) tw_35 rfl rfl (okRW 2 (by decide)) rfl rfl dRW_copyFrom_13 rfl hA (Nat.le_of_ble_eq_true rfl) ?_
  generalize eh1 : hu h A.1 _ = h1
  have hA1 := (congrFun eh1.symm A.1).trans (hu_eq _ _ _)
  have hV1 := ((congrFun eh1.symm A.2.1).trans (hu_ne _ _ (Ne.symm n12))).trans hV
  have hW1 := ((congrFun eh1.symm A.2.2.1).trans (hu_ne _ _ (Ne.symm n13))).trans hW
  have hO1 : Off A h h1 := eh1 ▸ Off.p1 Off.rf _
  obtain ⟨hAb1, hVb1, hWb1, -, -, -⟩ := RA0.keep hR hRb dj hO1
  refine r_aload_n (n := 17) C dRW_copyFrom_16 rfl rfl ?_
  refine r_get (ci := 0) (n := 20) C hinRW rfl 0 (by decide) tw_33 rfl dRW_copyFrom_17 rfl (by assumption) rfl ?_
  refine r_iconst (v := 0) (n := 21) C dRW_copyFrom_20 rfl (by decide) ?_
  refine r_aload_n (n := 22) C dRW_copyFrom_21 rfl rfl ?_
  refine r_get (ci := 0) (n := 25) C hinRW rfl 0 (by decide) tw_33 rfl dRW_copyFrom_22 rfl (by assumption) rfl ?_
  refine r_iconst (v := 0) (n := 26) C dRW_copyFrom_25 rfl (by decide) ?_
  refine r_aload_n (n := 27) C dRW_copyFrom_26 rfl rfl ?_
  refine r_get (ci := 0) (n := 30) C hinRW rfl 2 (by decide) tw_35 rfl dRW_copyFrom_27 rfl (by assumption) rfl ?_
  refine r_iconst (v := 3) (n := 31) C dRW_copyFrom_30 rfl (by decide) ?_
  refine r_imul (n := 32) C dRW_copyFrom_31 rfl ?_
  refine r_copyi (n := 35) C tw_140 tw_142 tw_141 tw_8 dRW_copyFrom_32 rfl hVb1 hV1 0 0 (M.length * 3) nI_0.symm nI_0.symm (ix0 _) (by omega) (by omega) (by omega) (by omega) (Nat.le_of_ble_eq_true rfl) (Nat.le_of_ble_eq_true rfl) ?_
  generalize eh2 : hu h1 A.2.1 _ = h2
  have hA2 := ((congrFun eh2.symm A.1).trans (hu_ne _ _ n12)).trans hA1
  have hV2 := (congrFun eh2.symm A.2.1).trans (hu_eq _ _ _)
  have hW2 := ((congrFun eh2.symm A.2.2.1).trans (hu_ne _ _ (Ne.symm n23))).trans hW1
  have hO2 : Off A h h2 := eh2 ▸ Off.p2 hO1 _
  obtain ⟨hAb2, hVb2, hWb2, -, -, -⟩ := RA0.keep hR hRb dj hO2
  refine r_aload_n (n := 36) C dRW_copyFrom_35 rfl rfl ?_
  refine r_get (ci := 0) (n := 39) C hinRW rfl 1 (by decide) tw_34 rfl dRW_copyFrom_36 rfl (by assumption) rfl ?_
  refine r_iconst (v := 0) (n := 40) C dRW_copyFrom_39 rfl (by decide) ?_
  refine r_aload_n (n := 41) C dRW_copyFrom_40 rfl rfl ?_
  refine r_get (ci := 0) (n := 44) C hinRW rfl 1 (by decide) tw_34 rfl dRW_copyFrom_41 rfl (by assumption) rfl ?_
  refine r_iconst (v := 0) (n := 45) C dRW_copyFrom_44 rfl (by decide) ?_
  refine r_aload_n (n := 46) C dRW_copyFrom_45 rfl rfl ?_
  refine r_get (ci := 0) (n := 49) C hinRW rfl 2 (by decide) tw_35 rfl dRW_copyFrom_46 rfl (by assumption) rfl ?_
  refine r_copyl (n := 52) C tw_140 tw_142 tw_141 tw_8 dRW_copyFrom_49 rfl hWb2 hW2 0 0 M.length nI_0.symm nI_0.symm rfl (by omega) (by omega) (by omega) (by omega) (Nat.le_of_ble_eq_true rfl) (Nat.le_of_ble_eq_true rfl) ?_
  generalize eh3 : hu h2 A.2.2.1 _ = h3
  have hA3 := ((congrFun eh3.symm A.1).trans (hu_ne _ _ n13)).trans hA2
  have hV3 := ((congrFun eh3.symm A.2.1).trans (hu_ne _ _ n23)).trans hV2
  have hW3 := (congrFun eh3.symm A.2.2.1).trans (hu_eq _ _ _)
  have hO3 : Off A h h3 := eh3 ▸ Off.p3 hO2 _
  exact r_vret C dRW_copyFrom_52 (Nat.le_refl _) (Nat.le_refl _) ⟨_, _, ⟨hA3, hV3, hW3, hfit, hcap, Enc_copy hEb rfl⟩, hO3⟩
set_option maxHeartbeats 4000000 in
set_option maxRecDepth 100000 in
/-- Rows.dropZeros -/
theorem c_RW_dropZeros (l : Launch) (o : Om) (h : AH) (A : Nat × Nat × Nat × Nat) (f : Nat → Int32) (g : Nat → Int64) (L : List Rw) (hR : RA0 o h A f g L) : Mt l o yRW_dropZeros cRW_dropZeros 3 none ({ frames := 1, cells := 0, slots := 0, locals := 48 } : Room) [.ref A.1] h (QV o (fun h' => ∃ f' g', RA0 o h' A f' g' (nz L) ∧ Off A h h')) (0) (0) := by
  refine Met.ofV (by decide) (Nat.le_of_ble_eq_true rfl) (fun K hl ho C => ?_)
  subst hl; subst ho
  obtain ⟨hA, hV, hW, hn, hcap, hE⟩ := id hR
  obtain ⟨n12, n13, n23⟩ := hR.ne
  have loop : ∀ (m i : Nat) (h1 : AH) (f1 : Nat → Int32) (g1 : Nat → Int64), L.length - i = m → i ≤ L.length → h1 A.1 = some (.inr (0, [.ref A.2.1, .ref A.2.2.1, .int (nI L.length)])) → h1 A.2.1 = some (.inl ((Ko K).2.1 0, A.2.2.2 * 3, .inl f1)) → h1 A.2.2.1 = some (.inl ((Ko K).2.1 1, A.2.2.2, .inr (.inl g1))) → Off A h h1 → Enc f1 g1 (nz (L.take i)) → (∀ (j : Nat) (q : Rw), i ≤ j → L[j]? = some q → EncA f1 g1 j q) → V K h1 0 0 (EndQ K (QV (Ko K) (fun h' => ∃ f' g', RA0 (Ko K) h' A f' g' (nz L) ∧ Off A h h')) 0 0) 4 [(0, .ref A.1), (1, .int (nI (nz (L.take i)).length)), (2, .int (nI i))] [] := by
    intro m
    induction m using Nat.strongRecOn with
    | _ m ih =>
      intro i h1 f1 g1 hm hi hA1 hV1 hW1 hO1 hE1 hrest
      have hkl : (nz (L.take i)).length ≤ i := nz_len
      generalize hk : (nz (L.take i)).length = k at hkl ⊢
      refine r_iload_n (n := 5) C dRW_dropZeros_4 rfl rfl ?_
      refine r_aload_n (n := 6) C dRW_dropZeros_5 rfl rfl ?_
      refine r_get (ci := 0) (n := 9) C hinRW rfl 2 (by decide) tw_35 rfl dRW_dropZeros_6 rfl (by assumption) rfl ?_
      refine r_icmp_ge (tgt := 62) (n := 12) C dRW_dropZeros_9 (by decide) rfl (fun c_9 => ?_) (fun c_9 => ?_)
      · have hie : i = L.length := by have := (nI_leI (by omega) (by omega)).mp c_9; omega
        subst hie
        rw [List.take_length] at hE1 hk
        refine r_aload_n (n := 63) C dRW_dropZeros_62 rfl rfl ?_
        refine r_iload_n (n := 64) C dRW_dropZeros_63 rfl rfl ?_
        refine r_put (ci := 0) (n := 67) C hinRW tyRW okRW nmRW rfl 2 (by decide) tw_35 rfl rfl (okRW 2 (by decide)) rfl rfl dRW_dropZeros_64 rfl hA1 (Nat.le_of_ble_eq_true rfl) ?_
        generalize eh4 : hu h1 A.1 _ = h4
        have hA4 := (congrFun eh4.symm A.1).trans (hu_eq _ _ _)
        have hV4 := ((congrFun eh4.symm A.2.1).trans (hu_ne _ _ (Ne.symm n12))).trans hV1
        have hW4 := ((congrFun eh4.symm A.2.2.1).trans (hu_ne _ _ (Ne.symm n13))).trans hW1
        have hO4 : Off A h h4 := eh4 ▸ Off.p1 hO1 _
        exact r_vret C dRW_dropZeros_67 (Nat.le_refl _) (Nat.le_refl _) ⟨_, _, ⟨hA4.trans (by rw [hk]; rfl), hV4, hW4, by omega, hcap, hE1⟩, hO4⟩
      · have hlt : i < L.length := by
          rcases Nat.lt_or_ge i L.length with q | q
          · exact q
          · exact absurd (nI_le q (by omega)) c_9
        obtain ⟨r, hr⟩ : ∃ r, L[i]? = some r := ⟨_, List.getElem?_eq_getElem hlt⟩
        refine r_aload_n (n := 13) C dRW_dropZeros_12 rfl rfl ?_
        refine r_get (ci := 0) (n := 16) C hinRW rfl 1 (by decide) tw_34 rfl dRW_dropZeros_13 rfl (by assumption) rfl ?_
        refine r_iload_n (n := 17) C dRW_dropZeros_16 rfl rfl ?_
        refine r_lald (n := 18) C dRW_dropZeros_17 rfl hW1 i rfl (by omega) (by omega) ?_
        refine r_lconst (v := 0) (n := 19) C dRW_dropZeros_18 rfl (by decide) ?_
        refine r_lcmp (n := 20) C dRW_dropZeros_19 rfl ?_
        refine r_if_eq (tgt := 56) (n := 23) C dRW_dropZeros_20 (by decide) rfl (fun c_20 => ?_) (fun c_20 => ?_)
        · have hg := (hrest i r (Nat.le_refl _) hr).2.2.2
          have hz : r.2 = 0 := by rw [← hg]; exact (lg_cmp_eq _ _).mp c_20
          have hnt := nz_take hr
          rw [if_pos hz, List.append_nil] at hnt
          refine r_iinc (n := 59) C dRW_dropZeros_56 rfl rfl (nI_i i) (by decide) ?_
          refine r_goto (tgt := 4) C dRW_dropZeros_59 (by decide) ?_
          refine V.byk (ls' := [(0, .ref A.1), (1, .int (nI k)), (2, .int (nI (i + 1)))]) rfl ?_
          rw [← hk, ← hnt]
          exact ih _ (by omega) (i + 1) h1 f1 g1 rfl (by omega) hA1 hV1 hW1 hO1 (by rw [hnt]; exact hE1) (fun j q hj hq => hrest j q (by omega) hq)
        · have hg := (hrest i r (Nat.le_refl _) hr).2.2.2
          have hz : ¬ r.2 = 0 := by rw [← hg]; exact fun e => c_20 ((lg_cmp_eq _ _).mpr e)
          have hnt := nz_take hr
          rw [if_neg hz] at hnt
          refine r_aload_n (n := 24) C dRW_dropZeros_23 rfl rfl ?_
          refine r_get (ci := 0) (n := 27) C hinRW rfl 0 (by decide) tw_33 rfl dRW_dropZeros_24 rfl (by assumption) rfl ?_
          refine r_iload_n (n := 28) C dRW_dropZeros_27 rfl rfl ?_
          refine r_iconst (v := 3) (n := 29) C dRW_dropZeros_28 rfl (by decide) ?_
          refine r_imul (n := 30) C dRW_dropZeros_29 rfl ?_
          refine r_aload_n (n := 31) C dRW_dropZeros_30 rfl rfl ?_
          refine r_get (ci := 0) (n := 34) C hinRW rfl 0 (by decide) tw_33 rfl dRW_dropZeros_31 rfl (by assumption) rfl ?_
          refine r_iload_n (n := 35) C dRW_dropZeros_34 rfl rfl ?_
          refine r_iconst (v := 3) (n := 36) C dRW_dropZeros_35 rfl (by decide) ?_
          refine r_imul (n := 37) C dRW_dropZeros_36 rfl ?_
          refine r_iconst (v := 3) (n := 38) C dRW_dropZeros_37 rfl (by decide) ?_
          refine r_copyi (n := 41) C tw_140 tw_142 tw_141 tw_8 dRW_dropZeros_38 rfl hV1 hV1 (i * 3) (k * 3) 3 (ix0 i) (ix0 k) rfl (by omega) (by omega) (by omega) (by omega) (Nat.le_of_ble_eq_true rfl) (Nat.le_of_ble_eq_true rfl) ?_
          generalize eh2 : hu h1 A.2.1 _ = h2
          have hA2 := ((congrFun eh2.symm A.1).trans (hu_ne _ _ n12)).trans hA1
          have hV2 := (congrFun eh2.symm A.2.1).trans (hu_eq _ _ _)
          have hW2 := ((congrFun eh2.symm A.2.2.1).trans (hu_ne _ _ (Ne.symm n23))).trans hW1
          have hO2 : Off A h h2 := eh2 ▸ Off.p2 hO1 _
          refine r_aload_n (n := 42) C dRW_dropZeros_41 rfl rfl ?_
          refine r_get (ci := 0) (n := 45) C hinRW rfl 1 (by decide) tw_34 rfl dRW_dropZeros_42 rfl (by assumption) rfl ?_
          refine r_iload_n (n := 46) C dRW_dropZeros_45 rfl rfl ?_
          refine r_aload_n (n := 47) C dRW_dropZeros_46 rfl rfl ?_
          refine r_get (ci := 0) (n := 50) C hinRW rfl 1 (by decide) tw_34 rfl dRW_dropZeros_47 rfl (by assumption) rfl ?_
          refine r_iload_n (n := 51) C dRW_dropZeros_50 rfl rfl ?_
          refine r_lald (n := 52) C dRW_dropZeros_51 rfl hW2 i rfl (by omega) (by omega) ?_
          refine r_last (n := 53) C dRW_dropZeros_52 rfl hW2 k rfl (by omega) (by omega) ?_
          generalize eh3 : hu h2 A.2.2.1 _ = h3
          have hA3 := ((congrFun eh3.symm A.1).trans (hu_ne _ _ n13)).trans hA2
          have hV3 := ((congrFun eh3.symm A.2.1).trans (hu_ne _ _ n23)).trans hV2
          have hW3 := (congrFun eh3.symm A.2.2.1).trans (hu_eq _ _ _)
          have hO3 : Off A h h3 := eh3 ▸ Off.p3 hO2 _
          refine r_iinc (n := 56) C dRW_dropZeros_53 rfl rfl (nI_i k) (by decide) ?_
          refine r_iinc (n := 59) C dRW_dropZeros_56 rfl rfl (nI_i i) (by decide) ?_
          refine r_goto (tgt := 4) C dRW_dropZeros_59 (by decide) ?_
          have hl2 : (nz (L.take (i + 1))).length = k + 1 := by rw [hnt, List.length_append, hk]; rfl
          refine V.byk (ls' := [(0, .ref A.1), (1, .int (nI (k + 1))), (2, .int (nI (i + 1)))]) rfl ?_
          rw [← hl2]
          refine ih _ (by omega) (i + 1) h3 _ _ rfl (by omega) hA3 hV3 hW3 hO3 ?_ (fun j q hj hq => ?_)
          · rw [hnt]
            obtain ⟨e1, e2, e3, e4⟩ := hrest i r (Nat.le_refl _) hr
            refine Enc_snoc hE1 (fun j hj => pk_cpy_out (Or.inl (by omega))) (fun j hj => pk_uLn (by omega)) ?_
            rw [hk]
            refine ⟨?_, ?_, ?_, ?_⟩
            · rw [pk_cpy_in (by omega) (by omega), ← e1]; congr 1; omega
            · rw [pk_cpy_in (by omega) (by omega), ← e2]; congr 1; omega
            · rw [pk_cpy_in (by omega) (by omega), ← e3]; congr 1; omega
            · rw [pk_uLs]; exact e4
          · obtain ⟨e1, e2, e3, e4⟩ := hrest j q (by omega) hq
            exact ⟨by rw [pk_cpy_out (Or.inr (by omega))]; exact e1, by rw [pk_cpy_out (Or.inr (by omega))]; exact e2, by rw [pk_cpy_out (Or.inr (by omega))]; exact e3, by rw [pk_uLn (by omega)]; exact e4⟩
  refine r_iconst (v := 0) (n := 1) C dRW_dropZeros_0 rfl (by decide) ?_
  refine r_istore_n (n := 2) C dRW_dropZeros_1 rfl (by decide) ?_
  refine r_iconst (v := 0) (n := 3) C dRW_dropZeros_2 rfl (by decide) ?_
  refine r_istore_n (n := 4) C dRW_dropZeros_3 rfl (by decide) ?_
  refine V.byk (ls' := [(0, .ref A.1), (1, .int (nI 0)), (2, .int (nI 0))]) rfl ?_
  exact loop _ 0 h f g rfl (Nat.zero_le _) hA hV hW Off.rf (Enc_nil f g) (fun j q _ hq => hE j q hq)
set_option maxHeartbeats 4000000 in
set_option maxRecDepth 100000 in
/-- Rows.sumOfWeights -/
theorem c_RW_sumOfWeights (l : Launch) (o : Om) (h : AH) (A : Nat × Nat × Nat × Nat) (f : Nat → Int32) (g : Nat → Int64) (L : List Rw) (hR : RA0 o h A f g L) : Mt l o yRW_sumOfWeights cRW_sumOfWeights 4 (some .long) ({ frames := 0, cells := 0, slots := 0, locals := 0 } : Room) [.ref A.1] h (QL o (fun x h' => x = sumW L ∧ h' = h)) (0) (0) := by
  refine Met.ofV (by decide) (Nat.le_of_ble_eq_true rfl) (fun K hl ho C => ?_)
  subst hl; subst ho
  obtain ⟨hA, hV, hW, hn, hcap, hE⟩ := id hR
  have loop : ∀ (m i : Nat), L.length - i = m → i ≤ L.length → V K h 0 0 (EndQ K (QL (Ko K) (fun x h' => x = sumW L ∧ h' = h)) 0 0) 4 [(0, .ref A.1), (1, .long (sumW (L.take i))), (3, .int (nI i))] [] := by
    intro m
    induction m using Nat.strongRecOn with
    | _ m ih =>
      intro i hm hi
      refine r_iload_n (n := 5) C dRW_sumOfWeights_4 rfl rfl ?_
      refine r_aload_n (n := 6) C dRW_sumOfWeights_5 rfl rfl ?_
      refine r_get (ci := 0) (n := 9) C hinRW rfl 2 (by decide) tw_35 rfl dRW_sumOfWeights_6 rfl (by assumption) rfl ?_
      refine r_icmp_ge (tgt := 27) (n := 12) C dRW_sumOfWeights_9 (by decide) rfl (fun c_9 => ?_) (fun c_9 => ?_)
      · have hie : i = L.length := by have := (nI_leI (by omega) (by omega)).mp c_9; omega
        refine r_lload_n (n := 28) C dRW_sumOfWeights_27 rfl rfl ?_
        exact r_lret C dRW_sumOfWeights_28 (Nat.le_refl _) (Nat.le_refl _) ⟨by rw [hie, List.take_length], rfl⟩
      · have hlt : i < L.length := by
          rcases Nat.lt_or_ge i L.length with q | q
          · exact q
          · exact absurd (nI_le q (by omega)) c_9
        obtain ⟨r, hr⟩ : ∃ r, L[i]? = some r := ⟨_, List.getElem?_eq_getElem hlt⟩
        refine r_lload_n (n := 13) C dRW_sumOfWeights_12 rfl rfl ?_
        refine r_aload_n (n := 14) C dRW_sumOfWeights_13 rfl rfl ?_
        refine r_get (ci := 0) (n := 17) C hinRW rfl 1 (by decide) tw_34 rfl dRW_sumOfWeights_14 rfl (by assumption) rfl ?_
        refine r_iload_n (n := 18) C dRW_sumOfWeights_17 rfl rfl ?_
        refine r_lald (n := 19) C dRW_sumOfWeights_18 rfl (by assumption) i rfl (by omega) (by omega) ?_
        refine r_ladd (n := 20) C dRW_sumOfWeights_19 rfl ?_
        refine V.eql (y := sumW (L.take (i + 1))) (by rw [(hE i r hr).2.2.2]; exact (fold_take (fun s r => s + r.2) 0 hr).symm) ?_
        refine r_lstore_n (n := 21) C dRW_sumOfWeights_20 rfl (by decide) ?_
        refine r_iinc (n := 24) C dRW_sumOfWeights_21 rfl rfl (nI_i i) (by decide) ?_
        refine r_goto (tgt := 4) C dRW_sumOfWeights_24 (by decide) ?_
        refine V.byk (ls' := [(0, .ref A.1), (1, .long (sumW (L.take (i + 1)))), (3, .int (nI (i + 1)))]) rfl ?_
        exact ih _ (by omega) (i + 1) rfl (by omega)
  refine r_lconst (v := 0) (n := 1) C dRW_sumOfWeights_0 rfl (by decide) ?_
  refine r_lstore_n (n := 2) C dRW_sumOfWeights_1 rfl (by decide) ?_
  refine r_iconst (v := 0) (n := 3) C dRW_sumOfWeights_2 rfl (by decide) ?_
  refine r_istore_n (n := 4) C dRW_sumOfWeights_3 rfl (by decide) ?_
  refine V.byk (ls' := [(0, .ref A.1), (1, .long 0), (3, .int (nI 0))]) rfl ?_
  exact loop _ 0 rfl (Nat.zero_le _)
set_option maxHeartbeats 4000000 in
set_option maxRecDepth 100000 in
/-- Rows.weightedSum -/
theorem c_RW_weightedSum (l : Launch) (o : Om) (h : AH) (A : Nat × Nat × Nat × Nat) (f : Nat → Int32) (g : Nat → Int64) (L : List Rw) (c : Nat) (hR : RA0 o h A f g L) (hc : c < 3) : Mt l o yRW_weightedSum cRW_weightedSum 5 (some .long) ({ frames := 1, cells := 0, slots := 0, locals := 22 } : Room) [.ref A.1, .int (nI c)] h (QL o (fun x h' => x = sumC c L ∧ h' = h)) (0) (0) := by
  refine Met.ofV (by decide) (Nat.le_of_ble_eq_true rfl) (fun K hl ho C => ?_)
  subst hl; subst ho
  obtain ⟨hA, hV, hW, hn, hcap, hE⟩ := id hR
  have loop : ∀ (m i : Nat), L.length - i = m → i ≤ L.length → V K h 0 0 (EndQ K (QL (Ko K) (fun x h' => x = sumC c L ∧ h' = h)) 0 0) 5 [(0, .ref A.1), (1, .int (nI c)), (2, .long (sumC c (L.take i))), (4, .int (nI i))] [] := by
    intro m
    induction m using Nat.strongRecOn with
    | _ m ih =>
      intro i hm hi
      refine r_iload (n := 7) C dRW_weightedSum_5 rfl rfl ?_
      refine r_aload_n (n := 8) C dRW_weightedSum_7 rfl rfl ?_
      refine r_get (ci := 0) (n := 11) C hinRW rfl 2 (by decide) tw_35 rfl dRW_weightedSum_8 rfl (by assumption) rfl ?_
      refine r_icmp_ge (tgt := 39) (n := 14) C dRW_weightedSum_11 (by decide) rfl (fun c_11 => ?_) (fun c_11 => ?_)
      · have hie : i = L.length := by have := (nI_leI (by omega) (by omega)).mp c_11; omega
        refine r_lload_n (n := 40) C dRW_weightedSum_39 rfl rfl ?_
        exact r_lret C dRW_weightedSum_40 (Nat.le_refl _) (Nat.le_refl _) ⟨by rw [hie, List.take_length], rfl⟩
      · have hlt : i < L.length := by
          rcases Nat.lt_or_ge i L.length with q | q
          · exact q
          · exact absurd (nI_le q (by omega)) c_11
        obtain ⟨r, hr⟩ : ∃ r, L[i]? = some r := ⟨_, List.getElem?_eq_getElem hlt⟩
        refine r_lload_n (n := 15) C dRW_weightedSum_14 rfl rfl ?_
        refine r_aload_n (n := 16) C dRW_weightedSum_15 rfl rfl ?_
        refine r_get (ci := 0) (n := 19) C hinRW rfl 1 (by decide) tw_34 rfl dRW_weightedSum_16 rfl (by assumption) rfl ?_
        refine r_iload (n := 21) C dRW_weightedSum_19 rfl rfl ?_
        refine r_lald (n := 22) C dRW_weightedSum_21 rfl (by assumption) i rfl (by omega) (by omega) ?_
        refine r_aload_n (n := 23) C dRW_weightedSum_22 rfl rfl ?_
        refine r_iload (n := 25) C dRW_weightedSum_23 rfl rfl ?_
        refine r_iload_n (n := 26) C dRW_weightedSum_25 rfl rfl ?_
        refine r_ci (n := 29) (rn_V (z := 2) (ci := 0) (T := TRW) C (c_RW_valueAt (Kl K) (Ko K) h A f g L i c r hR hr hc) tw_156 tw_157 tw_158 tw_2 tw_159 rfl rfl ndRW_valueAt ⟨Nat.le_of_ble_eq_true rfl, Nat.le_of_ble_eq_true rfl⟩ (by assumption) rfl rfl rfl (Nat.le_of_ble_eq_true rfl) dRW_weightedSum_26 ⟨Nat.le_of_ble_eq_true rfl, Nat.le_of_ble_eq_true rfl⟩) rfl (fun x h1 hq => ?_)
        obtain ⟨e1, e2⟩ := hq
        subst e1
        rw [e2]
        refine r_i2l (n := 30) C dRW_weightedSum_29 rfl ?_
        refine r_lmul (n := 31) C dRW_weightedSum_30 rfl ?_
        refine r_ladd (n := 32) C dRW_weightedSum_31 rfl ?_
        refine V.eql (y := sumC c (L.take (i + 1))) (by rw [(hE i r hr).2.2.2]; exact (fold_take (fun s r => s + r.2 * (colv r.1 c).toInt64) 0 hr).symm) ?_
        refine r_lstore_n (n := 33) C dRW_weightedSum_32 rfl (by decide) ?_
        refine r_iinc (n := 36) C dRW_weightedSum_33 rfl rfl (nI_i i) (by decide) ?_
        refine r_goto (tgt := 5) C dRW_weightedSum_36 (by decide) ?_
        refine V.byk (ls' := [(0, .ref A.1), (1, .int (nI c)), (2, .long (sumC c (L.take (i + 1)))), (4, .int (nI (i + 1)))]) rfl ?_
        exact ih _ (by omega) (i + 1) rfl (by omega)
  refine r_lconst (v := 0) (n := 1) C dRW_weightedSum_0 rfl (by decide) ?_
  refine r_lstore_n (n := 2) C dRW_weightedSum_1 rfl (by decide) ?_
  refine r_iconst (v := 0) (n := 3) C dRW_weightedSum_2 rfl (by decide) ?_
  refine r_istore (n := 5) C dRW_weightedSum_3 rfl (by decide) ?_
  refine V.byk (ls' := [(0, .ref A.1), (1, .int (nI c)), (2, .long 0), (4, .int (nI 0))]) rfl ?_
  exact loop _ 0 rfl (Nat.zero_le _)
set_option maxHeartbeats 4000000 in
set_option maxRecDepth 100000 in
/-- Rows.hasBelowZero -/
theorem c_RW_hasBelowZero (l : Launch) (o : Om) (h : AH) (A : Nat × Nat × Nat × Nat) (f : Nat → Int32) (g : Nat → Int64) (L : List Rw) (hR : RA0 o h A f g L) : Mt l o yRW_hasBelowZero cRW_hasBelowZero 2 (some .boolean) ({ frames := 0, cells := 0, slots := 0, locals := 0 } : Room) [.ref A.1] h (QI o (fun x h' => x = b01 (L.any (fun r => decide (r.2 < 0))) ∧ h' = h)) (0) (0) := by
  refine Met.ofV (by decide) (Nat.le_of_ble_eq_true rfl) (fun K hl ho C => ?_)
  subst hl; subst ho
  obtain ⟨hA, hV, hW, hn, hcap, hE⟩ := id hR
  have loop : ∀ (m i : Nat), L.length - i = m → i ≤ L.length → (L.take i).any (fun r => decide (r.2 < 0)) = false → V K h 0 0 (EndQ K (QI (Ko K) (fun x h' => x = b01 (L.any (fun r => decide (r.2 < 0))) ∧ h' = h)) 0 0) 2 [(0, .ref A.1), (1, .int (nI i))] [] := by
    intro m
    induction m using Nat.strongRecOn with
    | _ m ih =>
      intro i hm hi hany
      refine r_iload_n (n := 3) C dRW_hasBelowZero_2 rfl rfl ?_
      refine r_aload_n (n := 4) C dRW_hasBelowZero_3 rfl rfl ?_
      refine r_get (ci := 0) (n := 7) C hinRW rfl 2 (by decide) tw_35 rfl dRW_hasBelowZero_4 rfl (by assumption) rfl ?_
      refine r_icmp_ge (tgt := 29) (n := 10) C dRW_hasBelowZero_7 (by decide) rfl (fun c_7 => ?_) (fun c_7 => ?_)
      · have hie : i = L.length := by have := (nI_leI (by omega) (by omega)).mp c_7; omega
        refine r_iconst (v := 0) (n := 30) C dRW_hasBelowZero_29 rfl (by decide) ?_
        exact r_zret C dRW_hasBelowZero_30 rfl (Nat.le_refl _) (Nat.le_refl _) ⟨by rw [hie, List.take_length] at hany; rw [hany]; rfl, rfl⟩
      · have hlt : i < L.length := by
          rcases Nat.lt_or_ge i L.length with q | q
          · exact q
          · exact absurd (nI_le q (by omega)) c_7
        obtain ⟨r, hr⟩ : ∃ r, L[i]? = some r := ⟨_, List.getElem?_eq_getElem hlt⟩
        refine r_aload_n (n := 11) C dRW_hasBelowZero_10 rfl rfl ?_
        refine r_get (ci := 0) (n := 14) C hinRW rfl 1 (by decide) tw_34 rfl dRW_hasBelowZero_11 rfl (by assumption) rfl ?_
        refine r_iload_n (n := 15) C dRW_hasBelowZero_14 rfl rfl ?_
        refine r_lald (n := 16) C dRW_hasBelowZero_15 rfl (by assumption) i rfl (by omega) (by omega) ?_
        refine r_lconst (v := 0) (n := 17) C dRW_hasBelowZero_16 rfl (by decide) ?_
        refine r_lcmp (n := 18) C dRW_hasBelowZero_17 rfl ?_
        refine r_if_ge (tgt := 23) (n := 21) C dRW_hasBelowZero_18 (by decide) rfl (fun c_18 => ?_) (fun c_18 => ?_)
        · have hz : ¬ r.2 < 0 := by have := (lg_cmp_ge _ _).mp c_18; rw [(hE i r hr).2.2.2] at this; exact Int64.not_lt.mpr this
          refine r_iinc (n := 26) C dRW_hasBelowZero_23 rfl rfl (nI_i i) (by decide) ?_
          refine r_goto (tgt := 2) C dRW_hasBelowZero_26 (by decide) ?_
          refine V.byk (ls' := [(0, .ref A.1), (1, .int (nI (i + 1)))]) rfl ?_
          exact ih _ (by omega) (i + 1) rfl (by omega) (by rw [any_take hr, hany]; simp [hz])
        · have hz : r.2 < 0 := by rw [← (hE i r hr).2.2.2]; exact Int64.not_le.mp (fun e => c_18 ((lg_cmp_ge _ _).mpr e))
          refine r_iconst (v := 1) (n := 22) C dRW_hasBelowZero_21 rfl (by decide) ?_
          exact r_zret C dRW_hasBelowZero_22 rfl (Nat.le_refl _) (Nat.le_refl _) ⟨by rw [List.any_eq_true.mpr ⟨r, List.mem_of_getElem? hr, by simpa using hz⟩]; rfl, rfl⟩
  refine r_iconst (v := 0) (n := 1) C dRW_hasBelowZero_0 rfl (by decide) ?_
  refine r_istore_n (n := 2) C dRW_hasBelowZero_1 rfl (by decide) ?_
  refine V.byk (ls' := [(0, .ref A.1), (1, .int (nI 0))]) rfl ?_
  exact loop _ 0 rfl (Nat.zero_le _) rfl
set_option maxHeartbeats 4000000 in
set_option maxRecDepth 100000 in
/-- Rows.canHold -/
theorem c_RW_canHold (l : Launch) (o : Om) (h : AH) (A : Nat × Nat × Nat × Nat) (f : Nat → Int32) (g : Nat → Int64) (L : List Rw) (Bb : Nat × Nat × Nat × Nat) (fb : Nat → Int32) (gb : Nat → Int64) (M : List Rw) (hR : RA0 o h A f g L) (hRb : RA0 o h Bb fb gb M) : Mt l o yRW_canHold cRW_canHold 3 (some .boolean) ({ frames := 0, cells := 0, slots := 0, locals := 0 } : Room) [.ref A.1, .ref Bb.1] h (QI o (fun x h' => x = b01 (decide (M.length ≤ A.2.2.2) && M.all (fun r => okW r.2)) ∧ h' = h)) (0) (0) := by
  refine Met.ofV (by decide) (Nat.le_of_ble_eq_true rfl) (fun K hl ho C => ?_)
  subst hl; subst ho
  obtain ⟨hA, hV, hW, hn, hcap, hE⟩ := id hR
  obtain ⟨hAb, hVb, hWb, hnb, hcapb, hEb⟩ := id hRb
  have loop : ∀ (m i : Nat), M.length - i = m → i ≤ M.length → M.length ≤ A.2.2.2 → (M.take i).all (fun r => okW r.2) = true → V K h 0 0 (EndQ K (QI (Ko K) (fun x h' => x = b01 (decide (M.length ≤ A.2.2.2) && M.all (fun r => okW r.2)) ∧ h' = h)) 0 0) 16 [(0, .ref A.1), (1, .ref Bb.1), (2, .int (nI i))] [] := by
    intro m
    induction m using Nat.strongRecOn with
    | _ m ih =>
      intro i hm hi hfit hall
      refine r_iload_n (n := 17) C dRW_canHold_16 rfl rfl ?_
      refine r_aload_n (n := 18) C dRW_canHold_17 rfl rfl ?_
      refine r_get (ci := 0) (n := 21) C hinRW rfl 2 (by decide) tw_35 rfl dRW_canHold_18 rfl (by assumption) rfl ?_
      refine r_icmp_ge (tgt := 58) (n := 24) C dRW_canHold_21 (by decide) rfl (fun c_21 => ?_) (fun c_21 => ?_)
      · have hie : i = M.length := by have := (nI_leI (by omega) (by omega)).mp c_21; omega
        refine r_iconst (v := 1) (n := 59) C dRW_canHold_58 rfl (by decide) ?_
        exact r_zret C dRW_canHold_59 rfl (Nat.le_refl _) (Nat.le_refl _) ⟨by rw [hie, List.take_length] at hall; rw [hall, decide_eq_true hfit]; rfl, rfl⟩
      · have hlt : i < M.length := by
          rcases Nat.lt_or_ge i M.length with q | q
          · exact q
          · exact absurd (nI_le q (by omega)) c_21
        obtain ⟨r, hr⟩ : ∃ r, M[i]? = some r := ⟨_, List.getElem?_eq_getElem hlt⟩
        have hg := (hEb i r hr).2.2.2
        refine r_aload_n (n := 25) C dRW_canHold_24 rfl rfl ?_
        refine r_get (ci := 0) (n := 28) C hinRW rfl 1 (by decide) tw_34 rfl dRW_canHold_25 rfl (by assumption) rfl ?_
        refine r_iload_n (n := 29) C dRW_canHold_28 rfl rfl ?_
        refine r_lald (n := 30) C dRW_canHold_29 rfl hWb i rfl (by omega) (by omega) ?_
        refine r_ldc2 (n := 33) C tw_287 dRW_canHold_30 rfl ?_
        refine r_lcmp (n := 34) C dRW_canHold_33 rfl ?_
        refine r_if_gt (tgt := 50) (n := 37) C dRW_canHold_34 (by decide) rfl (fun c_34 => ?_) (fun c_34 => ?_)
        · have hz : okW r.2 = false := by
            have := (lg_cmp_gt _ _).mp c_34
            rw [hg] at this
            unfold okW
            rw [decide_eq_false (Int64.not_le.mpr this), Bool.false_and]
          refine r_iconst (v := 0) (n := 51) C dRW_canHold_50 rfl (by decide) ?_
          exact r_zret C dRW_canHold_51 rfl (Nat.le_refl _) (Nat.le_refl _) ⟨by rw [show M.all (fun r => okW r.2) = false from Bool.eq_false_iff.mpr (fun e => by have := List.all_eq_true.mp e r (List.mem_of_getElem? hr); rw [hz] at this; cases this), Bool.and_false]; rfl, rfl⟩
        · have hy1 : r.2 ≤ 1000000 := by rw [← hg]; exact Int64.not_lt.mp (fun e => c_34 ((lg_cmp_gt _ _).mpr e))
          refine r_aload_n (n := 38) C dRW_canHold_37 rfl rfl ?_
          refine r_get (ci := 0) (n := 41) C hinRW rfl 1 (by decide) tw_34 rfl dRW_canHold_38 rfl (by assumption) rfl ?_
          refine r_iload_n (n := 42) C dRW_canHold_41 rfl rfl ?_
          refine r_lald (n := 43) C dRW_canHold_42 rfl hWb i rfl (by omega) (by omega) ?_
          refine r_ldc2 (n := 46) C tw_288 dRW_canHold_43 rfl ?_
          refine r_lcmp (n := 47) C dRW_canHold_46 rfl ?_
          refine r_if_ge (tgt := 52) (n := 50) C dRW_canHold_47 (by decide) rfl (fun c_47 => ?_) (fun c_47 => ?_)
          · have hy2 : -1000000 ≤ r.2 := by rw [← hg]; exact (lg_cmp_ge _ _).mp c_47
            refine r_iinc (n := 55) C dRW_canHold_52 rfl rfl (nI_i i) (by decide) ?_
            refine r_goto (tgt := 16) C dRW_canHold_55 (by decide) ?_
            refine V.byk (ls' := [(0, .ref A.1), (1, .ref Bb.1), (2, .int (nI (i + 1)))]) rfl ?_
            exact ih _ (by omega) (i + 1) rfl (by omega) hfit (by rw [all_take hr, hall]; simp [okW, hy1, hy2])
          · have hz : okW r.2 = false := by
              have hy2 : ¬ -1000000 ≤ r.2 := by rw [← hg]; exact fun e => c_47 ((lg_cmp_ge _ _).mpr e)
              unfold okW
              rw [decide_eq_false hy2, Bool.and_false]
            refine r_iconst (v := 0) (n := 51) C dRW_canHold_50 rfl (by decide) ?_
            exact r_zret C dRW_canHold_51 rfl (Nat.le_refl _) (Nat.le_refl _) ⟨by rw [show M.all (fun r => okW r.2) = false from Bool.eq_false_iff.mpr (fun e => by have := List.all_eq_true.mp e r (List.mem_of_getElem? hr); rw [hz] at this; cases this), Bool.and_false]; rfl, rfl⟩
  refine r_aload_n (n := 1) C dRW_canHold_0 rfl rfl ?_
  refine r_get (ci := 0) (n := 4) C hinRW rfl 2 (by decide) tw_35 rfl dRW_canHold_1 rfl (by assumption) rfl ?_
  refine r_aload_n (n := 5) C dRW_canHold_4 rfl rfl ?_
  refine r_get (ci := 0) (n := 8) C hinRW rfl 1 (by decide) tw_34 rfl dRW_canHold_5 rfl (by assumption) rfl ?_
  refine r_lalen (n := 9) C dRW_canHold_8 rfl (by assumption) ?_
  refine r_icmp_le (tgt := 14) (n := 12) C dRW_canHold_9 (by decide) rfl (fun c_9 => ?_) (fun c_9 => ?_)
  · have hfit : M.length ≤ A.2.2.2 := (nI_leI (by omega) (by omega)).mp c_9
    refine r_iconst (v := 0) (n := 15) C dRW_canHold_14 rfl (by decide) ?_
    refine r_istore_n (n := 16) C dRW_canHold_15 rfl (by decide) ?_
    refine V.byk (ls' := [(0, .ref A.1), (1, .ref Bb.1), (2, .int (nI 0))]) rfl ?_
    exact loop _ 0 rfl (Nat.zero_le _) hfit rfl
  · have hfit : ¬ M.length ≤ A.2.2.2 := fun e => c_9 (nI_le e (by omega))
    refine r_iconst (v := 0) (n := 13) C dRW_canHold_12 rfl (by decide) ?_
    exact r_zret C dRW_canHold_13 rfl (Nat.le_refl _) (Nat.le_refl _) ⟨by rw [decide_eq_false hfit]; rfl, rfl⟩
