/-! THE REFERENCE: weightIn, settle -/
theorem wt_first {L : List Rw} {k : Ky} {i : Nat} {r : Rw} (hn : ∀ (j : Nat) (q : Rw), j < i → L[j]? = some q → q.1 ≠ k) (hr : L[i]? = some r) (hk : r.1 = k) : wt L k = r.2 := by
  induction L generalizing i with
  | nil => simp at hr
  | cons q L ih =>
    cases i with
    | zero =>
      simp only [List.getElem?_cons_zero, Option.some.injEq] at hr
      subst hr
      simp [wt, hk]
    | succ i =>
      have h0 := hn 0 q (by omega) rfl
      simp only [wt, if_neg h0]
      exact ih (i := i) (fun j q' hj hq' => hn (j + 1) q' (by omega) (by simpa using hq')) (by simpa using hr)
def NdK (W : List Rw) : Prop := W.Pairwise (fun x y => x.1 ≠ y.1)
def srtW : List Rw → List Rw
  | [] => []
  | r :: W => if r.2 = 0 then srtW W else addW (srtW W) r.1 r.2
theorem srtW_srt : ∀ W : List Rw, Srt (srtW W)
  | [] => List.Pairwise.nil
  | r :: W => by
    unfold srtW; split
    · exact srtW_srt W
    · exact addW_srt _ _ (srtW_srt W)
theorem srtW_key : ∀ {W : List Rw} {q : Rw}, q ∈ srtW W → ∃ p ∈ W, p.1 = q.1
  | [], q, h => by cases h
  | r :: W, q, h => by
    unfold srtW at h; split at h
    · obtain ⟨p, h1, h2⟩ := srtW_key h
      exact ⟨p, List.mem_cons_of_mem _ h1, h2⟩
    · rcases addW_mem q h with e | ⟨p, h1, h2⟩
      · exact ⟨r, List.mem_cons_self, e.symm⟩
      · obtain ⟨p', h3, h4⟩ := srtW_key h1
        exact ⟨p', List.mem_cons_of_mem _ h3, h4.trans h2⟩
theorem srtW_wt : ∀ {W : List Rw}, NdK W → ∀ k, wt (srtW W) k = wt W k
  | [], _, k => rfl
  | r :: W, h, k => by
    obtain ⟨h1, h2⟩ := List.pairwise_cons.mp h
    have ih := srtW_wt h2 k
    have hz : r.1 = k → wt W k = 0 := fun e => wt_none (fun p hp z => h1 p hp (e.trans z.symm))
    unfold srtW; split
    · next h0 =>
      rw [ih]
      by_cases e : r.1 = k
      · simp only [wt, if_pos e, h0]; exact hz e
      · simp [wt, e]
    · next h0 =>
      rw [addW_wt _ _ (srtW_srt W), ih]
      by_cases e : r.1 = k
      · rw [hz e, if_pos e.symm]; simp [wt, e]
      · rw [if_neg (Ne.symm e)]; simp [wt, e]
theorem addW_new {L : List Rw} {k : Ky} {w : Int64} (hn : ∀ q ∈ L, q.1 ≠ k) : ∀ q ∈ addW L k w, q = (k, w) ∨ q ∈ L := by
  induction L with
  | nil =>
    intro q hq
    simp only [addW, List.mem_singleton] at hq
    exact Or.inl hq
  | cons p L ih =>
    intro q hq
    simp only [addW, if_neg (hn p List.mem_cons_self)] at hq
    split at hq
    · rcases List.mem_cons.mp hq with e | e
      · exact Or.inl e
      · exact Or.inr e
    · rcases List.mem_cons.mp hq with e | e
      · exact Or.inr (by rw [e]; exact List.mem_cons_self)
      · rcases ih (fun q hq => hn q (List.mem_cons_of_mem _ hq)) q e with z | z
        · exact Or.inl z
        · exact Or.inr (List.mem_cons_of_mem _ z)
theorem srtW_nz : ∀ {W : List Rw}, NdK W → ∀ q ∈ srtW W, q.2 ≠ 0
  | [], _, q, h => by cases h
  | r :: W, hW, q, h => by
    obtain ⟨h1, h2⟩ := List.pairwise_cons.mp hW
    unfold srtW at h; split at h
    · exact srtW_nz h2 q h
    · next h0 =>
      rcases addW_new (fun p hp e => by obtain ⟨p', h3, h4⟩ := srtW_key hp; exact h1 p' h3 (e.symm.trans h4.symm)) q h with e | e
      · rw [e]; exact h0
      · exact srtW_nz h2 q e
theorem filter_addW {L : List Rw} {k : Ky} {w : Int64} (hn : ∀ q ∈ L, q.1 ≠ k) (p : Rw → Bool) : ((addW L k w).filter p).length = (L.filter p).length + (if p (k, w) = true then 1 else 0) := by
  induction L with
  | nil => simp only [addW]; by_cases e : p (k, w) = true <;> simp [e]
  | cons q L ih =>
    have ih := ih (fun r hr => hn r (List.mem_cons_of_mem _ hr))
    simp only [addW, if_neg (hn q List.mem_cons_self)]
    split
    · by_cases e : p (k, w) = true
      · rw [List.filter_cons_of_pos e]; simp [e]
      · rw [List.filter_cons_of_neg e]; simp [e]
    · by_cases e : p q = true
      · rw [List.filter_cons_of_pos e, List.filter_cons_of_pos e, List.length_cons, List.length_cons, ih]; omega
      · rw [List.filter_cons_of_neg e, List.filter_cons_of_neg e, ih]
theorem filter_srtW : ∀ {W : List Rw}, NdK W → ∀ p : Rw → Bool, ((srtW W).filter p).length = ((nz W).filter p).length
  | [], _, p => rfl
  | r :: W, hW, p => by
    obtain ⟨h1, h2⟩ := List.pairwise_cons.mp hW
    have ih := filter_srtW h2 p
    unfold srtW; split
    · next h0 =>
      have e : nz (r :: W) = nz W := by simp [nz, h0]
      rw [e]; exact ih
    · next h0 =>
      have e : nz (r :: W) = r :: nz W := by simp [nz, h0]
      rw [e, filter_addW (fun q hq e => by obtain ⟨p', h3, h4⟩ := srtW_key hq; exact h1 p' h3 (e.symm.trans h4.symm)), ih]
      by_cases hp : p r = true
      · rw [List.filter_cons_of_pos hp, List.length_cons, if_pos hp]
      · rw [List.filter_cons_of_neg hp, if_neg hp]; rfl
theorem filter_true {L : List Rw} : L.filter (fun _ => true) = L := List.filter_eq_self.mpr (fun _ _ => rfl)
theorem srtW_len {W : List Rw} (h : NdK W) : (srtW W).length = (nz W).length := by
  have := filter_srtW h (fun _ => true)
  rw [filter_true, filter_true] at this
  exact this
def cntK (L : List Rw) (z : Int) : Nat := (L.filter (fun r => decide (kz r.1 < z))).length
theorem cntK_at {L : List Rw} (h : Srt L) {i : Nat} {r : Rw} (hr : L[i]? = some r) : cntK L (kz r.1) = i := by
  induction L generalizing i with
  | nil => simp at hr
  | cons q L ih =>
    obtain ⟨h1, h2⟩ := List.pairwise_cons.mp h
    cases i with
    | zero =>
      simp only [List.getElem?_cons_zero, Option.some.injEq] at hr
      subst hr
      unfold cntK
      rw [List.filter_eq_nil_iff.mpr (fun p hp => by
        rcases List.mem_cons.mp hp with e | e
        · rw [e]; simp
        · have := h1 p e; simp; omega)]
      rfl
    | succ i =>
      have hr' : L[i]? = some r := by simpa using hr
      have hlt := h1 r (List.mem_of_getElem? hr')
      have := ih h2 hr'
      unfold cntK at this ⊢
      rw [List.filter_cons_of_pos (by simpa using hlt), List.length_cons, this]
theorem nz_in {W : List Rw} (h : NdK W) {r : Rw} (hr : r ∈ W) (h0 : r.2 ≠ 0) : r ∈ srtW W := by
  have hw : wt W r.1 = r.2 := by
    clear h0
    induction W with
    | nil => cases hr
    | cons q W ih =>
      obtain ⟨h1, h2⟩ := List.pairwise_cons.mp h
      rcases List.mem_cons.mp hr with e | e
      · subst e; simp [wt]
      · have : ¬ q.1 = r.1 := h1 r e
        simp only [wt, if_neg this]
        exact ih h2 e
  have h2 := srtW_wt h r.1
  rw [hw] at h2
  have := mem_of_wt (L := srtW W) (k := r.1) (by rw [h2]; exact h0)
  rw [h2] at this
  exact this
theorem all_nz {W : List Rw} : W.all (fun r => okW r.2) = (nz W).all (fun r => okW r.2) := by
  induction W with
  | nil => rfl
  | cons r W ih =>
    by_cases h0 : r.2 = 0
    · have e : nz (r :: W) = nz W := by simp [nz, h0]
      have e2 : okW r.2 = true := by rw [h0]; decide
      rw [e, List.all_cons, e2, Bool.true_and, ih]
    · have e : nz (r :: W) = r :: nz W := by simp [nz, h0]
      rw [e, List.all_cons, List.all_cons, ih]
theorem all_srtW {W : List Rw} (h : NdK W) : (srtW W).all (fun r => okW r.2) = W.all (fun r => okW r.2) := by
  rw [all_nz (W := W)]
  have := filter_srtW h (fun r => !okW r.2)
  have e1 : ∀ L : List Rw, (L.all (fun r => okW r.2) = true ↔ (L.filter (fun r => !okW r.2)).length = 0) := fun L => by
    rw [List.length_eq_zero_iff, List.filter_eq_nil_iff, List.all_eq_true]
    simp
  rw [Bool.eq_iff_iff, e1, e1, this]
theorem fit_srtW {W : List Rw} (h : NdK W) (most : Nat) : fitB most (srtW W) = (decide ((nz W).length ≤ most) && W.all (fun r => okW r.2)) := by
  unfold fitB; rw [srtW_len h, all_srtW h]
def BSame (b : Nat) (MI MI' : Nat → Nat → Int32) (ML ML' : Nat → Nat → Int64) : Prop := (∀ j, j ≠ 0 → j ≠ 1 → j ≠ 2 → j ≠ 4 → MI' j = MI j) ∧ ML' 8 = ML 8 ∧ (∀ p, (p < b * 24 ∨ b * 24 + 24 ≤ p) → MI' 0 p = MI 0 p ∧ MI' 1 p = MI 1 p ∧ MI' 2 p = MI 2 p ∧ ML' 3 p = ML 3 p) ∧ (∀ c, c ≠ b → MI' 4 c = MI 4 c)
theorem BSame.rf {b : Nat} {MI : Nat → Nat → Int32} {ML : Nat → Nat → Int64} : BSame b MI MI ML ML := ⟨fun _ _ _ _ _ => rfl, rfl, fun _ _ => ⟨rfl, rfl, rfl, rfl⟩, fun _ _ => rfl⟩
theorem BL.bsame {b c : Nat} {MI MI' : Nat → Nat → Int32} {ML ML' : Nat → Nat → Int64} {L : List Rw} (hB : BL MI ML c L) (s : BSame b MI MI' ML ML') (hc : c ≠ b) : BL MI' ML' c L := by
  obtain ⟨h1, h2, h3⟩ := hB
  refine ⟨by rw [s.2.2.2 c hc]; exact h1, h2, fun i r hr => ?_⟩
  have hl := (List.getElem?_eq_some_iff.mp hr).1
  obtain ⟨e1, e2, e3, e4⟩ := h3 i r hr
  obtain ⟨f1, f2, f3, f4⟩ := s.2.2.1 (c * 24 + i) (by omega)
  exact ⟨by rw [f1]; exact e1, by rw [f2]; exact e2, by rw [f3]; exact e3, by rw [f4]; exact e4⟩
theorem x24 (b : Nat) : nI b * 24 = nI (b * 24) := by rw [show (24 : Int32) = nI 24 from rfl, pk_mul]
set_option maxHeartbeats 4000000 in
set_option maxRecDepth 100000 in
/-- weightIn -/
theorem c_MD_weightIn (l : Launch) (o : Om) (h : AH) (m : Nat) (ad : Nat → Nat) (MI : Nat → Nat → Int32) (ML : Nat → Nat → Int64) (MV : Nat → Int32) (b : Nat) (L : List Rw) (k : Ky) (hM : MH o h m ad MI ML MV) (hb : b < 26) (hB : BL MI ML b L) : Mt l o yMD_weightIn cMD_weightIn 6 (some .long) ({ frames := 0, cells := 0, slots := 0, locals := 0 } : Room) [.ref m, .int (nI b), .int k.1, .int k.2.1, .int k.2.2] h (QL o (fun x h' => x = wt L k ∧ h' = h)) (0) (0) := by
  refine Met.ofV (by decide) (Nat.le_of_ble_eq_true rfl) (fun K hl ho C => ?_)
  subst hl; subst ho
  obtain ⟨hb1, hb2, hb3⟩ := hB
  have loop : ∀ (q i : Nat), L.length - i = q → i ≤ L.length → (∀ (j : Nat) (r : Rw), j < i → L[j]? = some r → r.1 ≠ k) → V K h 0 0 (EndQ K (QL (Ko K) (fun x h' => x = wt L k ∧ h' = h)) 0 0) 6 [(0, .ref m), (1, .int (nI b)), (2, .int k.1), (3, .int k.2.1), (4, .int k.2.2), (5, .int (nI (b * 24 + i)))] [] := by
    intro q
    induction q using Nat.strongRecOn with
    | _ q ih =>
      intro i hm hi hno
      refine r_iload (n := 8) C dMD_weightIn_6 rfl rfl ?_
      refine r_iload_n (n := 9) C dMD_weightIn_8 rfl rfl ?_
      refine r_bipush (v := 24) (n := 11) C dMD_weightIn_9 rfl (by decide) ?_
      refine r_imul (n := 12) C dMD_weightIn_11 rfl ?_
      refine V.eqi (x24 b) ?_
      refine r_aload_n (n := 13) C dMD_weightIn_12 rfl rfl ?_
      refine r_get (ci := 10) (n := 16) C hinMD rfl 4 (by decide) tw_539 rfl dMD_weightIn_13 rfl hM.1 rfl ?_
      refine r_iload_n (n := 17) C dMD_weightIn_16 rfl rfl ?_
      refine r_ialdM (n := 18) C dMD_weightIn_17 rfl hM 4 (by decide) b rfl (by show _ < 26; omega) ?_
      rw [hb1]
      refine r_iadd (n := 19) C dMD_weightIn_18 rfl ?_
      refine V.eqi (nI_add _ _) ?_
      refine r_icmp_ge (tgt := 70) (n := 22) C dMD_weightIn_19 (by decide) rfl (fun c_19 => ?_) (fun c_19 => ?_)
      · have hie : i = L.length := by have := (nI_leI (a := b * 24 + L.length) (b := b * 24 + i) (by omega) (by omega)).mp c_19; omega
        refine r_lconst (v := 0) (n := 71) C dMD_weightIn_70 rfl (by decide) ?_
        exact r_lret C dMD_weightIn_71 (Nat.le_refl _) (Nat.le_refl _) ⟨(wt_none (fun r hr e => by obtain ⟨j, hj⟩ := List.getElem?_of_mem hr; exact hno j r (by have := (List.getElem?_eq_some_iff.mp hj).1; omega) hj e)).symm, rfl⟩
      · have hlt : i < L.length := by
          rcases Nat.lt_or_ge i L.length with q1 | q1
          · exact q1
          · exact absurd (nI_le (a := b * 24 + L.length) (b := b * 24 + i) (by omega) (by omega)) c_19
        obtain ⟨r, hr⟩ : ∃ r, L[i]? = some r := ⟨_, List.getElem?_eq_getElem hlt⟩
        obtain ⟨e0, e1, e2, e3⟩ := hb3 i r hr
        refine r_aload_n (n := 23) C dMD_weightIn_22 rfl rfl ?_
        refine r_get (ci := 10) (n := 26) C hinMD rfl 0 (by decide) tw_535 rfl dMD_weightIn_23 rfl hM.1 rfl ?_
        refine r_iload (n := 28) C dMD_weightIn_26 rfl rfl ?_
        refine r_ialdM (n := 29) C dMD_weightIn_28 rfl hM 0 (by decide) (b * 24 + i) rfl (by show _ < 624; omega) ?_
        refine r_iload_n (n := 30) C dMD_weightIn_29 rfl rfl ?_
        refine r_icmp_ne (tgt := 64) (n := 33) C dMD_weightIn_30 (by decide) rfl (fun c_30 => ?_) (fun c_30 => ?_)
        · refine r_iinc (n := 67) C dMD_weightIn_64 rfl rfl (nI_i _) (by decide) ?_
          refine r_goto (tgt := 6) C dMD_weightIn_67 (by decide) ?_
          have hk0 : r.1 ≠ k := fun e => c_30 (by rw [e0, e])
          refine V.byk (ls' := [(0, .ref m), (1, .int (nI b)), (2, .int k.1), (3, .int k.2.1), (4, .int k.2.2), (5, .int (nI (b * 24 + (i + 1))))]) rfl ?_
          refine ih _ (by omega) (i + 1) rfl (by omega) (fun j q0 hj hq0 => ?_)
          rcases Nat.lt_or_ge j i with z | z
          · exact hno j q0 z hq0
          · have : j = i := by omega
            subst this
            rw [hr] at hq0
            cases hq0
            exact hk0
        · refine r_aload_n (n := 34) C dMD_weightIn_33 rfl rfl ?_
          refine r_get (ci := 10) (n := 37) C hinMD rfl 1 (by decide) tw_536 rfl dMD_weightIn_34 rfl hM.1 rfl ?_
          refine r_iload (n := 39) C dMD_weightIn_37 rfl rfl ?_
          refine r_ialdM (n := 40) C dMD_weightIn_39 rfl hM 1 (by decide) (b * 24 + i) rfl (by show _ < 624; omega) ?_
          refine r_iload_n (n := 41) C dMD_weightIn_40 rfl rfl ?_
          refine r_icmp_ne (tgt := 64) (n := 44) C dMD_weightIn_41 (by decide) rfl (fun c_41 => ?_) (fun c_41 => ?_)
          · refine r_iinc (n := 67) C dMD_weightIn_64 rfl rfl (nI_i _) (by decide) ?_
            refine r_goto (tgt := 6) C dMD_weightIn_67 (by decide) ?_
            have hk0 : r.1 ≠ k := fun e => c_41 (by rw [e1, e])
            refine V.byk (ls' := [(0, .ref m), (1, .int (nI b)), (2, .int k.1), (3, .int k.2.1), (4, .int k.2.2), (5, .int (nI (b * 24 + (i + 1))))]) rfl ?_
            refine ih _ (by omega) (i + 1) rfl (by omega) (fun j q0 hj hq0 => ?_)
            rcases Nat.lt_or_ge j i with z | z
            · exact hno j q0 z hq0
            · have : j = i := by omega
              subst this
              rw [hr] at hq0
              cases hq0
              exact hk0
          · refine r_aload_n (n := 45) C dMD_weightIn_44 rfl rfl ?_
            refine r_get (ci := 10) (n := 48) C hinMD rfl 2 (by decide) tw_537 rfl dMD_weightIn_45 rfl hM.1 rfl ?_
            refine r_iload (n := 50) C dMD_weightIn_48 rfl rfl ?_
            refine r_ialdM (n := 51) C dMD_weightIn_50 rfl hM 2 (by decide) (b * 24 + i) rfl (by show _ < 624; omega) ?_
            refine r_iload (n := 53) C dMD_weightIn_51 rfl rfl ?_
            refine r_icmp_ne (tgt := 64) (n := 56) C dMD_weightIn_53 (by decide) rfl (fun c_53 => ?_) (fun c_53 => ?_)
            · refine r_iinc (n := 67) C dMD_weightIn_64 rfl rfl (nI_i _) (by decide) ?_
              refine r_goto (tgt := 6) C dMD_weightIn_67 (by decide) ?_
              have hk0 : r.1 ≠ k := fun e => c_53 (by rw [e2, e])
              refine V.byk (ls' := [(0, .ref m), (1, .int (nI b)), (2, .int k.1), (3, .int k.2.1), (4, .int k.2.2), (5, .int (nI (b * 24 + (i + 1))))]) rfl ?_
              refine ih _ (by omega) (i + 1) rfl (by omega) (fun j q0 hj hq0 => ?_)
              rcases Nat.lt_or_ge j i with z | z
              · exact hno j q0 z hq0
              · have : j = i := by omega
                subst this
                rw [hr] at hq0
                cases hq0
                exact hk0
            · have hk0 : r.1 = k := by
                have : r.1 = (k.1, k.2.1, k.2.2) := by rw [← c_30, ← c_41, ← c_53, e0, e1, e2]
                exact this
              refine r_aload_n (n := 57) C dMD_weightIn_56 rfl rfl ?_
              refine r_get (ci := 10) (n := 60) C hinMD rfl 3 (by decide) tw_538 rfl dMD_weightIn_57 rfl hM.1 rfl ?_
              refine r_iload (n := 62) C dMD_weightIn_60 rfl rfl ?_
              refine r_laldM (n := 63) C dMD_weightIn_62 rfl hM 3 (by decide) (b * 24 + i) rfl (by show _ < 624; omega) ?_
              exact r_lret C dMD_weightIn_63 (Nat.le_refl _) (Nat.le_refl _) ⟨by rw [wt_first hno hr hk0]; exact e3, rfl⟩
  refine r_iload_n (n := 1) C dMD_weightIn_0 rfl rfl ?_
  refine r_bipush (v := 24) (n := 3) C dMD_weightIn_1 rfl (by decide) ?_
  refine r_imul (n := 4) C dMD_weightIn_3 rfl ?_
  refine V.eqi (x24 b) ?_
  refine r_istore (n := 6) C dMD_weightIn_4 rfl (by decide) ?_
  refine V.byk (ls' := [(0, .ref m), (1, .int (nI b)), (2, .int k.1), (3, .int k.2.1), (4, .int k.2.2), (5, .int (nI (b * 24 + 0)))]) rfl ?_
  exact loop _ 0 rfl (Nat.zero_le _) (fun j r hj => absurd hj (Nat.not_lt_zero _))
