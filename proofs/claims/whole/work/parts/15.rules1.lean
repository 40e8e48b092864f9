/-! RULES: how a node follows from the slots -/
def SA (o : Om) (h : AH) (s : Nat) (S : Nat → Nat × Nat × Nat × Nat) (Ls : Nat → List Rw) : Prop := ∃ fs : Nat → Option Nat, h s = some (.inl (o.2.1 2, 13, .inr (.inr (.inr (.inr fs))))) ∧ ∀ i, i < 13 → fs i = some (S i).1 ∧ RA o h (S i) (Ls i)
theorem SA.keep {o : Om} {h h' : AH} {s : Nat} {S : Nat → Nat × Nat × Nat × Nat} {Ls : Nat → List Rw} {A : Nat × Nat × Nat × Nat} {f : Nat → Int32} {g : Nat → Int64} {L : List Rw} (hA : RA0 o h A f g L) (hS : SA o h s S Ls) (dj : ∀ i, i < 13 → Dj A (S i)) (off : Off A h h') : SA o h' s S Ls := by
  obtain ⟨fs, h1, h2⟩ := hS
  obtain ⟨a1, a2, a3, -, -, -⟩ := id hA
  refine ⟨fs, (off _ (fun e => ?_) (fun e => ?_) (fun e => ?_)).trans h1, fun i hi => ?_⟩
  · rw [e, a1] at h1; simp at h1
  · rw [e, a2] at h1; simp at h1
  · rw [e, a3] at h1; simp at h1
  · obtain ⟨h3, f1, g1, h4⟩ := h2 i hi
    exact ⟨h3, f1, g1, RA0.keep hA h4 (dj i hi) off⟩
theorem obj_keep {o : Om} {h h' : AH} {A : Nat × Nat × Nat × Nat} {f : Nat → Int32} {g : Nat → Int64} {L : List Rw} (hA : RA0 o h A f g L) {r ci : Nat} {fs : List Value} (hr : h r = some (.inr (ci, fs))) (hc : ci ≠ 0) (off : Off A h h') : h' r = some (.inr (ci, fs)) := by
  obtain ⟨a1, a2, a3, -, -, -⟩ := id hA
  refine (off _ (fun e => ?_) (fun e => ?_) (fun e => ?_)).trans hr
  · rw [e, a1] at hr; simp at hr; exact hc hr.1.symm
  · rw [e, a2] at hr; simp at hr
  · rw [e, a3] at hr; simp at hr
/-- what a rule's fill asks of the slots -/
def FP (o : Om) (h : AH) (s : Nat) (S : Nat → Nat × Nat × Nat × Nat) (Ls : Nat → List Rw) (wk : Nat × Nat × Nat × Nat) : Prop := SA o h s S Ls ∧ ∀ i, i < 13 → Dj wk (S i) ∧ Srt (Ls i) ∧ (Ls i).length ≤ 24
def Gd (F : List Rw → Rw → List Rw) : Prop := ∀ L r, (Srt L → Srt (F L r)) ∧ (F L r).length ≤ L.length + 1
theorem Gd.srt {F : List Rw → Rw → List Rw} (hF : Gd F) {L : List Rw} (M : List Rw) (h : Srt L) : Srt (M.foldl F L) := by
  induction M generalizing L with
  | nil => exact h
  | cons r M ih => exact ih ((hF L r).1 h)
theorem Gd.len {F : List Rw → Rw → List Rw} (hF : Gd F) {L : List Rw} (M : List Rw) : (M.foldl F L).length ≤ L.length + M.length := by
  induction M generalizing L with
  | nil => exact Nat.le_refl _
  | cons r M ih =>
    have h1 := ih (L := F L r)
    have h2 := (hF L r).2
    simp only [List.foldl_cons, List.length_cons]
    omega
def letsF (t : Nat) (n v : Int32) : Bool := match t with
  | 0 => decide (v = n)
  | 1 => decide (v < n)
  | 2 => decide (n < v)
  | _ => decide (¬ v = n)
def codeF (code : Nat) (k : Ky) : Int32 := match code with
  | 3 => 0
  | 4 => k.1 + k.2.1
  | 5 => k.1 - k.2.1
  | c => colv k c
def pickF (code : Nat) (kl kr : Ky) : Int32 := if code < 3 then colv kl code else colv kr (code - 3)
def FRf (col t : Nat) (n : Int32) : List Rw → Rw → List Rw := fun L r => if letsF t n (colv r.1 col) = true then addW L r.1 r.2 else L
def MRf (x y z : Nat) : List Rw → Rw → List Rw := fun L r => addW L (codeF x r.1, codeF y r.1, codeF z r.1) r.2
def DRf : List Rw → Rw → List Rw := fun L r => if 0 < r.2 then addW L r.1 1 else L
def CRf (sg : Int64) : List Rw → Rw → List Rw := fun L r => addW L r.1 (sg * r.2)
def JRf (lc rc x y z : Nat) (lr : Rw) : List Rw → Rw → List Rw := fun L r => if colv lr.1 lc = colv r.1 rc then addW L (pickF x lr.1 r.1, pickF y lr.1 r.1, pickF z lr.1 r.1) (lr.2 * r.2) else L
theorem gdF (col t : Nat) (n : Int32) : Gd (FRf col t n) := fun L r => by
  unfold FRf
  split
  · exact ⟨addW_srt _ _, addW_len _ _⟩
  · exact ⟨id, Nat.le_succ _⟩
theorem gdM (x y z : Nat) : Gd (MRf x y z) := fun L r => ⟨addW_srt _ _, addW_len _ _⟩
theorem gdD : Gd DRf := fun L r => by
  unfold DRf
  split
  · exact ⟨addW_srt _ _, addW_len _ _⟩
  · exact ⟨id, Nat.le_succ _⟩
theorem gdC (sg : Int64) : Gd (CRf sg) := fun L r => ⟨addW_srt _ _, addW_len _ _⟩
theorem gdJ (lc rc x y z : Nat) (lr : Rw) : Gd (JRf lc rc x y z lr) := fun L r => by
  unfold JRf
  split
  · exact ⟨addW_srt _ _, addW_len _ _⟩
  · exact ⟨id, Nat.le_succ _⟩
set_option maxHeartbeats 4000000 in
set_option maxRecDepth 100000 in
/-- TableRule.fill -/
theorem c_TR_fill (l : Launch) (o : Om) (h : AH) (s r : Nat) (S : Nat → Nat × Nat × Nat × Nat) (Ls : Nat → List Rw) (wk : Nat × Nat × Nat × Nat) (f : Nat → Int32) (g : Nat → Int64) (inp : Nat) (hF : FP o h s S Ls wk) (hW : RA0 o h wk f g []) (hcw : wk.2.2.2 = 576) (hinp : inp < 13) (hr : h r = some (.inr (2, [.int (nI inp)]))) : Mt l o yTR_fill cTR_fill 3 none ({ frames := 2, cells := 0, slots := 0, locals := 69 } : Room) [.ref r, .ref s, .ref wk.1] h (QV o (fun h' => ∃ f' g', RA0 o h' wk f' g' (Ls inp) ∧ Off wk h h')) (0) (0) := by
  refine Met.ofV (by decide) (Nat.le_of_ble_eq_true rfl) (fun K hl ho C => ?_)
  subst hl; subst ho
  obtain ⟨fs, hs, hsl⟩ := hF.1
  obtain ⟨hfi, fi, gi, hRi⟩ := hsl inp hinp
  obtain ⟨dj, hsi, hli⟩ := hF.2 inp hinp
  refine r_aload_n (n := 1) C dTR_fill_0 rfl rfl ?_
  refine r_aload_n (n := 2) C dTR_fill_1 rfl rfl ?_
  refine r_aload_n (n := 3) C dTR_fill_2 rfl rfl ?_
  refine r_get (ci := 2) (n := 6) C hinTR rfl 0 (by decide) tw_107 rfl dTR_fill_3 rfl (by assumption) rfl ?_
  refine r_aald (n := 7) (t0 := 2) C dTR_fill_6 rfl (by assumption) rfl inp rfl (by omega) (by omega) hfi ?_
  refine r_cv (n := 10) (rn_V (z := 1) (ci := 0) (T := TRW) C (c_RW_copyFrom (Kl K) (Ko K) h wk f g [] (S inp) fi gi (Ls inp) hW hRi dj (by omega)) tw_271 tw_134 tw_135 tw_2 tw_136 rfl rfl ndRW_copyFrom ⟨Nat.le_of_ble_eq_true rfl, Nat.le_of_ble_eq_true rfl⟩ hW.1 rfl rfl rfl (Nat.le_of_ble_eq_true rfl) dTR_fill_7 ⟨Nat.le_of_ble_eq_true rfl, Nat.le_of_ble_eq_true rfl⟩) rfl (fun h1 hq => ?_)
  exact r_vret C dTR_fill_10 (Nat.le_refl _) (Nat.le_refl _) hq
set_option maxHeartbeats 4000000 in
set_option maxRecDepth 100000 in
/-- FilterRule.lets -/
theorem c_FR_lets (l : Launch) (o : Om) (h : AH) (r inp col t : Nat) (n v : Int32) (ht : t < 4) (hr : h r = some (.inr (3, [.int (nI inp), .int (nI col), .int (nI t), .int n]))) : Mt l o yFR_lets cFR_lets 2 (some .boolean) ({ frames := 0, cells := 0, slots := 0, locals := 0 } : Room) [.ref r, .int v] h (QI o (fun x h' => x = b01 (letsF t n v) ∧ h' = h)) (0) (0) := by
  refine Met.ofV (by decide) (Nat.le_of_ble_eq_true rfl) (fun K hl ho C => ?_)
  subst hl; subst ho
  rcases (show t = 0 ∨ t = 1 ∨ t = 2 ∨ t = 3 by omega) with e | e | e | e <;> subst e
  · refine r_aload_n (n := 1) C dFR_lets_0 rfl rfl ?_
    refine r_get (ci := 3) (n := 4) C hinFR rfl 2 (by decide) tw_308 rfl dFR_lets_1 rfl (by assumption) rfl ?_
    refine r_tableIn (off := 28) (tgt := 32) C dFR_lets_4 (by decide +kernel) (by decide +kernel) (by decide +kernel) (by decide) ?_
    refine r_iload_n (n := 33) C dFR_lets_32 rfl rfl ?_
    refine r_aload_n (n := 34) C dFR_lets_33 rfl rfl ?_
    refine r_get (ci := 3) (n := 37) C hinFR rfl 3 (by decide) tw_309 rfl dFR_lets_34 rfl (by assumption) rfl ?_
    refine r_icmp_ne (tgt := 44) (n := 40) C dFR_lets_37 (by decide) rfl (fun c_37 => ?_) (fun c_37 => ?_)
    · refine r_iconst (v := 0) (n := 45) C dFR_lets_44 rfl (by decide) ?_
      exact r_zret C dFR_lets_45 rfl (Nat.le_refl _) (Nat.le_refl _) ⟨by simp only [letsF, b01]; simp [*], rfl⟩
    · refine r_iconst (v := 1) (n := 41) C dFR_lets_40 rfl (by decide) ?_
      refine r_goto (tgt := 45) C dFR_lets_41 (by decide) ?_
      exact r_zret C dFR_lets_45 rfl (Nat.le_refl _) (Nat.le_refl _) ⟨by simp only [letsF, b01]; simp [*], rfl⟩
  · refine r_aload_n (n := 1) C dFR_lets_0 rfl rfl ?_
    refine r_get (ci := 3) (n := 4) C hinFR rfl 2 (by decide) tw_308 rfl dFR_lets_1 rfl (by assumption) rfl ?_
    refine r_tableIn (off := 42) (tgt := 46) C dFR_lets_4 (by decide +kernel) (by decide +kernel) (by decide +kernel) (by decide) ?_
    refine r_iload_n (n := 47) C dFR_lets_46 rfl rfl ?_
    refine r_aload_n (n := 48) C dFR_lets_47 rfl rfl ?_
    refine r_get (ci := 3) (n := 51) C hinFR rfl 3 (by decide) tw_309 rfl dFR_lets_48 rfl (by assumption) rfl ?_
    refine r_icmp_ge (tgt := 58) (n := 54) C dFR_lets_51 (by decide) rfl (fun c_51 => ?_) (fun c_51 => ?_)
    · refine r_iconst (v := 0) (n := 59) C dFR_lets_58 rfl (by decide) ?_
      exact r_zret C dFR_lets_59 rfl (Nat.le_refl _) (Nat.le_refl _) ⟨by simp only [letsF, b01]; simp [*], rfl⟩
    · refine r_iconst (v := 1) (n := 55) C dFR_lets_54 rfl (by decide) ?_
      refine r_goto (tgt := 59) C dFR_lets_55 (by decide) ?_
      exact r_zret C dFR_lets_59 rfl (Nat.le_refl _) (Nat.le_refl _) ⟨by simp only [letsF, b01]; simp [*], rfl⟩
  · refine r_aload_n (n := 1) C dFR_lets_0 rfl rfl ?_
    refine r_get (ci := 3) (n := 4) C hinFR rfl 2 (by decide) tw_308 rfl dFR_lets_1 rfl (by assumption) rfl ?_
    refine r_tableIn (off := 56) (tgt := 60) C dFR_lets_4 (by decide +kernel) (by decide +kernel) (by decide +kernel) (by decide) ?_
    refine r_iload_n (n := 61) C dFR_lets_60 rfl rfl ?_
    refine r_aload_n (n := 62) C dFR_lets_61 rfl rfl ?_
    refine r_get (ci := 3) (n := 65) C hinFR rfl 3 (by decide) tw_309 rfl dFR_lets_62 rfl (by assumption) rfl ?_
    refine r_icmp_le (tgt := 72) (n := 68) C dFR_lets_65 (by decide) rfl (fun c_65 => ?_) (fun c_65 => ?_)
    · refine r_iconst (v := 0) (n := 73) C dFR_lets_72 rfl (by decide) ?_
      exact r_zret C dFR_lets_73 rfl (Nat.le_refl _) (Nat.le_refl _) ⟨by simp only [letsF, b01]; simp [*], rfl⟩
    · refine r_iconst (v := 1) (n := 69) C dFR_lets_68 rfl (by decide) ?_
      refine r_goto (tgt := 73) C dFR_lets_69 (by decide) ?_
      exact r_zret C dFR_lets_73 rfl (Nat.le_refl _) (Nat.le_refl _) ⟨by simp only [letsF, b01]; simp [*], rfl⟩
  · refine r_aload_n (n := 1) C dFR_lets_0 rfl rfl ?_
    refine r_get (ci := 3) (n := 4) C hinFR rfl 2 (by decide) tw_308 rfl dFR_lets_1 rfl (by assumption) rfl ?_
    refine r_tableOut (tgt := 74) C dFR_lets_4 (by decide +kernel) (by decide) ?_
    refine r_iload_n (n := 75) C dFR_lets_74 rfl rfl ?_
    refine r_aload_n (n := 76) C dFR_lets_75 rfl rfl ?_
    refine r_get (ci := 3) (n := 79) C hinFR rfl 3 (by decide) tw_309 rfl dFR_lets_76 rfl (by assumption) rfl ?_
    refine r_icmp_eq (tgt := 86) (n := 82) C dFR_lets_79 (by decide) rfl (fun c_79 => ?_) (fun c_79 => ?_)
    · refine r_iconst (v := 0) (n := 87) C dFR_lets_86 rfl (by decide) ?_
      exact r_zret C dFR_lets_87 rfl (Nat.le_refl _) (Nat.le_refl _) ⟨by simp only [letsF, b01]; simp [*], rfl⟩
    · refine r_iconst (v := 1) (n := 83) C dFR_lets_82 rfl (by decide) ?_
      refine r_goto (tgt := 87) C dFR_lets_83 (by decide) ?_
      exact r_zret C dFR_lets_87 rfl (Nat.le_refl _) (Nat.le_refl _) ⟨by simp only [letsF, b01]; simp [*], rfl⟩
set_option maxHeartbeats 4000000 in
set_option maxRecDepth 100000 in
/-- FilterRule.fill -/
theorem c_FR_fill (l : Launch) (o : Om) (h : AH) (s r : Nat) (S : Nat → Nat × Nat × Nat × Nat) (Ls : Nat → List Rw) (wk : Nat × Nat × Nat × Nat) (f : Nat → Int32) (g : Nat → Int64) (inp col t : Nat) (n : Int32) (hF : FP o h s S Ls wk) (hW : RA0 o h wk f g []) (hcw : wk.2.2.2 = 576) (hinp : inp < 13) (hcol : col < 3) (ht : t < 4) (hr : h r = some (.inr (3, [.int (nI inp), .int (nI col), .int (nI t), .int n]))) : Mt l o yFR_fill cFR_fill 5 none ({ frames := 4, cells := 0, slots := 0, locals := 125 } : Room) [.ref r, .ref s, .ref wk.1] h (QV o (fun h' => ∃ f' g', RA0 o h' wk f' g' (((Ls inp).foldl (FRf col t n) [])) ∧ Off wk h h')) (0) (0) := by
  refine Met.ofV (by decide) (Nat.le_of_ble_eq_true rfl) (fun K hl ho C => ?_)
  subst hl; subst ho
  obtain ⟨fs, hs, hsl⟩ := hF.1
  obtain ⟨hfi, fi, gi, hRi⟩ := hsl inp hinp
  obtain ⟨dj, hsi, hli⟩ := hF.2 inp hinp
  have hM : (Ls inp).length ≤ 24 := hli
  have loop : ∀ (m i : Nat) (h1 : AH) (f1 : Nat → Int32) (g1 : Nat → Int64), (Ls inp).length - i = m → i ≤ (Ls inp).length → RA0 (Ko K) h1 wk f1 g1 (((Ls inp).take i).foldl (FRf col t n) []) → Off wk h h1 → V K h1 0 0 (EndQ K (QV (Ko K) (fun h' => ∃ f' g', RA0 (Ko K) h' wk f' g' (((Ls inp).foldl (FRf col t n) [])) ∧ Off wk h h')) 0 0) 10 [(0, .ref r), (1, .ref s), (2, .ref wk.1), (3, .ref (S inp).1), (4, .int (nI i))] [] := by
    intro m
    induction m using Nat.strongRecOn with
    | _ m ih =>
      intro i h1 f1 g1 hm hi hR1 hO1
      have hb1 := hR1.1
      have hIn := RA0.keep hW hRi dj hO1
      have hbi := hIn.1
      have hr1 := obj_keep hW hr (by decide) hO1
      have hl1 := (gdF col t n).len (L := []) ((Ls inp).take i)
      rw [List.length_take] at hl1
      try simp only [List.length_nil] at hl1
      refine r_iload (n := 12) C dFR_fill_10 rfl rfl ?_
      refine r_aload_n (n := 13) C dFR_fill_12 rfl rfl ?_
      refine r_ci (n := 16) (rn_V (z := 0) (ci := 0) (T := TRW) C (c_RW_size (Kl K) (Ko K) h1 (S inp) fi gi (Ls inp) hIn) tw_195 tw_145 tw_146 tw_2 tw_147 rfl rfl ndRW_size ⟨Nat.le_of_ble_eq_true rfl, Nat.le_of_ble_eq_true rfl⟩ (by assumption) rfl rfl rfl (Nat.le_of_ble_eq_true rfl) dFR_fill_13 ⟨Nat.le_of_ble_eq_true rfl, Nat.le_of_ble_eq_true rfl⟩) rfl (fun x ah hq => ?_)
      obtain ⟨e1, e2⟩ := hq
      subst e1
      rw [e2]
      refine r_icmp_ge (tgt := 55) (n := 19) C dFR_fill_16 (by decide) rfl (fun c_16 => ?_) (fun c_16 => ?_)
      · have hie : i = (Ls inp).length := by have := (nI_leI (by omega) (by omega)).mp c_16; omega
        exact r_vret C dFR_fill_55 (Nat.le_refl _) (Nat.le_refl _) ⟨f1, g1, by rw [hie, List.take_length] at hR1; exact hR1, hO1⟩
      · have hlt : i < (Ls inp).length := by
          rcases Nat.lt_or_ge i (Ls inp).length with q | q
          · exact q
          · exact absurd (nI_le q (by omega)) c_16
        obtain ⟨e, he⟩ : ∃ e, (Ls inp)[i]? = some e := ⟨_, List.getElem?_eq_getElem hlt⟩
        refine r_aload_n (n := 20) C dFR_fill_19 rfl rfl ?_
        refine r_aload_n (n := 21) C dFR_fill_20 rfl rfl ?_
        refine r_iload (n := 23) C dFR_fill_21 rfl rfl ?_
        refine r_aload_n (n := 24) C dFR_fill_23 rfl rfl ?_
        refine r_get (ci := 3) (n := 27) C hinFR rfl 1 (by decide) tw_307 rfl dFR_fill_24 rfl (by assumption) rfl ?_
        refine r_ci (n := 30) (rn_V (z := 2) (ci := 0) (T := TRW) C (c_RW_valueAt (Kl K) (Ko K) h1 (S inp) fi gi (Ls inp) i col e hIn he hcol) tw_196 tw_157 tw_158 tw_2 tw_159 rfl rfl ndRW_valueAt ⟨Nat.le_of_ble_eq_true rfl, Nat.le_of_ble_eq_true rfl⟩ (by assumption) rfl rfl rfl (Nat.le_of_ble_eq_true rfl) dFR_fill_27 ⟨Nat.le_of_ble_eq_true rfl, Nat.le_of_ble_eq_true rfl⟩) rfl (fun x ah hq => ?_)
        obtain ⟨e1, e2⟩ := hq
        subst e1
        rw [e2]
        refine r_ci (n := 33) (rn_V (z := 1) (ci := 3) (T := TFR) C (c_FR_lets (Kl K) (Ko K) h1 r inp col t n (colv e.1 col) ht hr1) tw_197 tw_199 ts_6 tw_11 tw_201 rfl rfl ndFR_lets ⟨Nat.le_of_ble_eq_true rfl, Nat.le_of_ble_eq_true rfl⟩ (by assumption) rfl rfl rfl (Nat.le_of_ble_eq_true rfl) dFR_fill_30 ⟨Nat.le_of_ble_eq_true rfl, Nat.le_of_ble_eq_true rfl⟩) rfl (fun x ah hq => ?_)
        obtain ⟨e1, e2⟩ := hq
        subst e1
        rw [e2]
        refine r_if_eq (tgt := 49) (n := 36) C dFR_fill_33 (by decide) rfl (fun c_33 => ?_) (fun c_33 => ?_)
        · have hz := b01_f c_33
          refine r_iinc (n := 52) C dFR_fill_49 rfl rfl (nI_i i) (by decide) ?_
          refine r_goto (tgt := 10) C dFR_fill_52 (by decide) ?_
          refine V.byk (ls' := [(0, .ref r), (1, .ref s), (2, .ref wk.1), (3, .ref (S inp).1), (4, .int (nI (i + 1)))]) rfl ?_
          exact ih _ (by omega) (i + 1) h1 f1 g1 rfl (by omega) (by rw [fold_take (FRf col t n) _ he]; unfold FRf; rw [hz]; exact hR1) hO1
        · have hz := b01_t c_33
          refine r_aload_n (n := 37) C dFR_fill_36 rfl rfl ?_
          refine r_aload_n (n := 38) C dFR_fill_37 rfl rfl ?_
          refine r_iload (n := 40) C dFR_fill_38 rfl rfl ?_
          refine r_aload_n (n := 41) C dFR_fill_40 rfl rfl ?_
          refine r_iload (n := 43) C dFR_fill_41 rfl rfl ?_
          refine r_cl (n := 46) (rn_V (z := 1) (ci := 0) (T := TRW) C (c_RW_weightAt (Kl K) (Ko K) h1 (S inp) fi gi (Ls inp) i e hIn he) tw_202 tw_149 tw_150 tw_2 tw_151 rfl rfl ndRW_weightAt ⟨Nat.le_of_ble_eq_true rfl, Nat.le_of_ble_eq_true rfl⟩ (by assumption) rfl rfl rfl (Nat.le_of_ble_eq_true rfl) dFR_fill_43 ⟨Nat.le_of_ble_eq_true rfl, Nat.le_of_ble_eq_true rfl⟩) rfl (fun x ah hq => ?_)
          obtain ⟨e1, e2⟩ := hq
          subst e1
          rw [e2]
          refine r_cv (n := 49) (rn_V (z := 3) (ci := 0) (T := TRW) C (c_RW_addRow (Kl K) (Ko K) h1 wk f1 g1 _ (S inp) fi gi (Ls inp) i e e.2 hR1 hIn he ((gdF col t n).srt _ List.Pairwise.nil) (by omega)) tw_203 tw_153 tw_154 tw_2 tw_155 rfl rfl ndRW_addRow ⟨Nat.le_of_ble_eq_true rfl, Nat.le_of_ble_eq_true rfl⟩ hb1 rfl rfl rfl (Nat.le_of_ble_eq_true rfl) dFR_fill_46 ⟨Nat.le_of_ble_eq_true rfl, Nat.le_of_ble_eq_true rfl⟩) rfl (fun h2 hq => ?_)
          obtain ⟨f2, g2, hR2, hO2⟩ := hq
          refine r_iinc (n := 52) C dFR_fill_49 rfl rfl (nI_i i) (by decide) ?_
          refine r_goto (tgt := 10) C dFR_fill_52 (by decide) ?_
          refine V.byk (ls' := [(0, .ref r), (1, .ref s), (2, .ref wk.1), (3, .ref (S inp).1), (4, .int (nI (i + 1)))]) rfl ?_
          exact ih _ (by omega) (i + 1) h2 f2 g2 rfl (by omega) (by rw [fold_take (FRf col t n) _ he]; unfold FRf; rw [hz]; exact hR2) (hO1.tr hO2)
  refine r_aload_n (n := 1) C dFR_fill_0 rfl rfl ?_
  refine r_aload_n (n := 2) C dFR_fill_1 rfl rfl ?_
  refine r_get (ci := 3) (n := 5) C hinFR rfl 0 (by decide) tw_306 rfl dFR_fill_2 rfl (by assumption) rfl ?_
  refine r_aald (n := 6) (t0 := 2) C dFR_fill_5 rfl (by assumption) rfl inp rfl (by omega) (by omega) hfi ?_
  refine r_astore_n (n := 7) C dFR_fill_6 rfl (by decide) ?_
  refine r_iconst (v := 0) (n := 8) C dFR_fill_7 rfl (by decide) ?_
  refine r_istore (n := 10) C dFR_fill_8 rfl (by decide) ?_
  refine V.byk (ls' := [(0, .ref r), (1, .ref s), (2, .ref wk.1), (3, .ref (S inp).1), (4, .int (nI 0))]) rfl ?_
  exact loop _ 0 h f g rfl (Nat.zero_le _) hW Off.rf
set_option maxHeartbeats 4000000 in
set_option maxRecDepth 100000 in
/-- DistinctRule.fill -/
theorem c_DR_fill (l : Launch) (o : Om) (h : AH) (s r : Nat) (S : Nat → Nat × Nat × Nat × Nat) (Ls : Nat → List Rw) (wk : Nat × Nat × Nat × Nat) (f : Nat → Int32) (g : Nat → Int64) (inp : Nat) (hF : FP o h s S Ls wk) (hW : RA0 o h wk f g []) (hcw : wk.2.2.2 = 576) (hinp : inp < 13) (hr : h r = some (.inr (7, [.int (nI inp)]))) : Mt l o yDR_fill cDR_fill 5 none ({ frames := 4, cells := 0, slots := 0, locals := 125 } : Room) [.ref r, .ref s, .ref wk.1] h (QV o (fun h' => ∃ f' g', RA0 o h' wk f' g' (((Ls inp).foldl (DRf) [])) ∧ Off wk h h')) (0) (0) := by
  refine Met.ofV (by decide) (Nat.le_of_ble_eq_true rfl) (fun K hl ho C => ?_)
  subst hl; subst ho
  obtain ⟨fs, hs, hsl⟩ := hF.1
  obtain ⟨hfi, fi, gi, hRi⟩ := hsl inp hinp
  obtain ⟨dj, hsi, hli⟩ := hF.2 inp hinp
  have hM : (Ls inp).length ≤ 24 := hli
  have loop : ∀ (m i : Nat) (h1 : AH) (f1 : Nat → Int32) (g1 : Nat → Int64), (Ls inp).length - i = m → i ≤ (Ls inp).length → RA0 (Ko K) h1 wk f1 g1 (((Ls inp).take i).foldl (DRf) []) → Off wk h h1 → V K h1 0 0 (EndQ K (QV (Ko K) (fun h' => ∃ f' g', RA0 (Ko K) h' wk f' g' (((Ls inp).foldl (DRf) [])) ∧ Off wk h h')) 0 0) 10 [(0, .ref r), (1, .ref s), (2, .ref wk.1), (3, .ref (S inp).1), (4, .int (nI i))] [] := by
    intro m
    induction m using Nat.strongRecOn with
    | _ m ih =>
      intro i h1 f1 g1 hm hi hR1 hO1
      have hb1 := hR1.1
      have hIn := RA0.keep hW hRi dj hO1
      have hbi := hIn.1
      have hr1 := obj_keep hW hr (by decide) hO1
      have hl1 := gdD.len (L := []) ((Ls inp).take i)
      rw [List.length_take] at hl1
      try simp only [List.length_nil] at hl1
      refine r_iload (n := 12) C dDR_fill_10 rfl rfl ?_
      refine r_aload_n (n := 13) C dDR_fill_12 rfl rfl ?_
      refine r_ci (n := 16) (rn_V (z := 0) (ci := 0) (T := TRW) C (c_RW_size (Kl K) (Ko K) h1 (S inp) fi gi (Ls inp) hIn) tw_186 tw_145 tw_146 tw_2 tw_147 rfl rfl ndRW_size ⟨Nat.le_of_ble_eq_true rfl, Nat.le_of_ble_eq_true rfl⟩ (by assumption) rfl rfl rfl (Nat.le_of_ble_eq_true rfl) dDR_fill_13 ⟨Nat.le_of_ble_eq_true rfl, Nat.le_of_ble_eq_true rfl⟩) rfl (fun x ah hq => ?_)
      obtain ⟨e1, e2⟩ := hq
      subst e1
      rw [e2]
      refine r_icmp_ge (tgt := 44) (n := 19) C dDR_fill_16 (by decide) rfl (fun c_16 => ?_) (fun c_16 => ?_)
      · have hie : i = (Ls inp).length := by have := (nI_leI (by omega) (by omega)).mp c_16; omega
        exact r_vret C dDR_fill_44 (Nat.le_refl _) (Nat.le_refl _) ⟨f1, g1, by rw [hie, List.take_length] at hR1; exact hR1, hO1⟩
      · have hlt : i < (Ls inp).length := by
          rcases Nat.lt_or_ge i (Ls inp).length with q | q
          · exact q
          · exact absurd (nI_le q (by omega)) c_16
        obtain ⟨e, he⟩ : ∃ e, (Ls inp)[i]? = some e := ⟨_, List.getElem?_eq_getElem hlt⟩
        refine r_aload_n (n := 20) C dDR_fill_19 rfl rfl ?_
        refine r_iload (n := 22) C dDR_fill_20 rfl rfl ?_
        refine r_cl (n := 25) (rn_V (z := 1) (ci := 0) (T := TRW) C (c_RW_weightAt (Kl K) (Ko K) h1 (S inp) fi gi (Ls inp) i e hIn he) tw_187 tw_149 tw_150 tw_2 tw_151 rfl rfl ndRW_weightAt ⟨Nat.le_of_ble_eq_true rfl, Nat.le_of_ble_eq_true rfl⟩ (by assumption) rfl rfl rfl (Nat.le_of_ble_eq_true rfl) dDR_fill_22 ⟨Nat.le_of_ble_eq_true rfl, Nat.le_of_ble_eq_true rfl⟩) rfl (fun x ah hq => ?_)
        obtain ⟨e1, e2⟩ := hq
        subst e1
        rw [e2]
        refine r_lconst (v := 0) (n := 26) C dDR_fill_25 rfl (by decide) ?_
        refine r_lcmp (n := 27) C dDR_fill_26 rfl ?_
        refine r_if_le (tgt := 38) (n := 30) C dDR_fill_27 (by decide) rfl (fun c_27 => ?_) (fun c_27 => ?_)
        · have hz : ¬ 0 < e.2 := Int64.not_lt.mpr ((lg_cmp_le _ _).mp c_27)
          refine r_iinc (n := 41) C dDR_fill_38 rfl rfl (nI_i i) (by decide) ?_
          refine r_goto (tgt := 10) C dDR_fill_41 (by decide) ?_
          refine V.byk (ls' := [(0, .ref r), (1, .ref s), (2, .ref wk.1), (3, .ref (S inp).1), (4, .int (nI (i + 1)))]) rfl ?_
          exact ih _ (by omega) (i + 1) h1 f1 g1 rfl (by omega) (by rw [fold_take (DRf) _ he]; unfold DRf; rw [if_neg hz]; exact hR1) hO1
        · have hz : 0 < e.2 := Int64.not_le.mp (fun q => c_27 ((lg_cmp_le _ _).mpr q))
          refine r_aload_n (n := 31) C dDR_fill_30 rfl rfl ?_
          refine r_aload_n (n := 32) C dDR_fill_31 rfl rfl ?_
          refine r_iload (n := 34) C dDR_fill_32 rfl rfl ?_
          refine r_lconst (v := 1) (n := 35) C dDR_fill_34 rfl (by decide) ?_
          refine r_cv (n := 38) (rn_V (z := 3) (ci := 0) (T := TRW) C (c_RW_addRow (Kl K) (Ko K) h1 wk f1 g1 _ (S inp) fi gi (Ls inp) i e 1 hR1 hIn he (gdD.srt _ List.Pairwise.nil) (by omega)) tw_188 tw_153 tw_154 tw_2 tw_155 rfl rfl ndRW_addRow ⟨Nat.le_of_ble_eq_true rfl, Nat.le_of_ble_eq_true rfl⟩ hb1 rfl rfl rfl (Nat.le_of_ble_eq_true rfl) dDR_fill_35 ⟨Nat.le_of_ble_eq_true rfl, Nat.le_of_ble_eq_true rfl⟩) rfl (fun h2 hq => ?_)
          obtain ⟨f2, g2, hR2, hO2⟩ := hq
          refine r_iinc (n := 41) C dDR_fill_38 rfl rfl (nI_i i) (by decide) ?_
          refine r_goto (tgt := 10) C dDR_fill_41 (by decide) ?_
          refine V.byk (ls' := [(0, .ref r), (1, .ref s), (2, .ref wk.1), (3, .ref (S inp).1), (4, .int (nI (i + 1)))]) rfl ?_
          exact ih _ (by omega) (i + 1) h2 f2 g2 rfl (by omega) (by rw [fold_take (DRf) _ he]; unfold DRf; rw [if_pos hz]; exact hR2) (hO1.tr hO2)
  refine r_aload_n (n := 1) C dDR_fill_0 rfl rfl ?_
  refine r_aload_n (n := 2) C dDR_fill_1 rfl rfl ?_
  refine r_get (ci := 7) (n := 5) C hinDR rfl 0 (by decide) tw_398 rfl dDR_fill_2 rfl (by assumption) rfl ?_
  refine r_aald (n := 6) (t0 := 2) C dDR_fill_5 rfl (by assumption) rfl inp rfl (by omega) (by omega) hfi ?_
  refine r_astore_n (n := 7) C dDR_fill_6 rfl (by decide) ?_
  refine r_iconst (v := 0) (n := 8) C dDR_fill_7 rfl (by decide) ?_
  refine r_istore (n := 10) C dDR_fill_8 rfl (by decide) ?_
  refine V.byk (ls' := [(0, .ref r), (1, .ref s), (2, .ref wk.1), (3, .ref (S inp).1), (4, .int (nI 0))]) rfl ?_
  exact loop _ 0 h f g rfl (Nat.zero_le _) hW Off.rf
set_option maxHeartbeats 4000000 in
set_option maxRecDepth 100000 in
/-- MapRule.coded -/
theorem c_MR_coded (l : Launch) (o : Om) (h : AH) (A : Nat × Nat × Nat × Nat) (f : Nat → Int32) (g : Nat → Int64) (L : List Rw) (i c : Nat) (e : Rw) (hR : RA0 o h A f g L) (he : L[i]? = some e) (hc : c < 6) : Mt l o yMR_coded cMR_coded 3 (some .int) ({ frames := 1, cells := 0, slots := 0, locals := 22 } : Room) [.ref A.1, .int (nI i), .int (nI c)] h (QI o (fun x h' => x = codeF c e.1 ∧ h' = h)) (0) (0) := by
  refine Met.ofV (by decide) (Nat.le_of_ble_eq_true rfl) (fun K hl ho C => ?_)
  subst hl; subst ho
  have hb := hR.1
  rcases (show c = 0 ∨ c = 1 ∨ c = 2 ∨ c = 3 ∨ c = 4 ∨ c = 5 by omega) with e0 | e0 | e0 | e0 | e0 | e0 <;> subst e0
  · refine r_iload_n (n := 1) C dMR_coded_0 rfl rfl ?_
    refine r_tableOut (tgt := 58) C dMR_coded_1 (by decide +kernel) (by decide) ?_
    refine r_aload_n (n := 59) C dMR_coded_58 rfl rfl ?_
    refine r_iload_n (n := 60) C dMR_coded_59 rfl rfl ?_
    refine r_iload_n (n := 61) C dMR_coded_60 rfl rfl ?_
    refine r_ci (n := 64) (rn_V (z := 2) (ci := 0) (T := TRW) C (c_RW_valueAt (Kl K) (Ko K) h A f g L i 0 e hR he (by decide)) tw_262 tw_157 tw_158 tw_2 tw_159 rfl rfl ndRW_valueAt ⟨Nat.le_of_ble_eq_true rfl, Nat.le_of_ble_eq_true rfl⟩ (by assumption) rfl rfl rfl (Nat.le_of_ble_eq_true rfl) dMR_coded_61 ⟨Nat.le_of_ble_eq_true rfl, Nat.le_of_ble_eq_true rfl⟩) rfl (fun x ah hq => ?_)
    obtain ⟨e1, e2⟩ := hq
    subst e1
    rw [e2]
    exact r_iret C dMR_coded_64 (Nat.le_refl _) (Nat.le_refl _) ⟨rfl, rfl⟩
  · refine r_iload_n (n := 1) C dMR_coded_0 rfl rfl ?_
    refine r_tableOut (tgt := 58) C dMR_coded_1 (by decide +kernel) (by decide) ?_
    refine r_aload_n (n := 59) C dMR_coded_58 rfl rfl ?_
    refine r_iload_n (n := 60) C dMR_coded_59 rfl rfl ?_
    refine r_iload_n (n := 61) C dMR_coded_60 rfl rfl ?_
    refine r_ci (n := 64) (rn_V (z := 2) (ci := 0) (T := TRW) C (c_RW_valueAt (Kl K) (Ko K) h A f g L i 1 e hR he (by decide)) tw_262 tw_157 tw_158 tw_2 tw_159 rfl rfl ndRW_valueAt ⟨Nat.le_of_ble_eq_true rfl, Nat.le_of_ble_eq_true rfl⟩ (by assumption) rfl rfl rfl (Nat.le_of_ble_eq_true rfl) dMR_coded_61 ⟨Nat.le_of_ble_eq_true rfl, Nat.le_of_ble_eq_true rfl⟩) rfl (fun x ah hq => ?_)
    obtain ⟨e1, e2⟩ := hq
    subst e1
    rw [e2]
    exact r_iret C dMR_coded_64 (Nat.le_refl _) (Nat.le_refl _) ⟨rfl, rfl⟩
  · refine r_iload_n (n := 1) C dMR_coded_0 rfl rfl ?_
    refine r_tableOut (tgt := 58) C dMR_coded_1 (by decide +kernel) (by decide) ?_
    refine r_aload_n (n := 59) C dMR_coded_58 rfl rfl ?_
    refine r_iload_n (n := 60) C dMR_coded_59 rfl rfl ?_
    refine r_iload_n (n := 61) C dMR_coded_60 rfl rfl ?_
    refine r_ci (n := 64) (rn_V (z := 2) (ci := 0) (T := TRW) C (c_RW_valueAt (Kl K) (Ko K) h A f g L i 2 e hR he (by decide)) tw_262 tw_157 tw_158 tw_2 tw_159 rfl rfl ndRW_valueAt ⟨Nat.le_of_ble_eq_true rfl, Nat.le_of_ble_eq_true rfl⟩ (by assumption) rfl rfl rfl (Nat.le_of_ble_eq_true rfl) dMR_coded_61 ⟨Nat.le_of_ble_eq_true rfl, Nat.le_of_ble_eq_true rfl⟩) rfl (fun x ah hq => ?_)
    obtain ⟨e1, e2⟩ := hq
    subst e1
    rw [e2]
    exact r_iret C dMR_coded_64 (Nat.le_refl _) (Nat.le_refl _) ⟨rfl, rfl⟩
  · refine r_iload_n (n := 1) C dMR_coded_0 rfl rfl ?_
    refine r_tableIn (off := 27) (tgt := 28) C dMR_coded_1 (by decide +kernel) (by decide +kernel) (by decide +kernel) (by decide) ?_
    refine r_iconst (v := 0) (n := 29) C dMR_coded_28 rfl (by decide) ?_
    exact r_iret C dMR_coded_29 (Nat.le_refl _) (Nat.le_refl _) ⟨rfl, rfl⟩
  · refine r_iload_n (n := 1) C dMR_coded_0 rfl rfl ?_
    refine r_tableIn (off := 29) (tgt := 30) C dMR_coded_1 (by decide +kernel) (by decide +kernel) (by decide +kernel) (by decide) ?_
    refine r_aload_n (n := 31) C dMR_coded_30 rfl rfl ?_
    refine r_iload_n (n := 32) C dMR_coded_31 rfl rfl ?_
    refine r_iconst (v := 0) (n := 33) C dMR_coded_32 rfl (by decide) ?_
    refine r_ci (n := 36) (rn_V (z := 2) (ci := 0) (T := TRW) C (c_RW_valueAt (Kl K) (Ko K) h A f g L i 0 e hR he (by decide)) tw_262 tw_157 tw_158 tw_2 tw_159 rfl rfl ndRW_valueAt ⟨Nat.le_of_ble_eq_true rfl, Nat.le_of_ble_eq_true rfl⟩ (by assumption) rfl rfl rfl (Nat.le_of_ble_eq_true rfl) dMR_coded_33 ⟨Nat.le_of_ble_eq_true rfl, Nat.le_of_ble_eq_true rfl⟩) rfl (fun x ah hq => ?_)
    obtain ⟨e1, e2⟩ := hq
    subst e1
    rw [e2]
    refine r_aload_n (n := 37) C dMR_coded_36 rfl rfl ?_
    refine r_iload_n (n := 38) C dMR_coded_37 rfl rfl ?_
    refine r_iconst (v := 1) (n := 39) C dMR_coded_38 rfl (by decide) ?_
    refine r_ci (n := 42) (rn_V (z := 2) (ci := 0) (T := TRW) C (c_RW_valueAt (Kl K) (Ko K) h A f g L i 1 e hR he (by decide)) tw_262 tw_157 tw_158 tw_2 tw_159 rfl rfl ndRW_valueAt ⟨Nat.le_of_ble_eq_true rfl, Nat.le_of_ble_eq_true rfl⟩ (by assumption) rfl rfl rfl (Nat.le_of_ble_eq_true rfl) dMR_coded_39 ⟨Nat.le_of_ble_eq_true rfl, Nat.le_of_ble_eq_true rfl⟩) rfl (fun x ah hq => ?_)
    obtain ⟨e1, e2⟩ := hq
    subst e1
    rw [e2]
    refine r_iadd (n := 43) C dMR_coded_42 rfl ?_
    exact r_iret C dMR_coded_43 (Nat.le_refl _) (Nat.le_refl _) ⟨rfl, rfl⟩
  · refine r_iload_n (n := 1) C dMR_coded_0 rfl rfl ?_
    refine r_tableIn (off := 43) (tgt := 44) C dMR_coded_1 (by decide +kernel) (by decide +kernel) (by decide +kernel) (by decide) ?_
    refine r_aload_n (n := 45) C dMR_coded_44 rfl rfl ?_
    refine r_iload_n (n := 46) C dMR_coded_45 rfl rfl ?_
    refine r_iconst (v := 0) (n := 47) C dMR_coded_46 rfl (by decide) ?_
    refine r_ci (n := 50) (rn_V (z := 2) (ci := 0) (T := TRW) C (c_RW_valueAt (Kl K) (Ko K) h A f g L i 0 e hR he (by decide)) tw_262 tw_157 tw_158 tw_2 tw_159 rfl rfl ndRW_valueAt ⟨Nat.le_of_ble_eq_true rfl, Nat.le_of_ble_eq_true rfl⟩ (by assumption) rfl rfl rfl (Nat.le_of_ble_eq_true rfl) dMR_coded_47 ⟨Nat.le_of_ble_eq_true rfl, Nat.le_of_ble_eq_true rfl⟩) rfl (fun x ah hq => ?_)
    obtain ⟨e1, e2⟩ := hq
    subst e1
    rw [e2]
    refine r_aload_n (n := 51) C dMR_coded_50 rfl rfl ?_
    refine r_iload_n (n := 52) C dMR_coded_51 rfl rfl ?_
    refine r_iconst (v := 1) (n := 53) C dMR_coded_52 rfl (by decide) ?_
    refine r_ci (n := 56) (rn_V (z := 2) (ci := 0) (T := TRW) C (c_RW_valueAt (Kl K) (Ko K) h A f g L i 1 e hR he (by decide)) tw_262 tw_157 tw_158 tw_2 tw_159 rfl rfl ndRW_valueAt ⟨Nat.le_of_ble_eq_true rfl, Nat.le_of_ble_eq_true rfl⟩ (by assumption) rfl rfl rfl (Nat.le_of_ble_eq_true rfl) dMR_coded_53 ⟨Nat.le_of_ble_eq_true rfl, Nat.le_of_ble_eq_true rfl⟩) rfl (fun x ah hq => ?_)
    obtain ⟨e1, e2⟩ := hq
    subst e1
    rw [e2]
    refine r_isub (n := 57) C dMR_coded_56 rfl ?_
    exact r_iret C dMR_coded_57 (Nat.le_refl _) (Nat.le_refl _) ⟨rfl, rfl⟩
set_option maxHeartbeats 4000000 in
set_option maxRecDepth 100000 in
/-- MapRule.fill -/
theorem c_MR_fill (l : Launch) (o : Om) (h : AH) (s r : Nat) (S : Nat → Nat × Nat × Nat × Nat) (Ls : Nat → List Rw) (wk : Nat × Nat × Nat × Nat) (f : Nat → Int32) (g : Nat → Int64) (inp x y z : Nat) (hF : FP o h s S Ls wk) (hW : RA0 o h wk f g []) (hcw : wk.2.2.2 = 576) (hinp : inp < 13) (hx : x < 6) (hy : y < 6) (hz : z < 6) (hr : h r = some (.inr (4, [.int (nI inp), .int (nI x), .int (nI y), .int (nI z)]))) : Mt l o yMR_fill cMR_fill 5 none ({ frames := 3, cells := 0, slots := 0, locals := 101 } : Room) [.ref r, .ref s, .ref wk.1] h (QV o (fun h' => ∃ f' g', RA0 o h' wk f' g' (((Ls inp).foldl (MRf x y z) [])) ∧ Off wk h h')) (0) (0) := by
  refine Met.ofV (by decide) (Nat.le_of_ble_eq_true rfl) (fun K hl ho C => ?_)
  subst hl; subst ho
  obtain ⟨fs, hs, hsl⟩ := hF.1
  obtain ⟨hfi, fi, gi, hRi⟩ := hsl inp hinp
  obtain ⟨dj, hsi, hli⟩ := hF.2 inp hinp
  have hM : (Ls inp).length ≤ 24 := hli
  have loop : ∀ (m i : Nat) (h1 : AH) (f1 : Nat → Int32) (g1 : Nat → Int64), (Ls inp).length - i = m → i ≤ (Ls inp).length → RA0 (Ko K) h1 wk f1 g1 (((Ls inp).take i).foldl (MRf x y z) []) → Off wk h h1 → V K h1 0 0 (EndQ K (QV (Ko K) (fun h' => ∃ f' g', RA0 (Ko K) h' wk f' g' (((Ls inp).foldl (MRf x y z) [])) ∧ Off wk h h')) 0 0) 10 [(0, .ref r), (1, .ref s), (2, .ref wk.1), (3, .ref (S inp).1), (4, .int (nI i))] [] := by
    intro m
    induction m using Nat.strongRecOn with
    | _ m ih =>
      intro i h1 f1 g1 hm hi hR1 hO1
      have hb1 := hR1.1
      have hIn := RA0.keep hW hRi dj hO1
      have hbi := hIn.1
      have hr1 := obj_keep hW hr (by decide) hO1
      have hl1 := (gdM x y z).len (L := []) ((Ls inp).take i)
      rw [List.length_take] at hl1
      try simp only [List.length_nil] at hl1
      refine r_iload (n := 12) C dMR_fill_10 rfl rfl ?_
      refine r_aload_n (n := 13) C dMR_fill_12 rfl rfl ?_
      refine r_ci (n := 16) (rn_V (z := 0) (ci := 0) (T := TRW) C (c_RW_size (Kl K) (Ko K) h1 (S inp) fi gi (Ls inp) hIn) tw_258 tw_145 tw_146 tw_2 tw_147 rfl rfl ndRW_size ⟨Nat.le_of_ble_eq_true rfl, Nat.le_of_ble_eq_true rfl⟩ (by assumption) rfl rfl rfl (Nat.le_of_ble_eq_true rfl) dMR_fill_13 ⟨Nat.le_of_ble_eq_true rfl, Nat.le_of_ble_eq_true rfl⟩) rfl (fun x ah hq => ?_)
      obtain ⟨e1, e2⟩ := hq
      subst e1
      rw [e2]
      refine r_icmp_ge (tgt := 65) (n := 19) C dMR_fill_16 (by decide) rfl (fun c_16 => ?_) (fun c_16 => ?_)
      · have hie : i = (Ls inp).length := by have := (nI_leI (by omega) (by omega)).mp c_16; omega
        exact r_vret C dMR_fill_65 (Nat.le_refl _) (Nat.le_refl _) ⟨f1, g1, by rw [hie, List.take_length] at hR1; exact hR1, hO1⟩
      · have hlt : i < (Ls inp).length := by
          rcases Nat.lt_or_ge i (Ls inp).length with q | q
          · exact q
          · exact absurd (nI_le q (by omega)) c_16
        obtain ⟨e, he⟩ : ∃ e, (Ls inp)[i]? = some e := ⟨_, List.getElem?_eq_getElem hlt⟩
        refine r_aload_n (n := 20) C dMR_fill_19 rfl rfl ?_
        refine r_aload_n (n := 21) C dMR_fill_20 rfl rfl ?_
        refine r_iload (n := 23) C dMR_fill_21 rfl rfl ?_
        refine r_aload_n (n := 24) C dMR_fill_23 rfl rfl ?_
        refine r_get (ci := 4) (n := 27) C hinMR rfl 1 (by decide) tw_330 rfl dMR_fill_24 rfl (by assumption) rfl ?_
        refine r_ci (n := 30) (rn_S (z := 3) C (c_MR_coded (Kl K) (Ko K) h1 (S inp) fi gi (Ls inp) i x e hIn he hx) tw_259 tw_260 tw_10 tw_261 rfl rfl ndMR_coded.2 ⟨Nat.le_of_ble_eq_true rfl, Nat.le_of_ble_eq_true rfl⟩ rfl rfl (Nat.le_of_ble_eq_true rfl) dMR_fill_27 ⟨Nat.le_of_ble_eq_true rfl, Nat.le_of_ble_eq_true rfl⟩) rfl (fun v ah hq => ?_)
        obtain ⟨e1, e2⟩ := hq
        subst e1
        rw [e2]
        refine r_aload_n (n := 31) C dMR_fill_30 rfl rfl ?_
        refine r_iload (n := 33) C dMR_fill_31 rfl rfl ?_
        refine r_aload_n (n := 34) C dMR_fill_33 rfl rfl ?_
        refine r_get (ci := 4) (n := 37) C hinMR rfl 2 (by decide) tw_331 rfl dMR_fill_34 rfl (by assumption) rfl ?_
        refine r_ci (n := 40) (rn_S (z := 3) C (c_MR_coded (Kl K) (Ko K) h1 (S inp) fi gi (Ls inp) i y e hIn he hy) tw_259 tw_260 tw_10 tw_261 rfl rfl ndMR_coded.2 ⟨Nat.le_of_ble_eq_true rfl, Nat.le_of_ble_eq_true rfl⟩ rfl rfl (Nat.le_of_ble_eq_true rfl) dMR_fill_37 ⟨Nat.le_of_ble_eq_true rfl, Nat.le_of_ble_eq_true rfl⟩) rfl (fun v ah hq => ?_)
        obtain ⟨e1, e2⟩ := hq
        subst e1
        rw [e2]
        refine r_aload_n (n := 41) C dMR_fill_40 rfl rfl ?_
        refine r_iload (n := 43) C dMR_fill_41 rfl rfl ?_
        refine r_aload_n (n := 44) C dMR_fill_43 rfl rfl ?_
        refine r_get (ci := 4) (n := 47) C hinMR rfl 3 (by decide) tw_332 rfl dMR_fill_44 rfl (by assumption) rfl ?_
        refine r_ci (n := 50) (rn_S (z := 3) C (c_MR_coded (Kl K) (Ko K) h1 (S inp) fi gi (Ls inp) i z e hIn he hz) tw_259 tw_260 tw_10 tw_261 rfl rfl ndMR_coded.2 ⟨Nat.le_of_ble_eq_true rfl, Nat.le_of_ble_eq_true rfl⟩ rfl rfl (Nat.le_of_ble_eq_true rfl) dMR_fill_47 ⟨Nat.le_of_ble_eq_true rfl, Nat.le_of_ble_eq_true rfl⟩) rfl (fun v ah hq => ?_)
        obtain ⟨e1, e2⟩ := hq
        subst e1
        rw [e2]
        refine r_aload_n (n := 51) C dMR_fill_50 rfl rfl ?_
        refine r_iload (n := 53) C dMR_fill_51 rfl rfl ?_
        refine r_cl (n := 56) (rn_V (z := 1) (ci := 0) (T := TRW) C (c_RW_weightAt (Kl K) (Ko K) h1 (S inp) fi gi (Ls inp) i e hIn he) tw_263 tw_149 tw_150 tw_2 tw_151 rfl rfl ndRW_weightAt ⟨Nat.le_of_ble_eq_true rfl, Nat.le_of_ble_eq_true rfl⟩ (by assumption) rfl rfl rfl (Nat.le_of_ble_eq_true rfl) dMR_fill_53 ⟨Nat.le_of_ble_eq_true rfl, Nat.le_of_ble_eq_true rfl⟩) rfl (fun x ah hq => ?_)
        obtain ⟨e1, e2⟩ := hq
        subst e1
        rw [e2]
        refine r_cv (n := 59) (rn_V (z := 4) (ci := 0) (T := TRW) C (c_RW_addWeight (Kl K) (Ko K) h1 wk f1 g1 _ (codeF x e.1) (codeF y e.1) (codeF z e.1) e.2 hR1 ((gdM x y z).srt _ List.Pairwise.nil) (by omega)) tw_264 tw_161 tw_162 tw_2 tw_163 rfl rfl ndRW_addWeight ⟨Nat.le_of_ble_eq_true rfl, Nat.le_of_ble_eq_true rfl⟩ hb1 rfl rfl rfl (Nat.le_of_ble_eq_true rfl) dMR_fill_56 ⟨Nat.le_of_ble_eq_true rfl, Nat.le_of_ble_eq_true rfl⟩) rfl (fun h2 hq => ?_)
        obtain ⟨f2, g2, hR2, hO2⟩ := hq
        refine r_iinc (n := 62) C dMR_fill_59 rfl rfl (nI_i i) (by decide) ?_
        refine r_goto (tgt := 10) C dMR_fill_62 (by decide) ?_
        refine V.byk (ls' := [(0, .ref r), (1, .ref s), (2, .ref wk.1), (3, .ref (S inp).1), (4, .int (nI (i + 1)))]) rfl ?_
        exact ih _ (by omega) (i + 1) h2 f2 g2 rfl (by omega) (by rw [fold_take (MRf x y z) _ he]; exact hR2) (hO1.tr hO2)
  refine r_aload_n (n := 1) C dMR_fill_0 rfl rfl ?_
  refine r_aload_n (n := 2) C dMR_fill_1 rfl rfl ?_
  refine r_get (ci := 4) (n := 5) C hinMR rfl 0 (by decide) tw_329 rfl dMR_fill_2 rfl (by assumption) rfl ?_
  refine r_aald (n := 6) (t0 := 2) C dMR_fill_5 rfl (by assumption) rfl inp rfl (by omega) (by omega) hfi ?_
  refine r_astore_n (n := 7) C dMR_fill_6 rfl (by decide) ?_
  refine r_iconst (v := 0) (n := 8) C dMR_fill_7 rfl (by decide) ?_
  refine r_istore (n := 10) C dMR_fill_8 rfl (by decide) ?_
  refine V.byk (ls' := [(0, .ref r), (1, .ref s), (2, .ref wk.1), (3, .ref (S inp).1), (4, .int (nI 0))]) rfl ?_
  exact loop _ 0 h f g rfl (Nat.zero_le _) hW Off.rf
