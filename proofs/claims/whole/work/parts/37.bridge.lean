/-! the class's lists and the reference's: one weight for each row -/
def WtE (L W : List Rw) : Prop := ∀ k, wt L k = wt W k
theorem WtE.add {L W : List Rw} (h : WtE L W) (hs : Srt L) (k : Ky) (w : Int64) : WtE (addW L k w) (emW W k w) := fun k' => by
  rw [addW_wt k w hs, emW_wt, h k']
def acF (F : Rw → Option (Ky × Int64)) : List Rw → Rw → List Rw := fun L r => match F r with
  | some q => addW L q.1 q.2
  | none => L
theorem acF_fold {F : Rw → Option (Ky × Int64)} {L W : List Rw} (M : List Rw) (hs : Srt L) (h : WtE L W) : Srt (M.foldl (acF F) L) ∧ WtE (M.foldl (acF F) L) (M.foldl (emF F) W) := by
  induction M generalizing L W with
  | nil => exact ⟨hs, h⟩
  | cons r M ih =>
    simp only [List.foldl_cons]
    cases hF : F r with
    | none =>
      have e1 : acF F L r = L := by unfold acF; rw [hF]
      have e2 : emF F W r = W := by unfold emF; rw [hF]
      rw [e1, e2]; exact ih hs h
    | some q =>
      have e1 : acF F L r = addW L q.1 q.2 := by unfold acF; rw [hF]
      have e2 : emF F W r = emW W q.1 q.2 := by unfold emF; rw [hF]
      rw [e1, e2]; exact ih (addW_srt _ _ hs) (h.add hs _ _)
theorem srt_nd {L : List Rw} (h : Srt L) : NdK L := h.imp (fun hab e => by rw [e] at hab; omega)
theorem uT_fold {M W : List Rw} (h : NdK (W ++ M)) : M.foldl (emF uT) W = W ++ M := by
  induction M generalizing W with
  | nil => simp
  | cons r M ih =>
    have e : emF uT W r = W ++ [r] := by
      show emW W r.1 r.2 = W ++ [r]
      refine emW_new (fun q hq => ?_)
      exact (List.pairwise_append.mp h).2.2 q hq r List.mem_cons_self
    simp only [List.foldl_cons]
    rw [e, ih (by simpa using h)]
    simp
theorem uT_fold0 {M : List Rw} (h : Srt M) : M.foldl (emF uT) [] = M := by
  have := uT_fold (M := M) (W := []) (by simpa using srt_nd h)
  simpa using this
theorem frF (b c : Nat) (n : Int32) : FRf b c n = acF (uF b c n) := by
  funext L r; unfold FRf acF uF
  by_cases h : letsF c n (colv r.1 b) = true <;> simp [h]
theorem frM (b c d : Nat) : MRf b c d = acF (uM b c d) := by funext L r; rfl
theorem frD : DRf = acF uD := by
  funext L r; unfold DRf acF uD
  by_cases h : 0 < r.2 <;> simp [h]
theorem frC (c : Nat) : CRf (sgF c) = acF (uC c) := by
  funext L r; unfold CRf acF uC sgF
  by_cases h : c = 0
  · simp [h]
  · have e : (-1 : Int64) * r.2 = -r.2 := by rw [Int64.neg_mul, Int64.one_mul]
    simp only [if_neg h, e]
theorem frJ (lc rc x y z : Nat) (lr : Rw) : JRf lc rc x y z lr = acF (jF lc rc x y z lr) := by
  funext L r; unfold JRf acF jF
  by_cases h : colv lr.1 lc = colv r.1 rc <;> simp [h]
theorem jo_fold {lc rc x y z : Nat} {R L W : List Rw} (M : List Rw) (hs : Srt L) (h : WtE L W) : WtE (M.foldl (JO lc rc x y z R) L) (M.foldl (jG lc rc x y z R) W) := by
  induction M generalizing L W with
  | nil => exact h
  | cons r M ih =>
    simp only [List.foldl_cons]
    have h1 := acF_fold (F := jF lc rc x y z r) R hs h
    have e : JO lc rc x y z R L r = R.foldl (acF (jF lc rc x y z r)) L := by unfold JO; rw [frJ]
    rw [e]
    exact ih h1.1 h1.2
/-- a group's value: the class's walk from the first row on, the reference's over all -/
theorem gst_skip {kd key col : Nat} {k : Int32} (M : List Rw) (t : Int64 × Bool × Int32) (h : M.any (withB key k) = false) : M.foldl (gst kd key col k) t = t := by
  induction M with
  | nil => rfl
  | cons r M ih =>
    simp only [List.any_cons, Bool.or_eq_false_iff] at h
    simp only [List.foldl_cons]
    have e : gst kd key col k t r = t := by unfold gst; rw [if_neg (by rw [h.1]; decide)]
    rw [e]; exact ih h.2
theorem gst_rest {kd key col : Nat} {k : Int32} (hkd : kd < 4) (D : List Rw) (s : Int64) (b v : Int32) (h1 : kd < 2 → s.toInt32 = v) (h2 : ¬ kd < 2 → b = v) : ∃ s' b', D.foldl (gst kd key col k) (s, true, b) = (s', true, b') ∧ (kd < 2 → s'.toInt32 = D.foldl (gvF kd key col k) v) ∧ (¬ kd < 2 → b' = D.foldl (gvF kd key col k) v) := by
  induction D generalizing s b v with
  | nil => exact ⟨s, b, rfl, h1, h2⟩
  | cons r D ih =>
    simp only [List.foldl_cons]
    by_cases hw : withB key k r = true
    · have e1 : gvF kd key col k v r = joinV kd v (startV kd col r) := by unfold gvF; rw [if_pos hw]
      have e2 : gst kd key col k (s, true, b) r = (s + (if kd = 0 then r.2 else r.2 * (colv r.1 col).toInt64), true, if ((true : Bool) = false ∨ (if kd = 2 then colv r.1 col < b else b < colv r.1 col)) then colv r.1 col else b) := by unfold gst; rw [if_pos hw]
      rw [e1, e2]
      refine ih _ _ _ (fun hk => ?_) (fun hk => ?_)
      · rw [← h1 hk]
        rcases (show kd = 0 ∨ kd = 1 by omega) with e | e <;> subst e
        · rw [if_pos rfl, Int64.toInt32_add]; rfl
        · rw [if_neg (by decide), Int64.toInt32_add]; rfl
      · rw [← h2 hk]
        rcases (show kd = 2 ∨ kd = 3 by omega) with e | e <;> subst e
        · by_cases hh : colv r.1 col < b <;> simp [joinV, startV, hh]
        · by_cases hh : b < colv r.1 col <;> simp [joinV, startV, hh]
    · have hw : withB key k r = false := by simpa using hw
      have e1 : gvF kd key col k v r = v := by unfold gvF; rw [if_neg (by rw [hw]; decide)]
      have e2 : gst kd key col k (s, true, b) r = (s, true, b) := by unfold gst; rw [if_neg (by rw [hw]; decide)]
      rw [e1, e2]
      exact ih s b v h1 h2
theorem grp_eq {kd key col : Nat} (hkd : kd < 4) {M : List Rw} {i : Nat} {e : Rw} (he : M[i]? = some e) (hpos : 0 < e.2) (hno : (M.take i).any (withB key (colv e.1 key)) = false) : grp kd key col (colv e.1 key) M = gval kd key col M i e := by
  have hl := (List.getElem?_eq_some_iff.mp he).1
  have hM : M = M.take i ++ e :: M.drop (i + 1) := by
    have h1 : M.drop i = e :: M.drop (i + 1) := by
      rw [List.drop_eq_getElem_cons hl, (List.getElem?_eq_some_iff.mp he).2]
    rw [← h1, List.take_append_drop]
  have hw : withB key (colv e.1 key) e = true := by unfold withB; simp [hpos]
  have hf : M.foldl (gst kd key col (colv e.1 key)) (0, false, 0) = (M.drop (i + 1)).foldl (gst kd key col (colv e.1 key)) (0 + (if kd = 0 then e.2 else e.2 * (colv e.1 col).toInt64), true, colv e.1 col) := by
    rw [congrArg (fun l => List.foldl (gst kd key col (colv e.1 key)) (0, false, 0) l) hM, List.foldl_append, gst_skip _ _ hno, List.foldl_cons]
    congr 1
    unfold gst; rw [if_pos hw]; simp
  obtain ⟨s', b', e1, e2, e3⟩ := gst_rest (key := key) (col := col) (k := colv e.1 key) hkd (M.drop (i + 1)) (0 + (if kd = 0 then e.2 else e.2 * (colv e.1 col).toInt64)) (colv e.1 col) (startV kd col e) (fun hk => by
      rcases (show kd = 0 ∨ kd = 1 by omega) with z | z <;> subst z
      · rw [if_pos rfl, Int64.zero_add]; rfl
      · rw [if_neg (by decide), Int64.zero_add]; rfl) (fun hk => by
      rcases (show kd = 2 ∨ kd = 3 by omega) with z | z <;> subst z <;> rfl)
  unfold grp gval
  rw [hf, e1]
  by_cases hk : kd < 2
  · rw [if_pos hk]; exact e2 hk
  · rw [if_neg hk]; exact e3 hk
theorem gr_fold {kd key col : Nat} (hkd : kd < 4) (M : List Rw) : ∀ i, i ≤ M.length → WtE (GRi kd key col M i) ((M.take i).foldl (uG kd key col M) []) ∧ ∀ k, ((M.take i).foldl (uG kd key col M) []).any (fun q => decide (q.1.1 = k)) = (M.take i).any (withB key k)
  | 0, _ => ⟨fun k => rfl, fun k => rfl⟩
  | i + 1, hi => by
    obtain ⟨ih1, ih2⟩ := gr_fold hkd M i (by omega)
    obtain ⟨e, he⟩ : ∃ e, M[i]? = some e := ⟨_, List.getElem?_eq_getElem (by omega)⟩
    rw [fold_take (uG kd key col M) [] he]
    have hG : GRi kd key col M (i + 1) = if 0 < e.2 ∧ ((M.take i).any (withB key (colv e.1 key))) = false then addW (GRi kd key col M i) (colv e.1 key, gval kd key col M i e, 0) 1 else GRi kd key col M i := by
      show (match M[i]? with
        | some e => if 0 < e.2 ∧ ((M.take i).any (withB key (colv e.1 key))) = false then addW (GRi kd key col M i) (colv e.1 key, gval kd key col M i e, 0) 1 else GRi kd key col M i
        | none => GRi kd key col M i) = _
      rw [he]
    rw [hG]
    generalize hW : (M.take i).foldl (uG kd key col M) [] = W at ih1 ih2 ⊢
    by_cases hpos : 0 < e.2
    · cases hany : (M.take i).any (withB key (colv e.1 key)) with
      | false =>
        have hu : uG kd key col M W e = emW W (colv e.1 key, gval kd key col M i e, 0) 1 := by
          unfold uG; rw [if_pos hpos, if_neg (by rw [ih2, hany]; decide), grp_eq hkd he hpos hany]
        rw [hu, if_pos ⟨hpos, rfl⟩]
        refine ⟨ih1.add (GRi_srt _ _ _ _ _) _ _, fun k => ?_⟩
        have hnew : emW W (colv e.1 key, gval kd key col M i e, 0) 1 = W ++ [((colv e.1 key, gval kd key col M i e, 0), 1)] := emW_new (fun q hq z => by
          have h1 := ih2 (colv e.1 key)
          rw [hany] at h1
          have h2 : W.any (fun q => decide (q.1.1 = colv e.1 key)) = true := List.any_eq_true.mpr ⟨q, hq, by rw [z]; simp⟩
          rw [h1] at h2; cases h2)
        rw [hnew, List.any_append, ih2, any_take he]
        congr 1
        unfold withB
        simp [hpos]
      | true =>
        have hu : uG kd key col M W e = W := by unfold uG; rw [if_pos hpos, if_pos (by rw [ih2, hany])]
        rw [hu, if_neg (fun z => by cases z.2)]
        refine ⟨ih1, fun k => ?_⟩
        rw [any_take he, ih2]
        by_cases hk : colv e.1 key = k
        · subst hk; rw [hany]; rfl
        · have : withB key k e = false := by unfold withB; simp [hk]
          rw [this, Bool.or_false]
    · have hu : uG kd key col M W e = W := by unfold uG; rw [if_neg hpos]
      rw [hu, if_neg (fun z => hpos z.1)]
      refine ⟨ih1, fun k => ?_⟩
      rw [any_take he, ih2]
      have : withB key k e = false := by unfold withB; simp [hpos]
      rw [this, Bool.or_false]
theorem ev_wt {R : Ru} {j : Nat} (hok : rok j R) {Ls : Nat → List Rw} (h3 : 3 ≤ j) (hs : ∀ i, i < j → Srt (Ls i)) : WtE (rfill R Ls) (evW R Ls) ∧ NdK (evW R Ls) := by
  obtain ⟨kd, a, b, c, d, f, n⟩ := R
  rcases kd with _ | _ | _ | _ | _ | _ | _ | kd
  · have k1 : a < 3 := hok
    refine ⟨?_, emF_nd _ List.Pairwise.nil⟩
    show WtE (Ls a) ((Ls a).foldl (emF uT) [])
    rw [uT_fold0 (hs a (by omega))]
    exact fun _ => rfl
  · refine ⟨?_, emF_nd _ List.Pairwise.nil⟩
    show WtE ((Ls a).foldl (FRf b c n) []) _
    rw [frF]; exact (acF_fold _ List.Pairwise.nil (fun _ => rfl)).2
  · refine ⟨?_, emF_nd _ List.Pairwise.nil⟩
    show WtE ((Ls a).foldl (MRf b c d) []) _
    rw [frM]; exact (acF_fold _ List.Pairwise.nil (fun _ => rfl)).2
  · exact ⟨jo_fold _ List.Pairwise.nil (fun _ => rfl), jG_nd _ List.Pairwise.nil⟩
  · obtain ⟨k1, k2, k3, k4, -⟩ : 3 ≤ a ∧ a < j ∧ 3 ≤ b ∧ b < j ∧ c < 2 := hok
    refine ⟨?_, emF_nd _ (emF_nd _ List.Pairwise.nil)⟩
    show WtE ((Ls b).foldl (CRf (sgF c)) (Ls a)) ((Ls b).foldl (emF (uC c)) ((Ls a).foldl (emF uT) []))
    rw [frC, uT_fold0 (hs a k2)]
    exact (acF_fold _ (hs a k2) (fun _ => rfl)).2
  · refine ⟨?_, emF_nd _ List.Pairwise.nil⟩
    show WtE ((Ls a).foldl DRf []) _
    rw [frD]; exact (acF_fold _ List.Pairwise.nil (fun _ => rfl)).2
  · obtain ⟨k1, k2, k3, k4, k5⟩ : 3 ≤ a ∧ a < j ∧ b < 3 ∧ c < 3 ∧ d < 4 := hok
    refine ⟨?_, uG_nd _ List.Pairwise.nil⟩
    have h1 := (gr_fold (key := b) (col := c) k5 (Ls a) (Ls a).length (Nat.le_refl _)).1
    rw [List.take_length] at h1
    exact h1
  · exact absurd hok id
/-- sorted and without zeros: the reference's settled work list is the class's -/
theorem settle_eq {L W : List Rw} (hs : Srt L) (hn : NdK W) (h : WtE L W) : srtW W = nz L :=
  eq_of_wt (srtW_srt W) (nz_srt hs) (srtW_nz hn) (fun r hr => (nz_mem.mp hr).2) (fun k => by rw [srtW_wt hn, nz_wt hs, h k])
theorem neg_eq {L W : List Rw} (hs : Srt L) (hn : NdK W) (h : WtE L W) : L.any (fun r => decide (r.2 < 0)) = W.any (fun r => decide (r.2 < 0)) := by
  have wmem : ∀ {A : List Rw}, NdK A → ∀ {r : Rw}, r ∈ A → wt A r.1 = r.2 := by
    intro A hA r hr
    induction A with
    | nil => cases hr
    | cons q A ih =>
      obtain ⟨h1, h2⟩ := List.pairwise_cons.mp hA
      rcases List.mem_cons.mp hr with e | e
      · subst e; simp [wt]
      · have : ¬ q.1 = r.1 := h1 r e
        simp only [wt, if_neg this]
        exact ih h2 e
  have key : ∀ {A B : List Rw}, NdK A → WtE A B → A.any (fun r => decide (r.2 < 0)) = true → B.any (fun r => decide (r.2 < 0)) = true := by
    intro A B hA hAB ha
    obtain ⟨r, hr, hr2⟩ := List.any_eq_true.mp ha
    have hr2 : r.2 < 0 := of_decide_eq_true hr2
    have h1 := wmem hA hr
    rw [hAB r.1] at h1
    have hne : wt B r.1 ≠ 0 := by rw [h1]; intro z; rw [z] at hr2; exact absurd hr2 (by decide)
    exact List.any_eq_true.mpr ⟨_, mem_of_wt hne, by rw [h1]; exact decide_eq_true hr2⟩
  rw [Bool.eq_iff_iff]
  exact ⟨key (srt_nd hs) h, key hn (fun k => (h k).symm)⟩
def addQ (t : Int32) (W : List Rw) (pl : List Pn) : List Rw := pl.foldl (fun W e => if e.1 = t then emW W e.2.1 e.2.2.toInt64 else W) W
theorem addQ_take {t : Int32} {W : List Rw} {pl : List Pn} {i : Nat} {e : Pn} (h : pl[i]? = some e) : addQ t W (pl.take (i + 1)) = if e.1 = t then emW (addQ t W (pl.take i)) e.2.1 e.2.2.toInt64 else addQ t W (pl.take i) := by
  unfold addQ
  rw [List.take_succ, h]
  simp [List.foldl_append]
theorem addQ_len {t : Int32} {W : List Rw} (pl : List Pn) : (addQ t W pl).length ≤ W.length + pl.length := by
  induction pl generalizing W with
  | nil => exact Nat.le_refl _
  | cons e pl ih =>
    show (addQ t (if e.1 = t then emW W e.2.1 e.2.2.toInt64 else W) pl).length ≤ _
    have := ih (W := if e.1 = t then emW W e.2.1 e.2.2.toInt64 else W)
    have h2 : (if e.1 = t then emW W e.2.1 e.2.2.toInt64 else W).length ≤ W.length + 1 := by
      split
      · exact emW_len _ _
      · omega
    simp only [List.length_cons]
    omega
theorem addQ_wt {t : Int32} {L W : List Rw} (pl : List Pn) (hs : Srt L) (hn : NdK W) (h : WtE L W) : WtE (addP t L pl) (addQ t W pl) ∧ NdK (addQ t W pl) := by
  induction pl generalizing L W with
  | nil => exact ⟨h, hn⟩
  | cons e pl ih =>
    show WtE (addP t (if e.1 = t then addW L e.2.1 e.2.2.toInt64 else L) pl) (addQ t (if e.1 = t then emW W e.2.1 e.2.2.toInt64 else W) pl) ∧ _
    by_cases he : e.1 = t
    · rw [if_pos he, if_pos he]
      have := ih (addW_srt e.2.1 e.2.2.toInt64 hs) (emW_nd (k := e.2.1) (w := e.2.2.toInt64) hn) (h.add hs _ _)
      refine ⟨this.1, ?_⟩
      show NdK (addQ t (if e.1 = t then emW W e.2.1 e.2.2.toInt64 else W) pl)
      rw [if_pos he]; exact this.2
    · rw [if_neg he, if_neg he]
      have := ih hs hn h
      refine ⟨this.1, ?_⟩
      show NdK (addQ t (if e.1 = t then emW W e.2.1 e.2.2.toInt64 else W) pl)
      rw [if_neg he]; exact this.2
