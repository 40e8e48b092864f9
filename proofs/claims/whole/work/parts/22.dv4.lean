/-! DELTAVIEWS: the calls that make a node, as functions of the state -/
abbrev cl (v : Int32) : Nat := v.toNatClampNeg
abbrev nod (S : Sx) : Int32 := nI S.2.2.2.length
def tabS (v : Int32) (S : Sx) : Int32 × Sx := if inR v 3 = true then mkS (0, cl v, 0, 0, 0, 0, 0) S else (-1, S)
def filS (v c t n : Int32) (S : Sx) : Int32 × Sx := if (inR v (nod S) && (inR c 3 && inR t 4)) = true then mkS (1, 3 + cl v, cl c, cl t, 0, 0, n) S else (-1, S)
def mapS (v x y z : Int32) (S : Sx) : Int32 × Sx := if (inR v (nod S) && (inR x 6 && (inR y 6 && inR z 6))) = true then mkS (2, 3 + cl v, cl x, cl y, cl z, 0, 0) S else (-1, S)
def joiS (v w c d p : Int32) (S : Sx) : Int32 × Sx := if (inR v (nod S) && (inR w (nod S) && (inR c 3 && (inR d 3 && inR p 216)))) = true then mkS (3, 3 + cl v, 3 + cl w, cl c, cl d, cl p, 0) S else (-1, S)
def comS (v w k : Int32) (S : Sx) : Int32 × Sx := if (inR v (nod S) && (inR w (nod S) && inR k 2)) = true then mkS (4, 3 + cl v, 3 + cl w, cl k, 0, 0, 0) S else (-1, S)
def disS (v : Int32) (S : Sx) : Int32 × Sx := if inR v (nod S) = true then mkS (5, 3 + cl v, 0, 0, 0, 0, 0) S else (-1, S)
def groS (v k c d : Int32) (S : Sx) : Int32 × Sx := if (inR v (nod S) && (inR k 3 && (inR c 3 && inR d 4))) = true then mkS (6, 3 + cl v, cl k, cl c, cl d, 0, 0) S else (-1, S)
theorem inR_c {v : Int32} {n : Nat} (hn : n < 2147483648) (h : inR v (nI n) = true) : v = nI (cl v) ∧ cl v < n := by
  obtain ⟨j, hj, e⟩ := inR_t hn h
  have : cl v = j := by rw [e]; exact nI_clamp (by omega)
  rw [this]; exact ⟨e, hj⟩
theorem Upd.fresh {o : Om} {h h' : AH} {x : Nat} {G : Gh} {S : Sx} {rr : Nat} {y : va_E} (hr : h rr = none) (hu1 : Upd o (hu h rr y) h' x G S) : Upd o h h' x G S := by
  obtain ⟨G', h1, h2, h3⟩ := hu1
  refine ⟨G', h1, h2, fun q hq => ?_⟩
  have hqr : q ≠ rr := fun e => hq (Or.inr (Or.inr (by rw [e]; exact hr)))
  rw [h3 q (fun z => hq ?_), hu_ne _ _ hqr]
  rcases z with z | z | z
  · exact Or.inl z
  · exact Or.inr (Or.inl z)
  · exact Or.inr (Or.inr (by rw [hu_ne _ _ hqr] at z; exact z))
set_option maxHeartbeats 4000000 in
set_option maxRecDepth 100000 in
/-- table -/
theorem c_DV_table (l : Launch) (o : Om) (h : AH) (x : Nat) (v : Int32) (G : Gh) (S : Sx) (hc : CI o h x G S) : Mt l o yDV_table cDV_table 2 (some .int) ({ frames := 7, cells := 1, slots := 1, locals := 196 } : Room) [.ref x, .int v] h (QI o (fun r h' => r = (tabS v S).1 ∧ Upd o h h' x G (tabS v S).2)) (1) (1) := by
  refine Met.ofV (by decide) (Nat.le_of_ble_eq_true rfl) (fun K hl ho C => ?_)
  subst hl; subst ho
  obtain ⟨g, hx, hn, Ls, Ns, wl, rf, cf, hd, hsL, hsN, hag, hcf⟩ := id hc
  unfold DX at hx
  refine r_iload_n (n := 1) C dDV_table_0 rfl rfl ?_
  refine r_ci (n := 4) (rn_S (z := 1) C (c_DV_isTable (Kl K) (Ko K) h v) tw_92 tw_93 tw_1 tw_94 rfl rfl ndDV_isTable.2 ⟨Nat.le_of_ble_eq_true rfl, Nat.le_of_ble_eq_true rfl⟩ rfl rfl (Nat.le_of_ble_eq_true rfl) dDV_table_1 ⟨Nat.le_of_ble_eq_true rfl, Nat.le_of_ble_eq_true rfl⟩) rfl (fun y ah hq => ?_)
  obtain ⟨e1, e2⟩ := hq
  subst e1
  rw [e2]
  refine r_if_ne (tgt := 9) (n := 7) C dDV_table_4 (by decide) rfl (fun c_4 => ?_) (fun c_4 => ?_)
  · have hy0 : inR v (3) = true := b01_t c_4
    obtain ⟨ev, lv⟩ := inR_c (n := 3) (by omega) hy0
    refine r_aload_n (n := 10) C dDV_table_9 rfl rfl ?_
    refine r_new (ci := 2) (fs := [.int 0]) (n := 13) C hinTR tyTR okTR tw_98 tw_99 tw_6 rfl (fun j hj => by rcases (show j = 0 by omega) with rfl <;> rfl) dDV_table_10 rfl (Nat.le_of_ble_eq_true rfl) (Nat.le_of_ble_eq_true rfl) (fun rr hrr0 => ?_)
    have hc1 := hc.fresh hrr0 (.inr (2, [.int 0]))
    have hrr1 := hu_eq h rr (.inr (2, [.int 0]))
    generalize eh1 : hu h rr _ = h1 at hc1 hrr1
    refine r_dup (n := 14) C dDV_table_13 rfl rfl ?_
    refine r_iload_n (n := 15) C dDV_table_14 rfl rfl ?_
    refine r_cv (n := 18) (rn_IN (z := 1) C (c_TR_init (Kl K) (Ko K) h1 rr v hrr1) (by decide +kernel) rfl tw_101 tw_6 rfl tw_102 rfl rfl ndTR_init.2 ⟨Nat.le_of_ble_eq_true rfl, Nat.le_of_ble_eq_true rfl⟩ rfl rfl (Nat.le_of_ble_eq_true rfl) dDV_table_15 ⟨Nat.le_of_ble_eq_true rfl, Nat.le_of_ble_eq_true rfl⟩) rfl (fun h2 hq => ?_)
    rw [← eh1, hu_hu] at hq
    have hc2 := hc.fresh hrr0 (.inr (2, [.int v]))
    rw [← hq] at hc2
    have hrr2 : h2 rr = some (rcell (0, cl v, 0, 0, 0, 0, 0)) := by rw [hq, hu_eq]; show (some (Sum.inr (2, [Value.int v])) : Option va_E) = some (Sum.inr (2, [Value.int (nI (cl v))])); rw [← ev]
    refine r_ci (n := 21) (rn_V (z := 1) (ci := 9) (T := TDV) C (c_DV_make (Kl K) (Ko K) h2 x rr (0, cl v, 0, 0, 0, 0, 0) G S hc2 hrr2 (by show _; first | exact lv | exact ⟨by omega, by omega, by omega⟩ | exact ⟨by omega, by omega⟩ | exact ⟨by omega, by omega, by omega, by omega⟩ | exact ⟨by omega, by omega, by omega, by omega, by omega⟩ | exact ⟨by omega, by omega, by omega, by omega, by omega, by omega, by omega⟩)) tw_111 tw_113 ts_0 tw_1 tw_114 rfl rfl ndDV_make ⟨Nat.le_of_ble_eq_true rfl, Nat.le_of_ble_eq_true rfl⟩ hc2.2.1 rfl rfl rfl (Nat.le_of_ble_eq_true rfl) dDV_table_18 ⟨Nat.le_of_ble_eq_true rfl, Nat.le_of_ble_eq_true rfl⟩) rfl (fun y h3 hq => ?_)
    obtain ⟨e1, e2⟩ := hq
    subst e1
    exact r_iret C dDV_table_21 (Nat.le_of_ble_eq_true rfl) (Nat.le_of_ble_eq_true rfl) ⟨by unfold tabS; rw [if_pos (by simp [hy0])], by unfold tabS; rw [if_pos (by simp [hy0])]; rw [hq] at e2; exact e2.fresh hrr0⟩
  · have hz0 : inR v (3) = false := b01_f c_4
    refine r_iconst (v := -1) (n := 8) C dDV_table_7 rfl (by decide) ?_
    exact r_iret C dDV_table_8 (Nat.zero_le _) (Nat.zero_le _) ⟨by unfold tabS; rw [if_neg (by simp [hz0])], by unfold tabS; rw [if_neg (by simp [hz0])]; exact Upd.rf hc⟩
set_option maxHeartbeats 4000000 in
set_option maxRecDepth 100000 in
/-- filter -/
theorem c_DV_filter (l : Launch) (o : Om) (h : AH) (x : Nat) (v c t n : Int32) (G : Gh) (S : Sx) (hc : CI o h x G S) : Mt l o yDV_filter cDV_filter 5 (some .int) ({ frames := 7, cells := 1, slots := 4, locals := 196 } : Room) [.ref x, .int v, .int c, .int t, .int n] h (QI o (fun r h' => r = (filS v c t n S).1 ∧ Upd o h h' x G (filS v c t n S).2)) (1) (4) := by
  refine Met.ofV (by decide) (Nat.le_of_ble_eq_true rfl) (fun K hl ho C => ?_)
  subst hl; subst ho
  obtain ⟨g, hx, hn, Ls, Ns, wl, rf, cf, hd, hsL, hsN, hag, hcf⟩ := id hc
  unfold DX at hx
  refine r_aload_n (n := 1) C dDV_filter_0 rfl rfl ?_
  refine r_iload_n (n := 2) C dDV_filter_1 rfl rfl ?_
  refine r_ci (n := 5) (rn_V (z := 1) (ci := 9) (T := TDV) C (c_DV_isNode (Kl K) (Ko K) h x _ v (nod S) hx rfl) tw_294 tw_296 ts_13 tw_1 tw_297 rfl rfl ndDV_isNode ⟨Nat.le_of_ble_eq_true rfl, Nat.le_of_ble_eq_true rfl⟩ hx rfl rfl rfl (Nat.le_of_ble_eq_true rfl) dDV_filter_2 ⟨Nat.le_of_ble_eq_true rfl, Nat.le_of_ble_eq_true rfl⟩) rfl (fun y ah hq => ?_)
  obtain ⟨e1, e2⟩ := hq
  subst e1
  rw [e2]
  refine r_if_eq (tgt := 23) (n := 8) C dDV_filter_5 (by decide) rfl (fun c_5 => ?_) (fun c_5 => ?_)
  · have hz0 : inR v (nod S) = false := b01_f c_5
    refine r_iconst (v := -1) (n := 24) C dDV_filter_23 rfl (by decide) ?_
    exact r_iret C dDV_filter_24 (Nat.zero_le _) (Nat.zero_le _) ⟨by unfold filS; rw [if_neg (by simp [hz0])], by unfold filS; rw [if_neg (by simp [hz0])]; exact Upd.rf hc⟩
  · have hy0 : inR v (nod S) = true := b01_t c_5
    obtain ⟨ev, lv⟩ := inR_c (n := S.2.2.2.length) (by omega) hy0
    refine r_iload_n (n := 9) C dDV_filter_8 rfl rfl ?_
    refine r_ci (n := 12) (rn_S (z := 1) C (c_DV_isColumn (Kl K) (Ko K) h c) tw_298 tw_299 tw_1 tw_300 rfl rfl ndDV_isColumn.2 ⟨Nat.le_of_ble_eq_true rfl, Nat.le_of_ble_eq_true rfl⟩ rfl rfl (Nat.le_of_ble_eq_true rfl) dDV_filter_9 ⟨Nat.le_of_ble_eq_true rfl, Nat.le_of_ble_eq_true rfl⟩) rfl (fun y ah hq => ?_)
    obtain ⟨e1, e2⟩ := hq
    subst e1
    rw [e2]
    refine r_if_eq (tgt := 23) (n := 15) C dDV_filter_12 (by decide) rfl (fun c_12 => ?_) (fun c_12 => ?_)
    · have hz1 : inR c (3) = false := b01_f c_12
      refine r_iconst (v := -1) (n := 24) C dDV_filter_23 rfl (by decide) ?_
      exact r_iret C dDV_filter_24 (Nat.zero_le _) (Nat.zero_le _) ⟨by unfold filS; rw [if_neg (by simp [hz1])], by unfold filS; rw [if_neg (by simp [hz1])]; exact Upd.rf hc⟩
    · have hy1 : inR c (3) = true := b01_t c_12
      obtain ⟨ec, lc⟩ := inR_c (n := 3) (by omega) hy1
      refine r_iload_n (n := 16) C dDV_filter_15 rfl rfl ?_
      refine r_iconst (v := 4) (n := 17) C dDV_filter_16 rfl (by decide) ?_
      refine r_ci (n := 20) (rn_S (z := 2) C (c_DV_isBelow (Kl K) (Ko K) h t 4) tw_95 tw_96 tw_1 tw_97 rfl rfl ndDV_isBelow.2 ⟨Nat.le_of_ble_eq_true rfl, Nat.le_of_ble_eq_true rfl⟩ rfl rfl (Nat.le_of_ble_eq_true rfl) dDV_filter_17 ⟨Nat.le_of_ble_eq_true rfl, Nat.le_of_ble_eq_true rfl⟩) rfl (fun y ah hq => ?_)
      obtain ⟨e1, e2⟩ := hq
      subst e1
      rw [e2]
      refine r_if_ne (tgt := 25) (n := 23) C dDV_filter_20 (by decide) rfl (fun c_20 => ?_) (fun c_20 => ?_)
      · have hy2 : inR t (4) = true := b01_t c_20
        obtain ⟨et, lt⟩ := inR_c (n := 4) (by omega) hy2
        refine r_aload_n (n := 26) C dDV_filter_25 rfl rfl ?_
        refine r_new (ci := 3) (fs := [.int 0, .int 0, .int 0, .int 0]) (n := 29) C hinFR tyFR okFR tw_301 tw_200 tw_11 rfl (fun j hj => by rcases (show j = 0 ∨ j = 1 ∨ j = 2 ∨ j = 3 by omega) with rfl | rfl | rfl | rfl <;> rfl) dDV_filter_26 rfl (Nat.le_of_ble_eq_true rfl) (Nat.le_of_ble_eq_true rfl) (fun rr hrr0 => ?_)
        have hc1 := hc.fresh hrr0 (.inr (3, [.int 0, .int 0, .int 0, .int 0]))
        have hrr1 := hu_eq h rr (.inr (3, [.int 0, .int 0, .int 0, .int 0]))
        generalize eh1 : hu h rr _ = h1 at hc1 hrr1
        refine r_dup (n := 30) C dDV_filter_29 rfl rfl ?_
        refine r_iload_n (n := 31) C dDV_filter_30 rfl rfl ?_
        refine V.eqi ev ?_
        refine r_ci (n := 34) (rn_S (z := 1) C (c_DV_slotOf (Kl K) (Ko K) h1 (cl v)) tw_272 tw_273 tw_1 tw_274 rfl rfl ndDV_slotOf.2 ⟨Nat.le_of_ble_eq_true rfl, Nat.le_of_ble_eq_true rfl⟩ rfl rfl (Nat.le_of_ble_eq_true rfl) dDV_filter_31 ⟨Nat.le_of_ble_eq_true rfl, Nat.le_of_ble_eq_true rfl⟩) rfl (fun y ah hq => ?_)
        obtain ⟨e1, e2⟩ := hq
        subst e1
        rw [e2]
        refine r_iload_n (n := 35) C dDV_filter_34 rfl rfl ?_
        refine r_iload_n (n := 36) C dDV_filter_35 rfl rfl ?_
        refine r_iload (n := 38) C dDV_filter_36 rfl rfl ?_
        refine r_cv (n := 41) (rn_IN (z := 4) C (c_FR_init (Kl K) (Ko K) h1 rr (nI (3 + cl v)) c t n hrr1) (by decide +kernel) rfl tw_303 tw_11 rfl tw_304 rfl rfl ndFR_init.2 ⟨Nat.le_of_ble_eq_true rfl, Nat.le_of_ble_eq_true rfl⟩ rfl rfl (Nat.le_of_ble_eq_true rfl) dDV_filter_38 ⟨Nat.le_of_ble_eq_true rfl, Nat.le_of_ble_eq_true rfl⟩) rfl (fun h2 hq => ?_)
        rw [← eh1, hu_hu] at hq
        have hc2 := hc.fresh hrr0 (.inr (3, [.int (nI (3 + cl v)), .int c, .int t, .int n]))
        rw [← hq] at hc2
        have hrr2 : h2 rr = some (rcell (1, 3 + cl v, cl c, cl t, 0, 0, n)) := by rw [hq, hu_eq]; show (some (Sum.inr (3, [Value.int (nI (3 + cl v)), Value.int c, Value.int t, Value.int n])) : Option va_E) = some (Sum.inr (3, [Value.int (nI (3 + cl v)), Value.int (nI (cl c)), Value.int (nI (cl t)), Value.int n])); rw [← ec, ← et]
        refine r_ci (n := 44) (rn_V (z := 1) (ci := 9) (T := TDV) C (c_DV_make (Kl K) (Ko K) h2 x rr (1, 3 + cl v, cl c, cl t, 0, 0, n) G S hc2 hrr2 (by show _; first | exact lv | exact ⟨by omega, by omega, by omega⟩ | exact ⟨by omega, by omega⟩ | exact ⟨by omega, by omega, by omega, by omega⟩ | exact ⟨by omega, by omega, by omega, by omega, by omega⟩ | exact ⟨by omega, by omega, by omega, by omega, by omega, by omega, by omega⟩)) tw_111 tw_113 ts_0 tw_1 tw_114 rfl rfl ndDV_make ⟨Nat.le_of_ble_eq_true rfl, Nat.le_of_ble_eq_true rfl⟩ hc2.2.1 rfl rfl rfl (Nat.le_of_ble_eq_true rfl) dDV_filter_41 ⟨Nat.le_of_ble_eq_true rfl, Nat.le_of_ble_eq_true rfl⟩) rfl (fun y h3 hq => ?_)
        obtain ⟨e1, e2⟩ := hq
        subst e1
        exact r_iret C dDV_filter_44 (Nat.le_of_ble_eq_true rfl) (Nat.le_of_ble_eq_true rfl) ⟨by unfold filS; rw [if_pos (by simp [hy0, hy1, hy2])], by unfold filS; rw [if_pos (by simp [hy0, hy1, hy2])]; rw [hq] at e2; exact e2.fresh hrr0⟩
      · have hz2 : inR t (4) = false := b01_f c_20
        refine r_iconst (v := -1) (n := 24) C dDV_filter_23 rfl (by decide) ?_
        exact r_iret C dDV_filter_24 (Nat.zero_le _) (Nat.zero_le _) ⟨by unfold filS; rw [if_neg (by simp [hz2])], by unfold filS; rw [if_neg (by simp [hz2])]; exact Upd.rf hc⟩
set_option maxHeartbeats 4000000 in
set_option maxRecDepth 100000 in
/-- map -/
theorem c_DV_map (l : Launch) (o : Om) (h : AH) (x : Nat) (v x1 y1 z1 : Int32) (G : Gh) (S : Sx) (hc : CI o h x G S) : Mt l o yDV_map cDV_map 5 (some .int) ({ frames := 7, cells := 1, slots := 4, locals := 196 } : Room) [.ref x, .int v, .int x1, .int y1, .int z1] h (QI o (fun r h' => r = (mapS v x1 y1 z1 S).1 ∧ Upd o h h' x G (mapS v x1 y1 z1 S).2)) (1) (4) := by
  refine Met.ofV (by decide) (Nat.le_of_ble_eq_true rfl) (fun K hl ho C => ?_)
  subst hl; subst ho
  obtain ⟨g, hx, hn, Ls, Ns, wl, rf, cf, hd, hsL, hsN, hag, hcf⟩ := id hc
  unfold DX at hx
  refine r_aload_n (n := 1) C dDV_map_0 rfl rfl ?_
  refine r_iload_n (n := 2) C dDV_map_1 rfl rfl ?_
  refine r_ci (n := 5) (rn_V (z := 1) (ci := 9) (T := TDV) C (c_DV_isNode (Kl K) (Ko K) h x _ v (nod S) hx rfl) tw_294 tw_296 ts_13 tw_1 tw_297 rfl rfl ndDV_isNode ⟨Nat.le_of_ble_eq_true rfl, Nat.le_of_ble_eq_true rfl⟩ hx rfl rfl rfl (Nat.le_of_ble_eq_true rfl) dDV_map_2 ⟨Nat.le_of_ble_eq_true rfl, Nat.le_of_ble_eq_true rfl⟩) rfl (fun y ah hq => ?_)
  obtain ⟨e1, e2⟩ := hq
  subst e1
  rw [e2]
  refine r_if_eq (tgt := 36) (n := 8) C dDV_map_5 (by decide) rfl (fun c_5 => ?_) (fun c_5 => ?_)
  · have hz0 : inR v (nod S) = false := b01_f c_5
    refine r_iconst (v := -1) (n := 37) C dDV_map_36 rfl (by decide) ?_
    exact r_iret C dDV_map_37 (Nat.zero_le _) (Nat.zero_le _) ⟨by unfold mapS; rw [if_neg (by simp [hz0])], by unfold mapS; rw [if_neg (by simp [hz0])]; exact Upd.rf hc⟩
  · have hy0 : inR v (nod S) = true := b01_t c_5
    obtain ⟨ev, lv⟩ := inR_c (n := S.2.2.2.length) (by omega) hy0
    refine r_iload_n (n := 9) C dDV_map_8 rfl rfl ?_
    refine r_bipush (v := 6) (n := 11) C dDV_map_9 rfl (by decide) ?_
    refine r_ci (n := 14) (rn_S (z := 2) C (c_DV_isBelow (Kl K) (Ko K) h x1 6) tw_95 tw_96 tw_1 tw_97 rfl rfl ndDV_isBelow.2 ⟨Nat.le_of_ble_eq_true rfl, Nat.le_of_ble_eq_true rfl⟩ rfl rfl (Nat.le_of_ble_eq_true rfl) dDV_map_11 ⟨Nat.le_of_ble_eq_true rfl, Nat.le_of_ble_eq_true rfl⟩) rfl (fun y ah hq => ?_)
    obtain ⟨e1, e2⟩ := hq
    subst e1
    rw [e2]
    refine r_if_eq (tgt := 36) (n := 17) C dDV_map_14 (by decide) rfl (fun c_14 => ?_) (fun c_14 => ?_)
    · have hz1 : inR x1 (6) = false := b01_f c_14
      refine r_iconst (v := -1) (n := 37) C dDV_map_36 rfl (by decide) ?_
      exact r_iret C dDV_map_37 (Nat.zero_le _) (Nat.zero_le _) ⟨by unfold mapS; rw [if_neg (by simp [hz1])], by unfold mapS; rw [if_neg (by simp [hz1])]; exact Upd.rf hc⟩
    · have hy1 : inR x1 (6) = true := b01_t c_14
      obtain ⟨ex1, lx1⟩ := inR_c (n := 6) (by omega) hy1
      refine r_iload_n (n := 18) C dDV_map_17 rfl rfl ?_
      refine r_bipush (v := 6) (n := 20) C dDV_map_18 rfl (by decide) ?_
      refine r_ci (n := 23) (rn_S (z := 2) C (c_DV_isBelow (Kl K) (Ko K) h y1 6) tw_95 tw_96 tw_1 tw_97 rfl rfl ndDV_isBelow.2 ⟨Nat.le_of_ble_eq_true rfl, Nat.le_of_ble_eq_true rfl⟩ rfl rfl (Nat.le_of_ble_eq_true rfl) dDV_map_20 ⟨Nat.le_of_ble_eq_true rfl, Nat.le_of_ble_eq_true rfl⟩) rfl (fun y ah hq => ?_)
      obtain ⟨e1, e2⟩ := hq
      subst e1
      rw [e2]
      refine r_if_eq (tgt := 36) (n := 26) C dDV_map_23 (by decide) rfl (fun c_23 => ?_) (fun c_23 => ?_)
      · have hz2 : inR y1 (6) = false := b01_f c_23
        refine r_iconst (v := -1) (n := 37) C dDV_map_36 rfl (by decide) ?_
        exact r_iret C dDV_map_37 (Nat.zero_le _) (Nat.zero_le _) ⟨by unfold mapS; rw [if_neg (by simp [hz2])], by unfold mapS; rw [if_neg (by simp [hz2])]; exact Upd.rf hc⟩
      · have hy2 : inR y1 (6) = true := b01_t c_23
        obtain ⟨ey1, ly1⟩ := inR_c (n := 6) (by omega) hy2
        refine r_iload (n := 28) C dDV_map_26 rfl rfl ?_
        refine r_bipush (v := 6) (n := 30) C dDV_map_28 rfl (by decide) ?_
        refine r_ci (n := 33) (rn_S (z := 2) C (c_DV_isBelow (Kl K) (Ko K) h z1 6) tw_95 tw_96 tw_1 tw_97 rfl rfl ndDV_isBelow.2 ⟨Nat.le_of_ble_eq_true rfl, Nat.le_of_ble_eq_true rfl⟩ rfl rfl (Nat.le_of_ble_eq_true rfl) dDV_map_30 ⟨Nat.le_of_ble_eq_true rfl, Nat.le_of_ble_eq_true rfl⟩) rfl (fun y ah hq => ?_)
        obtain ⟨e1, e2⟩ := hq
        subst e1
        rw [e2]
        refine r_if_ne (tgt := 38) (n := 36) C dDV_map_33 (by decide) rfl (fun c_33 => ?_) (fun c_33 => ?_)
        · have hy3 : inR z1 (6) = true := b01_t c_33
          obtain ⟨ez1, lz1⟩ := inR_c (n := 6) (by omega) hy3
          refine r_aload_n (n := 39) C dDV_map_38 rfl rfl ?_
          refine r_new (ci := 4) (fs := [.int 0, .int 0, .int 0, .int 0]) (n := 42) C hinMR tyMR okMR tw_323 tw_324 tw_10 rfl (fun j hj => by rcases (show j = 0 ∨ j = 1 ∨ j = 2 ∨ j = 3 by omega) with rfl | rfl | rfl | rfl <;> rfl) dDV_map_39 rfl (Nat.le_of_ble_eq_true rfl) (Nat.le_of_ble_eq_true rfl) (fun rr hrr0 => ?_)
          have hc1 := hc.fresh hrr0 (.inr (4, [.int 0, .int 0, .int 0, .int 0]))
          have hrr1 := hu_eq h rr (.inr (4, [.int 0, .int 0, .int 0, .int 0]))
          generalize eh1 : hu h rr _ = h1 at hc1 hrr1
          refine r_dup (n := 43) C dDV_map_42 rfl rfl ?_
          refine r_iload_n (n := 44) C dDV_map_43 rfl rfl ?_
          refine V.eqi ev ?_
          refine r_ci (n := 47) (rn_S (z := 1) C (c_DV_slotOf (Kl K) (Ko K) h1 (cl v)) tw_272 tw_273 tw_1 tw_274 rfl rfl ndDV_slotOf.2 ⟨Nat.le_of_ble_eq_true rfl, Nat.le_of_ble_eq_true rfl⟩ rfl rfl (Nat.le_of_ble_eq_true rfl) dDV_map_44 ⟨Nat.le_of_ble_eq_true rfl, Nat.le_of_ble_eq_true rfl⟩) rfl (fun y ah hq => ?_)
          obtain ⟨e1, e2⟩ := hq
          subst e1
          rw [e2]
          refine r_iload_n (n := 48) C dDV_map_47 rfl rfl ?_
          refine r_iload_n (n := 49) C dDV_map_48 rfl rfl ?_
          refine r_iload (n := 51) C dDV_map_49 rfl rfl ?_
          refine r_cv (n := 54) (rn_IN (z := 4) C (c_MR_init (Kl K) (Ko K) h1 rr (nI (3 + cl v)) x1 y1 z1 hrr1) (by decide +kernel) rfl tw_326 tw_10 rfl tw_327 rfl rfl ndMR_init.2 ⟨Nat.le_of_ble_eq_true rfl, Nat.le_of_ble_eq_true rfl⟩ rfl rfl (Nat.le_of_ble_eq_true rfl) dDV_map_51 ⟨Nat.le_of_ble_eq_true rfl, Nat.le_of_ble_eq_true rfl⟩) rfl (fun h2 hq => ?_)
          rw [← eh1, hu_hu] at hq
          have hc2 := hc.fresh hrr0 (.inr (4, [.int (nI (3 + cl v)), .int x1, .int y1, .int z1]))
          rw [← hq] at hc2
          have hrr2 : h2 rr = some (rcell (2, 3 + cl v, cl x1, cl y1, cl z1, 0, 0)) := by rw [hq, hu_eq]; show (some (Sum.inr (4, [Value.int (nI (3 + cl v)), Value.int x1, Value.int y1, Value.int z1])) : Option va_E) = some (Sum.inr (4, [Value.int (nI (3 + cl v)), Value.int (nI (cl x1)), Value.int (nI (cl y1)), Value.int (nI (cl z1))])); rw [← ex1, ← ey1, ← ez1]
          refine r_ci (n := 57) (rn_V (z := 1) (ci := 9) (T := TDV) C (c_DV_make (Kl K) (Ko K) h2 x rr (2, 3 + cl v, cl x1, cl y1, cl z1, 0, 0) G S hc2 hrr2 (by show _; first | exact lv | exact ⟨by omega, by omega, by omega⟩ | exact ⟨by omega, by omega⟩ | exact ⟨by omega, by omega, by omega, by omega⟩ | exact ⟨by omega, by omega, by omega, by omega, by omega⟩ | exact ⟨by omega, by omega, by omega, by omega, by omega, by omega, by omega⟩)) tw_111 tw_113 ts_0 tw_1 tw_114 rfl rfl ndDV_make ⟨Nat.le_of_ble_eq_true rfl, Nat.le_of_ble_eq_true rfl⟩ hc2.2.1 rfl rfl rfl (Nat.le_of_ble_eq_true rfl) dDV_map_54 ⟨Nat.le_of_ble_eq_true rfl, Nat.le_of_ble_eq_true rfl⟩) rfl (fun y h3 hq => ?_)
          obtain ⟨e1, e2⟩ := hq
          subst e1
          exact r_iret C dDV_map_57 (Nat.le_of_ble_eq_true rfl) (Nat.le_of_ble_eq_true rfl) ⟨by unfold mapS; rw [if_pos (by simp [hy0, hy1, hy2, hy3])], by unfold mapS; rw [if_pos (by simp [hy0, hy1, hy2, hy3])]; rw [hq] at e2; exact e2.fresh hrr0⟩
        · have hz3 : inR z1 (6) = false := b01_f c_33
          refine r_iconst (v := -1) (n := 37) C dDV_map_36 rfl (by decide) ?_
          exact r_iret C dDV_map_37 (Nat.zero_le _) (Nat.zero_le _) ⟨by unfold mapS; rw [if_neg (by simp [hz3])], by unfold mapS; rw [if_neg (by simp [hz3])]; exact Upd.rf hc⟩
set_option maxHeartbeats 4000000 in
set_option maxRecDepth 100000 in
/-- join -/
theorem c_DV_join (l : Launch) (o : Om) (h : AH) (x : Nat) (v w c d p : Int32) (G : Gh) (S : Sx) (hc : CI o h x G S) : Mt l o yDV_join cDV_join 6 (some .int) ({ frames := 7, cells := 1, slots := 5, locals := 196 } : Room) [.ref x, .int v, .int w, .int c, .int d, .int p] h (QI o (fun r h' => r = (joiS v w c d p S).1 ∧ Upd o h h' x G (joiS v w c d p S).2)) (1) (5) := by
  refine Met.ofV (by decide) (Nat.le_of_ble_eq_true rfl) (fun K hl ho C => ?_)
  subst hl; subst ho
  obtain ⟨g, hx, hn, Ls, Ns, wl, rf, cf, hd, hsL, hsN, hag, hcf⟩ := id hc
  unfold DX at hx
  refine r_aload_n (n := 1) C dDV_join_0 rfl rfl ?_
  refine r_iload_n (n := 2) C dDV_join_1 rfl rfl ?_
  refine r_ci (n := 5) (rn_V (z := 1) (ci := 9) (T := TDV) C (c_DV_isNode (Kl K) (Ko K) h x _ v (nod S) hx rfl) tw_294 tw_296 ts_13 tw_1 tw_297 rfl rfl ndDV_isNode ⟨Nat.le_of_ble_eq_true rfl, Nat.le_of_ble_eq_true rfl⟩ hx rfl rfl rfl (Nat.le_of_ble_eq_true rfl) dDV_join_2 ⟨Nat.le_of_ble_eq_true rfl, Nat.le_of_ble_eq_true rfl⟩) rfl (fun y ah hq => ?_)
  obtain ⟨e1, e2⟩ := hq
  subst e1
  rw [e2]
  refine r_if_eq (tgt := 42) (n := 8) C dDV_join_5 (by decide) rfl (fun c_5 => ?_) (fun c_5 => ?_)
  · have hz0 : inR v (nod S) = false := b01_f c_5
    refine r_iconst (v := -1) (n := 43) C dDV_join_42 rfl (by decide) ?_
    exact r_iret C dDV_join_43 (Nat.zero_le _) (Nat.zero_le _) ⟨by unfold joiS; rw [if_neg (by simp [hz0])], by unfold joiS; rw [if_neg (by simp [hz0])]; exact Upd.rf hc⟩
  · have hy0 : inR v (nod S) = true := b01_t c_5
    obtain ⟨ev, lv⟩ := inR_c (n := S.2.2.2.length) (by omega) hy0
    refine r_aload_n (n := 9) C dDV_join_8 rfl rfl ?_
    refine r_iload_n (n := 10) C dDV_join_9 rfl rfl ?_
    refine r_ci (n := 13) (rn_V (z := 1) (ci := 9) (T := TDV) C (c_DV_isNode (Kl K) (Ko K) h x _ w (nod S) hx rfl) tw_294 tw_296 ts_13 tw_1 tw_297 rfl rfl ndDV_isNode ⟨Nat.le_of_ble_eq_true rfl, Nat.le_of_ble_eq_true rfl⟩ hx rfl rfl rfl (Nat.le_of_ble_eq_true rfl) dDV_join_10 ⟨Nat.le_of_ble_eq_true rfl, Nat.le_of_ble_eq_true rfl⟩) rfl (fun y ah hq => ?_)
    obtain ⟨e1, e2⟩ := hq
    subst e1
    rw [e2]
    refine r_if_eq (tgt := 42) (n := 16) C dDV_join_13 (by decide) rfl (fun c_13 => ?_) (fun c_13 => ?_)
    · have hz1 : inR w (nod S) = false := b01_f c_13
      refine r_iconst (v := -1) (n := 43) C dDV_join_42 rfl (by decide) ?_
      exact r_iret C dDV_join_43 (Nat.zero_le _) (Nat.zero_le _) ⟨by unfold joiS; rw [if_neg (by simp [hz1])], by unfold joiS; rw [if_neg (by simp [hz1])]; exact Upd.rf hc⟩
    · have hy1 : inR w (nod S) = true := b01_t c_13
      obtain ⟨ew, lw⟩ := inR_c (n := S.2.2.2.length) (by omega) hy1
      refine r_iload_n (n := 17) C dDV_join_16 rfl rfl ?_
      refine r_ci (n := 20) (rn_S (z := 1) C (c_DV_isColumn (Kl K) (Ko K) h c) tw_298 tw_299 tw_1 tw_300 rfl rfl ndDV_isColumn.2 ⟨Nat.le_of_ble_eq_true rfl, Nat.le_of_ble_eq_true rfl⟩ rfl rfl (Nat.le_of_ble_eq_true rfl) dDV_join_17 ⟨Nat.le_of_ble_eq_true rfl, Nat.le_of_ble_eq_true rfl⟩) rfl (fun y ah hq => ?_)
      obtain ⟨e1, e2⟩ := hq
      subst e1
      rw [e2]
      refine r_if_eq (tgt := 42) (n := 23) C dDV_join_20 (by decide) rfl (fun c_20 => ?_) (fun c_20 => ?_)
      · have hz2 : inR c (3) = false := b01_f c_20
        refine r_iconst (v := -1) (n := 43) C dDV_join_42 rfl (by decide) ?_
        exact r_iret C dDV_join_43 (Nat.zero_le _) (Nat.zero_le _) ⟨by unfold joiS; rw [if_neg (by simp [hz2])], by unfold joiS; rw [if_neg (by simp [hz2])]; exact Upd.rf hc⟩
      · have hy2 : inR c (3) = true := b01_t c_20
        obtain ⟨ec, lc⟩ := inR_c (n := 3) (by omega) hy2
        refine r_iload (n := 25) C dDV_join_23 rfl rfl ?_
        refine r_ci (n := 28) (rn_S (z := 1) C (c_DV_isColumn (Kl K) (Ko K) h d) tw_298 tw_299 tw_1 tw_300 rfl rfl ndDV_isColumn.2 ⟨Nat.le_of_ble_eq_true rfl, Nat.le_of_ble_eq_true rfl⟩ rfl rfl (Nat.le_of_ble_eq_true rfl) dDV_join_25 ⟨Nat.le_of_ble_eq_true rfl, Nat.le_of_ble_eq_true rfl⟩) rfl (fun y ah hq => ?_)
        obtain ⟨e1, e2⟩ := hq
        subst e1
        rw [e2]
        refine r_if_eq (tgt := 42) (n := 31) C dDV_join_28 (by decide) rfl (fun c_28 => ?_) (fun c_28 => ?_)
        · have hz3 : inR d (3) = false := b01_f c_28
          refine r_iconst (v := -1) (n := 43) C dDV_join_42 rfl (by decide) ?_
          exact r_iret C dDV_join_43 (Nat.zero_le _) (Nat.zero_le _) ⟨by unfold joiS; rw [if_neg (by simp [hz3])], by unfold joiS; rw [if_neg (by simp [hz3])]; exact Upd.rf hc⟩
        · have hy3 : inR d (3) = true := b01_t c_28
          obtain ⟨ed, ld⟩ := inR_c (n := 3) (by omega) hy3
          refine r_iload (n := 33) C dDV_join_31 rfl rfl ?_
          refine r_sipush (v := 216) (n := 36) C dDV_join_33 rfl (by decide) ?_
          refine r_ci (n := 39) (rn_S (z := 2) C (c_DV_isBelow (Kl K) (Ko K) h p 216) tw_95 tw_96 tw_1 tw_97 rfl rfl ndDV_isBelow.2 ⟨Nat.le_of_ble_eq_true rfl, Nat.le_of_ble_eq_true rfl⟩ rfl rfl (Nat.le_of_ble_eq_true rfl) dDV_join_36 ⟨Nat.le_of_ble_eq_true rfl, Nat.le_of_ble_eq_true rfl⟩) rfl (fun y ah hq => ?_)
          obtain ⟨e1, e2⟩ := hq
          subst e1
          rw [e2]
          refine r_if_ne (tgt := 44) (n := 42) C dDV_join_39 (by decide) rfl (fun c_39 => ?_) (fun c_39 => ?_)
          · have hy4 : inR p (216) = true := b01_t c_39
            obtain ⟨ep, lp⟩ := inR_c (n := 216) (by omega) hy4
            refine r_aload_n (n := 45) C dDV_join_44 rfl rfl ?_
            refine r_new (ci := 5) (fs := [.int 0, .int 0, .int 0, .int 0, .int 0]) (n := 48) C hinJR tyJR okJR tw_346 tw_347 tw_9 rfl (fun j hj => by rcases (show j = 0 ∨ j = 1 ∨ j = 2 ∨ j = 3 ∨ j = 4 by omega) with rfl | rfl | rfl | rfl | rfl <;> rfl) dDV_join_45 rfl (Nat.le_of_ble_eq_true rfl) (Nat.le_of_ble_eq_true rfl) (fun rr hrr0 => ?_)
            have hc1 := hc.fresh hrr0 (.inr (5, [.int 0, .int 0, .int 0, .int 0, .int 0]))
            have hrr1 := hu_eq h rr (.inr (5, [.int 0, .int 0, .int 0, .int 0, .int 0]))
            generalize eh1 : hu h rr _ = h1 at hc1 hrr1
            refine r_dup (n := 49) C dDV_join_48 rfl rfl ?_
            refine r_iload_n (n := 50) C dDV_join_49 rfl rfl ?_
            refine V.eqi ev ?_
            refine r_ci (n := 53) (rn_S (z := 1) C (c_DV_slotOf (Kl K) (Ko K) h1 (cl v)) tw_272 tw_273 tw_1 tw_274 rfl rfl ndDV_slotOf.2 ⟨Nat.le_of_ble_eq_true rfl, Nat.le_of_ble_eq_true rfl⟩ rfl rfl (Nat.le_of_ble_eq_true rfl) dDV_join_50 ⟨Nat.le_of_ble_eq_true rfl, Nat.le_of_ble_eq_true rfl⟩) rfl (fun y ah hq => ?_)
            obtain ⟨e1, e2⟩ := hq
            subst e1
            rw [e2]
            refine r_iload_n (n := 54) C dDV_join_53 rfl rfl ?_
            refine V.eqi ew ?_
            refine r_ci (n := 57) (rn_S (z := 1) C (c_DV_slotOf (Kl K) (Ko K) h1 (cl w)) tw_272 tw_273 tw_1 tw_274 rfl rfl ndDV_slotOf.2 ⟨Nat.le_of_ble_eq_true rfl, Nat.le_of_ble_eq_true rfl⟩ rfl rfl (Nat.le_of_ble_eq_true rfl) dDV_join_54 ⟨Nat.le_of_ble_eq_true rfl, Nat.le_of_ble_eq_true rfl⟩) rfl (fun y ah hq => ?_)
            obtain ⟨e1, e2⟩ := hq
            subst e1
            rw [e2]
            refine r_iload_n (n := 58) C dDV_join_57 rfl rfl ?_
            refine r_iload (n := 60) C dDV_join_58 rfl rfl ?_
            refine r_iload (n := 62) C dDV_join_60 rfl rfl ?_
            refine r_cv (n := 65) (rn_IN (z := 5) C (c_JR_init (Kl K) (Ko K) h1 rr (nI (3 + cl v)) (nI (3 + cl w)) c d p hrr1) (by decide +kernel) rfl tw_349 tw_9 rfl tw_350 rfl rfl ndJR_init.2 ⟨Nat.le_of_ble_eq_true rfl, Nat.le_of_ble_eq_true rfl⟩ rfl rfl (Nat.le_of_ble_eq_true rfl) dDV_join_62 ⟨Nat.le_of_ble_eq_true rfl, Nat.le_of_ble_eq_true rfl⟩) rfl (fun h2 hq => ?_)
            rw [← eh1, hu_hu] at hq
            have hc2 := hc.fresh hrr0 (.inr (5, [.int (nI (3 + cl v)), .int (nI (3 + cl w)), .int c, .int d, .int p]))
            rw [← hq] at hc2
            have hrr2 : h2 rr = some (rcell (3, 3 + cl v, 3 + cl w, cl c, cl d, cl p, 0)) := by rw [hq, hu_eq]; show (some (Sum.inr (5, [Value.int (nI (3 + cl v)), Value.int (nI (3 + cl w)), Value.int c, Value.int d, Value.int p])) : Option va_E) = some (Sum.inr (5, [Value.int (nI (3 + cl v)), Value.int (nI (3 + cl w)), Value.int (nI (cl c)), Value.int (nI (cl d)), Value.int (nI (cl p))])); rw [← ec, ← ed, ← ep]
            refine r_ci (n := 68) (rn_V (z := 1) (ci := 9) (T := TDV) C (c_DV_make (Kl K) (Ko K) h2 x rr (3, 3 + cl v, 3 + cl w, cl c, cl d, cl p, 0) G S hc2 hrr2 (by show _; first | exact lv | exact ⟨by omega, by omega, by omega⟩ | exact ⟨by omega, by omega⟩ | exact ⟨by omega, by omega, by omega, by omega⟩ | exact ⟨by omega, by omega, by omega, by omega, by omega⟩ | exact ⟨by omega, by omega, by omega, by omega, by omega, by omega, by omega⟩)) tw_111 tw_113 ts_0 tw_1 tw_114 rfl rfl ndDV_make ⟨Nat.le_of_ble_eq_true rfl, Nat.le_of_ble_eq_true rfl⟩ hc2.2.1 rfl rfl rfl (Nat.le_of_ble_eq_true rfl) dDV_join_65 ⟨Nat.le_of_ble_eq_true rfl, Nat.le_of_ble_eq_true rfl⟩) rfl (fun y h3 hq => ?_)
            obtain ⟨e1, e2⟩ := hq
            subst e1
            exact r_iret C dDV_join_68 (Nat.le_of_ble_eq_true rfl) (Nat.le_of_ble_eq_true rfl) ⟨by unfold joiS; rw [if_pos (by simp [hy0, hy1, hy2, hy3, hy4])], by unfold joiS; rw [if_pos (by simp [hy0, hy1, hy2, hy3, hy4])]; rw [hq] at e2; exact e2.fresh hrr0⟩
          · have hz4 : inR p (216) = false := b01_f c_39
            refine r_iconst (v := -1) (n := 43) C dDV_join_42 rfl (by decide) ?_
            exact r_iret C dDV_join_43 (Nat.zero_le _) (Nat.zero_le _) ⟨by unfold joiS; rw [if_neg (by simp [hz4])], by unfold joiS; rw [if_neg (by simp [hz4])]; exact Upd.rf hc⟩
set_option maxHeartbeats 4000000 in
set_option maxRecDepth 100000 in
/-- combine -/
theorem c_DV_combine (l : Launch) (o : Om) (h : AH) (x : Nat) (v w k : Int32) (G : Gh) (S : Sx) (hc : CI o h x G S) : Mt l o yDV_combine cDV_combine 4 (some .int) ({ frames := 7, cells := 1, slots := 3, locals := 196 } : Room) [.ref x, .int v, .int w, .int k] h (QI o (fun r h' => r = (comS v w k S).1 ∧ Upd o h h' x G (comS v w k S).2)) (1) (3) := by
  refine Met.ofV (by decide) (Nat.le_of_ble_eq_true rfl) (fun K hl ho C => ?_)
  subst hl; subst ho
  obtain ⟨g, hx, hn, Ls, Ns, wl, rf, cf, hd, hsL, hsN, hag, hcf⟩ := id hc
  unfold DX at hx
  refine r_aload_n (n := 1) C dDV_combine_0 rfl rfl ?_
  refine r_iload_n (n := 2) C dDV_combine_1 rfl rfl ?_
  refine r_ci (n := 5) (rn_V (z := 1) (ci := 9) (T := TDV) C (c_DV_isNode (Kl K) (Ko K) h x _ v (nod S) hx rfl) tw_294 tw_296 ts_13 tw_1 tw_297 rfl rfl ndDV_isNode ⟨Nat.le_of_ble_eq_true rfl, Nat.le_of_ble_eq_true rfl⟩ hx rfl rfl rfl (Nat.le_of_ble_eq_true rfl) dDV_combine_2 ⟨Nat.le_of_ble_eq_true rfl, Nat.le_of_ble_eq_true rfl⟩) rfl (fun y ah hq => ?_)
  obtain ⟨e1, e2⟩ := hq
  subst e1
  rw [e2]
  refine r_if_eq (tgt := 24) (n := 8) C dDV_combine_5 (by decide) rfl (fun c_5 => ?_) (fun c_5 => ?_)
  · have hz0 : inR v (nod S) = false := b01_f c_5
    refine r_iconst (v := -1) (n := 25) C dDV_combine_24 rfl (by decide) ?_
    exact r_iret C dDV_combine_25 (Nat.zero_le _) (Nat.zero_le _) ⟨by unfold comS; rw [if_neg (by simp [hz0])], by unfold comS; rw [if_neg (by simp [hz0])]; exact Upd.rf hc⟩
  · have hy0 : inR v (nod S) = true := b01_t c_5
    obtain ⟨ev, lv⟩ := inR_c (n := S.2.2.2.length) (by omega) hy0
    refine r_aload_n (n := 9) C dDV_combine_8 rfl rfl ?_
    refine r_iload_n (n := 10) C dDV_combine_9 rfl rfl ?_
    refine r_ci (n := 13) (rn_V (z := 1) (ci := 9) (T := TDV) C (c_DV_isNode (Kl K) (Ko K) h x _ w (nod S) hx rfl) tw_294 tw_296 ts_13 tw_1 tw_297 rfl rfl ndDV_isNode ⟨Nat.le_of_ble_eq_true rfl, Nat.le_of_ble_eq_true rfl⟩ hx rfl rfl rfl (Nat.le_of_ble_eq_true rfl) dDV_combine_10 ⟨Nat.le_of_ble_eq_true rfl, Nat.le_of_ble_eq_true rfl⟩) rfl (fun y ah hq => ?_)
    obtain ⟨e1, e2⟩ := hq
    subst e1
    rw [e2]
    refine r_if_eq (tgt := 24) (n := 16) C dDV_combine_13 (by decide) rfl (fun c_13 => ?_) (fun c_13 => ?_)
    · have hz1 : inR w (nod S) = false := b01_f c_13
      refine r_iconst (v := -1) (n := 25) C dDV_combine_24 rfl (by decide) ?_
      exact r_iret C dDV_combine_25 (Nat.zero_le _) (Nat.zero_le _) ⟨by unfold comS; rw [if_neg (by simp [hz1])], by unfold comS; rw [if_neg (by simp [hz1])]; exact Upd.rf hc⟩
    · have hy1 : inR w (nod S) = true := b01_t c_13
      obtain ⟨ew, lw⟩ := inR_c (n := S.2.2.2.length) (by omega) hy1
      refine r_iload_n (n := 17) C dDV_combine_16 rfl rfl ?_
      refine r_iconst (v := 2) (n := 18) C dDV_combine_17 rfl (by decide) ?_
      refine r_ci (n := 21) (rn_S (z := 2) C (c_DV_isBelow (Kl K) (Ko K) h k 2) tw_95 tw_96 tw_1 tw_97 rfl rfl ndDV_isBelow.2 ⟨Nat.le_of_ble_eq_true rfl, Nat.le_of_ble_eq_true rfl⟩ rfl rfl (Nat.le_of_ble_eq_true rfl) dDV_combine_18 ⟨Nat.le_of_ble_eq_true rfl, Nat.le_of_ble_eq_true rfl⟩) rfl (fun y ah hq => ?_)
      obtain ⟨e1, e2⟩ := hq
      subst e1
      rw [e2]
      refine r_if_ne (tgt := 26) (n := 24) C dDV_combine_21 (by decide) rfl (fun c_21 => ?_) (fun c_21 => ?_)
      · have hy2 : inR k (2) = true := b01_t c_21
        obtain ⟨ek, lk⟩ := inR_c (n := 2) (by omega) hy2
        refine r_aload_n (n := 27) C dDV_combine_26 rfl rfl ?_
        refine r_new (ci := 6) (fs := [.int 0, .int 0, .int 0]) (n := 30) C hinCR tyCR okCR tw_372 tw_373 tw_12 rfl (fun j hj => by rcases (show j = 0 ∨ j = 1 ∨ j = 2 by omega) with rfl | rfl | rfl <;> rfl) dDV_combine_27 rfl (Nat.le_of_ble_eq_true rfl) (Nat.le_of_ble_eq_true rfl) (fun rr hrr0 => ?_)
        have hc1 := hc.fresh hrr0 (.inr (6, [.int 0, .int 0, .int 0]))
        have hrr1 := hu_eq h rr (.inr (6, [.int 0, .int 0, .int 0]))
        generalize eh1 : hu h rr _ = h1 at hc1 hrr1
        refine r_dup (n := 31) C dDV_combine_30 rfl rfl ?_
        refine r_iload_n (n := 32) C dDV_combine_31 rfl rfl ?_
        refine V.eqi ev ?_
        refine r_ci (n := 35) (rn_S (z := 1) C (c_DV_slotOf (Kl K) (Ko K) h1 (cl v)) tw_272 tw_273 tw_1 tw_274 rfl rfl ndDV_slotOf.2 ⟨Nat.le_of_ble_eq_true rfl, Nat.le_of_ble_eq_true rfl⟩ rfl rfl (Nat.le_of_ble_eq_true rfl) dDV_combine_32 ⟨Nat.le_of_ble_eq_true rfl, Nat.le_of_ble_eq_true rfl⟩) rfl (fun y ah hq => ?_)
        obtain ⟨e1, e2⟩ := hq
        subst e1
        rw [e2]
        refine r_iload_n (n := 36) C dDV_combine_35 rfl rfl ?_
        refine V.eqi ew ?_
        refine r_ci (n := 39) (rn_S (z := 1) C (c_DV_slotOf (Kl K) (Ko K) h1 (cl w)) tw_272 tw_273 tw_1 tw_274 rfl rfl ndDV_slotOf.2 ⟨Nat.le_of_ble_eq_true rfl, Nat.le_of_ble_eq_true rfl⟩ rfl rfl (Nat.le_of_ble_eq_true rfl) dDV_combine_36 ⟨Nat.le_of_ble_eq_true rfl, Nat.le_of_ble_eq_true rfl⟩) rfl (fun y ah hq => ?_)
        obtain ⟨e1, e2⟩ := hq
        subst e1
        rw [e2]
        refine r_iload_n (n := 40) C dDV_combine_39 rfl rfl ?_
        refine r_cv (n := 43) (rn_IN (z := 3) C (c_CR_init (Kl K) (Ko K) h1 rr (nI (3 + cl v)) (nI (3 + cl w)) k hrr1) (by decide +kernel) rfl tw_375 tw_12 rfl tw_376 rfl rfl ndCR_init.2 ⟨Nat.le_of_ble_eq_true rfl, Nat.le_of_ble_eq_true rfl⟩ rfl rfl (Nat.le_of_ble_eq_true rfl) dDV_combine_40 ⟨Nat.le_of_ble_eq_true rfl, Nat.le_of_ble_eq_true rfl⟩) rfl (fun h2 hq => ?_)
        rw [← eh1, hu_hu] at hq
        have hc2 := hc.fresh hrr0 (.inr (6, [.int (nI (3 + cl v)), .int (nI (3 + cl w)), .int k]))
        rw [← hq] at hc2
        have hrr2 : h2 rr = some (rcell (4, 3 + cl v, 3 + cl w, cl k, 0, 0, 0)) := by rw [hq, hu_eq]; show (some (Sum.inr (6, [Value.int (nI (3 + cl v)), Value.int (nI (3 + cl w)), Value.int k])) : Option va_E) = some (Sum.inr (6, [Value.int (nI (3 + cl v)), Value.int (nI (3 + cl w)), Value.int (nI (cl k))])); rw [← ek]
        refine r_ci (n := 46) (rn_V (z := 1) (ci := 9) (T := TDV) C (c_DV_make (Kl K) (Ko K) h2 x rr (4, 3 + cl v, 3 + cl w, cl k, 0, 0, 0) G S hc2 hrr2 (by show _; first | exact lv | exact ⟨by omega, by omega, by omega⟩ | exact ⟨by omega, by omega⟩ | exact ⟨by omega, by omega, by omega, by omega⟩ | exact ⟨by omega, by omega, by omega, by omega, by omega⟩ | exact ⟨by omega, by omega, by omega, by omega, by omega, by omega, by omega⟩)) tw_111 tw_113 ts_0 tw_1 tw_114 rfl rfl ndDV_make ⟨Nat.le_of_ble_eq_true rfl, Nat.le_of_ble_eq_true rfl⟩ hc2.2.1 rfl rfl rfl (Nat.le_of_ble_eq_true rfl) dDV_combine_43 ⟨Nat.le_of_ble_eq_true rfl, Nat.le_of_ble_eq_true rfl⟩) rfl (fun y h3 hq => ?_)
        obtain ⟨e1, e2⟩ := hq
        subst e1
        exact r_iret C dDV_combine_46 (Nat.le_of_ble_eq_true rfl) (Nat.le_of_ble_eq_true rfl) ⟨by unfold comS; rw [if_pos (by simp [hy0, hy1, hy2])], by unfold comS; rw [if_pos (by simp [hy0, hy1, hy2])]; rw [hq] at e2; exact e2.fresh hrr0⟩
      · have hz2 : inR k (2) = false := b01_f c_21
        refine r_iconst (v := -1) (n := 25) C dDV_combine_24 rfl (by decide) ?_
        exact r_iret C dDV_combine_25 (Nat.zero_le _) (Nat.zero_le _) ⟨by unfold comS; rw [if_neg (by simp [hz2])], by unfold comS; rw [if_neg (by simp [hz2])]; exact Upd.rf hc⟩
set_option maxHeartbeats 4000000 in
set_option maxRecDepth 100000 in
/-- distinct -/
theorem c_DV_distinct (l : Launch) (o : Om) (h : AH) (x : Nat) (v : Int32) (G : Gh) (S : Sx) (hc : CI o h x G S) : Mt l o yDV_distinct cDV_distinct 2 (some .int) ({ frames := 7, cells := 1, slots := 1, locals := 196 } : Room) [.ref x, .int v] h (QI o (fun r h' => r = (disS v S).1 ∧ Upd o h h' x G (disS v S).2)) (1) (1) := by
  refine Met.ofV (by decide) (Nat.le_of_ble_eq_true rfl) (fun K hl ho C => ?_)
  subst hl; subst ho
  obtain ⟨g, hx, hn, Ls, Ns, wl, rf, cf, hd, hsL, hsN, hag, hcf⟩ := id hc
  unfold DX at hx
  refine r_aload_n (n := 1) C dDV_distinct_0 rfl rfl ?_
  refine r_iload_n (n := 2) C dDV_distinct_1 rfl rfl ?_
  refine r_ci (n := 5) (rn_V (z := 1) (ci := 9) (T := TDV) C (c_DV_isNode (Kl K) (Ko K) h x _ v (nod S) hx rfl) tw_294 tw_296 ts_13 tw_1 tw_297 rfl rfl ndDV_isNode ⟨Nat.le_of_ble_eq_true rfl, Nat.le_of_ble_eq_true rfl⟩ hx rfl rfl rfl (Nat.le_of_ble_eq_true rfl) dDV_distinct_2 ⟨Nat.le_of_ble_eq_true rfl, Nat.le_of_ble_eq_true rfl⟩) rfl (fun y ah hq => ?_)
  obtain ⟨e1, e2⟩ := hq
  subst e1
  rw [e2]
  refine r_if_ne (tgt := 10) (n := 8) C dDV_distinct_5 (by decide) rfl (fun c_5 => ?_) (fun c_5 => ?_)
  · have hy0 : inR v (nod S) = true := b01_t c_5
    obtain ⟨ev, lv⟩ := inR_c (n := S.2.2.2.length) (by omega) hy0
    refine r_aload_n (n := 11) C dDV_distinct_10 rfl rfl ?_
    refine r_new (ci := 7) (fs := [.int 0]) (n := 14) C hinDR tyDR okDR tw_392 tw_393 tw_13 rfl (fun j hj => by rcases (show j = 0 by omega) with rfl <;> rfl) dDV_distinct_11 rfl (Nat.le_of_ble_eq_true rfl) (Nat.le_of_ble_eq_true rfl) (fun rr hrr0 => ?_)
    have hc1 := hc.fresh hrr0 (.inr (7, [.int 0]))
    have hrr1 := hu_eq h rr (.inr (7, [.int 0]))
    generalize eh1 : hu h rr _ = h1 at hc1 hrr1
    refine r_dup (n := 15) C dDV_distinct_14 rfl rfl ?_
    refine r_iload_n (n := 16) C dDV_distinct_15 rfl rfl ?_
    refine V.eqi ev ?_
    refine r_ci (n := 19) (rn_S (z := 1) C (c_DV_slotOf (Kl K) (Ko K) h1 (cl v)) tw_272 tw_273 tw_1 tw_274 rfl rfl ndDV_slotOf.2 ⟨Nat.le_of_ble_eq_true rfl, Nat.le_of_ble_eq_true rfl⟩ rfl rfl (Nat.le_of_ble_eq_true rfl) dDV_distinct_16 ⟨Nat.le_of_ble_eq_true rfl, Nat.le_of_ble_eq_true rfl⟩) rfl (fun y ah hq => ?_)
    obtain ⟨e1, e2⟩ := hq
    subst e1
    rw [e2]
    refine r_cv (n := 22) (rn_IN (z := 1) C (c_DR_init (Kl K) (Ko K) h1 rr (nI (3 + cl v)) hrr1) (by decide +kernel) rfl tw_395 tw_13 rfl tw_396 rfl rfl ndDR_init.2 ⟨Nat.le_of_ble_eq_true rfl, Nat.le_of_ble_eq_true rfl⟩ rfl rfl (Nat.le_of_ble_eq_true rfl) dDV_distinct_19 ⟨Nat.le_of_ble_eq_true rfl, Nat.le_of_ble_eq_true rfl⟩) rfl (fun h2 hq => ?_)
    rw [← eh1, hu_hu] at hq
    have hc2 := hc.fresh hrr0 (.inr (7, [.int (nI (3 + cl v))]))
    rw [← hq] at hc2
    have hrr2 : h2 rr = some (rcell (5, 3 + cl v, 0, 0, 0, 0, 0)) := by rw [hq, hu_eq]; show (some (Sum.inr (7, [Value.int (nI (3 + cl v))])) : Option va_E) = some (Sum.inr (7, [Value.int (nI (3 + cl v))])); rfl
    refine r_ci (n := 25) (rn_V (z := 1) (ci := 9) (T := TDV) C (c_DV_make (Kl K) (Ko K) h2 x rr (5, 3 + cl v, 0, 0, 0, 0, 0) G S hc2 hrr2 (by show _; first | exact lv | exact ⟨by omega, by omega, by omega⟩ | exact ⟨by omega, by omega⟩ | exact ⟨by omega, by omega, by omega, by omega⟩ | exact ⟨by omega, by omega, by omega, by omega, by omega⟩ | exact ⟨by omega, by omega, by omega, by omega, by omega, by omega, by omega⟩)) tw_111 tw_113 ts_0 tw_1 tw_114 rfl rfl ndDV_make ⟨Nat.le_of_ble_eq_true rfl, Nat.le_of_ble_eq_true rfl⟩ hc2.2.1 rfl rfl rfl (Nat.le_of_ble_eq_true rfl) dDV_distinct_22 ⟨Nat.le_of_ble_eq_true rfl, Nat.le_of_ble_eq_true rfl⟩) rfl (fun y h3 hq => ?_)
    obtain ⟨e1, e2⟩ := hq
    subst e1
    exact r_iret C dDV_distinct_25 (Nat.le_of_ble_eq_true rfl) (Nat.le_of_ble_eq_true rfl) ⟨by unfold disS; rw [if_pos (by simp [hy0])], by unfold disS; rw [if_pos (by simp [hy0])]; rw [hq] at e2; exact e2.fresh hrr0⟩
  · have hz0 : inR v (nod S) = false := b01_f c_5
    refine r_iconst (v := -1) (n := 9) C dDV_distinct_8 rfl (by decide) ?_
    exact r_iret C dDV_distinct_9 (Nat.zero_le _) (Nat.zero_le _) ⟨by unfold disS; rw [if_neg (by simp [hz0])], by unfold disS; rw [if_neg (by simp [hz0])]; exact Upd.rf hc⟩
set_option maxHeartbeats 4000000 in
set_option maxRecDepth 100000 in
/-- group -/
theorem c_DV_group (l : Launch) (o : Om) (h : AH) (x : Nat) (v k c d : Int32) (G : Gh) (S : Sx) (hc : CI o h x G S) : Mt l o yDV_group cDV_group 5 (some .int) ({ frames := 7, cells := 1, slots := 4, locals := 196 } : Room) [.ref x, .int v, .int k, .int c, .int d] h (QI o (fun r h' => r = (groS v k c d S).1 ∧ Upd o h h' x G (groS v k c d S).2)) (1) (4) := by
  refine Met.ofV (by decide) (Nat.le_of_ble_eq_true rfl) (fun K hl ho C => ?_)
  subst hl; subst ho
  obtain ⟨g, hx, hn, Ls, Ns, wl, rf, cf, hd, hsL, hsN, hag, hcf⟩ := id hc
  unfold DX at hx
  refine r_aload_n (n := 1) C dDV_group_0 rfl rfl ?_
  refine r_iload_n (n := 2) C dDV_group_1 rfl rfl ?_
  refine r_ci (n := 5) (rn_V (z := 1) (ci := 9) (T := TDV) C (c_DV_isNode (Kl K) (Ko K) h x _ v (nod S) hx rfl) tw_294 tw_296 ts_13 tw_1 tw_297 rfl rfl ndDV_isNode ⟨Nat.le_of_ble_eq_true rfl, Nat.le_of_ble_eq_true rfl⟩ hx rfl rfl rfl (Nat.le_of_ble_eq_true rfl) dDV_group_2 ⟨Nat.le_of_ble_eq_true rfl, Nat.le_of_ble_eq_true rfl⟩) rfl (fun y ah hq => ?_)
  obtain ⟨e1, e2⟩ := hq
  subst e1
  rw [e2]
  refine r_if_eq (tgt := 31) (n := 8) C dDV_group_5 (by decide) rfl (fun c_5 => ?_) (fun c_5 => ?_)
  · have hz0 : inR v (nod S) = false := b01_f c_5
    refine r_iconst (v := -1) (n := 32) C dDV_group_31 rfl (by decide) ?_
    exact r_iret C dDV_group_32 (Nat.zero_le _) (Nat.zero_le _) ⟨by unfold groS; rw [if_neg (by simp [hz0])], by unfold groS; rw [if_neg (by simp [hz0])]; exact Upd.rf hc⟩
  · have hy0 : inR v (nod S) = true := b01_t c_5
    obtain ⟨ev, lv⟩ := inR_c (n := S.2.2.2.length) (by omega) hy0
    refine r_iload_n (n := 9) C dDV_group_8 rfl rfl ?_
    refine r_ci (n := 12) (rn_S (z := 1) C (c_DV_isColumn (Kl K) (Ko K) h k) tw_298 tw_299 tw_1 tw_300 rfl rfl ndDV_isColumn.2 ⟨Nat.le_of_ble_eq_true rfl, Nat.le_of_ble_eq_true rfl⟩ rfl rfl (Nat.le_of_ble_eq_true rfl) dDV_group_9 ⟨Nat.le_of_ble_eq_true rfl, Nat.le_of_ble_eq_true rfl⟩) rfl (fun y ah hq => ?_)
    obtain ⟨e1, e2⟩ := hq
    subst e1
    rw [e2]
    refine r_if_eq (tgt := 31) (n := 15) C dDV_group_12 (by decide) rfl (fun c_12 => ?_) (fun c_12 => ?_)
    · have hz1 : inR k (3) = false := b01_f c_12
      refine r_iconst (v := -1) (n := 32) C dDV_group_31 rfl (by decide) ?_
      exact r_iret C dDV_group_32 (Nat.zero_le _) (Nat.zero_le _) ⟨by unfold groS; rw [if_neg (by simp [hz1])], by unfold groS; rw [if_neg (by simp [hz1])]; exact Upd.rf hc⟩
    · have hy1 : inR k (3) = true := b01_t c_12
      obtain ⟨ek, lk⟩ := inR_c (n := 3) (by omega) hy1
      refine r_iload_n (n := 16) C dDV_group_15 rfl rfl ?_
      refine r_ci (n := 19) (rn_S (z := 1) C (c_DV_isColumn (Kl K) (Ko K) h c) tw_298 tw_299 tw_1 tw_300 rfl rfl ndDV_isColumn.2 ⟨Nat.le_of_ble_eq_true rfl, Nat.le_of_ble_eq_true rfl⟩ rfl rfl (Nat.le_of_ble_eq_true rfl) dDV_group_16 ⟨Nat.le_of_ble_eq_true rfl, Nat.le_of_ble_eq_true rfl⟩) rfl (fun y ah hq => ?_)
      obtain ⟨e1, e2⟩ := hq
      subst e1
      rw [e2]
      refine r_if_eq (tgt := 31) (n := 22) C dDV_group_19 (by decide) rfl (fun c_19 => ?_) (fun c_19 => ?_)
      · have hz2 : inR c (3) = false := b01_f c_19
        refine r_iconst (v := -1) (n := 32) C dDV_group_31 rfl (by decide) ?_
        exact r_iret C dDV_group_32 (Nat.zero_le _) (Nat.zero_le _) ⟨by unfold groS; rw [if_neg (by simp [hz2])], by unfold groS; rw [if_neg (by simp [hz2])]; exact Upd.rf hc⟩
      · have hy2 : inR c (3) = true := b01_t c_19
        obtain ⟨ec, lc⟩ := inR_c (n := 3) (by omega) hy2
        refine r_iload (n := 24) C dDV_group_22 rfl rfl ?_
        refine r_iconst (v := 4) (n := 25) C dDV_group_24 rfl (by decide) ?_
        refine r_ci (n := 28) (rn_S (z := 2) C (c_DV_isBelow (Kl K) (Ko K) h d 4) tw_95 tw_96 tw_1 tw_97 rfl rfl ndDV_isBelow.2 ⟨Nat.le_of_ble_eq_true rfl, Nat.le_of_ble_eq_true rfl⟩ rfl rfl (Nat.le_of_ble_eq_true rfl) dDV_group_25 ⟨Nat.le_of_ble_eq_true rfl, Nat.le_of_ble_eq_true rfl⟩) rfl (fun y ah hq => ?_)
        obtain ⟨e1, e2⟩ := hq
        subst e1
        rw [e2]
        refine r_if_ne (tgt := 33) (n := 31) C dDV_group_28 (by decide) rfl (fun c_28 => ?_) (fun c_28 => ?_)
        · have hy3 : inR d (4) = true := b01_t c_28
          obtain ⟨ed, ld⟩ := inR_c (n := 4) (by omega) hy3
          refine r_aload_n (n := 34) C dDV_group_33 rfl rfl ?_
          refine r_new (ci := 8) (fs := [.int 0, .int 0, .int 0, .int 0]) (n := 37) C hinGR tyGR okGR tw_406 tw_215 tw_14 rfl (fun j hj => by rcases (show j = 0 ∨ j = 1 ∨ j = 2 ∨ j = 3 by omega) with rfl | rfl | rfl | rfl <;> rfl) dDV_group_34 rfl (Nat.le_of_ble_eq_true rfl) (Nat.le_of_ble_eq_true rfl) (fun rr hrr0 => ?_)
          have hc1 := hc.fresh hrr0 (.inr (8, [.int 0, .int 0, .int 0, .int 0]))
          have hrr1 := hu_eq h rr (.inr (8, [.int 0, .int 0, .int 0, .int 0]))
          generalize eh1 : hu h rr _ = h1 at hc1 hrr1
          refine r_dup (n := 38) C dDV_group_37 rfl rfl ?_
          refine r_iload_n (n := 39) C dDV_group_38 rfl rfl ?_
          refine V.eqi ev ?_
          refine r_ci (n := 42) (rn_S (z := 1) C (c_DV_slotOf (Kl K) (Ko K) h1 (cl v)) tw_272 tw_273 tw_1 tw_274 rfl rfl ndDV_slotOf.2 ⟨Nat.le_of_ble_eq_true rfl, Nat.le_of_ble_eq_true rfl⟩ rfl rfl (Nat.le_of_ble_eq_true rfl) dDV_group_39 ⟨Nat.le_of_ble_eq_true rfl, Nat.le_of_ble_eq_true rfl⟩) rfl (fun y ah hq => ?_)
          obtain ⟨e1, e2⟩ := hq
          subst e1
          rw [e2]
          refine r_iload_n (n := 43) C dDV_group_42 rfl rfl ?_
          refine r_iload_n (n := 44) C dDV_group_43 rfl rfl ?_
          refine r_iload (n := 46) C dDV_group_44 rfl rfl ?_
          refine r_cv (n := 49) (rn_IN (z := 4) C (c_GR_init (Kl K) (Ko K) h1 rr (nI (3 + cl v)) k c d hrr1) (by decide +kernel) rfl tw_408 tw_14 rfl tw_409 rfl rfl ndGR_init.2 ⟨Nat.le_of_ble_eq_true rfl, Nat.le_of_ble_eq_true rfl⟩ rfl rfl (Nat.le_of_ble_eq_true rfl) dDV_group_46 ⟨Nat.le_of_ble_eq_true rfl, Nat.le_of_ble_eq_true rfl⟩) rfl (fun h2 hq => ?_)
          rw [← eh1, hu_hu] at hq
          have hc2 := hc.fresh hrr0 (.inr (8, [.int (nI (3 + cl v)), .int k, .int c, .int d]))
          rw [← hq] at hc2
          have hrr2 : h2 rr = some (rcell (6, 3 + cl v, cl k, cl c, cl d, 0, 0)) := by rw [hq, hu_eq]; show (some (Sum.inr (8, [Value.int (nI (3 + cl v)), Value.int k, Value.int c, Value.int d])) : Option va_E) = some (Sum.inr (8, [Value.int (nI (3 + cl v)), Value.int (nI (cl k)), Value.int (nI (cl c)), Value.int (nI (cl d))])); rw [← ek, ← ec, ← ed]
          refine r_ci (n := 52) (rn_V (z := 1) (ci := 9) (T := TDV) C (c_DV_make (Kl K) (Ko K) h2 x rr (6, 3 + cl v, cl k, cl c, cl d, 0, 0) G S hc2 hrr2 (by show _; first | exact lv | exact ⟨by omega, by omega, by omega⟩ | exact ⟨by omega, by omega⟩ | exact ⟨by omega, by omega, by omega, by omega⟩ | exact ⟨by omega, by omega, by omega, by omega, by omega⟩ | exact ⟨by omega, by omega, by omega, by omega, by omega, by omega, by omega⟩)) tw_111 tw_113 ts_0 tw_1 tw_114 rfl rfl ndDV_make ⟨Nat.le_of_ble_eq_true rfl, Nat.le_of_ble_eq_true rfl⟩ hc2.2.1 rfl rfl rfl (Nat.le_of_ble_eq_true rfl) dDV_group_49 ⟨Nat.le_of_ble_eq_true rfl, Nat.le_of_ble_eq_true rfl⟩) rfl (fun y h3 hq => ?_)
          obtain ⟨e1, e2⟩ := hq
          subst e1
          exact r_iret C dDV_group_52 (Nat.le_of_ble_eq_true rfl) (Nat.le_of_ble_eq_true rfl) ⟨by unfold groS; rw [if_pos (by simp [hy0, hy1, hy2, hy3])], by unfold groS; rw [if_pos (by simp [hy0, hy1, hy2, hy3])]; rw [hq] at e2; exact e2.fresh hrr0⟩
        · have hz3 : inR d (4) = false := b01_f c_28
          refine r_iconst (v := -1) (n := 32) C dDV_group_31 rfl (by decide) ?_
          exact r_iret C dDV_group_32 (Nat.zero_le _) (Nat.zero_le _) ⟨by unfold groS; rw [if_neg (by simp [hz3])], by unfold groS; rw [if_neg (by simp [hz3])]; exact Upd.rf hc⟩
