/-! ROWS: differencesFrom, the constructor -/
set_option maxHeartbeats 4000000 in
set_option maxRecDepth 100000 in
/-- Rows.differencesFrom -/
theorem c_RW_differencesFrom (l : Launch) (o : Om) (h : AH) (A : Nat × Nat × Nat × Nat) (f : Nat → Int32) (g : Nat → Int64) (L : List Rw) (Bb : Nat × Nat × Nat × Nat) (fb : Nat → Int32) (gb : Nat → Int64) (M : List Rw) (hR : RA0 o h A f g L) (hRb : RA0 o h Bb fb gb M) (hs : Srt L) (hsb : Srt M) : Mt l o yRW_differencesFrom cRW_differencesFrom 4 (some .int) ({ frames := 3, cells := 0, slots := 0, locals := 75 } : Room) [.ref A.1, .ref Bb.1] h (QI o (fun x h' => x = nI (diffs L M) ∧ h' = h)) (0) (0) := by
  refine Met.ofV (by decide) (Nat.le_of_ble_eq_true rfl) (fun K hl ho C => ?_)
  subst hl; subst ho
  obtain ⟨hA, hV, hW, hn, hcap, hE⟩ := id hR
  obtain ⟨hAb, hVb, hWb, hnb, hcapb, hEb⟩ := id hRb
  have loop2 : ∀ (m i : Nat), M.length - i = m → i ≤ M.length → V K h 0 0 (EndQ K (QI (Ko K) (fun x h' => x = nI (diffs L M) ∧ h' = h)) 0 0) 55 [(0, .ref A.1), (1, .ref Bb.1), (2, .int (nI ((L.filter (fun r => decide (wt M r.1 ≠ r.2))).length + ((M.take i).filter (fun r => decide (wt L r.1 = 0))).length))), (3, .int (nI i))] [] := by
    intro m
    induction m using Nat.strongRecOn with
    | _ m ih =>
      intro i hm hi
      generalize hdd : ((M.take i).filter (fun r => decide (wt L r.1 = 0))).length = dd
      refine r_iload_n (n := 56) C dRW_differencesFrom_55 rfl rfl ?_
      refine r_aload_n (n := 57) C dRW_differencesFrom_56 rfl rfl ?_
      refine r_get (ci := 0) (n := 60) C hinRW rfl 2 (by decide) tw_35 rfl dRW_differencesFrom_57 rfl (by assumption) rfl ?_
      refine r_icmp_ge (tgt := 99) (n := 63) C dRW_differencesFrom_60 (by decide) rfl (fun c_60 => ?_) (fun c_60 => ?_)
      · have hie : i = M.length := by have := (nI_leI (by omega) (by omega)).mp c_60; omega
        refine r_iload_n (n := 100) C dRW_differencesFrom_99 rfl rfl ?_
        exact r_iret C dRW_differencesFrom_100 (Nat.le_refl _) (Nat.le_refl _) ⟨by rw [hie, List.take_length] at hdd; rw [← hdd]; rfl, rfl⟩
      · have hlt : i < M.length := by
          rcases Nat.lt_or_ge i M.length with q | q
          · exact q
          · exact absurd (nI_le q (by omega)) c_60
        obtain ⟨r, hr⟩ : ∃ r, M[i]? = some r := ⟨_, List.getElem?_eq_getElem hlt⟩
        refine r_aload_n (n := 64) C dRW_differencesFrom_63 rfl rfl ?_
        refine r_aload_n (n := 65) C dRW_differencesFrom_64 rfl rfl ?_
        refine r_iload_n (n := 66) C dRW_differencesFrom_65 rfl rfl ?_
        refine r_iconst (v := 0) (n := 67) C dRW_differencesFrom_66 rfl (by decide) ?_
        refine r_ci (n := 70) (rn_V (z := 2) (ci := 0) (T := TRW) C (c_RW_valueAt (Kl K) (Ko K) h Bb fb gb M i 0 r hRb hr (by decide)) tw_156 tw_157 tw_158 tw_2 tw_159 rfl rfl ndRW_valueAt ⟨Nat.le_of_ble_eq_true rfl, Nat.le_of_ble_eq_true rfl⟩ (by assumption) rfl rfl rfl (Nat.le_of_ble_eq_true rfl) dRW_differencesFrom_67 ⟨Nat.le_of_ble_eq_true rfl, Nat.le_of_ble_eq_true rfl⟩) rfl (fun x h1 hq => ?_)
        obtain ⟨e1, e2⟩ := hq
        subst e1
        rw [e2]
        refine r_aload_n (n := 71) C dRW_differencesFrom_70 rfl rfl ?_
        refine r_iload_n (n := 72) C dRW_differencesFrom_71 rfl rfl ?_
        refine r_iconst (v := 1) (n := 73) C dRW_differencesFrom_72 rfl (by decide) ?_
        refine r_ci (n := 76) (rn_V (z := 2) (ci := 0) (T := TRW) C (c_RW_valueAt (Kl K) (Ko K) h Bb fb gb M i 1 r hRb hr (by decide)) tw_156 tw_157 tw_158 tw_2 tw_159 rfl rfl ndRW_valueAt ⟨Nat.le_of_ble_eq_true rfl, Nat.le_of_ble_eq_true rfl⟩ (by assumption) rfl rfl rfl (Nat.le_of_ble_eq_true rfl) dRW_differencesFrom_73 ⟨Nat.le_of_ble_eq_true rfl, Nat.le_of_ble_eq_true rfl⟩) rfl (fun x h1 hq => ?_)
        obtain ⟨e1, e2⟩ := hq
        subst e1
        rw [e2]
        refine r_aload_n (n := 77) C dRW_differencesFrom_76 rfl rfl ?_
        refine r_iload_n (n := 78) C dRW_differencesFrom_77 rfl rfl ?_
        refine r_iconst (v := 2) (n := 79) C dRW_differencesFrom_78 rfl (by decide) ?_
        refine r_ci (n := 82) (rn_V (z := 2) (ci := 0) (T := TRW) C (c_RW_valueAt (Kl K) (Ko K) h Bb fb gb M i 2 r hRb hr (by decide)) tw_156 tw_157 tw_158 tw_2 tw_159 rfl rfl ndRW_valueAt ⟨Nat.le_of_ble_eq_true rfl, Nat.le_of_ble_eq_true rfl⟩ (by assumption) rfl rfl rfl (Nat.le_of_ble_eq_true rfl) dRW_differencesFrom_79 ⟨Nat.le_of_ble_eq_true rfl, Nat.le_of_ble_eq_true rfl⟩) rfl (fun x h1 hq => ?_)
        obtain ⟨e1, e2⟩ := hq
        subst e1
        rw [e2]
        refine r_cl (n := 85) (rn_V (z := 3) (ci := 0) (T := TRW) C (c_RW_weightOf (Kl K) (Ko K) h A f g L r.1.1 r.1.2.1 r.1.2.2 hR hs) tw_473 tw_474 tw_475 tw_2 tw_476 rfl rfl ndRW_weightOf ⟨Nat.le_of_ble_eq_true rfl, Nat.le_of_ble_eq_true rfl⟩ (by assumption) rfl rfl rfl (Nat.le_of_ble_eq_true rfl) dRW_differencesFrom_82 ⟨Nat.le_of_ble_eq_true rfl, Nat.le_of_ble_eq_true rfl⟩) rfl (fun x h1 hq => ?_)
        obtain ⟨e1, e2⟩ := hq
        subst e1
        rw [e2]
        refine r_lconst (v := 0) (n := 86) C dRW_differencesFrom_85 rfl (by decide) ?_
        refine r_lcmp (n := 87) C dRW_differencesFrom_86 rfl ?_
        refine r_if_ne (tgt := 93) (n := 90) C dRW_differencesFrom_87 (by decide) rfl (fun c_87 => ?_) (fun c_87 => ?_)
        · have hz : ¬ wt L r.1 = 0 := fun e => c_87 ((lg_cmp_eq _ _).mpr e)
          refine r_iinc (n := 96) C dRW_differencesFrom_93 rfl rfl (nI_i i) (by decide) ?_
          refine r_goto (tgt := 55) C dRW_differencesFrom_96 (by decide) ?_
          refine V.byk (ls' := [(0, .ref A.1), (1, .ref Bb.1), (2, .int (nI ((L.filter (fun r => decide (wt M r.1 ≠ r.2))).length + dd))), (3, .int (nI (i + 1)))]) rfl ?_
          have h9 := ih _ (by omega) (i + 1) rfl (by omega)
          rw [ftake hr, hdd, if_neg (by simpa using hz), Nat.add_zero] at h9
          exact h9
        · have hz : wt L r.1 = 0 := (lg_cmp_eq _ _).mp c_87
          refine r_iinc (n := 93) C dRW_differencesFrom_90 rfl rfl (nI_i _) (by decide) ?_
          refine r_iinc (n := 96) C dRW_differencesFrom_93 rfl rfl (nI_i i) (by decide) ?_
          refine r_goto (tgt := 55) C dRW_differencesFrom_96 (by decide) ?_
          refine V.byk (ls' := [(0, .ref A.1), (1, .ref Bb.1), (2, .int (nI ((L.filter (fun r => decide (wt M r.1 ≠ r.2))).length + dd + 1))), (3, .int (nI (i + 1)))]) rfl ?_
          have h9 := ih _ (by omega) (i + 1) rfl (by omega)
          rw [ftake hr, hdd, if_pos (by simpa using hz), ← Nat.add_assoc] at h9
          exact h9
  have loop1 : ∀ (m i : Nat), L.length - i = m → i ≤ L.length → V K h 0 0 (EndQ K (QI (Ko K) (fun x h' => x = nI (diffs L M) ∧ h' = h)) 0 0) 4 [(0, .ref A.1), (1, .ref Bb.1), (2, .int (nI ((L.take i).filter (fun r => decide (wt M r.1 ≠ r.2))).length)), (3, .int (nI i))] [] := by
    intro m
    induction m using Nat.strongRecOn with
    | _ m ih =>
      intro i hm hi
      generalize hdd : ((L.take i).filter (fun r => decide (wt M r.1 ≠ r.2))).length = dd
      refine r_iload_n (n := 5) C dRW_differencesFrom_4 rfl rfl ?_
      refine r_aload_n (n := 6) C dRW_differencesFrom_5 rfl rfl ?_
      refine r_get (ci := 0) (n := 9) C hinRW rfl 2 (by decide) tw_35 rfl dRW_differencesFrom_6 rfl (by assumption) rfl ?_
      refine r_icmp_ge (tgt := 53) (n := 12) C dRW_differencesFrom_9 (by decide) rfl (fun c_9 => ?_) (fun c_9 => ?_)
      · have hie : i = L.length := by have := (nI_leI (by omega) (by omega)).mp c_9; omega
        refine r_iconst (v := 0) (n := 54) C dRW_differencesFrom_53 rfl (by decide) ?_
        refine r_istore_n (n := 55) C dRW_differencesFrom_54 rfl (by decide) ?_
        rw [hie, List.take_length] at hdd
        subst hdd
        refine V.byk (ls' := [(0, .ref A.1), (1, .ref Bb.1), (2, .int (nI (L.filter (fun r => decide (wt M r.1 ≠ r.2))).length)), (3, .int (nI 0))]) rfl ?_
        exact loop2 _ 0 rfl (Nat.zero_le _)
      · have hlt : i < L.length := by
          rcases Nat.lt_or_ge i L.length with q | q
          · exact q
          · exact absurd (nI_le q (by omega)) c_9
        obtain ⟨r, hr⟩ : ∃ r, L[i]? = some r := ⟨_, List.getElem?_eq_getElem hlt⟩
        refine r_aload_n (n := 13) C dRW_differencesFrom_12 rfl rfl ?_
        refine r_aload_n (n := 14) C dRW_differencesFrom_13 rfl rfl ?_
        refine r_iload_n (n := 15) C dRW_differencesFrom_14 rfl rfl ?_
        refine r_iconst (v := 0) (n := 16) C dRW_differencesFrom_15 rfl (by decide) ?_
        refine r_ci (n := 19) (rn_V (z := 2) (ci := 0) (T := TRW) C (c_RW_valueAt (Kl K) (Ko K) h A f g L i 0 r hR hr (by decide)) tw_156 tw_157 tw_158 tw_2 tw_159 rfl rfl ndRW_valueAt ⟨Nat.le_of_ble_eq_true rfl, Nat.le_of_ble_eq_true rfl⟩ (by assumption) rfl rfl rfl (Nat.le_of_ble_eq_true rfl) dRW_differencesFrom_16 ⟨Nat.le_of_ble_eq_true rfl, Nat.le_of_ble_eq_true rfl⟩) rfl (fun x h1 hq => ?_)
        obtain ⟨e1, e2⟩ := hq
        subst e1
        rw [e2]
        refine r_aload_n (n := 20) C dRW_differencesFrom_19 rfl rfl ?_
        refine r_iload_n (n := 21) C dRW_differencesFrom_20 rfl rfl ?_
        refine r_iconst (v := 1) (n := 22) C dRW_differencesFrom_21 rfl (by decide) ?_
        refine r_ci (n := 25) (rn_V (z := 2) (ci := 0) (T := TRW) C (c_RW_valueAt (Kl K) (Ko K) h A f g L i 1 r hR hr (by decide)) tw_156 tw_157 tw_158 tw_2 tw_159 rfl rfl ndRW_valueAt ⟨Nat.le_of_ble_eq_true rfl, Nat.le_of_ble_eq_true rfl⟩ (by assumption) rfl rfl rfl (Nat.le_of_ble_eq_true rfl) dRW_differencesFrom_22 ⟨Nat.le_of_ble_eq_true rfl, Nat.le_of_ble_eq_true rfl⟩) rfl (fun x h1 hq => ?_)
        obtain ⟨e1, e2⟩ := hq
        subst e1
        rw [e2]
        refine r_aload_n (n := 26) C dRW_differencesFrom_25 rfl rfl ?_
        refine r_iload_n (n := 27) C dRW_differencesFrom_26 rfl rfl ?_
        refine r_iconst (v := 2) (n := 28) C dRW_differencesFrom_27 rfl (by decide) ?_
        refine r_ci (n := 31) (rn_V (z := 2) (ci := 0) (T := TRW) C (c_RW_valueAt (Kl K) (Ko K) h A f g L i 2 r hR hr (by decide)) tw_156 tw_157 tw_158 tw_2 tw_159 rfl rfl ndRW_valueAt ⟨Nat.le_of_ble_eq_true rfl, Nat.le_of_ble_eq_true rfl⟩ (by assumption) rfl rfl rfl (Nat.le_of_ble_eq_true rfl) dRW_differencesFrom_28 ⟨Nat.le_of_ble_eq_true rfl, Nat.le_of_ble_eq_true rfl⟩) rfl (fun x h1 hq => ?_)
        obtain ⟨e1, e2⟩ := hq
        subst e1
        rw [e2]
        refine r_cl (n := 34) (rn_V (z := 3) (ci := 0) (T := TRW) C (c_RW_weightOf (Kl K) (Ko K) h Bb fb gb M r.1.1 r.1.2.1 r.1.2.2 hRb hsb) tw_473 tw_474 tw_475 tw_2 tw_476 rfl rfl ndRW_weightOf ⟨Nat.le_of_ble_eq_true rfl, Nat.le_of_ble_eq_true rfl⟩ (by assumption) rfl rfl rfl (Nat.le_of_ble_eq_true rfl) dRW_differencesFrom_31 ⟨Nat.le_of_ble_eq_true rfl, Nat.le_of_ble_eq_true rfl⟩) rfl (fun x h1 hq => ?_)
        obtain ⟨e1, e2⟩ := hq
        subst e1
        rw [e2]
        refine r_aload_n (n := 35) C dRW_differencesFrom_34 rfl rfl ?_
        refine r_get (ci := 0) (n := 38) C hinRW rfl 1 (by decide) tw_34 rfl dRW_differencesFrom_35 rfl (by assumption) rfl ?_
        refine r_iload_n (n := 39) C dRW_differencesFrom_38 rfl rfl ?_
        refine r_lald (n := 40) C dRW_differencesFrom_39 rfl hW i rfl (by omega) (by omega) ?_
        refine r_lcmp (n := 41) C dRW_differencesFrom_40 rfl ?_
        refine r_if_eq (tgt := 47) (n := 44) C dRW_differencesFrom_41 (by decide) rfl (fun c_41 => ?_) (fun c_41 => ?_)
        · have hz : wt M r.1 = r.2 := by have := (lg_cmp_eq _ _).mp c_41; rw [(hE i r hr).2.2.2] at this; exact this
          refine r_iinc (n := 50) C dRW_differencesFrom_47 rfl rfl (nI_i i) (by decide) ?_
          refine r_goto (tgt := 4) C dRW_differencesFrom_50 (by decide) ?_
          refine V.byk (ls' := [(0, .ref A.1), (1, .ref Bb.1), (2, .int (nI dd)), (3, .int (nI (i + 1)))]) rfl ?_
          have h9 := ih _ (by omega) (i + 1) rfl (by omega)
          rw [ftake hr, hdd, if_neg (by simpa using hz), Nat.add_zero] at h9
          exact h9
        · have hz : ¬ wt M r.1 = r.2 := by rw [← (hE i r hr).2.2.2]; exact fun e => c_41 ((lg_cmp_eq _ _).mpr e)
          refine r_iinc (n := 47) C dRW_differencesFrom_44 rfl rfl (nI_i _) (by decide) ?_
          refine r_iinc (n := 50) C dRW_differencesFrom_47 rfl rfl (nI_i i) (by decide) ?_
          refine r_goto (tgt := 4) C dRW_differencesFrom_50 (by decide) ?_
          refine V.byk (ls' := [(0, .ref A.1), (1, .ref Bb.1), (2, .int (nI (dd + 1))), (3, .int (nI (i + 1)))]) rfl ?_
          have h9 := ih _ (by omega) (i + 1) rfl (by omega)
          rw [ftake hr, hdd, if_pos (by simpa using hz)] at h9
          exact h9
  refine r_iconst (v := 0) (n := 1) C dRW_differencesFrom_0 rfl (by decide) ?_
  refine r_istore_n (n := 2) C dRW_differencesFrom_1 rfl (by decide) ?_
  refine r_iconst (v := 0) (n := 3) C dRW_differencesFrom_2 rfl (by decide) ?_
  refine r_istore_n (n := 4) C dRW_differencesFrom_3 rfl (by decide) ?_
  refine V.byk (ls' := [(0, .ref A.1), (1, .ref Bb.1), (2, .int (nI 0)), (3, .int (nI 0))]) rfl ?_
  exact loop1 _ 0 rfl (Nat.zero_le _)
set_option maxHeartbeats 4000000 in
set_option maxRecDepth 100000 in
/-- Rows(cap) -/
theorem c_RW_init (l : Launch) (o : Om) (h : AH) (a cap : Nat) (ha : h a = some (.inr (0, [.null, .null, .int 0]))) (hcap : cap ≤ 576) : Mt l o yRW_init cRW_init 2 none ({ frames := 1, cells := 2, slots := cap * 4, locals := 24 } : Room) [.ref a, .int (nI cap)] h (QV o (fun h' => ∃ v w, h v = none ∧ h w = none ∧ v ≠ w ∧ RA o h' (a, v, w, cap) [] ∧ Off (a, v, w, cap) h h')) (2) (cap * 4) := by
  refine Met.ofV (by decide) (Nat.le_of_ble_eq_true rfl) (fun K hl ho C => ?_)
  subst hl; subst ho
  refine r_aload_n (n := 1) C dRW_init_0 rfl rfl ?_
  refine r_objInit (n := 4) C tw_32 tw_21 tw_22 dRW_init_1 rfl (Nat.le_of_ble_eq_true rfl) (Nat.le_of_ble_eq_true rfl) ?_
  refine r_aload_n (n := 5) C dRW_init_4 rfl rfl ?_
  refine r_iload_n (n := 6) C dRW_init_5 rfl rfl ?_
  refine r_iconst (v := 3) (n := 7) C dRW_init_6 rfl (by decide) ?_
  refine r_imul (n := 8) C dRW_init_7 rfl ?_
  refine r_newi (n := 10) C tw_43 dRW_init_8 rfl (ix0 cap) (by show _ * 4 ≤ _; omega) (by omega) (Nat.le_of_ble_eq_true rfl) (by show 0 + cap * 3 ≤ cap * 4; omega) (fun v hv0 => ?_)
  have nv : v ≠ a := fun e => by rw [e, ha] at hv0; cases hv0
  have ha1 := (hu_ne h (.inl ((Ko K).2.1 0, cap * 3, .inl (fun _ => 0))) (Ne.symm nv)).trans ha
  generalize eh1 : hu h v _ = h1 at ha1
  have hv1 := (congrFun eh1.symm v).trans (hu_eq _ _ _)
  refine r_putF (ci := 0) (n := 13) C hinRW tyRW okRW nmRW rfl 0 (by decide) tw_33 rfl rfl rfl rfl (okRW 0 (by decide)) rfl rfl dRW_init_10 rfl ha1 (Nat.le_of_ble_eq_true rfl) ?_
  generalize eh2 : hu h1 a _ = h2
  have ha2 := (congrFun eh2.symm a).trans (hu_eq _ _ _)
  have hv2 := ((congrFun eh2.symm v).trans (hu_ne _ _ nv)).trans hv1
  refine r_aload_n (n := 14) C dRW_init_13 rfl rfl ?_
  refine r_iload_n (n := 15) C dRW_init_14 rfl rfl ?_
  refine r_newl (n := 17) C tw_44 dRW_init_15 rfl rfl (by show _ * 8 ≤ _; omega) (by omega) (Nat.le_of_ble_eq_true rfl) (by show 0 + cap * 3 + cap ≤ cap * 4; omega) (fun w hw0 => ?_)
  have nwa : w ≠ a := fun e => by rw [e, ha2] at hw0; cases hw0
  have nwv : w ≠ v := fun e => by rw [e, hv2] at hw0; cases hw0
  have hw00 : h w = none := by rw [← eh2, hu_ne _ _ nwa, ← eh1, hu_ne _ _ nwv] at hw0; exact hw0
  generalize eh3 : hu h2 w _ = h3
  have ha3 := ((congrFun eh3.symm a).trans (hu_ne _ _ (Ne.symm nwa))).trans ha2
  have hv3 := ((congrFun eh3.symm v).trans (hu_ne _ _ (Ne.symm nwv))).trans hv2
  have hw3 := (congrFun eh3.symm w).trans (hu_eq _ _ _)
  refine r_putF (ci := 0) (n := 20) C hinRW tyRW okRW nmRW rfl 1 (by decide) tw_34 rfl rfl rfl rfl (okRW 1 (by decide)) rfl rfl dRW_init_17 rfl ha3 (Nat.le_of_ble_eq_true rfl) ?_
  generalize eh4 : hu h3 a _ = h4
  have ha4 := (congrFun eh4.symm a).trans (hu_eq _ _ _)
  have hv4 := ((congrFun eh4.symm v).trans (hu_ne _ _ nv)).trans hv3
  have hw4 := ((congrFun eh4.symm w).trans (hu_ne _ _ nwa)).trans hw3
  refine r_aload_n (n := 21) C dRW_init_20 rfl rfl ?_
  refine r_iconst (v := 0) (n := 22) C dRW_init_21 rfl (by decide) ?_
  refine r_put (ci := 0) (n := 25) C hinRW tyRW okRW nmRW rfl 2 (by decide) tw_35 rfl rfl (okRW 2 (by decide)) rfl rfl dRW_init_22 rfl ha4 (Nat.le_of_ble_eq_true rfl) ?_
  generalize eh5 : hu h4 a _ = h5
  have ha5 := (congrFun eh5.symm a).trans (hu_eq _ _ _)
  have hv5 := ((congrFun eh5.symm v).trans (hu_ne _ _ nv)).trans hv4
  have hw5 := ((congrFun eh5.symm w).trans (hu_ne _ _ nwa)).trans hw4
  exact r_vret C dRW_init_25 (Nat.le_refl _) (by show 0 + cap * 3 + cap ≤ cap * 4; omega) ⟨v, w, hv0, hw00, Ne.symm nwv, ⟨_, _, ha5, hv5, hw5, Nat.zero_le _, hcap, Enc_nil _ _⟩, fun q q1 q2 q3 => by rw [← eh5, hu_ne _ _ q1, ← eh4, hu_ne _ _ q1, ← eh3, hu_ne _ _ q3, ← eh2, hu_ne _ _ q1, ← eh1, hu_ne _ _ q2]⟩
