/-! THE REFERENCE: workTable, differing, adopt -/
theorem diffs_comm {L M : List Rw} (hL : Srt L) (hM : Srt M) (zL : ∀ r ∈ L, r.2 ≠ 0) (zM : ∀ r ∈ M, r.2 ≠ 0) : diffs L M = diffs M L := by
  have split : ∀ {A B : List Rw}, (∀ r ∈ A, r.2 ≠ 0) → (A.filter (fun r => decide (wt B r.1 ≠ r.2))).length = (A.filter (fun r => decide (wt B r.1 = 0))).length + (A.filter (fun r => decide (wt B r.1 ≠ 0 ∧ wt B r.1 ≠ r.2))).length := by
    intro A B hA
    induction A with
    | nil => rfl
    | cons r A ih =>
      have ih := ih (fun q hq => hA q (List.mem_cons_of_mem _ hq))
      have h0 := hA r List.mem_cons_self
      have p1 : ∀ (p : Rw → Bool), p r = true → ((r :: A).filter p).length = (A.filter p).length + 1 := fun p h => by rw [List.filter_cons_of_pos h]; rfl
      have p0 : ∀ (p : Rw → Bool), p r = false → ((r :: A).filter p).length = (A.filter p).length := fun p h => by rw [List.filter_cons_of_neg (by rw [h]; decide)]
      by_cases h1 : wt B r.1 = 0
      · rw [p1 _ (decide_eq_true (by rw [h1]; exact fun e => h0 e.symm)), p1 _ (decide_eq_true h1), p0 _ (decide_eq_false (fun z => z.1 h1))]
        omega
      · by_cases h2 : wt B r.1 = r.2
        · rw [p0 _ (decide_eq_false (fun z => z h2)), p0 _ (decide_eq_false h1), p0 _ (decide_eq_false (fun z => z.2 h2))]
          omega
        · rw [p1 _ (decide_eq_true h2), p0 _ (decide_eq_false h1), p1 _ (decide_eq_true ⟨h1, h2⟩)]
          omega
  have both : (L.filter (fun r => decide (wt M r.1 ≠ 0 ∧ wt M r.1 ≠ r.2))).length = (M.filter (fun r => decide (wt L r.1 ≠ 0 ∧ wt L r.1 ≠ r.2))).length := by
    have hm : ∀ {A : List Rw} (p : Rw → Bool), Srt A → Srt ((A.filter p).map (fun r => (r.1, (1 : Int64)))) := fun p hA => by
      unfold Srt
      rw [List.pairwise_map]
      exact List.Pairwise.filter _ hA
    have hk : ∀ {A : List Rw} (p : Rw → Bool), ∀ r ∈ (A.filter p).map (fun r => (r.1, (1 : Int64))), r.2 ≠ 0 := fun p r hr => by
      obtain ⟨q, _, e⟩ := List.mem_map.mp hr
      rw [← e]; show (1 : Int64) ≠ 0; decide
    have hw : ∀ {A B : List Rw}, Srt A → (∀ r ∈ A, r.2 ≠ 0) → ∀ k, wt ((A.filter (fun r => decide (wt B r.1 ≠ 0 ∧ wt B r.1 ≠ r.2))).map (fun r => (r.1, (1 : Int64)))) k = if wt A k ≠ 0 ∧ wt B k ≠ 0 ∧ wt B k ≠ wt A k then 1 else 0 := by
      intro A B hA zA k
      by_cases hc : wt A k ≠ 0 ∧ wt B k ≠ 0 ∧ wt B k ≠ wt A k
      · rw [if_pos hc]
        have h1 := mem_of_wt hc.1
        have h2 : (k, (1 : Int64)) ∈ (A.filter (fun r => decide (wt B r.1 ≠ 0 ∧ wt B r.1 ≠ r.2))).map (fun r => (r.1, (1 : Int64))) := List.mem_map.mpr ⟨_, List.mem_filter.mpr ⟨h1, decide_eq_true ⟨hc.2.1, hc.2.2⟩⟩, rfl⟩
        exact wt_mem (hm _ hA) h2
      · rw [if_neg hc]
        refine wt_none (fun r hr e => hc ?_)
        obtain ⟨q, hq, eq⟩ := List.mem_map.mp hr
        obtain ⟨hqA, hqp⟩ := List.mem_filter.mp hq
        have hqp := of_decide_eq_true hqp
        have hqk : q.1 = k := by rw [← eq] at e; exact e
        have hqw := wt_mem hA hqA
        rw [hqk] at hqw hqp
        rw [hqw]
        exact ⟨zA q hqA, hqp.1, hqp.2⟩
    have := eq_of_wt (hm (fun r => decide (wt M r.1 ≠ 0 ∧ wt M r.1 ≠ r.2)) hL) (hm (fun r => decide (wt L r.1 ≠ 0 ∧ wt L r.1 ≠ r.2)) hM) (hk _) (hk _) (fun k => by
      rw [hw hL zL, hw hM zM]
      by_cases h1 : wt L k ≠ 0 ∧ wt M k ≠ 0 ∧ wt M k ≠ wt L k
      · rw [if_pos h1, if_pos ⟨h1.2.1, h1.1, Ne.symm h1.2.2⟩]
      · rw [if_neg h1, if_neg (fun z => h1 ⟨z.2.1, z.1, Ne.symm z.2.2⟩)])
    have h2 := congrArg List.length this
    rw [List.length_map, List.length_map] at h2
    exact h2
  unfold diffs
  rw [split zL, split zM, both]
  omega
set_option maxHeartbeats 4000000 in
set_option maxRecDepth 100000 in
/-- workTable -/
theorem c_MD_workTable (l : Launch) (o : Om) (h : AH) (m : Nat) (ad : Nat → Nat) (MI : Nat → Nat → Int32) (ML : Nat → Nat → Int64) (MV : Nat → Int32) (t : Nat) (L : List Rw) (pl : List Pn) (hM : MH o h m ad MI ML MV) (ht : t < 26) (hB : BL MI ML t L) (hPL : PLm MI MV pl) : Mt l o yMD_workTable cMD_workTable 3 none ({ frames := 1, cells := 0, slots := 0, locals := 26 } : Room) [.ref m, .int (nI t)] h (QV o (fun h' => EmP o h h' m ad MI ML MV (addQ (nI t) (L.foldl (emF uT) []) pl))) (0) (0) := by
  refine Met.ofV (by decide) (Nat.le_of_ble_eq_true rfl) (fun K hl ho C => ?_)
  subst hl; subst ho
  have hLl : L.length ≤ 24 := hB.2.1
  have hpl : pl.length ≤ 12 := hPL.2.1
  have hl0 := emF_len (F := uT) (W := []) L
  simp only [List.length_nil, Nat.zero_add] at hl0
  have loop2 : ∀ (q i : Nat) (h1 : AH) (MI1 : Nat → Nat → Int32) (ML1 : Nat → Nat → Int64) (MV1 : Nat → Int32), pl.length - i = q → i ≤ pl.length → MH (Ko K) h1 m ad MI1 ML1 MV1 → WL MI1 ML1 MV1 (addQ (nI t) (L.foldl (emF uT) []) (pl.take i)) → WSame MI MI1 ML ML1 MV MV1 → Frm (mown m ad) h h1 → V K h1 0 0 (EndQ K (QV (Ko K) (fun h' => EmP (Ko K) h h' m ad MI ML MV (addQ (nI t) (L.foldl (emF uT) []) pl))) 0 0) 61 [(0, .ref m), (1, .int (nI t)), (2, .int (nI i))] [] := by
    intro q
    induction q using Nat.strongRecOn with
    | _ q ih =>
      intro i h1 MI1 ML1 MV1 hm hi hM1 hW1 hS1 hF1
      obtain ⟨hp1, hp2, hp3⟩ := hPL.keep (MI' := MI1) (MV' := MV1) (fun j h14 h18 => hS1.1 j (by omega) (by omega) (by omega)) (hS1.2.2 19 (by decide))
      have hl1 := addQ_len (t := nI t) (W := (L.foldl (emF uT) [])) (pl.take i)
      rw [List.length_take] at hl1
      refine r_iload_n (n := 62) C dMD_workTable_61 rfl rfl ?_
      refine r_aload_n (n := 63) C dMD_workTable_62 rfl rfl ?_
      refine r_get (ci := 10) (n := 66) C hinMD rfl 19 (by decide) tw_554 rfl dMD_workTable_63 rfl hM1.1 rfl ?_
      refine V.eqi hp1 ?_
      refine r_icmp_ge (tgt := 114) (n := 69) C dMD_workTable_66 (by decide) rfl (fun c_66 => ?_) (fun c_66 => ?_)
      · have hie : i = pl.length := by have := (nI_leI (a := pl.length) (b := i) (by omega) (by omega)).mp c_66; omega
        exact r_vret C dMD_workTable_114 (Nat.le_refl _) (Nat.le_refl _) ⟨MI1, ML1, MV1, hM1, by rw [hie, List.take_length] at hW1; exact hW1, hS1, hF1⟩
      · have hlt : i < pl.length := by
          rcases Nat.lt_or_ge i pl.length with q | q
          · exact q
          · exact absurd (nI_le (a := pl.length) (b := i) q (by omega)) c_66
        obtain ⟨e, he⟩ : ∃ e, pl[i]? = some e := ⟨_, List.getElem?_eq_getElem hlt⟩
        obtain ⟨e14, e15, e16, e17, e18⟩ := hp3 i e he
        refine r_aload_n (n := 70) C dMD_workTable_69 rfl rfl ?_
        refine r_get (ci := 10) (n := 73) C hinMD rfl 14 (by decide) tw_549 rfl dMD_workTable_70 rfl hM1.1 rfl ?_
        refine r_iload_n (n := 74) C dMD_workTable_73 rfl rfl ?_
        refine r_ialdM (n := 75) C dMD_workTable_74 rfl hM1 14 (by decide) i rfl (by show _ < 12; omega) ?_
        rw [e14]
        refine r_iload_n (n := 76) C dMD_workTable_75 rfl rfl ?_
        refine r_icmp_ne (tgt := 108) (n := 79) C dMD_workTable_76 (by decide) rfl (fun c_76 => ?_) (fun c_76 => ?_)
        · refine r_iinc (n := 111) C dMD_workTable_108 rfl rfl (nI_i i) (by decide) ?_
          refine r_goto (tgt := 61) C dMD_workTable_111 (by decide) ?_
          refine V.byk (ls' := [(0, .ref m), (1, .int (nI t)), (2, .int (nI (i + 1)))]) rfl ?_
          exact ih _ (by omega) (i + 1) h1 MI1 ML1 MV1 rfl (by omega) hM1 (by rw [addQ_take he, if_neg c_76]; exact hW1) hS1 hF1
        · refine r_aload_n (n := 80) C dMD_workTable_79 rfl rfl ?_
          refine r_aload_n (n := 81) C dMD_workTable_80 rfl rfl ?_
          refine r_get (ci := 10) (n := 84) C hinMD rfl 15 (by decide) tw_550 rfl dMD_workTable_81 rfl hM1.1 rfl ?_
          refine r_iload_n (n := 85) C dMD_workTable_84 rfl rfl ?_
          refine r_ialdM (n := 86) C dMD_workTable_85 rfl hM1 15 (by decide) i rfl (by show _ < 12; omega) ?_
          rw [e15]
          refine r_aload_n (n := 87) C dMD_workTable_86 rfl rfl ?_
          refine r_get (ci := 10) (n := 90) C hinMD rfl 16 (by decide) tw_551 rfl dMD_workTable_87 rfl hM1.1 rfl ?_
          refine r_iload_n (n := 91) C dMD_workTable_90 rfl rfl ?_
          refine r_ialdM (n := 92) C dMD_workTable_91 rfl hM1 16 (by decide) i rfl (by show _ < 12; omega) ?_
          rw [e16]
          refine r_aload_n (n := 93) C dMD_workTable_92 rfl rfl ?_
          refine r_get (ci := 10) (n := 96) C hinMD rfl 17 (by decide) tw_552 rfl dMD_workTable_93 rfl hM1.1 rfl ?_
          refine r_iload_n (n := 97) C dMD_workTable_96 rfl rfl ?_
          refine r_ialdM (n := 98) C dMD_workTable_97 rfl hM1 17 (by decide) i rfl (by show _ < 12; omega) ?_
          rw [e17]
          refine r_aload_n (n := 99) C dMD_workTable_98 rfl rfl ?_
          refine r_get (ci := 10) (n := 102) C hinMD rfl 18 (by decide) tw_553 rfl dMD_workTable_99 rfl hM1.1 rfl ?_
          refine r_iload_n (n := 103) C dMD_workTable_102 rfl rfl ?_
          refine r_ialdM (n := 104) C dMD_workTable_103 rfl hM1 18 (by decide) i rfl (by show _ < 12; omega) ?_
          rw [e18]
          refine r_i2l (n := 105) C dMD_workTable_104 rfl ?_
          refine r_cv (n := 108) (rn_V (z := 4) (ci := 10) (T := TMD) C (c_MD_emit (Kl K) (Ko K) h1 m ad MI1 ML1 MV1 _ e.2.1.1 e.2.1.2.1 e.2.1.2.2 e.2.2.toInt64 hM1 hW1 (by omega)) tw_624 tw_626 ts_25 tw_4 tw_627 rfl rfl ndMD_emit ⟨Nat.le_of_ble_eq_true rfl, Nat.le_of_ble_eq_true rfl⟩ hM1.1 rfl rfl rfl (Nat.le_of_ble_eq_true rfl) dMD_workTable_105 ⟨Nat.le_of_ble_eq_true rfl, Nat.le_of_ble_eq_true rfl⟩) rfl (fun h2 hq => ?_)
          obtain ⟨MI2, ML2, MV2, hM2, hW2, hS2, hF2⟩ := hq
          refine r_iinc (n := 111) C dMD_workTable_108 rfl rfl (nI_i i) (by decide) ?_
          refine r_goto (tgt := 61) C dMD_workTable_111 (by decide) ?_
          refine V.byk (ls' := [(0, .ref m), (1, .int (nI t)), (2, .int (nI (i + 1)))]) rfl ?_
          exact ih _ (by omega) (i + 1) h2 MI2 ML2 MV2 rfl (by omega) hM2 (by rw [addQ_take he, if_pos c_76]; exact hW2) (hS1.tr hS2) (hF1.tr hF2)
  have loop1 : ∀ (q i : Nat) (h1 : AH) (MI1 : Nat → Nat → Int32) (ML1 : Nat → Nat → Int64) (MV1 : Nat → Int32), L.length - i = q → i ≤ L.length → MH (Ko K) h1 m ad MI1 ML1 MV1 → WL MI1 ML1 MV1 ((L.take i).foldl (emF uT) []) → WSame MI MI1 ML ML1 MV MV1 → Frm (mown m ad) h h1 → V K h1 0 0 (EndQ K (QV (Ko K) (fun h' => EmP (Ko K) h h' m ad MI ML MV (addQ (nI t) (L.foldl (emF uT) []) pl))) 0 0) 10 [(0, .ref m), (1, .int (nI t)), (2, .int (nI (t * 24 + i)))] [] := by
    intro q
    induction q using Nat.strongRecOn with
    | _ q ih =>
      intro i h1 MI1 ML1 MV1 hm hi hM1 hW1 hS1 hF1
      obtain ⟨hb1, hb2, hb3⟩ := hB.same hS1
      have hl1 := emF_len (F := uT) (W := []) (L.take i)
      rw [List.length_take] at hl1
      simp only [List.length_nil, Nat.zero_add] at hl1
      refine r_iload_n (n := 11) C dMD_workTable_10 rfl rfl ?_
      refine r_iload_n (n := 12) C dMD_workTable_11 rfl rfl ?_
      refine r_bipush (v := 24) (n := 14) C dMD_workTable_12 rfl (by decide) ?_
      refine r_imul (n := 15) C dMD_workTable_14 rfl ?_
      refine V.eqi (x24 _) ?_
      refine r_aload_n (n := 16) C dMD_workTable_15 rfl rfl ?_
      refine r_get (ci := 10) (n := 19) C hinMD rfl 4 (by decide) tw_539 rfl dMD_workTable_16 rfl hM1.1 rfl ?_
      refine r_iload_n (n := 20) C dMD_workTable_19 rfl rfl ?_
      refine r_ialdM (n := 21) C dMD_workTable_20 rfl hM1 4 (by decide) t rfl (by show _ < 26; omega) ?_
      rw [hb1]
      refine r_iadd (n := 22) C dMD_workTable_21 rfl ?_
      refine V.eqi (nI_add _ _) ?_
      refine r_icmp_ge (tgt := 59) (n := 25) C dMD_workTable_22 (by decide) rfl (fun c_22 => ?_) (fun c_22 => ?_)
      · have hie : i = L.length := by have := (nI_leI (a := t * 24 + L.length) (b := t * 24 + i) (by omega) (by omega)).mp c_22; omega
        refine r_iconst (v := 0) (n := 60) C dMD_workTable_59 rfl (by decide) ?_
        refine r_istore_n (n := 61) C dMD_workTable_60 rfl (by decide) ?_
        refine V.byk (ls' := [(0, .ref m), (1, .int (nI t)), (2, .int (nI 0))]) rfl ?_
        exact loop2 _ 0 h1 MI1 ML1 MV1 rfl (Nat.zero_le _) hM1 (by rw [hie, List.take_length] at hW1; exact hW1) hS1 hF1
      · have hlt : i < L.length := by
          rcases Nat.lt_or_ge i L.length with q1 | q1
          · exact q1
          · exact absurd (nI_le (a := t * 24 + L.length) (b := t * 24 + i) (by omega) (by omega)) c_22
        obtain ⟨r, hr⟩ : ∃ r, L[i]? = some r := ⟨_, List.getElem?_eq_getElem hlt⟩
        obtain ⟨v0, v1, v2, v3⟩ := hb3 i r hr
        refine r_aload_n (n := 26) C dMD_workTable_25 rfl rfl ?_
        refine r_aload_n (n := 27) C dMD_workTable_26 rfl rfl ?_
        refine r_get (ci := 10) (n := 30) C hinMD rfl 0 (by decide) tw_535 rfl dMD_workTable_27 rfl hM1.1 rfl ?_
        refine r_iload_n (n := 31) C dMD_workTable_30 rfl rfl ?_
        refine r_ialdM (n := 32) C dMD_workTable_31 rfl hM1 0 (by decide) (t * 24 + i) rfl (by show _ < 624; omega) ?_
        rw [v0]
        refine r_aload_n (n := 33) C dMD_workTable_32 rfl rfl ?_
        refine r_get (ci := 10) (n := 36) C hinMD rfl 1 (by decide) tw_536 rfl dMD_workTable_33 rfl hM1.1 rfl ?_
        refine r_iload_n (n := 37) C dMD_workTable_36 rfl rfl ?_
        refine r_ialdM (n := 38) C dMD_workTable_37 rfl hM1 1 (by decide) (t * 24 + i) rfl (by show _ < 624; omega) ?_
        rw [v1]
        refine r_aload_n (n := 39) C dMD_workTable_38 rfl rfl ?_
        refine r_get (ci := 10) (n := 42) C hinMD rfl 2 (by decide) tw_537 rfl dMD_workTable_39 rfl hM1.1 rfl ?_
        refine r_iload_n (n := 43) C dMD_workTable_42 rfl rfl ?_
        refine r_ialdM (n := 44) C dMD_workTable_43 rfl hM1 2 (by decide) (t * 24 + i) rfl (by show _ < 624; omega) ?_
        rw [v2]
        refine r_aload_n (n := 45) C dMD_workTable_44 rfl rfl ?_
        refine r_get (ci := 10) (n := 48) C hinMD rfl 3 (by decide) tw_538 rfl dMD_workTable_45 rfl hM1.1 rfl ?_
        refine r_iload_n (n := 49) C dMD_workTable_48 rfl rfl ?_
        refine r_laldM (n := 50) C dMD_workTable_49 rfl hM1 3 (by decide) (t * 24 + i) rfl (by show _ < 624; omega) ?_
        rw [v3]
        refine r_cv (n := 53) (rn_V (z := 4) (ci := 10) (T := TMD) C (c_MD_emit (Kl K) (Ko K) h1 m ad MI1 ML1 MV1 _ r.1.1 r.1.2.1 r.1.2.2 r.2 hM1 hW1 (by omega)) tw_624 tw_626 ts_25 tw_4 tw_627 rfl rfl ndMD_emit ⟨Nat.le_of_ble_eq_true rfl, Nat.le_of_ble_eq_true rfl⟩ hM1.1 rfl rfl rfl (Nat.le_of_ble_eq_true rfl) dMD_workTable_50 ⟨Nat.le_of_ble_eq_true rfl, Nat.le_of_ble_eq_true rfl⟩) rfl (fun h2 hq => ?_)
        obtain ⟨MI2, ML2, MV2, hM2, hW2, hS2, hF2⟩ := hq
        refine r_iinc (n := 56) C dMD_workTable_53 rfl rfl (nI_i _) (by decide) ?_
        refine r_goto (tgt := 10) C dMD_workTable_56 (by decide) ?_
        refine V.byk (ls' := [(0, .ref m), (1, .int (nI t)), (2, .int (nI (t * 24 + (i + 1))))]) rfl ?_
        exact ih _ (by omega) (i + 1) h2 MI2 ML2 MV2 rfl (by omega) hM2 (by rw [fold_take (emF uT) _ hr]; exact hW2) (hS1.tr hS2) (hF1.tr hF2)
  refine r_aload_n (n := 1) C dMD_workTable_0 rfl rfl ?_
  refine r_iconst (v := 0) (n := 2) C dMD_workTable_1 rfl (by decide) ?_
  refine r_put (ci := 10) (n := 5) C hinMD tyMD okMD nmMD rfl 9 (by decide) tw_544 rfl rfl (okMD 9 (by decide)) rfl rfl dMD_workTable_2 rfl hM.1 (Nat.le_of_ble_eq_true rfl) ?_
  refine V.setV hM 9 (by decide) _ rfl (fun h1 hM1 hF1 => ?_)
  refine r_iload_n (n := 6) C dMD_workTable_5 rfl rfl ?_
  refine r_bipush (v := 24) (n := 8) C dMD_workTable_6 rfl (by decide) ?_
  refine r_imul (n := 9) C dMD_workTable_8 rfl ?_
  refine V.eqi (x24 _) ?_
  refine r_istore_n (n := 10) C dMD_workTable_9 rfl (by decide) ?_
  refine V.byk (ls' := [(0, .ref m), (1, .int (nI t)), (2, .int (nI (t * 24 + 0)))]) rfl ?_
  exact loop1 _ 0 h1 MI ML _ rfl (Nat.zero_le _) hM1 ⟨rfl, Nat.zero_le _, fun i r hr => by simp at hr⟩ ⟨fun _ _ _ _ => rfl, rfl, fun j hj => va_up_ne _ _ hj⟩ hF1
set_option maxHeartbeats 4000000 in
set_option maxRecDepth 100000 in
/-- differing -/
theorem c_MD_differing (l : Launch) (o : Om) (h : AH) (m : Nat) (ad : Nat → Nat) (MI : Nat → Nat → Int32) (ML : Nat → Nat → Int64) (MV : Nat → Int32) (n : Nat) (L M : List Rw) (hM : MH o h m ad MI ML MV) (hn : n < 10) (hBn : BL MI ML (3 + n) L) (hBt : BL MI ML (16 + n) M) : Mt l o yMD_differing cMD_differing 6 (some .int) ({ frames := 1, cells := 0, slots := 0, locals := 25 } : Room) [.ref m, .int (nI n)] h (QI o (fun x h' => x = nI (diffs L M) ∧ h' = h)) (0) (0) := by
  refine Met.ofV (by decide) (Nat.le_of_ble_eq_true rfl) (fun K hl ho C => ?_)
  subst hl; subst ho
  obtain ⟨b1, hb1e⟩ : ∃ b1, b1 = 3 + n := ⟨_, rfl⟩
  obtain ⟨b2, hb2e⟩ : ∃ b2, b2 = 16 + n := ⟨_, rfl⟩
  rw [← hb1e] at hBn
  rw [← hb2e] at hBt
  obtain ⟨p1, p2, p3⟩ := id hBn
  obtain ⟨q1, q2, q3⟩ := id hBt
  have loop2 : ∀ (q i : Nat), M.length - i = q → i ≤ M.length → V K h 0 0 (EndQ K (QI (Ko K) (fun x h' => x = nI (diffs L M) ∧ h' = h)) 0 0) 86 [(0, .ref m), (2, .int (nI b1)), (3, .int (nI b2)), (4, .int (nI ((L.filter (fun r => decide (wt M r.1 ≠ r.2))).length + ((M.take i).filter (fun r => decide (wt L r.1 = 0))).length))), (5, .int (nI (b2 * 24 + i)))] [] := by
    intro q
    induction q using Nat.strongRecOn with
    | _ q ih =>
      intro i hm hi
      generalize hdd : ((M.take i).filter (fun r => decide (wt L r.1 = 0))).length = dd
      refine r_iload (n := 88) C dMD_differing_86 rfl rfl ?_
      refine r_iload_n (n := 89) C dMD_differing_88 rfl rfl ?_
      refine r_bipush (v := 24) (n := 91) C dMD_differing_89 rfl (by decide) ?_
      refine r_imul (n := 92) C dMD_differing_91 rfl ?_
      refine V.eqi (x24 _) ?_
      refine r_aload_n (n := 93) C dMD_differing_92 rfl rfl ?_
      refine r_get (ci := 10) (n := 96) C hinMD rfl 4 (by decide) tw_539 rfl dMD_differing_93 rfl hM.1 rfl ?_
      refine r_iload_n (n := 97) C dMD_differing_96 rfl rfl ?_
      refine r_ialdM (n := 98) C dMD_differing_97 rfl hM 4 (by decide) b2 rfl (by show _ < 26; omega) ?_
      rw [q1]
      refine r_iadd (n := 99) C dMD_differing_98 rfl ?_
      refine V.eqi (nI_add _ _) ?_
      refine r_icmp_ge (tgt := 142) (n := 102) C dMD_differing_99 (by decide) rfl (fun c_99 => ?_) (fun c_99 => ?_)
      · have hie : i = M.length := by have := (nI_leI (a := b2 * 24 + M.length) (b := b2 * 24 + i) (by omega) (by omega)).mp c_99; omega
        refine r_iload (n := 144) C dMD_differing_142 rfl rfl ?_
        exact r_iret C dMD_differing_144 (Nat.le_refl _) (Nat.le_refl _) ⟨by rw [hie, List.take_length] at hdd; rw [← hdd]; rfl, rfl⟩
      · have hlt : i < M.length := by
          rcases Nat.lt_or_ge i M.length with q1 | q1
          · exact q1
          · exact absurd (nI_le (a := b2 * 24 + M.length) (b := b2 * 24 + i) (by omega) (by omega)) c_99
        obtain ⟨r, hr⟩ : ∃ r, M[i]? = some r := ⟨_, List.getElem?_eq_getElem hlt⟩
        obtain ⟨v0, v1, v2, v3⟩ := q3 i r hr
        refine r_aload_n (n := 103) C dMD_differing_102 rfl rfl ?_
        refine r_iload_n (n := 104) C dMD_differing_103 rfl rfl ?_
        refine r_aload_n (n := 105) C dMD_differing_104 rfl rfl ?_
        refine r_get (ci := 10) (n := 108) C hinMD rfl 0 (by decide) tw_535 rfl dMD_differing_105 rfl hM.1 rfl ?_
        refine r_iload (n := 110) C dMD_differing_108 rfl rfl ?_
        refine r_ialdM (n := 111) C dMD_differing_110 rfl hM 0 (by decide) (b2 * 24 + i) rfl (by show _ < 624; omega) ?_
        rw [v0]
        refine r_aload_n (n := 112) C dMD_differing_111 rfl rfl ?_
        refine r_get (ci := 10) (n := 115) C hinMD rfl 1 (by decide) tw_536 rfl dMD_differing_112 rfl hM.1 rfl ?_
        refine r_iload (n := 117) C dMD_differing_115 rfl rfl ?_
        refine r_ialdM (n := 118) C dMD_differing_117 rfl hM 1 (by decide) (b2 * 24 + i) rfl (by show _ < 624; omega) ?_
        rw [v1]
        refine r_aload_n (n := 119) C dMD_differing_118 rfl rfl ?_
        refine r_get (ci := 10) (n := 122) C hinMD rfl 2 (by decide) tw_537 rfl dMD_differing_119 rfl hM.1 rfl ?_
        refine r_iload (n := 124) C dMD_differing_122 rfl rfl ?_
        refine r_ialdM (n := 125) C dMD_differing_124 rfl hM 2 (by decide) (b2 * 24 + i) rfl (by show _ < 624; omega) ?_
        rw [v2]
        refine r_cl (n := 128) (rn_V (z := 4) (ci := 10) (T := TMD) C (c_MD_weightIn (Kl K) (Ko K) h m ad MI ML MV b1 L r.1 hM (by omega) hBn) tw_694 tw_696 ts_34 tw_4 tw_697 rfl rfl ndMD_weightIn ⟨Nat.le_of_ble_eq_true rfl, Nat.le_of_ble_eq_true rfl⟩ hM.1 rfl rfl rfl (Nat.le_of_ble_eq_true rfl) dMD_differing_125 ⟨Nat.le_of_ble_eq_true rfl, Nat.le_of_ble_eq_true rfl⟩) rfl (fun x ah hq => ?_)
        obtain ⟨e1, e2⟩ := hq
        subst e1
        rw [e2]
        refine r_lconst (v := 0) (n := 129) C dMD_differing_128 rfl (by decide) ?_
        refine r_lcmp (n := 130) C dMD_differing_129 rfl ?_
        refine r_if_ne (tgt := 136) (n := 133) C dMD_differing_130 (by decide) rfl (fun c_130 => ?_) (fun c_130 => ?_)
        · have hz : ¬ wt L r.1 = 0 := fun e => c_130 ((lg_cmp_eq _ _).mpr e)
          refine r_iinc (n := 139) C dMD_differing_136 rfl rfl (nI_i _) (by decide) ?_
          refine r_goto (tgt := 86) C dMD_differing_139 (by decide) ?_
          refine V.byk (ls' := [(0, .ref m), (2, .int (nI b1)), (3, .int (nI b2)), (4, .int (nI ((L.filter (fun r => decide (wt M r.1 ≠ r.2))).length + dd))), (5, .int (nI (b2 * 24 + (i + 1))))]) rfl ?_
          have h9 := ih _ (by omega) (i + 1) rfl (by omega)
          rw [ftake hr, hdd, if_neg (by simpa using hz), Nat.add_zero] at h9
          exact h9
        · have hz : wt L r.1 = 0 := (lg_cmp_eq _ _).mp c_130
          refine r_iinc (n := 136) C dMD_differing_133 rfl rfl (nI_i _) (by decide) ?_
          refine r_iinc (n := 139) C dMD_differing_136 rfl rfl (nI_i _) (by decide) ?_
          refine r_goto (tgt := 86) C dMD_differing_139 (by decide) ?_
          refine V.byk (ls' := [(0, .ref m), (2, .int (nI b1)), (3, .int (nI b2)), (4, .int (nI ((L.filter (fun r => decide (wt M r.1 ≠ r.2))).length + dd + 1))), (5, .int (nI (b2 * 24 + (i + 1))))]) rfl ?_
          have h9 := ih _ (by omega) (i + 1) rfl (by omega)
          rw [ftake hr, hdd, if_pos (by simpa using hz), ← Nat.add_assoc] at h9
          exact h9
  have loop1 : ∀ (q i : Nat), L.length - i = q → i ≤ L.length → V K h 0 0 (EndQ K (QI (Ko K) (fun x h' => x = nI (diffs L M) ∧ h' = h)) 0 0) 18 [(0, .ref m), (2, .int (nI b1)), (3, .int (nI b2)), (4, .int (nI ((L.take i).filter (fun r => decide (wt M r.1 ≠ r.2))).length)), (5, .int (nI (b1 * 24 + i)))] [] := by
    intro q
    induction q using Nat.strongRecOn with
    | _ q ih =>
      intro i hm hi
      generalize hdd : ((L.take i).filter (fun r => decide (wt M r.1 ≠ r.2))).length = dd
      refine r_iload (n := 20) C dMD_differing_18 rfl rfl ?_
      refine r_iload_n (n := 21) C dMD_differing_20 rfl rfl ?_
      refine r_bipush (v := 24) (n := 23) C dMD_differing_21 rfl (by decide) ?_
      refine r_imul (n := 24) C dMD_differing_23 rfl ?_
      refine V.eqi (x24 _) ?_
      refine r_aload_n (n := 25) C dMD_differing_24 rfl rfl ?_
      refine r_get (ci := 10) (n := 28) C hinMD rfl 4 (by decide) tw_539 rfl dMD_differing_25 rfl hM.1 rfl ?_
      refine r_iload_n (n := 29) C dMD_differing_28 rfl rfl ?_
      refine r_ialdM (n := 30) C dMD_differing_29 rfl hM 4 (by decide) b1 rfl (by show _ < 26; omega) ?_
      rw [p1]
      refine r_iadd (n := 31) C dMD_differing_30 rfl ?_
      refine V.eqi (nI_add _ _) ?_
      refine r_icmp_ge (tgt := 80) (n := 34) C dMD_differing_31 (by decide) rfl (fun c_31 => ?_) (fun c_31 => ?_)
      · have hie : i = L.length := by have := (nI_leI (a := b1 * 24 + L.length) (b := b1 * 24 + i) (by omega) (by omega)).mp c_31; omega
        refine r_iload_n (n := 81) C dMD_differing_80 rfl rfl ?_
        refine r_bipush (v := 24) (n := 83) C dMD_differing_81 rfl (by decide) ?_
        refine r_imul (n := 84) C dMD_differing_83 rfl ?_
        refine V.eqi (x24 _) ?_
        refine r_istore (n := 86) C dMD_differing_84 rfl (by decide) ?_
        rw [hie, List.take_length] at hdd
        subst hdd
        refine V.byk (ls' := [(0, .ref m), (2, .int (nI b1)), (3, .int (nI b2)), (4, .int (nI (L.filter (fun r => decide (wt M r.1 ≠ r.2))).length)), (5, .int (nI (b2 * 24 + 0)))]) rfl ?_
        exact loop2 _ 0 rfl (Nat.zero_le _)
      · have hlt : i < L.length := by
          rcases Nat.lt_or_ge i L.length with q1 | q1
          · exact q1
          · exact absurd (nI_le (a := b1 * 24 + L.length) (b := b1 * 24 + i) (by omega) (by omega)) c_31
        obtain ⟨r, hr⟩ : ∃ r, L[i]? = some r := ⟨_, List.getElem?_eq_getElem hlt⟩
        obtain ⟨v0, v1, v2, v3⟩ := p3 i r hr
        refine r_aload_n (n := 35) C dMD_differing_34 rfl rfl ?_
        refine r_iload_n (n := 36) C dMD_differing_35 rfl rfl ?_
        refine r_aload_n (n := 37) C dMD_differing_36 rfl rfl ?_
        refine r_get (ci := 10) (n := 40) C hinMD rfl 0 (by decide) tw_535 rfl dMD_differing_37 rfl hM.1 rfl ?_
        refine r_iload (n := 42) C dMD_differing_40 rfl rfl ?_
        refine r_ialdM (n := 43) C dMD_differing_42 rfl hM 0 (by decide) (b1 * 24 + i) rfl (by show _ < 624; omega) ?_
        rw [v0]
        refine r_aload_n (n := 44) C dMD_differing_43 rfl rfl ?_
        refine r_get (ci := 10) (n := 47) C hinMD rfl 1 (by decide) tw_536 rfl dMD_differing_44 rfl hM.1 rfl ?_
        refine r_iload (n := 49) C dMD_differing_47 rfl rfl ?_
        refine r_ialdM (n := 50) C dMD_differing_49 rfl hM 1 (by decide) (b1 * 24 + i) rfl (by show _ < 624; omega) ?_
        rw [v1]
        refine r_aload_n (n := 51) C dMD_differing_50 rfl rfl ?_
        refine r_get (ci := 10) (n := 54) C hinMD rfl 2 (by decide) tw_537 rfl dMD_differing_51 rfl hM.1 rfl ?_
        refine r_iload (n := 56) C dMD_differing_54 rfl rfl ?_
        refine r_ialdM (n := 57) C dMD_differing_56 rfl hM 2 (by decide) (b1 * 24 + i) rfl (by show _ < 624; omega) ?_
        rw [v2]
        refine r_cl (n := 60) (rn_V (z := 4) (ci := 10) (T := TMD) C (c_MD_weightIn (Kl K) (Ko K) h m ad MI ML MV b2 M r.1 hM (by omega) hBt) tw_694 tw_696 ts_34 tw_4 tw_697 rfl rfl ndMD_weightIn ⟨Nat.le_of_ble_eq_true rfl, Nat.le_of_ble_eq_true rfl⟩ hM.1 rfl rfl rfl (Nat.le_of_ble_eq_true rfl) dMD_differing_57 ⟨Nat.le_of_ble_eq_true rfl, Nat.le_of_ble_eq_true rfl⟩) rfl (fun x ah hq => ?_)
        obtain ⟨e1, e2⟩ := hq
        subst e1
        rw [e2]
        refine r_aload_n (n := 61) C dMD_differing_60 rfl rfl ?_
        refine r_get (ci := 10) (n := 64) C hinMD rfl 3 (by decide) tw_538 rfl dMD_differing_61 rfl hM.1 rfl ?_
        refine r_iload (n := 66) C dMD_differing_64 rfl rfl ?_
        refine r_laldM (n := 67) C dMD_differing_66 rfl hM 3 (by decide) (b1 * 24 + i) rfl (by show _ < 624; omega) ?_
        rw [v3]
        refine r_lcmp (n := 68) C dMD_differing_67 rfl ?_
        refine r_if_eq (tgt := 74) (n := 71) C dMD_differing_68 (by decide) rfl (fun c_68 => ?_) (fun c_68 => ?_)
        · have hz : wt M r.1 = r.2 := (lg_cmp_eq _ _).mp c_68
          refine r_iinc (n := 77) C dMD_differing_74 rfl rfl (nI_i _) (by decide) ?_
          refine r_goto (tgt := 18) C dMD_differing_77 (by decide) ?_
          refine V.byk (ls' := [(0, .ref m), (2, .int (nI b1)), (3, .int (nI b2)), (4, .int (nI dd)), (5, .int (nI (b1 * 24 + (i + 1))))]) rfl ?_
          have h9 := ih _ (by omega) (i + 1) rfl (by omega)
          rw [ftake hr, hdd, if_neg (by simpa using hz), Nat.add_zero] at h9
          exact h9
        · have hz : ¬ wt M r.1 = r.2 := fun e => c_68 ((lg_cmp_eq _ _).mpr e)
          refine r_iinc (n := 74) C dMD_differing_71 rfl rfl (nI_i _) (by decide) ?_
          refine r_iinc (n := 77) C dMD_differing_74 rfl rfl (nI_i _) (by decide) ?_
          refine r_goto (tgt := 18) C dMD_differing_77 (by decide) ?_
          refine V.byk (ls' := [(0, .ref m), (2, .int (nI b1)), (3, .int (nI b2)), (4, .int (nI (dd + 1))), (5, .int (nI (b1 * 24 + (i + 1))))]) rfl ?_
          have h9 := ih _ (by omega) (i + 1) rfl (by omega)
          rw [ftake hr, hdd, if_pos (by simpa using hz)] at h9
          exact h9
  refine r_iconst (v := 3) (n := 1) C dMD_differing_0 rfl (by decide) ?_
  refine r_iload_n (n := 2) C dMD_differing_1 rfl rfl ?_
  refine r_iadd (n := 3) C dMD_differing_2 rfl ?_
  refine V.eqi ((nI_add 3 n).trans (congrArg nI hb1e.symm)) ?_
  refine r_istore_n (n := 4) C dMD_differing_3 rfl (by decide) ?_
  refine r_bipush (v := 16) (n := 6) C dMD_differing_4 rfl (by decide) ?_
  refine r_iload_n (n := 7) C dMD_differing_6 rfl rfl ?_
  refine r_iadd (n := 8) C dMD_differing_7 rfl ?_
  refine V.eqi ((nI_add 16 n).trans (congrArg nI hb2e.symm)) ?_
  refine r_istore_n (n := 9) C dMD_differing_8 rfl (by decide) ?_
  refine r_iconst (v := 0) (n := 10) C dMD_differing_9 rfl (by decide) ?_
  refine r_istore (n := 12) C dMD_differing_10 rfl (by decide) ?_
  refine r_iload_n (n := 13) C dMD_differing_12 rfl rfl ?_
  refine r_bipush (v := 24) (n := 15) C dMD_differing_13 rfl (by decide) ?_
  refine r_imul (n := 16) C dMD_differing_15 rfl ?_
  refine V.eqi (x24 _) ?_
  refine r_istore (n := 18) C dMD_differing_16 rfl (by decide) ?_
  refine V.byk (ls' := [(0, .ref m), (2, .int (nI b1)), (3, .int (nI b2)), (4, .int (nI 0)), (5, .int (nI (b1 * 24 + 0)))]) rfl ?_
  exact loop1 _ 0 rfl (Nat.zero_le _)
set_option maxHeartbeats 4000000 in
set_option maxRecDepth 100000 in
/-- adopt -/
theorem c_MD_adopt (l : Launch) (o : Om) (h : AH) (m : Nat) (ad : Nat → Nat) (MI : Nat → Nat → Int32) (ML : Nat → Nat → Int64) (MV : Nat → Int32) (b : Nat) (L : List Rw) (hM : MH o h m ad MI ML MV) (hb : b < 13) (hB : BL MI ML (b + 13) L) : Mt l o yMD_adopt cMD_adopt 4 none ({ frames := 0, cells := 0, slots := 0, locals := 0 } : Room) [.ref m, .int (nI b)] h (QV o (fun h' => ∃ MI' ML', MH o h' m ad MI' ML' MV ∧ BSame b MI MI' ML ML' ∧ BL MI' ML' b L ∧ Frm (mown m ad) h h')) (0) (0) := by
  refine Met.ofV (by decide) (Nat.le_of_ble_eq_true rfl) (fun K hl ho C => ?_)
  subst hl; subst ho
  have hL24 : L.length ≤ 24 := hB.2.1
  have loop : ∀ (q i : Nat) (h1 : AH) (MI1 : Nat → Nat → Int32) (ML1 : Nat → Nat → Int64), L.length - i = q → i ≤ L.length → MH (Ko K) h1 m ad MI1 ML1 MV → BSame b MI MI1 ML ML1 → MI1 4 b = nI L.length → Frm (mown m ad) h h1 → (∀ (j : Nat) (r : Rw), j < i → L[j]? = some r → Enc4 MI1 ML1 (b * 24 + j) r) → V K h1 0 0 (EndQ K (QV (Ko K) (fun h' => ∃ MI' ML', MH (Ko K) h' m ad MI' ML' MV ∧ BSame b MI MI' ML ML' ∧ BL MI' ML' b L ∧ Frm (mown m ad) h h')) 0 0) 17 [(0, .ref m), (1, .int (nI b)), (2, .int (nI i))] [] := by
    intro q
    induction q using Nat.strongRecOn with
    | _ q ih =>
      intro i h1 MI1 ML1 hm hi hM1 hS1 h4 hF1 henc
      obtain ⟨s1, s2, s3⟩ := hB.bsame hS1 (by omega)
      refine r_iload_n (n := 18) C dMD_adopt_17 rfl rfl ?_
      refine r_aload_n (n := 19) C dMD_adopt_18 rfl rfl ?_
      refine r_get (ci := 10) (n := 22) C hinMD rfl 4 (by decide) tw_539 rfl dMD_adopt_19 rfl hM1.1 rfl ?_
      refine r_iload_n (n := 23) C dMD_adopt_22 rfl rfl ?_
      refine r_ialdM (n := 24) C dMD_adopt_23 rfl hM1 4 (by decide) b rfl (by show _ < 26; omega) ?_
      rw [h4]
      refine r_icmp_ge (tgt := 104) (n := 27) C dMD_adopt_24 (by decide) rfl (fun c_24 => ?_) (fun c_24 => ?_)
      · have hie : i = L.length := by have := (nI_leI (a := L.length) (b := i) (by omega) (by omega)).mp c_24; omega
        exact r_vret C dMD_adopt_104 (Nat.le_refl _) (Nat.le_refl _) ⟨MI1, ML1, hM1, hS1, ⟨h4, hL24, fun j r hr => henc j r (by have := (List.getElem?_eq_some_iff.mp hr).1; omega) hr⟩, hF1⟩
      · have hlt : i < L.length := by
          rcases Nat.lt_or_ge i L.length with q | q
          · exact q
          · exact absurd (nI_le (a := L.length) (b := i) q (by omega)) c_24
        obtain ⟨r, hr⟩ : ∃ r, L[i]? = some r := ⟨_, List.getElem?_eq_getElem hlt⟩
        obtain ⟨v0, v1, v2, v3⟩ := s3 i r hr
        rw [show (b + 13) * 24 + i = b * 24 + i + 312 by omega] at v0 v1 v2 v3
        refine r_iload_n (n := 28) C dMD_adopt_27 rfl rfl ?_
        refine r_bipush (v := 24) (n := 30) C dMD_adopt_28 rfl (by decide) ?_
        refine r_imul (n := 31) C dMD_adopt_30 rfl ?_
        refine V.eqi (x24 _) ?_
        refine r_iload_n (n := 32) C dMD_adopt_31 rfl rfl ?_
        refine r_iadd (n := 33) C dMD_adopt_32 rfl ?_
        refine V.eqi (nI_add _ _) ?_
        refine r_istore_n (n := 34) C dMD_adopt_33 rfl (by decide) ?_
        refine r_aload_n (n := 35) C dMD_adopt_34 rfl rfl ?_
        refine r_get (ci := 10) (n := 38) C hinMD rfl 0 (by decide) tw_535 rfl dMD_adopt_35 rfl hM1.1 rfl ?_
        refine r_iload_n (n := 39) C dMD_adopt_38 rfl rfl ?_
        refine r_aload_n (n := 40) C dMD_adopt_39 rfl rfl ?_
        refine r_get (ci := 10) (n := 43) C hinMD rfl 0 (by decide) tw_535 rfl dMD_adopt_40 rfl hM1.1 rfl ?_
        refine r_iload_n (n := 44) C dMD_adopt_43 rfl rfl ?_
        refine r_sipush (v := 312) (n := 47) C dMD_adopt_44 rfl (by decide) ?_
        refine r_iadd (n := 48) C dMD_adopt_47 rfl ?_
        refine V.eqi (nI_add _ 312) ?_
        refine r_ialdM (n := 49) C dMD_adopt_48 rfl hM1 0 (by decide) (b * 24 + i + 312) rfl (by show _ < 624; omega) ?_
        rw [v0]
        refine r_iastM (n := 50) C dMD_adopt_49 rfl hM1 0 (by decide) (b * 24 + i) rfl (by show _ < 624; omega) (fun h2 hM2 hF2 => ?_)
        refine r_aload_n (n := 51) C dMD_adopt_50 rfl rfl ?_
        refine r_get (ci := 10) (n := 54) C hinMD rfl 1 (by decide) tw_536 rfl dMD_adopt_51 rfl hM2.1 rfl ?_
        refine r_iload_n (n := 55) C dMD_adopt_54 rfl rfl ?_
        refine r_aload_n (n := 56) C dMD_adopt_55 rfl rfl ?_
        refine r_get (ci := 10) (n := 59) C hinMD rfl 1 (by decide) tw_536 rfl dMD_adopt_56 rfl hM2.1 rfl ?_
        refine r_iload_n (n := 60) C dMD_adopt_59 rfl rfl ?_
        refine r_sipush (v := 312) (n := 63) C dMD_adopt_60 rfl (by decide) ?_
        refine r_iadd (n := 64) C dMD_adopt_63 rfl ?_
        refine V.eqi (nI_add _ 312) ?_
        refine r_ialdM (n := 65) C dMD_adopt_64 rfl hM2 1 (by decide) (b * 24 + i + 312) rfl (by show _ < 624; omega) ?_
        refine V.eqi (y := r.1.2.1) v1 ?_
        refine r_iastM (n := 66) C dMD_adopt_65 rfl hM2 1 (by decide) (b * 24 + i) rfl (by show _ < 624; omega) (fun h3 hM3 hF3 => ?_)
        refine r_aload_n (n := 67) C dMD_adopt_66 rfl rfl ?_
        refine r_get (ci := 10) (n := 70) C hinMD rfl 2 (by decide) tw_537 rfl dMD_adopt_67 rfl hM3.1 rfl ?_
        refine r_iload_n (n := 71) C dMD_adopt_70 rfl rfl ?_
        refine r_aload_n (n := 72) C dMD_adopt_71 rfl rfl ?_
        refine r_get (ci := 10) (n := 75) C hinMD rfl 2 (by decide) tw_537 rfl dMD_adopt_72 rfl hM3.1 rfl ?_
        refine r_iload_n (n := 76) C dMD_adopt_75 rfl rfl ?_
        refine r_sipush (v := 312) (n := 79) C dMD_adopt_76 rfl (by decide) ?_
        refine r_iadd (n := 80) C dMD_adopt_79 rfl ?_
        refine V.eqi (nI_add _ 312) ?_
        refine r_ialdM (n := 81) C dMD_adopt_80 rfl hM3 2 (by decide) (b * 24 + i + 312) rfl (by show _ < 624; omega) ?_
        refine V.eqi (y := r.1.2.2) v2 ?_
        refine r_iastM (n := 82) C dMD_adopt_81 rfl hM3 2 (by decide) (b * 24 + i) rfl (by show _ < 624; omega) (fun h4h hM4 hF4 => ?_)
        refine r_aload_n (n := 83) C dMD_adopt_82 rfl rfl ?_
        refine r_get (ci := 10) (n := 86) C hinMD rfl 3 (by decide) tw_538 rfl dMD_adopt_83 rfl hM4.1 rfl ?_
        refine r_iload_n (n := 87) C dMD_adopt_86 rfl rfl ?_
        refine r_aload_n (n := 88) C dMD_adopt_87 rfl rfl ?_
        refine r_get (ci := 10) (n := 91) C hinMD rfl 3 (by decide) tw_538 rfl dMD_adopt_88 rfl hM4.1 rfl ?_
        refine r_iload_n (n := 92) C dMD_adopt_91 rfl rfl ?_
        refine r_sipush (v := 312) (n := 95) C dMD_adopt_92 rfl (by decide) ?_
        refine r_iadd (n := 96) C dMD_adopt_95 rfl ?_
        refine V.eqi (nI_add _ 312) ?_
        refine r_laldM (n := 97) C dMD_adopt_96 rfl hM4 3 (by decide) (b * 24 + i + 312) rfl (by show _ < 624; omega) ?_
        refine V.eql (y := r.2) v3 ?_
        refine r_lastM (n := 98) C dMD_adopt_97 rfl hM4 3 (by decide) (b * 24 + i) rfl (by show _ < 624; omega) (fun h5 hM5 hF5 => ?_)
        refine r_iinc (n := 101) C dMD_adopt_98 rfl rfl (nI_i i) (by decide) ?_
        refine r_goto (tgt := 17) C dMD_adopt_101 (by decide) ?_
        refine V.byk (ls' := [(0, .ref m), (1, .int (nI b)), (2, .int (nI (i + 1)))]) rfl ?_
        refine ih _ (by omega) (i + 1) h5 _ _ rfl (by omega) hM5 ⟨fun j h0 h1 h2 h4 => by rw [va_up_ne _ _ h2, va_up_ne _ _ h1, va_up_ne _ _ h0]; exact hS1.1 j h0 h1 h2 h4, hS1.2.1, fun p hp => ?_, hS1.2.2.2⟩ h4 ((((hF1.tr hF2).tr hF3).tr hF4).tr hF5) (fun j q0 hj hq0 => ?_)
        · obtain ⟨g0, g1, g2, g3⟩ := hS1.2.2.1 p hp
          show upd (MI1 0) _ _ p = _ ∧ upd (MI1 1) _ _ p = _ ∧ upd (MI1 2) _ _ p = _ ∧ vp_updL (ML1 3) _ _ p = _
          rw [pk_un (by omega), pk_un (by omega), pk_un (by omega), pk_uLn (by omega)]
          exact ⟨g0, g1, g2, g3⟩
        · show upd (MI1 0) _ _ _ = _ ∧ upd (MI1 1) _ _ _ = _ ∧ upd (MI1 2) _ _ _ = _ ∧ vp_updL (ML1 3) _ _ _ = _
          by_cases e : j = i
          · subst e
            rw [hr] at hq0
            cases hq0
            rw [pk_us, pk_us, pk_us, pk_uLs]
            exact ⟨rfl, rfl, rfl, rfl⟩
          · rw [pk_un (by omega), pk_un (by omega), pk_un (by omega), pk_uLn (by omega)]
            exact henc j q0 (by omega) hq0
  refine r_aload_n (n := 1) C dMD_adopt_0 rfl rfl ?_
  refine r_get (ci := 10) (n := 4) C hinMD rfl 4 (by decide) tw_539 rfl dMD_adopt_1 rfl hM.1 rfl ?_
  refine r_iload_n (n := 5) C dMD_adopt_4 rfl rfl ?_
  refine r_aload_n (n := 6) C dMD_adopt_5 rfl rfl ?_
  refine r_get (ci := 10) (n := 9) C hinMD rfl 4 (by decide) tw_539 rfl dMD_adopt_6 rfl hM.1 rfl ?_
  refine r_iload_n (n := 10) C dMD_adopt_9 rfl rfl ?_
  refine r_bipush (v := 13) (n := 12) C dMD_adopt_10 rfl (by decide) ?_
  refine r_iadd (n := 13) C dMD_adopt_12 rfl ?_
  refine V.eqi (nI_add _ 13) ?_
  refine r_ialdM (n := 14) C dMD_adopt_13 rfl hM 4 (by decide) (b + 13) rfl (by show _ < 26; omega) ?_
  rw [hB.1]
  refine r_iastM (n := 15) C dMD_adopt_14 rfl hM 4 (by decide) b rfl (by show _ < 26; omega) (fun h1 hM1 hF1 => ?_)
  refine r_iconst (v := 0) (n := 16) C dMD_adopt_15 rfl (by decide) ?_
  refine r_istore_n (n := 17) C dMD_adopt_16 rfl (by decide) ?_
  refine V.byk (ls' := [(0, .ref m), (1, .int (nI b)), (2, .int (nI 0))]) rfl ?_
  exact loop _ 0 h1 _ ML rfl (Nat.zero_le _) hM1 ⟨fun j h0 h1 h2 h4 => va_up_ne _ _ h4, rfl, fun p hp => ⟨rfl, rfl, rfl, rfl⟩, fun c hc => pk_un hc⟩ pk_us hF1 (fun j r hj => absurd hj (Nat.not_lt_zero _))
