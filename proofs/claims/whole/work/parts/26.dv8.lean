/-! DELTAVIEWS: the constructor -/
def S0 : Sx := (fun _ => [], [], fun _ => 0, [])
set_option maxHeartbeats 4000000 in
set_option maxRecDepth 100000 in
/-- DeltaViews() -/
theorem c_DV_init (l : Launch) (o : Om) (h0 : AH) (x : Nat) (hx0 : h0 x = some (.inr (9, [.null, .null, .null, .null, .null, .null, .int 0]))) : Mt l o yDV_init cDV_init 1 none ({ frames := 3, cells := 89, slots := 5000, locals := 66 } : Room) [.ref x] h0 (QV o (fun h' => ∃ G : Gh, CI o h' x G S0 ∧ (∀ q, ownG G q → h0 q = none) ∧ Frm (frX h0 x) h0 h')) (89) (5000) := by
  refine Met.ofV (by decide) (Nat.le_of_ble_eq_true rfl) (fun K hl ho C => ?_)
  subst hl; subst ho
  refine r_aload_n (n := 1) C dDV_init_0 rfl rfl ?_
  refine r_objInit (n := 4) C tw_20 tw_21 tw_22 dDV_init_1 rfl (Nat.le_of_ble_eq_true rfl) (Nat.le_of_ble_eq_true rfl) ?_
  refine r_aload_n (n := 5) C dDV_init_4 rfl rfl ?_
  refine r_cr (n := 8) (rn_S (z := 0) C (c_DV_emptySlots (Kl K) (Ko K) h0) tw_23 tw_24 tw_1 tw_25 rfl rfl ndDV_emptySlots.2 ⟨Nat.le_of_ble_eq_true rfl, Nat.le_of_ble_eq_true rfl⟩ rfl rfl (Nat.le_of_ble_eq_true rfl) dDV_init_5 ⟨Nat.le_of_ble_eq_true rfl, Nat.le_of_ble_eq_true rfl⟩) rfl (fun h1 s1 hq => ?_)
  obtain ⟨S, hS_1, capS, djS, frS, hs1n, hN1⟩ := hq
  have hG1 : Frm (frX h0 x) h0 h1 := hN1.fx
  have hx1 : h1 x = _ := (hN1 x (by rw [hx0]; exact fun z => by cases z)).trans hx0
  have hH1 : Frm (frX h0 x) h0 h1 := hG1
  refine r_put (ci := 9) (n := 11) C hinDV tyDV okDV nmDV rfl 0 (by decide) tw_66 rfl rfl (okDV 0 (by decide)) rfl rfl dDV_init_8 rfl hx1 (Nat.le_of_ble_eq_true rfl) ?_
  have hG2 : Frm (frX h1 x) h1 (hu h1 x (.inr (9, [.ref s1, .null, .null, .null, .null, .null, .int 0]))) := fx_x
  have hx2 := hu_eq h1 x (.inr (9, [.ref s1, .null, .null, .null, .null, .null, .int 0]))
  generalize eh2 : hu h1 x _ = h2 at hG2 hx2
  first | refine V.eqh (h' := h2) eh2 ?_ | skip
  have hH2 := fx_tr hH1 hG2
  have hS_2 := hS_1.fx hx1 hG2
  refine r_aload_n (n := 12) C dDV_init_11 rfl rfl ?_
  refine r_cr (n := 15) (rn_S (z := 0) C (c_DV_emptySlots (Kl K) (Ko K) h2) tw_23 tw_24 tw_1 tw_25 rfl rfl ndDV_emptySlots.2 ⟨Nat.le_of_ble_eq_true rfl, Nat.le_of_ble_eq_true rfl⟩ rfl rfl (Nat.le_of_ble_eq_true rfl) dDV_init_12 ⟨Nat.le_of_ble_eq_true rfl, Nat.le_of_ble_eq_true rfl⟩) rfl (fun h3 s2 hq => ?_)
  obtain ⟨T, hT_3, capT, djT, frT, hs2n, hN3⟩ := hq
  have hG3 : Frm (frX h2 x) h2 h3 := hN3.fx
  have hx3 : h3 x = _ := (hN3 x (by rw [hx2]; exact fun z => by cases z)).trans hx2
  have hH3 := fx_tr hH2 hG3
  have hS_3 := hS_2.fx hx2 hG3
  refine r_put (ci := 9) (n := 18) C hinDV tyDV okDV nmDV rfl 1 (by decide) tw_67 rfl rfl (okDV 1 (by decide)) rfl rfl dDV_init_15 rfl hx3 (Nat.le_of_ble_eq_true rfl) ?_
  have hG4 : Frm (frX h3 x) h3 (hu h3 x (.inr (9, [.ref s1, .ref s2, .null, .null, .null, .null, .int 0]))) := fx_x
  have hx4 := hu_eq h3 x (.inr (9, [.ref s1, .ref s2, .null, .null, .null, .null, .int 0]))
  generalize eh4 : hu h3 x _ = h4 at hG4 hx4
  first | refine V.eqh (h' := h4) eh4 ?_ | skip
  have hH4 := fx_tr hH3 hG4
  have hS_4 := hS_3.fx hx3 hG4
  have hT_4 := hT_3.fx hx3 hG4
  refine r_aload_n (n := 19) C dDV_init_18 rfl rfl ?_
  refine r_new (ci := 0) (fs := [.null, .null, .int 0]) (n := 22) C hinRW tyRW okRW tw_26 tw_28 tw_2 rfl (fun j hj => by rcases (show j = 0 ∨ j = 1 ∨ j = 2 by omega) with rfl | rfl | rfl <;> rfl) dDV_init_19 rfl (Nat.le_of_ble_eq_true rfl) (Nat.le_of_ble_eq_true rfl) (fun a ha0 => ?_)
  have hG5 : Frm (frX h4 x) h4 (hu h4 a (.inr (0, [.null, .null, .int 0]))) := fx_new ha0
  have hxa : x ≠ a := fun e => by rw [e, ha0] at hx4; cases hx4
  have hx5 := (hu_ne h4 (.inr (0, [.null, .null, .int 0])) hxa).trans hx4
  have ha5 := hu_eq h4 a (.inr (0, [.null, .null, .int 0]))
  generalize eh5 : hu h4 a _ = h5 at hG5 hx5 ha5
  first | refine V.eqh (h' := h5) eh5 ?_ | skip
  have hH5 := fx_tr hH4 hG5
  have hS_5 := hS_4.fx hx4 hG5
  have hT_5 := hT_4.fx hx4 hG5
  refine r_dup (n := 23) C dDV_init_22 rfl rfl ?_
  refine r_sipush (v := 576) (n := 26) C dDV_init_23 rfl (by decide) ?_
  refine r_cv (n := 29) (rn_I (z := 1) C (c_RW_init (Kl K) (Ko K) h5 a 576 ha5 (by decide)) tw_29 tw_30 tw_2 rfl tw_31 rfl rfl ndRW_init.2 ⟨Nat.le_of_ble_eq_true rfl, Nat.le_of_ble_eq_true rfl⟩ rfl rfl (Nat.le_of_ble_eq_true rfl) dDV_init_26 ⟨(Nat.le_of_ble_eq_true rfl), (Nat.le_of_ble_eq_true rfl)⟩) rfl (fun h6 hq => ?_)
  obtain ⟨v, w, hv0, hw0, hvw, hK_6, hO6⟩ := hq
  have hG6 : Frm (frX h5 x) h5 h6 ∨ True := Or.inr trivial
  have hv4 : h4 v = none := by
    have hva : v ≠ a := fun e => by rw [e, ha5] at hv0; cases hv0
    rw [← eh5, hu_ne _ _ hva] at hv0; exact hv0
  have hw4 : h4 w = none := by
    have hwa : w ≠ a := fun e => by rw [e, ha5] at hw0; cases hw0
    rw [← eh5, hu_ne _ _ hwa] at hw0; exact hw0
  have frK : ∀ q, ownA (a, v, w, 576) q → h4 q = none := fun q hq => by rcases hq with e | e | e <;> rw [e] <;> assumption
  have hG46 : Frm (frX h4 x) h4 h6 := fun q hq => by
    have n1 : q ≠ a := fun e => hq (Or.inr (by rw [e]; exact ha0))
    rw [hO6 q n1 (fun e => hq (Or.inr (by rw [e]; exact hv4))) (fun e => hq (Or.inr (by rw [e]; exact hw4))), ← eh5, hu_ne _ _ n1]
  have hx6 : h6 x = _ := (hO6 x hxa (fun e => by rw [e, hv4] at hx4; cases hx4) (fun e => by rw [e, hw4] at hx4; cases hx4)).trans hx5
  have hH6 := fx_tr hH4 hG46
  have hS_6 := hS_4.fx hx4 hG46
  have hT_6 := hT_4.fx hx4 hG46
  refine r_putF (ci := 9) (n := 32) C hinDV tyDV okDV nmDV rfl 2 (by decide) tw_68 rfl rfl rfl rfl (okDV 2 (by decide)) rfl rfl dDV_init_29 rfl hx6 (Nat.le_of_ble_eq_true rfl) ?_
  have hG7 : Frm (frX h6 x) h6 (hu h6 x (.inr (9, [.ref s1, .ref s2, .ref a, .null, .null, .null, .int 0]))) := fx_x
  have hx7 := hu_eq h6 x (.inr (9, [.ref s1, .ref s2, .ref a, .null, .null, .null, .int 0]))
  generalize eh7 : hu h6 x _ = h7 at hG7 hx7
  first | refine V.eqh (h' := h7) eh7 ?_ | skip
  have hH7 := fx_tr hH6 hG7
  have hS_7 := hS_6.fx hx6 hG7
  have hT_7 := hT_6.fx hx6 hG7
  have hK_7 := hK_6.fx hx6 hG7
  refine r_aload_n (n := 33) C dDV_init_32 rfl rfl ?_
  refine r_new (ci := 1) (fs := [.null, .null, .null, .int 0]) (n := 36) C hinPD tyPD okPD tw_45 tw_46 tw_3 rfl (fun j hj => by rcases (show j = 0 ∨ j = 1 ∨ j = 2 ∨ j = 3 by omega) with rfl | rfl | rfl | rfl <;> rfl) dDV_init_33 rfl (Nat.le_of_ble_eq_true rfl) (Nat.le_of_ble_eq_true rfl) (fun p hp0 => ?_)
  have hxp : x ≠ p := fun e => by rw [e, hp0] at hx7; cases hx7
  have hx8 := (hu_ne h7 (.inr (1, [.null, .null, .null, .int 0])) hxp).trans hx7
  have hp8 := hu_eq h7 p (.inr (1, [.null, .null, .null, .int 0]))
  generalize eh8 : hu h7 p _ = h8 at hx8 hp8
  first | refine V.eqh (h' := h8) eh8 ?_ | skip
  refine r_dup (n := 37) C dDV_init_36 rfl rfl ?_
  refine r_cv (n := 40) (rn_IN (z := 0) C (c_PD_init (Kl K) (Ko K) h8 p hp8) (by decide +kernel) rfl tw_48 tw_3 rfl tw_49 rfl rfl ndPD_init.2 ⟨Nat.le_of_ble_eq_true rfl, Nat.le_of_ble_eq_true rfl⟩ rfl rfl (Nat.le_of_ble_eq_true rfl) dDV_init_37 ⟨(Nat.le_of_ble_eq_true rfl), (Nat.le_of_ble_eq_true rfl)⟩) rfl (fun h9 hq => ?_)
  obtain ⟨t, pv, pb, ht8, hpv8, hpb8, hP_9, hO9⟩ := hq
  have ht7 : h7 t = none := by
    have hn : t ≠ p := fun e => by rw [e, hp8] at ht8; cases ht8
    rw [← eh8, hu_ne _ _ hn] at ht8; exact ht8
  have hpv7 : h7 pv = none := by
    have hn : pv ≠ p := fun e => by rw [e, hp8] at hpv8; cases hpv8
    rw [← eh8, hu_ne _ _ hn] at hpv8; exact hpv8
  have hpb7 : h7 pb = none := by
    have hn : pb ≠ p := fun e => by rw [e, hp8] at hpb8; cases hpb8
    rw [← eh8, hu_ne _ _ hn] at hpb8; exact hpb8
  have frP : ∀ q, ownP (p, t, pv, pb) q → h7 q = none := fun q hq => by rcases hq with e | e | e | e <;> rw [e] <;> assumption
  have hG79 : Frm (frX h7 x) h7 h9 := fun q hq => by
    have n1 : q ≠ p := fun e => hq (Or.inr (by rw [e]; exact hp0))
    rw [hO9 q n1 (fun e => hq (Or.inr (by rw [e]; exact ht7))) (fun e => hq (Or.inr (by rw [e]; exact hpv7))) (fun e => hq (Or.inr (by rw [e]; exact hpb7))), ← eh8, hu_ne _ _ n1]
  have hx9 : h9 x = _ := (hO9 x hxp (fun e => by rw [e, ht7] at hx7; cases hx7) (fun e => by rw [e, hpv7] at hx7; cases hx7) (fun e => by rw [e, hpb7] at hx7; cases hx7)).trans hx8
  have hH9 := fx_tr hH7 hG79
  have hS_9 := hS_7.fx hx7 hG79
  have hT_9 := hT_7.fx hx7 hG79
  have hK_9 := hK_7.fx hx7 hG79
  refine r_putF (ci := 9) (n := 43) C hinDV tyDV okDV nmDV rfl 3 (by decide) tw_69 rfl rfl rfl rfl (okDV 3 (by decide)) rfl rfl dDV_init_40 rfl hx9 (Nat.le_of_ble_eq_true rfl) ?_
  have hG10 : Frm (frX h9 x) h9 (hu h9 x (.inr (9, [.ref s1, .ref s2, .ref a, .ref p, .null, .null, .int 0]))) := fx_x
  have hx10 := hu_eq h9 x (.inr (9, [.ref s1, .ref s2, .ref a, .ref p, .null, .null, .int 0]))
  generalize eh10 : hu h9 x _ = h10 at hG10 hx10
  first | refine V.eqh (h' := h10) eh10 ?_ | skip
  have hH10 := fx_tr hH9 hG10
  have hS_10 := hS_9.fx hx9 hG10
  have hT_10 := hT_9.fx hx9 hG10
  have hK_10 := hK_9.fx hx9 hG10
  have hP_10 := hP_9.fx hx9 hG10
  refine r_aload_n (n := 44) C dDV_init_43 rfl rfl ?_
  refine r_bipush (v := 10) (n := 46) C dDV_init_44 rfl (by decide) ?_
  refine r_newq (t0 := 3) (n := 49) C tw_64 C.2.2.2.2.2.2.2.2.2.1 rfl dDV_init_46 rfl (show (10 : Int32) = nI 10 from rfl) (by decide) (Nat.le_of_ble_eq_true rfl) (Nat.le_of_ble_eq_true rfl) (fun ru hru0 => ?_)
  have hG11 : Frm (frX h10 x) h10 (hu h10 ru (.inl ((Ko K).2.1 3, 10, .inr (.inr (.inr (.inr (fun _ => none))))))) := fx_new hru0
  have hxr : x ≠ ru := fun e => by rw [e, hru0] at hx10; cases hx10
  have hx11 := (hu_ne h10 (.inl ((Ko K).2.1 3, 10, .inr (.inr (.inr (.inr (fun _ => none)))))) hxr).trans hx10
  have hU_11 := hu_eq h10 ru (.inl ((Ko K).2.1 3, 10, .inr (.inr (.inr (.inr (fun _ => none))))))
  generalize eh11 : hu h10 ru _ = h11 at hG11 hx11 hU_11
  first | refine V.eqh (h' := h11) eh11 ?_ | skip
  have hH11 := fx_tr hH10 hG11
  have hS_11 := hS_10.fx hx10 hG11
  have hT_11 := hT_10.fx hx10 hG11
  have hK_11 := hK_10.fx hx10 hG11
  have hP_11 := hP_10.fx hx10 hG11
  refine r_putF (ci := 9) (n := 52) C hinDV tyDV okDV nmDV rfl 4 (by decide) tw_70 rfl rfl rfl rfl (okDV 4 (by decide)) rfl rfl dDV_init_49 rfl hx11 (Nat.le_of_ble_eq_true rfl) ?_
  have hG12 : Frm (frX h11 x) h11 (hu h11 x (.inr (9, [.ref s1, .ref s2, .ref a, .ref p, .ref ru, .null, .int 0]))) := fx_x
  have hx12 := hu_eq h11 x (.inr (9, [.ref s1, .ref s2, .ref a, .ref p, .ref ru, .null, .int 0]))
  generalize eh12 : hu h11 x _ = h12 at hG12 hx12
  first | refine V.eqh (h' := h12) eh12 ?_ | skip
  have hH12 := fx_tr hH11 hG12
  have hS_12 := hS_11.fx hx11 hG12
  have hT_12 := hT_11.fx hx11 hG12
  have hK_12 := hK_11.fx hx11 hG12
  have hP_12 := hP_11.fx hx11 hG12
  have hU_12 := inl_fx hU_11 hx11 hG12
  refine r_aload_n (n := 53) C dDV_init_52 rfl rfl ?_
  refine r_bipush (v := 10) (n := 55) C dDV_init_53 rfl (by decide) ?_
  refine r_newi (n := 57) C tw_43 dDV_init_55 rfl rfl (by decide) (by decide) (Nat.le_of_ble_eq_true rfl) (Nat.le_of_ble_eq_true rfl) (fun ch hch0 => ?_)
  have hG13 : Frm (frX h12 x) h12 (hu h12 ch (.inl ((Ko K).2.1 0, 10, .inl (fun _ => 0)))) := fx_new hch0
  have hxc : x ≠ ch := fun e => by rw [e, hch0] at hx12; cases hx12
  have hx13 := (hu_ne h12 (.inl ((Ko K).2.1 0, 10, .inl (fun _ => 0))) hxc).trans hx12
  have hV_13 := hu_eq h12 ch (.inl ((Ko K).2.1 0, 10, .inl (fun _ => 0)))
  generalize eh13 : hu h12 ch _ = h13 at hG13 hx13 hV_13
  first | refine V.eqh (h' := h13) eh13 ?_ | skip
  have hH13 := fx_tr hH12 hG13
  have hS_13 := hS_12.fx hx12 hG13
  have hT_13 := hT_12.fx hx12 hG13
  have hK_13 := hK_12.fx hx12 hG13
  have hP_13 := hP_12.fx hx12 hG13
  have hU_13 := inl_fx hU_12 hx12 hG13
  refine r_putF (ci := 9) (n := 60) C hinDV tyDV okDV nmDV rfl 5 (by decide) tw_71 rfl rfl rfl rfl (okDV 5 (by decide)) rfl rfl dDV_init_57 rfl hx13 (Nat.le_of_ble_eq_true rfl) ?_
  have hG14 : Frm (frX h13 x) h13 (hu h13 x (.inr (9, [.ref s1, .ref s2, .ref a, .ref p, .ref ru, .ref ch, .int 0]))) := fx_x
  have hx14 := hu_eq h13 x (.inr (9, [.ref s1, .ref s2, .ref a, .ref p, .ref ru, .ref ch, .int 0]))
  generalize eh14 : hu h13 x _ = h14 at hG14 hx14
  first | refine V.eqh (h' := h14) eh14 ?_ | skip
  have hH14 := fx_tr hH13 hG14
  have hS_14 := hS_13.fx hx13 hG14
  have hT_14 := hT_13.fx hx13 hG14
  have hK_14 := hK_13.fx hx13 hG14
  have hP_14 := hP_13.fx hx13 hG14
  have hU_14 := inl_fx hU_13 hx13 hG14
  have hV_14 := inl_fx hV_13 hx13 hG14
  refine r_aload_n (n := 61) C dDV_init_60 rfl rfl ?_
  refine r_iconst (v := 0) (n := 62) C dDV_init_61 rfl (by decide) ?_
  refine r_put (ci := 9) (n := 65) C hinDV tyDV okDV nmDV rfl 6 (by decide) tw_72 rfl rfl (okDV 6 (by decide)) rfl rfl dDV_init_62 rfl hx14 (Nat.le_of_ble_eq_true rfl) ?_
  have hG15 : Frm (frX h14 x) h14 (hu h14 x (.inr (9, [.ref s1, .ref s2, .ref a, .ref p, .ref ru, .ref ch, .int 0]))) := fx_x
  have hx15 := hu_eq h14 x (.inr (9, [.ref s1, .ref s2, .ref a, .ref p, .ref ru, .ref ch, .int 0]))
  generalize eh15 : hu h14 x _ = h15 at hG15 hx15
  first | refine V.eqh (h' := h15) eh15 ?_ | skip
  have hH15 := fx_tr hH14 hG15
  have hS_15 := hS_14.fx hx14 hG15
  have hT_15 := hT_14.fx hx14 hG15
  have hK_15 := hK_14.fx hx14 hG15
  have hP_15 := hP_14.fx hx14 hG15
  have hU_15 := inl_fx hU_14 hx14 hG15
  have hV_15 := inl_fx hV_14 hx14 hG15
  have hne12 : h12 ch = none := hch0
  have cne : ∀ {A : Qd}, RA (Ko K) h12 A [] → ch ≠ A.2.1 := fun hA e => by obtain ⟨f, g, a1, a2, a3, -⟩ := hA; rw [← e, hne12] at a2; cases a2
  have cnP : ¬ ownP (p, t, pv, pb) ch := fun z => by obtain ⟨e, h9, -⟩ := hP_12.kind z; rw [hne12] at h9; cases h9
  have s12 : s1 ≠ s2 := fun e => by obtain ⟨f, h9, -⟩ := hS_2; rw [e, hs2n] at h9; cases h9
  have r1 : ru ≠ s1 := fun e => by obtain ⟨f, h9, -⟩ := hS_10; rw [← e, hru0] at h9; cases h9
  have r2 : ru ≠ s2 := fun e => by obtain ⟨f, h9, -⟩ := hT_10; rw [← e, hru0] at h9; cases h9
  have hGD : GD (s1, s2, ru, ch, (a, v, w, 576), (p, t, pv, pb), S, T) := ⟨djS, djT, fun i hi j hj => Dj.fr (hS_2.slot hi) (frT j hj), fun i hi => (Dj.fr (hS_4.slot hi) frK).symm, fun i hi => (Dj.fr (hT_4.slot hi) frK).symm, PD.fr hK_7 frP, fun i hi => PD.fr (hS_7.slot hi) frP, fun i hi => PD.fr (hT_7.slot hi) frP, ⟨cne hK_12, fun i hi => cne (hS_12.slot hi), fun i hi => cne (hT_12.slot hi), cnP⟩, ⟨s12, r1, r2⟩, rfl, capS, capT⟩
  have n2 := fun q hq => fx_none (q := q) hH2 hx2 hq
  have n4 := fun q hq => fx_none (q := q) hH4 hx4 hq
  have n7 := fun q hq => fx_none (q := q) hH7 hx7 hq
  have n10 := fun q hq => fx_none (q := q) hH10 hx10 hq
  have n12 := fun q hq => fx_none (q := q) hH12 hx12 hq
  exact r_vret C dDV_init_65 (Nat.le_of_ble_eq_true rfl) (Nat.le_of_ble_eq_true rfl) ⟨(s1, s2, ru, ch, (a, v, w, 576), (p, t, pv, pb), S, T), ⟨hGD, hx15, by decide, _, _, [], _, _, ⟨hS_15, hT_15, hK_15, hP_15, hU_15, hV_15, fun j R hj => by simp [S0] at hj⟩, fun i hi => List.Pairwise.nil, fun i hi => List.Pairwise.nil, fun i hi => rfl, fun j hj => rfl⟩, fun q hq => by
      rcases hq with e | e | e | e | e | e | ⟨i, hi, e⟩ | ⟨i, hi, e⟩
      · rw [e]; exact hs1n
      · rw [e]; exact n2 _ hs2n
      · rw [e]; exact n10 _ hru0
      · rw [e]; exact n12 _ hch0
      · exact n4 _ (frK q e)
      · exact n7 _ (frP q e)
      · exact frS i hi q e
      · exact n2 _ (frT i hi q e), hH15⟩
