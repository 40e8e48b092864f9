/-! THE REFERENCE: the constructor -/
def AL (h0 h : AH) (m : Nat) (L : List (Nat × ClassId × vp_A)) : Prop := (∀ p ∈ L, h p.1 = some (.inl p.2) ∧ h0 p.1 = none) ∧ (L.map Prod.fst).Nodup ∧ Frm (frX h0 m) h0 h ∧ ∃ y, h m = some (.inr y)
theorem AL.new {h0 h : AH} {m q : Nat} {c : ClassId × vp_A} {L : List (Nat × ClassId × vp_A)} (a : AL h0 h m L) (hq : h q = none) : AL h0 (hu h q (.inl c)) m ((q, c) :: L) := by
  obtain ⟨a1, a2, a3, y, a4⟩ := a
  have hqm : m ≠ q := fun e => by rw [e, hq] at a4; cases a4
  refine ⟨fun p hp => ?_, ?_, fx_tr a3 (fx_new hq), y, (hu_ne _ _ hqm).trans a4⟩
  · rcases List.mem_cons.mp hp with e | e
    · subst e; exact ⟨hu_eq _ _ _, fx_none a3 a4 hq⟩
    · have h1 := a1 p e
      exact ⟨(hu_ne _ _ (fun z => by rw [z, hq] at h1; cases h1.1)).trans h1.1, h1.2⟩
  · rw [List.map_cons, List.nodup_cons]
    refine ⟨fun z => ?_, a2⟩
    obtain ⟨p, hp, e⟩ := List.mem_map.mp z
    have h1 := (a1 p hp).1
    rw [show p.1 = q from e, hq] at h1; cases h1
theorem AL.put {h0 h : AH} {m : Nat} {y : Nat × List Value} {L : List (Nat × ClassId × vp_A)} (a : AL h0 h m L) : AL h0 (hu h m (.inr y)) m L := by
  obtain ⟨a1, a2, a3, y0, a4⟩ := a
  refine ⟨fun p hp => ?_, a2, fx_tr a3 fx_x, y, hu_eq _ _ _⟩
  have h1 := a1 p hp
  exact ⟨(hu_ne _ _ (fun z => by rw [z, a4] at h1; cases h1.1)).trans h1.1, h1.2⟩
set_option maxHeartbeats 4000000 in
set_option maxRecDepth 100000 in
/-- the constructor -/
theorem c_MD_init (l : Launch) (o : Om) (h0 : AH) (m : Nat) (hx0 : h0 m = some (.inr (10, [.null, .null, .null, .null, .null, .null, .null, .null, .null, .int 0, .null, .null, .null, .int 0, .null, .null, .null, .null, .null, .int 0]))) : Mt l o yMD_init cMD_init 1 none ({ frames := 1, cells := 17, slots := 5052, locals := 24 } : Room) [.ref m] h0 (QV o (fun h' => ∃ ad : Nat → Nat, MS o h' m ad S0 ∧ (∀ k, (intK k || lonK k) = true → h0 (ad k) = none) ∧ Frm (frX h0 m) h0 h')) (17) (5052) := by
  refine Met.ofV (by decide) (Nat.le_of_ble_eq_true rfl) (fun K hl ho C => ?_)
  subst hl; subst ho
  have a_h0 : AL h0 h0 m [] := ⟨fun p hp => (by simp at hp), List.nodup_nil, Frm.rf, _, hx0⟩
  refine r_aload_n (n := 1) C dMD_init_0 rfl rfl ?_
  refine r_objInit (n := 4) C tw_534 tw_21 tw_22 dMD_init_1 rfl (Nat.le_of_ble_eq_true rfl) (Nat.le_of_ble_eq_true rfl) ?_
  refine r_aload_n (n := 5) C dMD_init_4 rfl rfl ?_
  refine r_sipush (v := 624) (n := 8) C dMD_init_5 rfl (by decide) ?_
  refine r_newi (n := 10) C tw_43 dMD_init_8 rfl rfl (by decide) (by decide) (Nat.le_of_ble_eq_true rfl) (Nat.le_of_ble_eq_true rfl) (fun q0 hq0 => ?_)
  have a_hn0 : AL h0 (hu h0 q0 (.inl ((Ko K).2.1 0, 624, .inl (fun _ => 0)))) m _ := a_h0.new hq0
  have x_hn0 : (hu h0 q0 (.inl ((Ko K).2.1 0, 624, .inl (fun _ => 0)))) m = _ := (hu_ne _ _ (fun e => by rw [← e, hx0] at hq0; cases hq0)).trans hx0
  generalize ehn0 : hu h0 q0 _ = hn0 at a_hn0 x_hn0
  first | refine V.eqh (h' := hn0) ehn0 ?_ | skip
  refine r_putF (ci := 10) (n := 13) C hinMD tyMD okMD nmMD rfl 0 (by decide) tw_535 rfl rfl rfl rfl (okMD 0 (by decide)) rfl rfl dMD_init_10 rfl x_hn0 (Nat.le_of_ble_eq_true rfl) ?_
  have a_hp0 : AL h0 (hu hn0 m (.inr (10, [.ref q0, .null, .null, .null, .null, .null, .null, .null, .null, .int 0, .null, .null, .null, .int 0, .null, .null, .null, .null, .null, .int 0]))) m _ := a_hn0.put
  have x_hp0 := hu_eq hn0 m (.inr (10, [.ref q0, .null, .null, .null, .null, .null, .null, .null, .null, .int 0, .null, .null, .null, .int 0, .null, .null, .null, .null, .null, .int 0]))
  generalize ehp0 : hu hn0 m _ = hp0 at a_hp0 x_hp0
  first | refine V.eqh (h' := hp0) ehp0 ?_ | skip
  refine r_aload_n (n := 14) C dMD_init_13 rfl rfl ?_
  refine r_sipush (v := 624) (n := 17) C dMD_init_14 rfl (by decide) ?_
  refine r_newi (n := 19) C tw_43 dMD_init_17 rfl rfl (by decide) (by decide) (Nat.le_of_ble_eq_true rfl) (Nat.le_of_ble_eq_true rfl) (fun q1 hq1 => ?_)
  have a_hn1 : AL h0 (hu hp0 q1 (.inl ((Ko K).2.1 0, 624, .inl (fun _ => 0)))) m _ := a_hp0.new hq1
  have x_hn1 : (hu hp0 q1 (.inl ((Ko K).2.1 0, 624, .inl (fun _ => 0)))) m = _ := (hu_ne _ _ (fun e => by rw [← e, x_hp0] at hq1; cases hq1)).trans x_hp0
  generalize ehn1 : hu hp0 q1 _ = hn1 at a_hn1 x_hn1
  first | refine V.eqh (h' := hn1) ehn1 ?_ | skip
  refine r_putF (ci := 10) (n := 22) C hinMD tyMD okMD nmMD rfl 1 (by decide) tw_536 rfl rfl rfl rfl (okMD 1 (by decide)) rfl rfl dMD_init_19 rfl x_hn1 (Nat.le_of_ble_eq_true rfl) ?_
  have a_hp1 : AL h0 (hu hn1 m (.inr (10, [.ref q0, .ref q1, .null, .null, .null, .null, .null, .null, .null, .int 0, .null, .null, .null, .int 0, .null, .null, .null, .null, .null, .int 0]))) m _ := a_hn1.put
  have x_hp1 := hu_eq hn1 m (.inr (10, [.ref q0, .ref q1, .null, .null, .null, .null, .null, .null, .null, .int 0, .null, .null, .null, .int 0, .null, .null, .null, .null, .null, .int 0]))
  generalize ehp1 : hu hn1 m _ = hp1 at a_hp1 x_hp1
  first | refine V.eqh (h' := hp1) ehp1 ?_ | skip
  refine r_aload_n (n := 23) C dMD_init_22 rfl rfl ?_
  refine r_sipush (v := 624) (n := 26) C dMD_init_23 rfl (by decide) ?_
  refine r_newi (n := 28) C tw_43 dMD_init_26 rfl rfl (by decide) (by decide) (Nat.le_of_ble_eq_true rfl) (Nat.le_of_ble_eq_true rfl) (fun q2 hq2 => ?_)
  have a_hn2 : AL h0 (hu hp1 q2 (.inl ((Ko K).2.1 0, 624, .inl (fun _ => 0)))) m _ := a_hp1.new hq2
  have x_hn2 : (hu hp1 q2 (.inl ((Ko K).2.1 0, 624, .inl (fun _ => 0)))) m = _ := (hu_ne _ _ (fun e => by rw [← e, x_hp1] at hq2; cases hq2)).trans x_hp1
  generalize ehn2 : hu hp1 q2 _ = hn2 at a_hn2 x_hn2
  first | refine V.eqh (h' := hn2) ehn2 ?_ | skip
  refine r_putF (ci := 10) (n := 31) C hinMD tyMD okMD nmMD rfl 2 (by decide) tw_537 rfl rfl rfl rfl (okMD 2 (by decide)) rfl rfl dMD_init_28 rfl x_hn2 (Nat.le_of_ble_eq_true rfl) ?_
  have a_hp2 : AL h0 (hu hn2 m (.inr (10, [.ref q0, .ref q1, .ref q2, .null, .null, .null, .null, .null, .null, .int 0, .null, .null, .null, .int 0, .null, .null, .null, .null, .null, .int 0]))) m _ := a_hn2.put
  have x_hp2 := hu_eq hn2 m (.inr (10, [.ref q0, .ref q1, .ref q2, .null, .null, .null, .null, .null, .null, .int 0, .null, .null, .null, .int 0, .null, .null, .null, .null, .null, .int 0]))
  generalize ehp2 : hu hn2 m _ = hp2 at a_hp2 x_hp2
  first | refine V.eqh (h' := hp2) ehp2 ?_ | skip
  refine r_aload_n (n := 32) C dMD_init_31 rfl rfl ?_
  refine r_sipush (v := 624) (n := 35) C dMD_init_32 rfl (by decide) ?_
  refine r_newl (n := 37) C tw_44 dMD_init_35 rfl rfl (by decide) (by decide) (Nat.le_of_ble_eq_true rfl) (Nat.le_of_ble_eq_true rfl) (fun q3 hq3 => ?_)
  have a_hn3 : AL h0 (hu hp2 q3 (.inl ((Ko K).2.1 1, 624, .inr (.inl (fun _ => 0))))) m _ := a_hp2.new hq3
  have x_hn3 : (hu hp2 q3 (.inl ((Ko K).2.1 1, 624, .inr (.inl (fun _ => 0))))) m = _ := (hu_ne _ _ (fun e => by rw [← e, x_hp2] at hq3; cases hq3)).trans x_hp2
  generalize ehn3 : hu hp2 q3 _ = hn3 at a_hn3 x_hn3
  first | refine V.eqh (h' := hn3) ehn3 ?_ | skip
  refine r_putF (ci := 10) (n := 40) C hinMD tyMD okMD nmMD rfl 3 (by decide) tw_538 rfl rfl rfl rfl (okMD 3 (by decide)) rfl rfl dMD_init_37 rfl x_hn3 (Nat.le_of_ble_eq_true rfl) ?_
  have a_hp3 : AL h0 (hu hn3 m (.inr (10, [.ref q0, .ref q1, .ref q2, .ref q3, .null, .null, .null, .null, .null, .int 0, .null, .null, .null, .int 0, .null, .null, .null, .null, .null, .int 0]))) m _ := a_hn3.put
  have x_hp3 := hu_eq hn3 m (.inr (10, [.ref q0, .ref q1, .ref q2, .ref q3, .null, .null, .null, .null, .null, .int 0, .null, .null, .null, .int 0, .null, .null, .null, .null, .null, .int 0]))
  generalize ehp3 : hu hn3 m _ = hp3 at a_hp3 x_hp3
  first | refine V.eqh (h' := hp3) ehp3 ?_ | skip
  refine r_aload_n (n := 41) C dMD_init_40 rfl rfl ?_
  refine r_bipush (v := 26) (n := 43) C dMD_init_41 rfl (by decide) ?_
  refine r_newi (n := 45) C tw_43 dMD_init_43 rfl rfl (by decide) (by decide) (Nat.le_of_ble_eq_true rfl) (Nat.le_of_ble_eq_true rfl) (fun q4 hq4 => ?_)
  have a_hn4 : AL h0 (hu hp3 q4 (.inl ((Ko K).2.1 0, 26, .inl (fun _ => 0)))) m _ := a_hp3.new hq4
  have x_hn4 : (hu hp3 q4 (.inl ((Ko K).2.1 0, 26, .inl (fun _ => 0)))) m = _ := (hu_ne _ _ (fun e => by rw [← e, x_hp3] at hq4; cases hq4)).trans x_hp3
  generalize ehn4 : hu hp3 q4 _ = hn4 at a_hn4 x_hn4
  first | refine V.eqh (h' := hn4) ehn4 ?_ | skip
  refine r_putF (ci := 10) (n := 48) C hinMD tyMD okMD nmMD rfl 4 (by decide) tw_539 rfl rfl rfl rfl (okMD 4 (by decide)) rfl rfl dMD_init_45 rfl x_hn4 (Nat.le_of_ble_eq_true rfl) ?_
  have a_hp4 : AL h0 (hu hn4 m (.inr (10, [.ref q0, .ref q1, .ref q2, .ref q3, .ref q4, .null, .null, .null, .null, .int 0, .null, .null, .null, .int 0, .null, .null, .null, .null, .null, .int 0]))) m _ := a_hn4.put
  have x_hp4 := hu_eq hn4 m (.inr (10, [.ref q0, .ref q1, .ref q2, .ref q3, .ref q4, .null, .null, .null, .null, .int 0, .null, .null, .null, .int 0, .null, .null, .null, .null, .null, .int 0]))
  generalize ehp4 : hu hn4 m _ = hp4 at a_hp4 x_hp4
  first | refine V.eqh (h' := hp4) ehp4 ?_ | skip
  refine r_aload_n (n := 49) C dMD_init_48 rfl rfl ?_
  refine r_sipush (v := 600) (n := 52) C dMD_init_49 rfl (by decide) ?_
  refine r_newi (n := 54) C tw_43 dMD_init_52 rfl rfl (by decide) (by decide) (Nat.le_of_ble_eq_true rfl) (Nat.le_of_ble_eq_true rfl) (fun q5 hq5 => ?_)
  have a_hn5 : AL h0 (hu hp4 q5 (.inl ((Ko K).2.1 0, 600, .inl (fun _ => 0)))) m _ := a_hp4.new hq5
  have x_hn5 : (hu hp4 q5 (.inl ((Ko K).2.1 0, 600, .inl (fun _ => 0)))) m = _ := (hu_ne _ _ (fun e => by rw [← e, x_hp4] at hq5; cases hq5)).trans x_hp4
  generalize ehn5 : hu hp4 q5 _ = hn5 at a_hn5 x_hn5
  first | refine V.eqh (h' := hn5) ehn5 ?_ | skip
  refine r_putF (ci := 10) (n := 57) C hinMD tyMD okMD nmMD rfl 5 (by decide) tw_540 rfl rfl rfl rfl (okMD 5 (by decide)) rfl rfl dMD_init_54 rfl x_hn5 (Nat.le_of_ble_eq_true rfl) ?_
  have a_hp5 : AL h0 (hu hn5 m (.inr (10, [.ref q0, .ref q1, .ref q2, .ref q3, .ref q4, .ref q5, .null, .null, .null, .int 0, .null, .null, .null, .int 0, .null, .null, .null, .null, .null, .int 0]))) m _ := a_hn5.put
  have x_hp5 := hu_eq hn5 m (.inr (10, [.ref q0, .ref q1, .ref q2, .ref q3, .ref q4, .ref q5, .null, .null, .null, .int 0, .null, .null, .null, .int 0, .null, .null, .null, .null, .null, .int 0]))
  generalize ehp5 : hu hn5 m _ = hp5 at a_hp5 x_hp5
  first | refine V.eqh (h' := hp5) ehp5 ?_ | skip
  refine r_aload_n (n := 58) C dMD_init_57 rfl rfl ?_
  refine r_sipush (v := 600) (n := 61) C dMD_init_58 rfl (by decide) ?_
  refine r_newi (n := 63) C tw_43 dMD_init_61 rfl rfl (by decide) (by decide) (Nat.le_of_ble_eq_true rfl) (Nat.le_of_ble_eq_true rfl) (fun q6 hq6 => ?_)
  have a_hn6 : AL h0 (hu hp5 q6 (.inl ((Ko K).2.1 0, 600, .inl (fun _ => 0)))) m _ := a_hp5.new hq6
  have x_hn6 : (hu hp5 q6 (.inl ((Ko K).2.1 0, 600, .inl (fun _ => 0)))) m = _ := (hu_ne _ _ (fun e => by rw [← e, x_hp5] at hq6; cases hq6)).trans x_hp5
  generalize ehn6 : hu hp5 q6 _ = hn6 at a_hn6 x_hn6
  first | refine V.eqh (h' := hn6) ehn6 ?_ | skip
  refine r_putF (ci := 10) (n := 66) C hinMD tyMD okMD nmMD rfl 6 (by decide) tw_541 rfl rfl rfl rfl (okMD 6 (by decide)) rfl rfl dMD_init_63 rfl x_hn6 (Nat.le_of_ble_eq_true rfl) ?_
  have a_hp6 : AL h0 (hu hn6 m (.inr (10, [.ref q0, .ref q1, .ref q2, .ref q3, .ref q4, .ref q5, .ref q6, .null, .null, .int 0, .null, .null, .null, .int 0, .null, .null, .null, .null, .null, .int 0]))) m _ := a_hn6.put
  have x_hp6 := hu_eq hn6 m (.inr (10, [.ref q0, .ref q1, .ref q2, .ref q3, .ref q4, .ref q5, .ref q6, .null, .null, .int 0, .null, .null, .null, .int 0, .null, .null, .null, .null, .null, .int 0]))
  generalize ehp6 : hu hn6 m _ = hp6 at a_hp6 x_hp6
  first | refine V.eqh (h' := hp6) ehp6 ?_ | skip
  refine r_aload_n (n := 67) C dMD_init_66 rfl rfl ?_
  refine r_sipush (v := 600) (n := 70) C dMD_init_67 rfl (by decide) ?_
  refine r_newi (n := 72) C tw_43 dMD_init_70 rfl rfl (by decide) (by decide) (Nat.le_of_ble_eq_true rfl) (Nat.le_of_ble_eq_true rfl) (fun q7 hq7 => ?_)
  have a_hn7 : AL h0 (hu hp6 q7 (.inl ((Ko K).2.1 0, 600, .inl (fun _ => 0)))) m _ := a_hp6.new hq7
  have x_hn7 : (hu hp6 q7 (.inl ((Ko K).2.1 0, 600, .inl (fun _ => 0)))) m = _ := (hu_ne _ _ (fun e => by rw [← e, x_hp6] at hq7; cases hq7)).trans x_hp6
  generalize ehn7 : hu hp6 q7 _ = hn7 at a_hn7 x_hn7
  first | refine V.eqh (h' := hn7) ehn7 ?_ | skip
  refine r_putF (ci := 10) (n := 75) C hinMD tyMD okMD nmMD rfl 7 (by decide) tw_542 rfl rfl rfl rfl (okMD 7 (by decide)) rfl rfl dMD_init_72 rfl x_hn7 (Nat.le_of_ble_eq_true rfl) ?_
  have a_hp7 : AL h0 (hu hn7 m (.inr (10, [.ref q0, .ref q1, .ref q2, .ref q3, .ref q4, .ref q5, .ref q6, .ref q7, .null, .int 0, .null, .null, .null, .int 0, .null, .null, .null, .null, .null, .int 0]))) m _ := a_hn7.put
  have x_hp7 := hu_eq hn7 m (.inr (10, [.ref q0, .ref q1, .ref q2, .ref q3, .ref q4, .ref q5, .ref q6, .ref q7, .null, .int 0, .null, .null, .null, .int 0, .null, .null, .null, .null, .null, .int 0]))
  generalize ehp7 : hu hn7 m _ = hp7 at a_hp7 x_hp7
  first | refine V.eqh (h' := hp7) ehp7 ?_ | skip
  refine r_aload_n (n := 76) C dMD_init_75 rfl rfl ?_
  refine r_sipush (v := 600) (n := 79) C dMD_init_76 rfl (by decide) ?_
  refine r_newl (n := 81) C tw_44 dMD_init_79 rfl rfl (by decide) (by decide) (Nat.le_of_ble_eq_true rfl) (Nat.le_of_ble_eq_true rfl) (fun q8 hq8 => ?_)
  have a_hn8 : AL h0 (hu hp7 q8 (.inl ((Ko K).2.1 1, 600, .inr (.inl (fun _ => 0))))) m _ := a_hp7.new hq8
  have x_hn8 : (hu hp7 q8 (.inl ((Ko K).2.1 1, 600, .inr (.inl (fun _ => 0))))) m = _ := (hu_ne _ _ (fun e => by rw [← e, x_hp7] at hq8; cases hq8)).trans x_hp7
  generalize ehn8 : hu hp7 q8 _ = hn8 at a_hn8 x_hn8
  first | refine V.eqh (h' := hn8) ehn8 ?_ | skip
  refine r_putF (ci := 10) (n := 84) C hinMD tyMD okMD nmMD rfl 8 (by decide) tw_543 rfl rfl rfl rfl (okMD 8 (by decide)) rfl rfl dMD_init_81 rfl x_hn8 (Nat.le_of_ble_eq_true rfl) ?_
  have a_hp8 : AL h0 (hu hn8 m (.inr (10, [.ref q0, .ref q1, .ref q2, .ref q3, .ref q4, .ref q5, .ref q6, .ref q7, .ref q8, .int 0, .null, .null, .null, .int 0, .null, .null, .null, .null, .null, .int 0]))) m _ := a_hn8.put
  have x_hp8 := hu_eq hn8 m (.inr (10, [.ref q0, .ref q1, .ref q2, .ref q3, .ref q4, .ref q5, .ref q6, .ref q7, .ref q8, .int 0, .null, .null, .null, .int 0, .null, .null, .null, .null, .null, .int 0]))
  generalize ehp8 : hu hn8 m _ = hp8 at a_hp8 x_hp8
  first | refine V.eqh (h' := hp8) ehp8 ?_ | skip
  refine r_aload_n (n := 85) C dMD_init_84 rfl rfl ?_
  refine r_bipush (v := 10) (n := 87) C dMD_init_85 rfl (by decide) ?_
  refine r_newi (n := 89) C tw_43 dMD_init_87 rfl rfl (by decide) (by decide) (Nat.le_of_ble_eq_true rfl) (Nat.le_of_ble_eq_true rfl) (fun q10 hq10 => ?_)
  have a_hn10 : AL h0 (hu hp8 q10 (.inl ((Ko K).2.1 0, 10, .inl (fun _ => 0)))) m _ := a_hp8.new hq10
  have x_hn10 : (hu hp8 q10 (.inl ((Ko K).2.1 0, 10, .inl (fun _ => 0)))) m = _ := (hu_ne _ _ (fun e => by rw [← e, x_hp8] at hq10; cases hq10)).trans x_hp8
  generalize ehn10 : hu hp8 q10 _ = hn10 at a_hn10 x_hn10
  first | refine V.eqh (h' := hn10) ehn10 ?_ | skip
  refine r_putF (ci := 10) (n := 92) C hinMD tyMD okMD nmMD rfl 10 (by decide) tw_545 rfl rfl rfl rfl (okMD 10 (by decide)) rfl rfl dMD_init_89 rfl x_hn10 (Nat.le_of_ble_eq_true rfl) ?_
  have a_hp10 : AL h0 (hu hn10 m (.inr (10, [.ref q0, .ref q1, .ref q2, .ref q3, .ref q4, .ref q5, .ref q6, .ref q7, .ref q8, .int 0, .ref q10, .null, .null, .int 0, .null, .null, .null, .null, .null, .int 0]))) m _ := a_hn10.put
  have x_hp10 := hu_eq hn10 m (.inr (10, [.ref q0, .ref q1, .ref q2, .ref q3, .ref q4, .ref q5, .ref q6, .ref q7, .ref q8, .int 0, .ref q10, .null, .null, .int 0, .null, .null, .null, .null, .null, .int 0]))
  generalize ehp10 : hu hn10 m _ = hp10 at a_hp10 x_hp10
  first | refine V.eqh (h' := hp10) ehp10 ?_ | skip
  refine r_aload_n (n := 93) C dMD_init_92 rfl rfl ?_
  refine r_bipush (v := 50) (n := 95) C dMD_init_93 rfl (by decide) ?_
  refine r_newi (n := 97) C tw_43 dMD_init_95 rfl rfl (by decide) (by decide) (Nat.le_of_ble_eq_true rfl) (Nat.le_of_ble_eq_true rfl) (fun q11 hq11 => ?_)
  have a_hn11 : AL h0 (hu hp10 q11 (.inl ((Ko K).2.1 0, 50, .inl (fun _ => 0)))) m _ := a_hp10.new hq11
  have x_hn11 : (hu hp10 q11 (.inl ((Ko K).2.1 0, 50, .inl (fun _ => 0)))) m = _ := (hu_ne _ _ (fun e => by rw [← e, x_hp10] at hq11; cases hq11)).trans x_hp10
  generalize ehn11 : hu hp10 q11 _ = hn11 at a_hn11 x_hn11
  first | refine V.eqh (h' := hn11) ehn11 ?_ | skip
  refine r_putF (ci := 10) (n := 100) C hinMD tyMD okMD nmMD rfl 11 (by decide) tw_546 rfl rfl rfl rfl (okMD 11 (by decide)) rfl rfl dMD_init_97 rfl x_hn11 (Nat.le_of_ble_eq_true rfl) ?_
  have a_hp11 : AL h0 (hu hn11 m (.inr (10, [.ref q0, .ref q1, .ref q2, .ref q3, .ref q4, .ref q5, .ref q6, .ref q7, .ref q8, .int 0, .ref q10, .ref q11, .null, .int 0, .null, .null, .null, .null, .null, .int 0]))) m _ := a_hn11.put
  have x_hp11 := hu_eq hn11 m (.inr (10, [.ref q0, .ref q1, .ref q2, .ref q3, .ref q4, .ref q5, .ref q6, .ref q7, .ref q8, .int 0, .ref q10, .ref q11, .null, .int 0, .null, .null, .null, .null, .null, .int 0]))
  generalize ehp11 : hu hn11 m _ = hp11 at a_hp11 x_hp11
  first | refine V.eqh (h' := hp11) ehp11 ?_ | skip
  refine r_aload_n (n := 101) C dMD_init_100 rfl rfl ?_
  refine r_bipush (v := 10) (n := 103) C dMD_init_101 rfl (by decide) ?_
  refine r_newi (n := 105) C tw_43 dMD_init_103 rfl rfl (by decide) (by decide) (Nat.le_of_ble_eq_true rfl) (Nat.le_of_ble_eq_true rfl) (fun q12 hq12 => ?_)
  have a_hn12 : AL h0 (hu hp11 q12 (.inl ((Ko K).2.1 0, 10, .inl (fun _ => 0)))) m _ := a_hp11.new hq12
  have x_hn12 : (hu hp11 q12 (.inl ((Ko K).2.1 0, 10, .inl (fun _ => 0)))) m = _ := (hu_ne _ _ (fun e => by rw [← e, x_hp11] at hq12; cases hq12)).trans x_hp11
  generalize ehn12 : hu hp11 q12 _ = hn12 at a_hn12 x_hn12
  first | refine V.eqh (h' := hn12) ehn12 ?_ | skip
  refine r_putF (ci := 10) (n := 108) C hinMD tyMD okMD nmMD rfl 12 (by decide) tw_547 rfl rfl rfl rfl (okMD 12 (by decide)) rfl rfl dMD_init_105 rfl x_hn12 (Nat.le_of_ble_eq_true rfl) ?_
  have a_hp12 : AL h0 (hu hn12 m (.inr (10, [.ref q0, .ref q1, .ref q2, .ref q3, .ref q4, .ref q5, .ref q6, .ref q7, .ref q8, .int 0, .ref q10, .ref q11, .ref q12, .int 0, .null, .null, .null, .null, .null, .int 0]))) m _ := a_hn12.put
  have x_hp12 := hu_eq hn12 m (.inr (10, [.ref q0, .ref q1, .ref q2, .ref q3, .ref q4, .ref q5, .ref q6, .ref q7, .ref q8, .int 0, .ref q10, .ref q11, .ref q12, .int 0, .null, .null, .null, .null, .null, .int 0]))
  generalize ehp12 : hu hn12 m _ = hp12 at a_hp12 x_hp12
  first | refine V.eqh (h' := hp12) ehp12 ?_ | skip
  refine r_aload_n (n := 109) C dMD_init_108 rfl rfl ?_
  refine r_bipush (v := 12) (n := 111) C dMD_init_109 rfl (by decide) ?_
  refine r_newi (n := 113) C tw_43 dMD_init_111 rfl rfl (by decide) (by decide) (Nat.le_of_ble_eq_true rfl) (Nat.le_of_ble_eq_true rfl) (fun q14 hq14 => ?_)
  have a_hn14 : AL h0 (hu hp12 q14 (.inl ((Ko K).2.1 0, 12, .inl (fun _ => 0)))) m _ := a_hp12.new hq14
  have x_hn14 : (hu hp12 q14 (.inl ((Ko K).2.1 0, 12, .inl (fun _ => 0)))) m = _ := (hu_ne _ _ (fun e => by rw [← e, x_hp12] at hq14; cases hq14)).trans x_hp12
  generalize ehn14 : hu hp12 q14 _ = hn14 at a_hn14 x_hn14
  first | refine V.eqh (h' := hn14) ehn14 ?_ | skip
  refine r_putF (ci := 10) (n := 116) C hinMD tyMD okMD nmMD rfl 14 (by decide) tw_549 rfl rfl rfl rfl (okMD 14 (by decide)) rfl rfl dMD_init_113 rfl x_hn14 (Nat.le_of_ble_eq_true rfl) ?_
  have a_hp14 : AL h0 (hu hn14 m (.inr (10, [.ref q0, .ref q1, .ref q2, .ref q3, .ref q4, .ref q5, .ref q6, .ref q7, .ref q8, .int 0, .ref q10, .ref q11, .ref q12, .int 0, .ref q14, .null, .null, .null, .null, .int 0]))) m _ := a_hn14.put
  have x_hp14 := hu_eq hn14 m (.inr (10, [.ref q0, .ref q1, .ref q2, .ref q3, .ref q4, .ref q5, .ref q6, .ref q7, .ref q8, .int 0, .ref q10, .ref q11, .ref q12, .int 0, .ref q14, .null, .null, .null, .null, .int 0]))
  generalize ehp14 : hu hn14 m _ = hp14 at a_hp14 x_hp14
  first | refine V.eqh (h' := hp14) ehp14 ?_ | skip
  refine r_aload_n (n := 117) C dMD_init_116 rfl rfl ?_
  refine r_bipush (v := 12) (n := 119) C dMD_init_117 rfl (by decide) ?_
  refine r_newi (n := 121) C tw_43 dMD_init_119 rfl rfl (by decide) (by decide) (Nat.le_of_ble_eq_true rfl) (Nat.le_of_ble_eq_true rfl) (fun q15 hq15 => ?_)
  have a_hn15 : AL h0 (hu hp14 q15 (.inl ((Ko K).2.1 0, 12, .inl (fun _ => 0)))) m _ := a_hp14.new hq15
  have x_hn15 : (hu hp14 q15 (.inl ((Ko K).2.1 0, 12, .inl (fun _ => 0)))) m = _ := (hu_ne _ _ (fun e => by rw [← e, x_hp14] at hq15; cases hq15)).trans x_hp14
  generalize ehn15 : hu hp14 q15 _ = hn15 at a_hn15 x_hn15
  first | refine V.eqh (h' := hn15) ehn15 ?_ | skip
  refine r_putF (ci := 10) (n := 124) C hinMD tyMD okMD nmMD rfl 15 (by decide) tw_550 rfl rfl rfl rfl (okMD 15 (by decide)) rfl rfl dMD_init_121 rfl x_hn15 (Nat.le_of_ble_eq_true rfl) ?_
  have a_hp15 : AL h0 (hu hn15 m (.inr (10, [.ref q0, .ref q1, .ref q2, .ref q3, .ref q4, .ref q5, .ref q6, .ref q7, .ref q8, .int 0, .ref q10, .ref q11, .ref q12, .int 0, .ref q14, .ref q15, .null, .null, .null, .int 0]))) m _ := a_hn15.put
  have x_hp15 := hu_eq hn15 m (.inr (10, [.ref q0, .ref q1, .ref q2, .ref q3, .ref q4, .ref q5, .ref q6, .ref q7, .ref q8, .int 0, .ref q10, .ref q11, .ref q12, .int 0, .ref q14, .ref q15, .null, .null, .null, .int 0]))
  generalize ehp15 : hu hn15 m _ = hp15 at a_hp15 x_hp15
  first | refine V.eqh (h' := hp15) ehp15 ?_ | skip
  refine r_aload_n (n := 125) C dMD_init_124 rfl rfl ?_
  refine r_bipush (v := 12) (n := 127) C dMD_init_125 rfl (by decide) ?_
  refine r_newi (n := 129) C tw_43 dMD_init_127 rfl rfl (by decide) (by decide) (Nat.le_of_ble_eq_true rfl) (Nat.le_of_ble_eq_true rfl) (fun q16 hq16 => ?_)
  have a_hn16 : AL h0 (hu hp15 q16 (.inl ((Ko K).2.1 0, 12, .inl (fun _ => 0)))) m _ := a_hp15.new hq16
  have x_hn16 : (hu hp15 q16 (.inl ((Ko K).2.1 0, 12, .inl (fun _ => 0)))) m = _ := (hu_ne _ _ (fun e => by rw [← e, x_hp15] at hq16; cases hq16)).trans x_hp15
  generalize ehn16 : hu hp15 q16 _ = hn16 at a_hn16 x_hn16
  first | refine V.eqh (h' := hn16) ehn16 ?_ | skip
  refine r_putF (ci := 10) (n := 132) C hinMD tyMD okMD nmMD rfl 16 (by decide) tw_551 rfl rfl rfl rfl (okMD 16 (by decide)) rfl rfl dMD_init_129 rfl x_hn16 (Nat.le_of_ble_eq_true rfl) ?_
  have a_hp16 : AL h0 (hu hn16 m (.inr (10, [.ref q0, .ref q1, .ref q2, .ref q3, .ref q4, .ref q5, .ref q6, .ref q7, .ref q8, .int 0, .ref q10, .ref q11, .ref q12, .int 0, .ref q14, .ref q15, .ref q16, .null, .null, .int 0]))) m _ := a_hn16.put
  have x_hp16 := hu_eq hn16 m (.inr (10, [.ref q0, .ref q1, .ref q2, .ref q3, .ref q4, .ref q5, .ref q6, .ref q7, .ref q8, .int 0, .ref q10, .ref q11, .ref q12, .int 0, .ref q14, .ref q15, .ref q16, .null, .null, .int 0]))
  generalize ehp16 : hu hn16 m _ = hp16 at a_hp16 x_hp16
  first | refine V.eqh (h' := hp16) ehp16 ?_ | skip
  refine r_aload_n (n := 133) C dMD_init_132 rfl rfl ?_
  refine r_bipush (v := 12) (n := 135) C dMD_init_133 rfl (by decide) ?_
  refine r_newi (n := 137) C tw_43 dMD_init_135 rfl rfl (by decide) (by decide) (Nat.le_of_ble_eq_true rfl) (Nat.le_of_ble_eq_true rfl) (fun q17 hq17 => ?_)
  have a_hn17 : AL h0 (hu hp16 q17 (.inl ((Ko K).2.1 0, 12, .inl (fun _ => 0)))) m _ := a_hp16.new hq17
  have x_hn17 : (hu hp16 q17 (.inl ((Ko K).2.1 0, 12, .inl (fun _ => 0)))) m = _ := (hu_ne _ _ (fun e => by rw [← e, x_hp16] at hq17; cases hq17)).trans x_hp16
  generalize ehn17 : hu hp16 q17 _ = hn17 at a_hn17 x_hn17
  first | refine V.eqh (h' := hn17) ehn17 ?_ | skip
  refine r_putF (ci := 10) (n := 140) C hinMD tyMD okMD nmMD rfl 17 (by decide) tw_552 rfl rfl rfl rfl (okMD 17 (by decide)) rfl rfl dMD_init_137 rfl x_hn17 (Nat.le_of_ble_eq_true rfl) ?_
  have a_hp17 : AL h0 (hu hn17 m (.inr (10, [.ref q0, .ref q1, .ref q2, .ref q3, .ref q4, .ref q5, .ref q6, .ref q7, .ref q8, .int 0, .ref q10, .ref q11, .ref q12, .int 0, .ref q14, .ref q15, .ref q16, .ref q17, .null, .int 0]))) m _ := a_hn17.put
  have x_hp17 := hu_eq hn17 m (.inr (10, [.ref q0, .ref q1, .ref q2, .ref q3, .ref q4, .ref q5, .ref q6, .ref q7, .ref q8, .int 0, .ref q10, .ref q11, .ref q12, .int 0, .ref q14, .ref q15, .ref q16, .ref q17, .null, .int 0]))
  generalize ehp17 : hu hn17 m _ = hp17 at a_hp17 x_hp17
  first | refine V.eqh (h' := hp17) ehp17 ?_ | skip
  refine r_aload_n (n := 141) C dMD_init_140 rfl rfl ?_
  refine r_bipush (v := 12) (n := 143) C dMD_init_141 rfl (by decide) ?_
  refine r_newi (n := 145) C tw_43 dMD_init_143 rfl rfl (by decide) (by decide) (Nat.le_of_ble_eq_true rfl) (Nat.le_of_ble_eq_true rfl) (fun q18 hq18 => ?_)
  have a_hn18 : AL h0 (hu hp17 q18 (.inl ((Ko K).2.1 0, 12, .inl (fun _ => 0)))) m _ := a_hp17.new hq18
  have x_hn18 : (hu hp17 q18 (.inl ((Ko K).2.1 0, 12, .inl (fun _ => 0)))) m = _ := (hu_ne _ _ (fun e => by rw [← e, x_hp17] at hq18; cases hq18)).trans x_hp17
  generalize ehn18 : hu hp17 q18 _ = hn18 at a_hn18 x_hn18
  first | refine V.eqh (h' := hn18) ehn18 ?_ | skip
  refine r_putF (ci := 10) (n := 148) C hinMD tyMD okMD nmMD rfl 18 (by decide) tw_553 rfl rfl rfl rfl (okMD 18 (by decide)) rfl rfl dMD_init_145 rfl x_hn18 (Nat.le_of_ble_eq_true rfl) ?_
  have a_hp18 : AL h0 (hu hn18 m (.inr (10, [.ref q0, .ref q1, .ref q2, .ref q3, .ref q4, .ref q5, .ref q6, .ref q7, .ref q8, .int 0, .ref q10, .ref q11, .ref q12, .int 0, .ref q14, .ref q15, .ref q16, .ref q17, .ref q18, .int 0]))) m _ := a_hn18.put
  have x_hp18 := hu_eq hn18 m (.inr (10, [.ref q0, .ref q1, .ref q2, .ref q3, .ref q4, .ref q5, .ref q6, .ref q7, .ref q8, .int 0, .ref q10, .ref q11, .ref q12, .int 0, .ref q14, .ref q15, .ref q16, .ref q17, .ref q18, .int 0]))
  generalize ehp18 : hu hn18 m _ = hp18 at a_hp18 x_hp18
  first | refine V.eqh (h' := hp18) ehp18 ?_ | skip
  obtain ⟨A1, A2, A3, -⟩ := a_hp18
  have hval : ∀ k, (intK k || lonK k) = true → k = 0 ∨ k = 1 ∨ k = 2 ∨ k = 3 ∨ k = 4 ∨ k = 5 ∨ k = 6 ∨ k = 7 ∨ k = 8 ∨ k = 10 ∨ k = 11 ∨ k = 12 ∨ k = 14 ∨ k = 15 ∨ k = 16 ∨ k = 17 ∨ k = 18 := fun k hk => by
    rcases Nat.lt_or_ge k 20 with h | h
    · rcases (show k = 9 ∨ k = 13 ∨ k = 19 ∨ (k = 0 ∨ k = 1 ∨ k = 2 ∨ k = 3 ∨ k = 4 ∨ k = 5 ∨ k = 6 ∨ k = 7 ∨ k = 8 ∨ k = 10 ∨ k = 11 ∨ k = 12 ∨ k = 14 ∨ k = 15 ∨ k = 16 ∨ k = 17 ∨ k = 18) by omega) with e | e | e | e
      · subst e; exact absurd hk (by decide)
      · subst e; exact absurd hk (by decide)
      · subst e; exact absurd hk (by decide)
      · exact e
    · exfalso
      have h1 : intK k = false := by unfold intK; split <;> first | omega | rfl
      have h2 : lonK k = false := by unfold lonK; split <;> first | omega | rfl
      rw [h1, h2] at hk; cases hk
  obtain ⟨ad, had⟩ : ∃ ad : Nat → Nat, ad = (fun k => match k with | 0 => q0 | 1 => q1 | 2 => q2 | 3 => q3 | 4 => q4 | 5 => q5 | 6 => q6 | 7 => q7 | 8 => q8 | 10 => q10 | 11 => q11 | 12 => q12 | 14 => q14 | 15 => q15 | 16 => q16 | 17 => q17 | 18 => q18 | _ => 0) := ⟨_, rfl⟩
  have d0 : ad 0 = q0 := congrFun had 0
  have d1 : ad 1 = q1 := congrFun had 1
  have d2 : ad 2 = q2 := congrFun had 2
  have d3 : ad 3 = q3 := congrFun had 3
  have d4 : ad 4 = q4 := congrFun had 4
  have d5 : ad 5 = q5 := congrFun had 5
  have d6 : ad 6 = q6 := congrFun had 6
  have d7 : ad 7 = q7 := congrFun had 7
  have d8 : ad 8 = q8 := congrFun had 8
  have d10 : ad 10 = q10 := congrFun had 10
  have d11 : ad 11 = q11 := congrFun had 11
  have d12 : ad 12 = q12 := congrFun had 12
  have d14 : ad 14 = q14 := congrFun had 14
  have d15 : ad 15 = q15 := congrFun had 15
  have d16 : ad 16 = q16 := congrFun had 16
  have d17 : ad 17 = q17 := congrFun had 17
  have d18 : ad 18 = q18 := congrFun had 18
  have hI : ∀ k, intK k = true → hp18 (ad k) = some (.inl ((Ko K).2.1 0, lenM k, .inl (fun _ => 0))) := fun k hk => by
    rcases hval k (by rw [hk]; rfl) with e | e | e | e | e | e | e | e | e | e | e | e | e | e | e | e | e <;> subst e
    · rw [d0]; exact (A1 _ (List.mem_cons_of_mem _ (List.mem_cons_of_mem _ (List.mem_cons_of_mem _ (List.mem_cons_of_mem _ (List.mem_cons_of_mem _ (List.mem_cons_of_mem _ (List.mem_cons_of_mem _ (List.mem_cons_of_mem _ (List.mem_cons_of_mem _ (List.mem_cons_of_mem _ (List.mem_cons_of_mem _ (List.mem_cons_of_mem _ (List.mem_cons_of_mem _ (List.mem_cons_of_mem _ (List.mem_cons_of_mem _ (List.mem_cons_of_mem _ List.mem_cons_self))))))))))))))))).1
    · rw [d1]; exact (A1 _ (List.mem_cons_of_mem _ (List.mem_cons_of_mem _ (List.mem_cons_of_mem _ (List.mem_cons_of_mem _ (List.mem_cons_of_mem _ (List.mem_cons_of_mem _ (List.mem_cons_of_mem _ (List.mem_cons_of_mem _ (List.mem_cons_of_mem _ (List.mem_cons_of_mem _ (List.mem_cons_of_mem _ (List.mem_cons_of_mem _ (List.mem_cons_of_mem _ (List.mem_cons_of_mem _ (List.mem_cons_of_mem _ List.mem_cons_self)))))))))))))))).1
    · rw [d2]; exact (A1 _ (List.mem_cons_of_mem _ (List.mem_cons_of_mem _ (List.mem_cons_of_mem _ (List.mem_cons_of_mem _ (List.mem_cons_of_mem _ (List.mem_cons_of_mem _ (List.mem_cons_of_mem _ (List.mem_cons_of_mem _ (List.mem_cons_of_mem _ (List.mem_cons_of_mem _ (List.mem_cons_of_mem _ (List.mem_cons_of_mem _ (List.mem_cons_of_mem _ (List.mem_cons_of_mem _ List.mem_cons_self))))))))))))))).1
    · exact absurd hk (by decide)
    · rw [d4]; exact (A1 _ (List.mem_cons_of_mem _ (List.mem_cons_of_mem _ (List.mem_cons_of_mem _ (List.mem_cons_of_mem _ (List.mem_cons_of_mem _ (List.mem_cons_of_mem _ (List.mem_cons_of_mem _ (List.mem_cons_of_mem _ (List.mem_cons_of_mem _ (List.mem_cons_of_mem _ (List.mem_cons_of_mem _ (List.mem_cons_of_mem _ List.mem_cons_self))))))))))))).1
    · rw [d5]; exact (A1 _ (List.mem_cons_of_mem _ (List.mem_cons_of_mem _ (List.mem_cons_of_mem _ (List.mem_cons_of_mem _ (List.mem_cons_of_mem _ (List.mem_cons_of_mem _ (List.mem_cons_of_mem _ (List.mem_cons_of_mem _ (List.mem_cons_of_mem _ (List.mem_cons_of_mem _ (List.mem_cons_of_mem _ List.mem_cons_self)))))))))))).1
    · rw [d6]; exact (A1 _ (List.mem_cons_of_mem _ (List.mem_cons_of_mem _ (List.mem_cons_of_mem _ (List.mem_cons_of_mem _ (List.mem_cons_of_mem _ (List.mem_cons_of_mem _ (List.mem_cons_of_mem _ (List.mem_cons_of_mem _ (List.mem_cons_of_mem _ (List.mem_cons_of_mem _ List.mem_cons_self))))))))))).1
    · rw [d7]; exact (A1 _ (List.mem_cons_of_mem _ (List.mem_cons_of_mem _ (List.mem_cons_of_mem _ (List.mem_cons_of_mem _ (List.mem_cons_of_mem _ (List.mem_cons_of_mem _ (List.mem_cons_of_mem _ (List.mem_cons_of_mem _ (List.mem_cons_of_mem _ List.mem_cons_self)))))))))).1
    · exact absurd hk (by decide)
    · rw [d10]; exact (A1 _ (List.mem_cons_of_mem _ (List.mem_cons_of_mem _ (List.mem_cons_of_mem _ (List.mem_cons_of_mem _ (List.mem_cons_of_mem _ (List.mem_cons_of_mem _ (List.mem_cons_of_mem _ List.mem_cons_self)))))))).1
    · rw [d11]; exact (A1 _ (List.mem_cons_of_mem _ (List.mem_cons_of_mem _ (List.mem_cons_of_mem _ (List.mem_cons_of_mem _ (List.mem_cons_of_mem _ (List.mem_cons_of_mem _ List.mem_cons_self))))))).1
    · rw [d12]; exact (A1 _ (List.mem_cons_of_mem _ (List.mem_cons_of_mem _ (List.mem_cons_of_mem _ (List.mem_cons_of_mem _ (List.mem_cons_of_mem _ List.mem_cons_self)))))).1
    · rw [d14]; exact (A1 _ (List.mem_cons_of_mem _ (List.mem_cons_of_mem _ (List.mem_cons_of_mem _ (List.mem_cons_of_mem _ List.mem_cons_self))))).1
    · rw [d15]; exact (A1 _ (List.mem_cons_of_mem _ (List.mem_cons_of_mem _ (List.mem_cons_of_mem _ List.mem_cons_self)))).1
    · rw [d16]; exact (A1 _ (List.mem_cons_of_mem _ (List.mem_cons_of_mem _ List.mem_cons_self))).1
    · rw [d17]; exact (A1 _ (List.mem_cons_of_mem _ List.mem_cons_self)).1
    · rw [d18]; exact (A1 _ (List.mem_cons_self)).1
  have hL : ∀ k, lonK k = true → hp18 (ad k) = some (.inl ((Ko K).2.1 1, lenM k, .inr (.inl (fun _ => 0)))) := fun k hk => by
    rcases hval k (by rw [hk, Bool.or_true]) with e | e | e | e | e | e | e | e | e | e | e | e | e | e | e | e | e <;> subst e
    · exact absurd hk (by decide)
    · exact absurd hk (by decide)
    · exact absurd hk (by decide)
    · rw [d3]; exact (A1 _ (List.mem_cons_of_mem _ (List.mem_cons_of_mem _ (List.mem_cons_of_mem _ (List.mem_cons_of_mem _ (List.mem_cons_of_mem _ (List.mem_cons_of_mem _ (List.mem_cons_of_mem _ (List.mem_cons_of_mem _ (List.mem_cons_of_mem _ (List.mem_cons_of_mem _ (List.mem_cons_of_mem _ (List.mem_cons_of_mem _ (List.mem_cons_of_mem _ List.mem_cons_self)))))))))))))).1
    · exact absurd hk (by decide)
    · exact absurd hk (by decide)
    · exact absurd hk (by decide)
    · exact absurd hk (by decide)
    · rw [d8]; exact (A1 _ (List.mem_cons_of_mem _ (List.mem_cons_of_mem _ (List.mem_cons_of_mem _ (List.mem_cons_of_mem _ (List.mem_cons_of_mem _ (List.mem_cons_of_mem _ (List.mem_cons_of_mem _ (List.mem_cons_of_mem _ List.mem_cons_self))))))))).1
    · exact absurd hk (by decide)
    · exact absurd hk (by decide)
    · exact absurd hk (by decide)
    · exact absurd hk (by decide)
    · exact absurd hk (by decide)
    · exact absurd hk (by decide)
    · exact absurd hk (by decide)
    · exact absurd hk (by decide)
  have hZ : ∀ k, (intK k || lonK k) = true → h0 (ad k) = none := fun k hk => by
    rcases hval k hk with e | e | e | e | e | e | e | e | e | e | e | e | e | e | e | e | e <;> subst e
    · rw [d0]; exact (A1 _ (List.mem_cons_of_mem _ (List.mem_cons_of_mem _ (List.mem_cons_of_mem _ (List.mem_cons_of_mem _ (List.mem_cons_of_mem _ (List.mem_cons_of_mem _ (List.mem_cons_of_mem _ (List.mem_cons_of_mem _ (List.mem_cons_of_mem _ (List.mem_cons_of_mem _ (List.mem_cons_of_mem _ (List.mem_cons_of_mem _ (List.mem_cons_of_mem _ (List.mem_cons_of_mem _ (List.mem_cons_of_mem _ (List.mem_cons_of_mem _ List.mem_cons_self))))))))))))))))).2
    · rw [d1]; exact (A1 _ (List.mem_cons_of_mem _ (List.mem_cons_of_mem _ (List.mem_cons_of_mem _ (List.mem_cons_of_mem _ (List.mem_cons_of_mem _ (List.mem_cons_of_mem _ (List.mem_cons_of_mem _ (List.mem_cons_of_mem _ (List.mem_cons_of_mem _ (List.mem_cons_of_mem _ (List.mem_cons_of_mem _ (List.mem_cons_of_mem _ (List.mem_cons_of_mem _ (List.mem_cons_of_mem _ (List.mem_cons_of_mem _ List.mem_cons_self)))))))))))))))).2
    · rw [d2]; exact (A1 _ (List.mem_cons_of_mem _ (List.mem_cons_of_mem _ (List.mem_cons_of_mem _ (List.mem_cons_of_mem _ (List.mem_cons_of_mem _ (List.mem_cons_of_mem _ (List.mem_cons_of_mem _ (List.mem_cons_of_mem _ (List.mem_cons_of_mem _ (List.mem_cons_of_mem _ (List.mem_cons_of_mem _ (List.mem_cons_of_mem _ (List.mem_cons_of_mem _ (List.mem_cons_of_mem _ List.mem_cons_self))))))))))))))).2
    · rw [d3]; exact (A1 _ (List.mem_cons_of_mem _ (List.mem_cons_of_mem _ (List.mem_cons_of_mem _ (List.mem_cons_of_mem _ (List.mem_cons_of_mem _ (List.mem_cons_of_mem _ (List.mem_cons_of_mem _ (List.mem_cons_of_mem _ (List.mem_cons_of_mem _ (List.mem_cons_of_mem _ (List.mem_cons_of_mem _ (List.mem_cons_of_mem _ (List.mem_cons_of_mem _ List.mem_cons_self)))))))))))))).2
    · rw [d4]; exact (A1 _ (List.mem_cons_of_mem _ (List.mem_cons_of_mem _ (List.mem_cons_of_mem _ (List.mem_cons_of_mem _ (List.mem_cons_of_mem _ (List.mem_cons_of_mem _ (List.mem_cons_of_mem _ (List.mem_cons_of_mem _ (List.mem_cons_of_mem _ (List.mem_cons_of_mem _ (List.mem_cons_of_mem _ (List.mem_cons_of_mem _ List.mem_cons_self))))))))))))).2
    · rw [d5]; exact (A1 _ (List.mem_cons_of_mem _ (List.mem_cons_of_mem _ (List.mem_cons_of_mem _ (List.mem_cons_of_mem _ (List.mem_cons_of_mem _ (List.mem_cons_of_mem _ (List.mem_cons_of_mem _ (List.mem_cons_of_mem _ (List.mem_cons_of_mem _ (List.mem_cons_of_mem _ (List.mem_cons_of_mem _ List.mem_cons_self)))))))))))).2
    · rw [d6]; exact (A1 _ (List.mem_cons_of_mem _ (List.mem_cons_of_mem _ (List.mem_cons_of_mem _ (List.mem_cons_of_mem _ (List.mem_cons_of_mem _ (List.mem_cons_of_mem _ (List.mem_cons_of_mem _ (List.mem_cons_of_mem _ (List.mem_cons_of_mem _ (List.mem_cons_of_mem _ List.mem_cons_self))))))))))).2
    · rw [d7]; exact (A1 _ (List.mem_cons_of_mem _ (List.mem_cons_of_mem _ (List.mem_cons_of_mem _ (List.mem_cons_of_mem _ (List.mem_cons_of_mem _ (List.mem_cons_of_mem _ (List.mem_cons_of_mem _ (List.mem_cons_of_mem _ (List.mem_cons_of_mem _ List.mem_cons_self)))))))))).2
    · rw [d8]; exact (A1 _ (List.mem_cons_of_mem _ (List.mem_cons_of_mem _ (List.mem_cons_of_mem _ (List.mem_cons_of_mem _ (List.mem_cons_of_mem _ (List.mem_cons_of_mem _ (List.mem_cons_of_mem _ (List.mem_cons_of_mem _ List.mem_cons_self))))))))).2
    · rw [d10]; exact (A1 _ (List.mem_cons_of_mem _ (List.mem_cons_of_mem _ (List.mem_cons_of_mem _ (List.mem_cons_of_mem _ (List.mem_cons_of_mem _ (List.mem_cons_of_mem _ (List.mem_cons_of_mem _ List.mem_cons_self)))))))).2
    · rw [d11]; exact (A1 _ (List.mem_cons_of_mem _ (List.mem_cons_of_mem _ (List.mem_cons_of_mem _ (List.mem_cons_of_mem _ (List.mem_cons_of_mem _ (List.mem_cons_of_mem _ List.mem_cons_self))))))).2
    · rw [d12]; exact (A1 _ (List.mem_cons_of_mem _ (List.mem_cons_of_mem _ (List.mem_cons_of_mem _ (List.mem_cons_of_mem _ (List.mem_cons_of_mem _ List.mem_cons_self)))))).2
    · rw [d14]; exact (A1 _ (List.mem_cons_of_mem _ (List.mem_cons_of_mem _ (List.mem_cons_of_mem _ (List.mem_cons_of_mem _ List.mem_cons_self))))).2
    · rw [d15]; exact (A1 _ (List.mem_cons_of_mem _ (List.mem_cons_of_mem _ (List.mem_cons_of_mem _ List.mem_cons_self)))).2
    · rw [d16]; exact (A1 _ (List.mem_cons_of_mem _ (List.mem_cons_of_mem _ List.mem_cons_self))).2
    · rw [d17]; exact (A1 _ (List.mem_cons_of_mem _ List.mem_cons_self)).2
    · rw [d18]; exact (A1 _ (List.mem_cons_self)).2
  have hpos : ∀ k, (intK k || lonK k) = true → [q18, q17, q16, q15, q14, q12, q11, q10, q8, q7, q6, q5, q4, q3, q2, q1, q0][(fun k => match k with | 0 => 16 | 1 => 15 | 2 => 14 | 3 => 13 | 4 => 12 | 5 => 11 | 6 => 10 | 7 => 9 | 8 => 8 | 10 => 7 | 11 => 6 | 12 => 5 | 14 => 4 | 15 => 3 | 16 => 2 | 17 => 1 | 18 => 0 | _ => 99) k]? = some (ad k) := fun k hk => by
    rcases hval k hk with e | e | e | e | e | e | e | e | e | e | e | e | e | e | e | e | e <;> subst e
    · rw [d0]; rfl
    · rw [d1]; rfl
    · rw [d2]; rfl
    · rw [d3]; rfl
    · rw [d4]; rfl
    · rw [d5]; rfl
    · rw [d6]; rfl
    · rw [d7]; rfl
    · rw [d8]; rfl
    · rw [d10]; rfl
    · rw [d11]; rfl
    · rw [d12]; rfl
    · rw [d14]; rfl
    · rw [d15]; rfl
    · rw [d16]; rfl
    · rw [d17]; rfl
    · rw [d18]; rfl
  have hinj : ∀ i j, (intK i || lonK i) = true → (intK j || lonK j) = true → i ≠ j → ad i ≠ ad j := fun i j hi hj hij e => by
    have h1 := hpos i hi
    have h2 := hpos j hj
    have hlt : (fun k => match k with | 0 => 16 | 1 => 15 | 2 => 14 | 3 => 13 | 4 => 12 | 5 => 11 | 6 => 10 | 7 => 9 | 8 => 8 | 10 => 7 | 11 => 6 | 12 => 5 | 14 => 4 | 15 => 3 | 16 => 2 | 17 => 1 | 18 => 0 | _ => 99) i < ([q18, q17, q16, q15, q14, q12, q11, q10, q8, q7, q6, q5, q4, q3, q2, q1, q0] : List Nat).length := (List.getElem?_eq_some_iff.mp h1).1
    have h3 : (fun k => match k with | 0 => 16 | 1 => 15 | 2 => 14 | 3 => 13 | 4 => 12 | 5 => 11 | 6 => 10 | 7 => 9 | 8 => 8 | 10 => 7 | 11 => 6 | 12 => 5 | 14 => 4 | 15 => 3 | 16 => 2 | 17 => 1 | 18 => 0 | _ => 99) i = (fun k => match k with | 0 => 16 | 1 => 15 | 2 => 14 | 3 => 13 | 4 => 12 | 5 => 11 | 6 => 10 | 7 => 9 | 8 => 8 | 10 => 7 | 11 => 6 | 12 => 5 | 14 => 4 | 15 => 3 | 16 => 2 | 17 => 1 | 18 => 0 | _ => 99) j := (List.getElem?_inj hlt (show ([q18, q17, q16, q15, q14, q12, q11, q10, q8, q7, q6, q5, q4, q3, q2, q1, q0] : List Nat).Nodup from A2)).mp (by rw [h1, h2, e])
    rcases hval i hi with e | e | e | e | e | e | e | e | e | e | e | e | e | e | e | e | e <;> subst e <;> rcases hval j hj with e | e | e | e | e | e | e | e | e | e | e | e | e | e | e | e | e <;> subst e <;> first | exact hij rfl | cases h3
  exact r_vret C dMD_init_148 (Nat.le_of_ble_eq_true rfl) (Nat.le_of_ble_eq_true rfl) ⟨ad, MS.ofc (MV := fun _ => 0) ⟨by subst had; exact x_hp18, hI, hL, hinj⟩ ⟨rfl, ⟨rfl, Nat.zero_le _, fun i e he => by simp [S0] at he⟩, fun j R hj => by simp [S0] at hj⟩ ⟨fun i hi => ⟨rfl, Nat.zero_le _, fun k r hr => by simp [S0] at hr⟩, fun c hc => ⟨[], rfl, Nat.zero_le _, fun k r hr => by simp at hr⟩⟩ (Nat.zero_le _) (fun j hj => by simp [S0] at hj), hZ, A3⟩
