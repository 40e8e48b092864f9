/-! DELTAVIEWS: emptySlots, the constructor -/
def frX (h : AH) (x : Nat) (q : Nat) : Prop := q = x ∨ h q = none
theorem fx_tr {h0 h1 h2 : AH} {x : Nat} (a : Frm (frX h0 x) h0 h1) (b : Frm (frX h1 x) h1 h2) : Frm (frX h0 x) h0 h2 := fun q hq => by
  have e := a q hq
  rw [b q (fun z => hq ?_), e]
  rcases z with z | z
  · exact Or.inl z
  · exact Or.inr (by rw [← e]; exact z)
theorem fx_none {h0 hk : AH} {x q : Nat} {y : va_E} (F : Frm (frX h0 x) h0 hk) (hx : hk x = some y) (hq : hk q = none) : h0 q = none := by
  cases hc : h0 q with
  | none => rfl
  | some e =>
    exfalso
    have : hk q = h0 q := F q (fun z => by
      rcases z with z | z
      · rw [z, hx] at hq; cases hq
      · rw [z] at hc; cases hc)
    rw [hq, hc] at this
    cases this
theorem fx_x {h : AH} {x : Nat} {y : va_E} : Frm (frX h x) h (hu h x y) := hu_frm.mono (fun _ e => Or.inl e)
theorem fx_new {h : AH} {x q : Nat} {y : va_E} (hq : h q = none) : Frm (frX h x) h (hu h q y) := hu_frm.mono (fun _ e => Or.inr (by rw [e]; exact hq))
section FX
variable {o : Om} {h h' : AH} {A B P : Qd} {L M : List Rw} {pl : List Pn} {x : Nat} {fs : List Value}
theorem nfx {q : Nat} {e : va_E} (hx : h x = some (.inr (9, fs))) (h1 : h q = some e) (h2 : kindG e) : ¬ frX h x q := by
  rintro (z | z)
  · rw [z, hx] at h1; cases h1; rcases h2 with h2 | h2 <;> cases h2
  · rw [z] at h1; cases h1
theorem RA.fx (hA : RA o h A L) (hx : h x = some (.inr (9, fs))) (F : Frm (frX h x) h h') : RA o h' A L := hA.frm (fun q hq => by
  obtain ⟨e, h1, h2⟩ := hA.kind hq
  exact nfx hx h1 h2) F
theorem SA.fx {s : Nat} {S : Nat → Qd} {Ls : Nat → List Rw} (hS : SA o h s S Ls) (hx : h x = some (.inr (9, fs))) (F : Frm (frX h x) h h') : SA o h' s S Ls := by
  refine hS.frm ?_ (fun i hi q hq => ?_) F
  · obtain ⟨f, e, -⟩ := hS; exact nfx hx e trivial
  · obtain ⟨e, h1, h2⟩ := (hS.slot hi).kind hq
    exact nfx hx h1 h2
theorem PA.kind (hP : PA o h P pl) {q : Nat} (hq : ownP P q) : ∃ e, h q = some e ∧ kindG e := by
  obtain ⟨_, _, _, b1, b2, b3, b4, -⟩ := hP
  rcases hq with e | e | e | e <;> subst e
  · exact ⟨_, b1, Or.inr rfl⟩
  · exact ⟨_, b2, trivial⟩
  · exact ⟨_, b3, trivial⟩
  · exact ⟨_, b4, trivial⟩
theorem PA.fx (hP : PA o h P pl) (hx : h x = some (.inr (9, fs))) (F : Frm (frX h x) h h') : PA o h' P pl := hP.frm (fun q hq => by
  obtain ⟨e, h1, h2⟩ := hP.kind hq
  exact nfx hx h1 h2) F
theorem inl_fx {q : Nat} {e : ClassId × vp_A} (he : h q = some (.inl e)) (hx : h x = some (.inr (9, fs))) (F : Frm (frX h x) h h') : h' q = some (.inl e) := (F q (nfx hx he trivial)).trans he
theorem Dj.fr (hA : RA o h A L) (hB : ∀ q, ownA B q → h q = none) : Dj A B := by
  obtain ⟨f, g, a1, a2, a3, -⟩ := hA
  refine ⟨fun e => ?_, fun e => ?_, fun e => ?_⟩
  · have := hB B.1 (Or.inl rfl); rw [← e, a1] at this; cases this
  · have := hB B.2.1 (Or.inr (Or.inl rfl)); rw [← e, a2] at this; cases this
  · have := hB B.2.2.1 (Or.inr (Or.inr rfl)); rw [← e, a3] at this; cases this
theorem PD.fr (hA : RA o h A L) (hB : ∀ q, ownP P q → h q = none) : PD P A := by
  obtain ⟨f, g, a1, a2, a3, -⟩ := hA
  refine ⟨fun e => ?_, fun e => ?_, fun e => ?_⟩
  · have := hB P.2.1 (Or.inr (Or.inl rfl)); rw [e, a2] at this; cases this
  · have := hB P.2.2.1 (Or.inr (Or.inr (Or.inl rfl))); rw [e, a2] at this; cases this
  · have := hB P.2.2.2 (Or.inr (Or.inr (Or.inr rfl))); rw [e, a2] at this; cases this
end FX
def FrN (h h' : AH) : Prop := ∀ q, h q ≠ none → h' q = h q
theorem FrN.fx {h h' : AH} {x : Nat} (F : FrN h h') : Frm (frX h x) h h' := fun q hq => F q (fun z => hq (Or.inr z))
set_option maxHeartbeats 4000000 in
set_option maxRecDepth 100000 in
/-- emptySlots -/
theorem c_DV_emptySlots (l : Launch) (o : Om) (h : AH)  : Mt l o yDV_emptySlots cDV_emptySlots 2 (some (.array (.object "DeltaViews$Rows"))) ({ frames := 2, cells := 40, slots := 1300, locals := 45 } : Room) [] h (QR o (fun u => ∃ S : Nat → Qd, SA o u.1 u.2 S (fun _ => []) ∧ (∀ i, i < 13 → (S i).2.2.2 = capOf i) ∧ (∀ i, i < 13 → ∀ j, j < 13 → i ≠ j → Dj (S i) (S j)) ∧ (∀ i, i < 13 → ∀ q, ownA (S i) q → h q = none) ∧ h u.2 = none ∧ FrN h u.1)) (40) (1300) := by
  refine Met.ofV (by decide) (Nat.le_of_ble_eq_true rfl) (fun K hl ho C => ?_)
  subst hl; subst ho
  have loop : ∀ (m i : Nat) (h1 : AH) (s : Nat) (fs : Nat → Option Nat) (S : Nat → Qd), 13 - i = m → i ≤ 13 → h1 s = some (.inl ((Ko K).2.1 2, 13, .inr (.inr (.inr (.inr fs))))) → (∀ k, k < i → fs k = some (S k).1 ∧ RA (Ko K) h1 (S k) [] ∧ (S k).2.2.2 = capOf k) → (∀ k, k < i → ∀ j, j < i → k ≠ j → Dj (S k) (S j)) → (∀ k, k < i → ∀ q, ownA (S k) q → h q = none) → h s = none → FrN h h1 → V K h1 (1 + 3 * i) (13 + 99 * i) (EndQ K (QR (Ko K) (fun u => ∃ S : Nat → Qd, SA (Ko K) u.1 u.2 S (fun _ => []) ∧ (∀ i, i < 13 → (S i).2.2.2 = capOf i) ∧ (∀ i, i < 13 → ∀ j, j < 13 → i ≠ j → Dj (S i) (S j)) ∧ (∀ i, i < 13 → ∀ q, ownA (S i) q → h q = none) ∧ h u.2 = none ∧ FrN h u.1)) 40 1300) 8 [(0, .ref s), (1, .int (nI i))] [] := by
    intro m
    induction m using Nat.strongRecOn with
    | _ m ih =>
      intro i h1 s fs S hm hi hs1 hk1 hdj hfr hs0 hF1
      refine r_iload_n (n := 9) C dDV_emptySlots_8 rfl rfl ?_
      refine r_aload_n (n := 10) C dDV_emptySlots_9 rfl rfl ?_
      refine r_qalen (t0 := 2) (n := 11) C dDV_emptySlots_10 rfl hs1 rfl ?_
      refine r_icmp_ge (tgt := 42) (n := 14) C dDV_emptySlots_11 (by decide) rfl (fun c_11 => ?_) (fun c_11 => ?_)
      · have hie : i = 13 := by have := (nI_leI (a := 13) (b := i) (by omega) (by omega)).mp c_11; omega
        refine r_aload_n (n := 43) C dDV_emptySlots_42 rfl rfl ?_
        exact r_aret C (Or.inr ⟨_, rfl⟩) dDV_emptySlots_43 (by omega) (by omega) ⟨S, ⟨fs, hs1, fun k hk => ⟨(hk1 k (by omega)).1, (hk1 k (by omega)).2.1⟩⟩, fun k hk => (hk1 k (by omega)).2.2, fun k hk j hj => hdj k (by omega) j (by omega), fun k hk => hfr k (by omega), hs0, hF1⟩
      · have hlt : i < 13 := by
          rcases Nat.lt_or_ge i 13 with q | q
          · exact q
          · exact absurd (nI_le (a := 13) (b := i) q (by omega)) c_11
        refine r_aload_n (n := 15) C dDV_emptySlots_14 rfl rfl ?_
        refine r_iload_n (n := 16) C dDV_emptySlots_15 rfl rfl ?_
        refine r_new (ci := 0) (fs := [.null, .null, .int 0]) (n := 19) C hinRW tyRW okRW tw_26 tw_28 tw_2 rfl (fun j hj => by rcases (show j = 0 ∨ j = 1 ∨ j = 2 by omega) with rfl | rfl | rfl <;> rfl) dDV_emptySlots_16 rfl (by show _ ≤ 40; omega) (by show _ ≤ 1300; omega) (fun a ha0 => ?_)
        have ha1 := hu_eq h1 a (.inr (0, [.null, .null, .int 0]))
        have hF2 : FrN h (hu h1 a (.inr (0, [.null, .null, .int 0]))) := fun q hq => by rw [hu_ne _ _ (fun e => hq (by have := hF1 q hq; rw [e, ha0] at this; rw [e]; exact this.symm))]; exact hF1 q hq
        have ha00 : h a = none := by cases hc : h a with | none => rfl | some e => exact absurd (hF1 a (by rw [hc]; exact fun z => by cases z)) (by rw [ha0, hc]; exact fun z => by cases z)
        have hsa : s ≠ a := fun e => by rw [e, ha0] at hs1; cases hs1
        have hs2 := (hu_ne h1 (.inr (0, [.null, .null, .int 0])) hsa).trans hs1
        have hk2 : ∀ k, k < i → RA (Ko K) (hu h1 a (.inr (0, [.null, .null, .int 0]))) (S k) [] := fun k hk => (hk1 k hk).2.1.frm (X := fun q => q = a) (fun q hq e => by obtain ⟨w, h2, -⟩ := (hk1 k hk).2.1.kind hq; rw [e, ha0] at h2; cases h2) hu_frm
        generalize eh2 : hu h1 a _ = h2 at ha1 hF2 hs2 hk2
        refine r_dup (n := 20) C dDV_emptySlots_19 rfl rfl ?_
        refine r_iload_n (n := 21) C dDV_emptySlots_20 rfl rfl ?_
        refine r_iconst (v := 3) (n := 22) C dDV_emptySlots_21 rfl (by decide) ?_
        refine r_icmp_ge (tgt := 30) (n := 25) C dDV_emptySlots_22 (by decide) rfl (fun c_22 => ?_) (fun c_22 => ?_)
        · have hge : ¬ i < 3 := by have := (nI_leI (a := 3) (b := i) (by omega) (by omega)).mp c_22; omega
          refine r_bipush (v := 24) (n := 32) C dDV_emptySlots_30 rfl (by decide) ?_
          refine r_cv (n := 35) (rn_I (z := 1) C (c_RW_init (Kl K) (Ko K) h2 a 24 ha1 (by omega)) tw_29 tw_30 tw_2 rfl tw_31 rfl rfl ndRW_init.2 ⟨Nat.le_of_ble_eq_true rfl, Nat.le_of_ble_eq_true rfl⟩ rfl rfl (Nat.le_of_ble_eq_true rfl) dDV_emptySlots_32 ⟨by show 1 + 3 * i + 1 + 2 ≤ 40; omega, by show 13 + 99 * i + 3 + 24 * 4 ≤ 1300; omega⟩) rfl (fun h3 hq => ?_)
          obtain ⟨v, w, hv0, hw0, hvw, hRA, hO⟩ := hq
          have hcap : capOf i = 24 := if_neg hge
          have hA3 : RA (Ko K) h3 (a, v, w, 24) [] := hRA
          have hk3 : ∀ k, k < i → RA (Ko K) h3 (S k) [] := fun k hk => (hk2 k hk).frm (fun q hq z => by
            obtain ⟨e, h4, -⟩ := (hk2 k hk).kind hq
            rcases z with z | z | z
            · have h5 := RA.kind (hk1 k hk).2.1 hq; obtain ⟨e5, h5, -⟩ := h5; rw [z] at h5; rw [show h1 a = none from ha0] at h5; cases h5
            · rw [z, hv0] at h4; cases h4
            · rw [z, hw0] at h4; cases h4) hO.frm
          have hs3 : h3 s = _ := (hO s hsa (fun e => by rw [e, hv0] at hs2; cases hs2) (fun e => by rw [e, hw0] at hs2; cases hs2)).trans hs2
          have hback : ∀ q, h2 q = none → h q = none := fun q hq => by cases hc : h q with | none => rfl | some e => exact absurd (hF2 q (by rw [hc]; exact fun z => by cases z)) (by rw [hq, hc]; exact fun z => by cases z)
          have hF3 : FrN h h3 := fun q hq => (hO q (fun e => hq (by rw [e]; exact ha00)) (fun e => hq (by rw [e]; exact hback v hv0)) (fun e => hq (by rw [e]; exact hback w hw0))).trans (hF2 q hq)
          have hb3 : h3 a = _ := hRA.choose_spec.choose_spec.1
          refine r_aast (n := 36) (t0 := 2) C dDV_emptySlots_35 rfl hs3 hb3 rfl rfl i rfl (by omega) (by omega) ?_
          obtain ⟨S1, hS1⟩ : ∃ S1 : Nat → Qd, S1 = fun k => if k = i then (a, v, w, 24) else S k := ⟨_, rfl⟩
          have hSi : S1 i = (a, v, w, 24) := by rw [hS1]; exact if_pos rfl
          have hSk : ∀ k, k ≠ i → S1 k = S k := fun k hk => by rw [hS1]; exact if_neg hk
          have hsn : ∀ A : Qd, RA (Ko K) h3 A [] → RA (Ko K) (hu h3 s (.inl ((Ko K).2.1 2, 13, .inr (.inr (.inr (.inr (va_up fs i (some a)))))))) A [] := fun A hA => hA.frm (X := fun q => q = s) (fun q hq e => nown_q hA hs3 (e ▸ hq)) hu_frm
          refine r_iinc (n := 39) C dDV_emptySlots_36 rfl rfl (nI_i i) (by decide) ?_
          refine r_goto (tgt := 8) C dDV_emptySlots_39 (by decide) ?_
          refine V.byk (ls' := [(0, .ref s), (1, .int (nI (i + 1)))]) rfl ?_
          refine V.widen (k := 1 + 3 * (i + 1)) (n := 13 + 99 * (i + 1)) (by omega) (by omega) ?_
          refine ih _ (by omega) (i + 1) _ s (va_up fs i (some a)) S1 rfl (by omega) (hu_eq _ _ _) (fun k hk => ?_) (fun k hk j hj hkj => ?_) (fun k hk q hq => ?_) hs0 (fun q hq => ?_)
          · by_cases e : k = i
            · subst e
              rw [hSi]
              exact ⟨va_up_self _ _ _, hsn _ hA3, hcap.symm⟩
            · rw [hSk k e, va_up_ne _ _ e]
              exact ⟨(hk1 k (by omega)).1, hsn _ (hk3 k (by omega)), (hk1 k (by omega)).2.2⟩
          · have hnewfr : ∀ q, ownA (a, v, w, 24) q → h q = none := fun q hq => by
              rcases hq with e | e | e <;> rw [e]
              · exact ha00
              · exact hback v hv0
              · exact hback w hw0
            have hdjn : ∀ k, k < i → Dj (S k) (a, v, w, 24) := fun k hk => by
              obtain ⟨f5, g5, b1, b2, b3, -⟩ := hk2 k hk
              refine ⟨fun e => ?_, fun e => ?_, fun e => ?_⟩
              · obtain ⟨f6, g6, b6, -⟩ := (hk1 k hk).2.1; rw [e] at b6; rw [show h1 (a, v, w, 24).1 = none from ha0] at b6; cases b6
              · rw [e, show h2 (a, v, w, 24).2.1 = none from hv0] at b2; cases b2
              · rw [e, show h2 (a, v, w, 24).2.2.1 = none from hw0] at b3; cases b3
            by_cases e1 : k = i
            · have e2 : j ≠ i := fun z => hkj (e1.trans z.symm)
              rw [e1, hSi, hSk j e2]
              exact (hdjn j (by omega)).symm
            · by_cases e2 : j = i
              · rw [e2, hSi, hSk k e1]
                exact hdjn k (by omega)
              · rw [hSk k e1, hSk j e2]
                exact hdj k (by omega) j (by omega) hkj
          · by_cases e : k = i
            · rw [e, hSi] at hq
              rcases hq with e | e | e <;> rw [e]
              · exact ha00
              · exact hback v hv0
              · exact hback w hw0
            · rw [hSk k e] at hq
              exact hfr k (by omega) q hq
          · rw [hu_ne _ _ (fun e => hq (by rw [e]; exact hs0))]; exact hF3 q hq
        · have hge : i < 3 := by
            rcases Nat.lt_or_ge i 3 with q | q
            · exact q
            · exact absurd (nI_le (a := 3) (b := i) q (by omega)) c_22
          refine r_bipush (v := 12) (n := 27) C dDV_emptySlots_25 rfl (by decide) ?_
          refine r_goto (tgt := 32) C dDV_emptySlots_27 (by decide) ?_
          refine r_cv (n := 35) (rn_I (z := 1) C (c_RW_init (Kl K) (Ko K) h2 a 12 ha1 (by omega)) tw_29 tw_30 tw_2 rfl tw_31 rfl rfl ndRW_init.2 ⟨Nat.le_of_ble_eq_true rfl, Nat.le_of_ble_eq_true rfl⟩ rfl rfl (Nat.le_of_ble_eq_true rfl) dDV_emptySlots_32 ⟨by show 1 + 3 * i + 1 + 2 ≤ 40; omega, by show 13 + 99 * i + 3 + 12 * 4 ≤ 1300; omega⟩) rfl (fun h3 hq => ?_)
          obtain ⟨v, w, hv0, hw0, hvw, hRA, hO⟩ := hq
          have hcap : capOf i = 12 := if_pos hge
          have hA3 : RA (Ko K) h3 (a, v, w, 12) [] := hRA
          have hk3 : ∀ k, k < i → RA (Ko K) h3 (S k) [] := fun k hk => (hk2 k hk).frm (fun q hq z => by
            obtain ⟨e, h4, -⟩ := (hk2 k hk).kind hq
            rcases z with z | z | z
            · have h5 := RA.kind (hk1 k hk).2.1 hq; obtain ⟨e5, h5, -⟩ := h5; rw [z] at h5; rw [show h1 a = none from ha0] at h5; cases h5
            · rw [z, hv0] at h4; cases h4
            · rw [z, hw0] at h4; cases h4) hO.frm
          have hs3 : h3 s = _ := (hO s hsa (fun e => by rw [e, hv0] at hs2; cases hs2) (fun e => by rw [e, hw0] at hs2; cases hs2)).trans hs2
          have hback : ∀ q, h2 q = none → h q = none := fun q hq => by cases hc : h q with | none => rfl | some e => exact absurd (hF2 q (by rw [hc]; exact fun z => by cases z)) (by rw [hq, hc]; exact fun z => by cases z)
          have hF3 : FrN h h3 := fun q hq => (hO q (fun e => hq (by rw [e]; exact ha00)) (fun e => hq (by rw [e]; exact hback v hv0)) (fun e => hq (by rw [e]; exact hback w hw0))).trans (hF2 q hq)
          have hb3 : h3 a = _ := hRA.choose_spec.choose_spec.1
          refine r_aast (n := 36) (t0 := 2) C dDV_emptySlots_35 rfl hs3 hb3 rfl rfl i rfl (by omega) (by omega) ?_
          obtain ⟨S1, hS1⟩ : ∃ S1 : Nat → Qd, S1 = fun k => if k = i then (a, v, w, 12) else S k := ⟨_, rfl⟩
          have hSi : S1 i = (a, v, w, 12) := by rw [hS1]; exact if_pos rfl
          have hSk : ∀ k, k ≠ i → S1 k = S k := fun k hk => by rw [hS1]; exact if_neg hk
          have hsn : ∀ A : Qd, RA (Ko K) h3 A [] → RA (Ko K) (hu h3 s (.inl ((Ko K).2.1 2, 13, .inr (.inr (.inr (.inr (va_up fs i (some a)))))))) A [] := fun A hA => hA.frm (X := fun q => q = s) (fun q hq e => nown_q hA hs3 (e ▸ hq)) hu_frm
          refine r_iinc (n := 39) C dDV_emptySlots_36 rfl rfl (nI_i i) (by decide) ?_
          refine r_goto (tgt := 8) C dDV_emptySlots_39 (by decide) ?_
          refine V.byk (ls' := [(0, .ref s), (1, .int (nI (i + 1)))]) rfl ?_
          refine V.widen (k := 1 + 3 * (i + 1)) (n := 13 + 99 * (i + 1)) (by omega) (by omega) ?_
          refine ih _ (by omega) (i + 1) _ s (va_up fs i (some a)) S1 rfl (by omega) (hu_eq _ _ _) (fun k hk => ?_) (fun k hk j hj hkj => ?_) (fun k hk q hq => ?_) hs0 (fun q hq => ?_)
          · by_cases e : k = i
            · subst e
              rw [hSi]
              exact ⟨va_up_self _ _ _, hsn _ hA3, hcap.symm⟩
            · rw [hSk k e, va_up_ne _ _ e]
              exact ⟨(hk1 k (by omega)).1, hsn _ (hk3 k (by omega)), (hk1 k (by omega)).2.2⟩
          · have hnewfr : ∀ q, ownA (a, v, w, 12) q → h q = none := fun q hq => by
              rcases hq with e | e | e <;> rw [e]
              · exact ha00
              · exact hback v hv0
              · exact hback w hw0
            have hdjn : ∀ k, k < i → Dj (S k) (a, v, w, 12) := fun k hk => by
              obtain ⟨f5, g5, b1, b2, b3, -⟩ := hk2 k hk
              refine ⟨fun e => ?_, fun e => ?_, fun e => ?_⟩
              · obtain ⟨f6, g6, b6, -⟩ := (hk1 k hk).2.1; rw [e] at b6; rw [show h1 (a, v, w, 12).1 = none from ha0] at b6; cases b6
              · rw [e, show h2 (a, v, w, 12).2.1 = none from hv0] at b2; cases b2
              · rw [e, show h2 (a, v, w, 12).2.2.1 = none from hw0] at b3; cases b3
            by_cases e1 : k = i
            · have e2 : j ≠ i := fun z => hkj (e1.trans z.symm)
              rw [e1, hSi, hSk j e2]
              exact (hdjn j (by omega)).symm
            · by_cases e2 : j = i
              · rw [e2, hSi, hSk k e1]
                exact hdjn k (by omega)
              · rw [hSk k e1, hSk j e2]
                exact hdj k (by omega) j (by omega) hkj
          · by_cases e : k = i
            · rw [e, hSi] at hq
              rcases hq with e | e | e <;> rw [e]
              · exact ha00
              · exact hback v hv0
              · exact hback w hw0
            · rw [hSk k e] at hq
              exact hfr k (by omega) q hq
          · rw [hu_ne _ _ (fun e => hq (by rw [e]; exact hs0))]; exact hF3 q hq
  refine r_bipush (v := 13) (n := 2) C dDV_emptySlots_0 rfl (by decide) ?_
  refine r_newq (t0 := 2) (n := 5) C tw_26 C.2.2.2.2.2.2.2.2.1 rfl dDV_emptySlots_2 rfl (show (13 : Int32) = nI 13 from rfl) (by decide) (Nat.le_of_ble_eq_true rfl) (Nat.le_of_ble_eq_true rfl) (fun s hs0 => ?_)
  refine r_astore_n (n := 6) C dDV_emptySlots_5 rfl (by decide) ?_
  refine r_iconst (v := 0) (n := 7) C dDV_emptySlots_6 rfl (by decide) ?_
  refine r_istore_n (n := 8) C dDV_emptySlots_7 rfl (by decide) ?_
  refine V.byk (ls' := [(0, .ref s), (1, .int (nI 0))]) rfl ?_
  exact loop _ 0 _ s (fun _ => none) (fun _ => (0, 0, 0, 0)) rfl (by omega) (hu_eq _ _ _) (fun k hk => absurd hk (Nat.not_lt_zero _)) (fun k hk => absurd hk (Nat.not_lt_zero _)) (fun k hk => absurd hk (Nat.not_lt_zero _)) hs0 (fun q hq => hu_ne _ _ (fun e => hq (by rw [e]; exact hs0)))
