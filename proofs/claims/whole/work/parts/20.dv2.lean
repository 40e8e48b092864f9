/-! DELTAVIEWS: gatherTable, the tests before a step, the changes noted, make -/
def kindG (e : va_E) : Prop := match e with
  | .inr q => q.1 = 0 ∨ q.1 = 1
  | .inl _ => True
section DBK
variable {o : Om} {h h' : AH} {G : Gh} {Ls Ns : Nat → List Rw} {wl : List Rw} {pl : List Pn} {rf : Nat → Option Nat} {cf : Nat → Int32} {Rl : List Ru} {X : Nat → Prop}
theorem RA.kind {A : Qd} {L : List Rw} (hA : RA o h A L) {q : Nat} (hq : ownA A q) : ∃ e, h q = some e ∧ kindG e := by
  obtain ⟨f, g, a1, a2, a3, -⟩ := hA
  rcases hq with e | e | e <;> subst e
  · exact ⟨_, a1, Or.inl rfl⟩
  · exact ⟨_, a2, trivial⟩
  · exact ⟨_, a3, trivial⟩
theorem DB.kind (hd : DB o h G Ls Ns wl pl rf cf Rl) {q : Nat} (hq : ownG G q) : ∃ e, h q = some e ∧ kindG e := by
  obtain ⟨d1, d2, d3, d4, d5, d6, d7⟩ := hd
  rcases hq with e | e | e | e | e | e | ⟨i, hi, e⟩ | ⟨i, hi, e⟩
  · obtain ⟨fs, e1, -⟩ := d1; subst e; exact ⟨_, e1, trivial⟩
  · obtain ⟨fs, e1, -⟩ := d2; subst e; exact ⟨_, e1, trivial⟩
  · subst e; exact ⟨_, d5, trivial⟩
  · subst e; exact ⟨_, d6, trivial⟩
  · exact d3.kind e
  · obtain ⟨_, _, _, b1, b2, b3, b4, -⟩ := d4
    rcases e with e | e | e | e <;> subst e
    · exact ⟨_, b1, Or.inr rfl⟩
    · exact ⟨_, b2, trivial⟩
    · exact ⟨_, b3, trivial⟩
    · exact ⟨_, b4, trivial⟩
  · exact (d1.slot hi).kind e
  · exact (d2.slot hi).kind e
theorem DB.frm (hd : DB o h G Ls Ns wl pl rf cf Rl) (hX : ∀ q, ownG G q → ¬ X q) (hr : ∀ (a ci : Nat) (fs : List Value), h a = some (.inr (ci, fs)) → ci ≠ 0 → ci ≠ 1 → ci ≠ 9 → ci ≠ 10 → ¬ X a) (hf : Frm X h h') : DB o h' G Ls Ns wl pl rf cf Rl := by
  obtain ⟨d1, d2, d3, d4, d5, d6, d7⟩ := hd
  exact ⟨d1.frm (hX _ (Or.inl rfl)) (fun i hi q hq => hX q (ownG.S hi hq)) hf, d2.frm (hX _ (Or.inr (Or.inl rfl))) (fun i hi q hq => hX q (Or.inr (Or.inr (Or.inr (Or.inr (Or.inr (Or.inr (Or.inr ⟨i, hi, hq⟩)))))))) hf, d3.frm (fun q hq => hX q (ownG.wk hq)) hf, d4.frm (fun q hq => hX q (ownG.P hq)) hf, (hf _ (hX _ (Or.inr (Or.inr (Or.inl rfl))))).trans d5, (hf _ (hX _ (Or.inr (Or.inr (Or.inr (Or.inl rfl)))))).trans d6, d7.frm hr hf⟩
/-- a change of the object's own cell -/
theorem DB.own9 (hd : DB o h G Ls Ns wl pl rf cf Rl) {x : Nat} {fs : List Value} (hx : h x = some (.inr (9, fs))) (y : va_E) : DB o (hu h x y) G Ls Ns wl pl rf cf Rl := hd.frm (X := fun q => q = x) (fun q hq e => by
  obtain ⟨w, h1, h2⟩ := hd.kind hq
  rw [e, hx] at h1
  cases h1
  rcases h2 with h2 | h2 <;> cases h2) (fun a ci fs' ha _ _ n9 _ e => by
  rw [e, hx] at ha
  simp at ha
  exact n9 ha.1.symm) hu_frm
/-- a new cell -/
theorem DB.fresh (hd : DB o h G Ls Ns wl pl rf cf Rl) {x : Nat} (hx : h x = none) (y : va_E) : DB o (hu h x y) G Ls Ns wl pl rf cf Rl := hd.frm (X := fun q => q = x) (fun q hq e => by
  obtain ⟨w, h1, h2⟩ := hd.kind hq
  rw [e, hx] at h1
  cases h1) (fun a ci fs' ha _ _ n9 _ e => by
  rw [e, hx] at ha
  cases ha) hu_frm
theorem DB.ch (hd : DB o h G Ls Ns wl pl rf cf Rl) (g : GD G) (cf' : Nat → Int32) : DB o (hu h (gch G) (.inl (o.2.1 0, 10, .inl cf'))) G Ls Ns wl pl rf cf' Rl := by
  obtain ⟨d1, d2, d3, d4, d5, d6, d7⟩ := hd
  obtain ⟨a1, a2, a3, a4, a5, a6, a7, a8, ⟨a9, a10, a11, a12⟩, ⟨a13, a14, a15⟩, a16, a17, a18⟩ := g
  have hf := hu_frm (h := h) (a := gch G) (x := .inl (o.2.1 0, 10, .inl cf'))
  refine ⟨d1.frm (X := fun q => q = gch G) ?_ (fun i hi q hq e => ?_) hf, d2.frm (X := fun q => q = gch G) ?_ (fun i hi q hq e => ?_) hf, d3.frm (X := fun q => q = gch G) (fun q hq e => ?_) hf, d4.frm (X := fun q => q = gch G) (fun q hq e => a12 (e ▸ hq)) hf, (hf _ (fun e => ?_)).trans d5, hu_eq _ _ _, d7.frm (X := fun q => q = gch G) (fun a ci fs he n0 _ _ _ e => ?_) hf⟩
  · obtain ⟨fs, e1, -⟩ := d1; intro e; rw [e, d6] at e1; simp at e1
  · exact nown_i (d1.slot hi) d6 (a10 i hi) (e ▸ hq)
  · obtain ⟨fs, e1, -⟩ := d2; intro e; rw [e, d6] at e1; simp at e1
  · exact nown_i (d2.slot hi) d6 (a11 i hi) (e ▸ hq)
  · exact nown_i d3 d6 a9 (e ▸ hq)
  · rw [e, d6] at d5; simp at d5
  · rw [e, d6] at he; simp at he
theorem DB.ru (hd : DB o h G Ls Ns wl pl rf cf Rl) (g : GD G) (rf' : Nat → Option Nat) (Rl' : List Ru) (hR : RL h rf' Rl') : DB o (hu h (gru G) (.inl (o.2.1 3, 10, .inr (.inr (.inr (.inr rf')))))) G Ls Ns wl pl rf' cf Rl' := by
  obtain ⟨d1, d2, d3, d4, d5, d6, d7⟩ := hd
  obtain ⟨a1, a2, a3, a4, a5, a6, a7, a8, ⟨a9, a10, a11, a12⟩, ⟨a13, a14, a15⟩, a16, a17, a18⟩ := g
  have hf := hu_frm (h := h) (a := gru G) (x := .inl (o.2.1 3, 10, .inr (.inr (.inr (.inr rf')))))
  refine ⟨d1.frm (X := fun q => q = gru G) (Ne.symm a14) (fun i hi q hq e => ?_) hf, d2.frm (X := fun q => q = gru G) (Ne.symm a15) (fun i hi q hq e => ?_) hf, d3.frm (X := fun q => q = gru G) (fun q hq e => ?_) hf, d4.frm (X := fun q => q = gru G) (fun q hq e => nownP_q d4 d5 (e ▸ hq)) hf, hu_eq _ _ _, (hf _ (fun e => ?_)).trans d6, hR.frm (X := fun q => q = gru G) (fun a ci fs he n0 _ _ _ e => ?_) hf⟩
  · exact nown_q (d1.slot hi) d5 (e ▸ hq)
  · exact nown_q (d2.slot hi) d5 (e ▸ hq)
  · exact nown_q d3 d5 (e ▸ hq)
  · rw [e, d5] at d6; simp at d6
  · rw [e, d5] at he; simp at he
theorem SA.len {s : Nat} {S : Nat → Qd} (hS : SA o h s S Ls) {i : Nat} (hi : i < 13) (hc : (S i).2.2.2 = capOf i) : (Ls i).length ≤ capOf i := by
  obtain ⟨_, _, _, _, _, hl, _⟩ := hS.slot hi
  rw [← hc]; exact hl
end DBK
theorem capOf_le (i : Nat) : capOf i ≤ 24 := by unfold capOf; split <;> omega
set_option maxHeartbeats 4000000 in
set_option maxRecDepth 100000 in
/-- gatherTable -/
theorem c_DV_gatherTable (l : Launch) (o : Om) (h : AH) (x t : Nat) (nn : Int32) (G : Gh) (Ls Ns : Nat → List Rw) (wl : List Rw) (pl : List Pn) (rf : Nat → Option Nat) (cf : Nat → Int32) (Rl : List Ru) (hd : DB o h G Ls Ns wl pl rf cf Rl) (g : GD G) (hx : DX h x G nn) (ht : t < 3) (hsrt : ∀ i, i < 13 → Srt (Ls i)) : Mt l o yDV_gatherTable cDV_gatherTable 2 none ({ frames := 4, cells := 0, slots := 0, locals := 125 } : Room) [.ref x, .int (nI t)] h (QV o (fun h' => DB o h' G Ls Ns (addP (nI t) (Ls t) pl) pl rf cf Rl ∧ h' x = h x ∧ Frm (ownG G) h h')) (0) (0) := by
  refine Met.ofV (by decide) (Nat.le_of_ble_eq_true rfl) (fun K hl ho C => ?_)
  subst hl; subst ho
  obtain ⟨fs0, hs0, hsl⟩ := hd.1
  unfold DX at hx
  obtain ⟨fw, gw, hRw⟩ := hd.2.2.1
  obtain ⟨fi, gi, hRi⟩ := (hsl t (by omega)).2
  have hll := hd.1.len (i := t) (by omega) (g.2.2.2.2.2.2.2.2.2.2.2.1 t (by omega))
  have hc24 := capOf_le t
  have hcw : (gwk G).2.2.2 = 576 := g.2.2.2.2.2.2.2.2.2.2.1
  have hpl : pl.length ≤ 12 := by obtain ⟨_, _, _, _, _, _, _, hl, _⟩ := hd.2.2.2.1; exact hl
  refine r_aload_n (n := 1) C dDV_gatherTable_0 rfl rfl ?_
  refine r_get (ci := 9) (n := 4) C hinDV rfl 2 (by decide) tw_68 rfl dDV_gatherTable_1 rfl hx rfl ?_
  refine r_aload_n (n := 5) C dDV_gatherTable_4 rfl rfl ?_
  refine r_get (ci := 9) (n := 8) C hinDV rfl 0 (by decide) tw_66 rfl dDV_gatherTable_5 rfl hx rfl ?_
  refine r_iload_n (n := 9) C dDV_gatherTable_8 rfl rfl ?_
  refine r_aald (n := 10) (t0 := 2) C dDV_gatherTable_9 rfl hs0 rfl t rfl (by omega) (by omega) (hsl t (by omega)).1 ?_
  refine r_cv (n := 13) (rn_V (z := 1) (ci := 0) (T := TRW) C (c_RW_copyFrom (Kl K) (Ko K) h (gwk G) fw gw wl (gS G t) fi gi (Ls t) hRw hRi (g.2.2.2.1 t (by omega)) (by omega)) tw_289 tw_134 tw_135 tw_2 tw_136 rfl rfl ndRW_copyFrom ⟨Nat.le_of_ble_eq_true rfl, Nat.le_of_ble_eq_true rfl⟩ hRw.1 rfl rfl rfl (Nat.le_of_ble_eq_true rfl) dDV_gatherTable_10 ⟨Nat.le_of_ble_eq_true rfl, Nat.le_of_ble_eq_true rfl⟩) rfl (fun h1 hq => ?_)
  obtain ⟨f1, g1, hR1, hO1⟩ := hq
  have hx1 := hd.x_wk hx hO1.frm
  have hd1 := hd.wk g hO1.frm ⟨f1, g1, hR1⟩
  obtain ⟨pt, pv, pb, hP1⟩ := hd1.2.2.2.1
  refine r_aload_n (n := 14) C dDV_gatherTable_13 rfl rfl ?_
  refine r_get (ci := 9) (n := 17) C hinDV rfl 3 (by decide) tw_69 rfl dDV_gatherTable_14 rfl hx1 rfl ?_
  refine r_aload_n (n := 18) C dDV_gatherTable_17 rfl rfl ?_
  refine r_get (ci := 9) (n := 21) C hinDV rfl 2 (by decide) tw_68 rfl dDV_gatherTable_18 rfl hx1 rfl ?_
  refine r_iload_n (n := 22) C dDV_gatherTable_21 rfl rfl ?_
  refine r_cv (n := 25) (rn_V (z := 2) (ci := 1) (T := TPD) C (c_PD_addTo (Kl K) (Ko K) h1 (gP G) pt pv pb pl (gwk G) f1 g1 (Ls t) (nI t) hP1 hR1 g.2.2.2.2.2.1 (hsrt t (by omega)) (by omega)) tw_448 tw_449 tw_450 tw_3 tw_451 rfl rfl ndPD_addTo ⟨Nat.le_of_ble_eq_true rfl, Nat.le_of_ble_eq_true rfl⟩ hP1.1 rfl rfl rfl (Nat.le_of_ble_eq_true rfl) dDV_gatherTable_22 ⟨Nat.le_of_ble_eq_true rfl, Nat.le_of_ble_eq_true rfl⟩) rfl (fun h2 hq => ?_)
  obtain ⟨f2, g2, hR2, hO2⟩ := hq
  exact r_vret C dDV_gatherTable_25 (Nat.le_refl _) (Nat.le_refl _) ⟨hd1.wk g hO2.frm ⟨f2, g2, hR2⟩, (hd1.x_wk hx1 hO2.frm).trans hx.symm, (hO1.frm.tr hO2.frm).mono (fun _ => ownG.wk)⟩
def negT (Ls : Nat → List Rw) (pl : List Pn) (t : Nat) : Bool := (addP (nI t) (Ls t) pl).any (fun r => decide (r.2 < 0))
def negA (Ls : Nat → List Rw) (pl : List Pn) : Bool := negT Ls pl 0 || (negT Ls pl 1 || negT Ls pl 2)
theorem negA_f {Ls : Nat → List Rw} {pl : List Pn} (h : ∀ t, t < 3 → negT Ls pl t = false) : negA Ls pl = false := by
  unfold negA; rw [h 0 (by omega), h 1 (by omega), h 2 (by omega)]; rfl
theorem negA_t {Ls : Nat → List Rw} {pl : List Pn} {t : Nat} (ht : t < 3) (h : negT Ls pl t = true) : negA Ls pl = true := by
  unfold negA
  rcases (show t = 0 ∨ t = 1 ∨ t = 2 by omega) with e | e | e <;> subst e <;> rw [h] <;> simp
set_option maxHeartbeats 4000000 in
set_option maxRecDepth 100000 in
/-- wouldFallBelowZero -/
theorem c_DV_wouldFallBelowZero (l : Launch) (o : Om) (h : AH) (x : Nat) (nn : Int32) (G : Gh) (Ls Ns : Nat → List Rw) (wl : List Rw) (pl : List Pn) (rf : Nat → Option Nat) (cf : Nat → Int32) (Rl : List Ru) (hd : DB o h G Ls Ns wl pl rf cf Rl) (g : GD G) (hx : DX h x G nn) (hsrt : ∀ i, i < 13 → Srt (Ls i)) : Mt l o yDV_wouldFallBelowZero cDV_wouldFallBelowZero 2 (some .boolean) ({ frames := 5, cells := 0, slots := 0, locals := 146 } : Room) [.ref x] h (QI o (fun r h' => ∃ wl', r = b01 (negA Ls pl) ∧ DB o h' G Ls Ns wl' pl rf cf Rl ∧ h' x = h x ∧ Frm (ownG G) h h')) (0) (0) := by
  refine Met.ofV (by decide) (Nat.le_of_ble_eq_true rfl) (fun K hl ho C => ?_)
  subst hl; subst ho
  have loop : ∀ (m t : Nat) (h1 : AH) (wl1 : List Rw), 3 - t = m → t ≤ 3 → DB (Ko K) h1 G Ls Ns wl1 pl rf cf Rl → h1 x = h x → Frm (ownG G) h h1 → (∀ t', t' < t → negT Ls pl t' = false) → V K h1 0 0 (EndQ K (QI (Ko K) (fun r h' => ∃ wl', r = b01 (negA Ls pl) ∧ DB (Ko K) h' G Ls Ns wl' pl rf cf Rl ∧ h' x = h x ∧ Frm (ownG G) h h')) 0 0) 2 [(0, .ref x), (1, .int (nI t))] [] := by
    intro m
    induction m using Nat.strongRecOn with
    | _ m ih =>
      intro t h1 wl1 hm ht hd1 hx1 hF1 hneg
      have hxx : DX h1 x G nn := hx1.trans hx
      have hbx : h1 x = _ := hxx
      refine r_iload_n (n := 3) C dDV_wouldFallBelowZero_2 rfl rfl ?_
      refine r_iconst (v := 3) (n := 4) C dDV_wouldFallBelowZero_3 rfl (by decide) ?_
      refine r_icmp_ge (tgt := 30) (n := 7) C dDV_wouldFallBelowZero_4 (by decide) rfl (fun c_4 => ?_) (fun c_4 => ?_)
      · have hie : t = 3 := by have := (nI_leI (a := 3) (b := t) (by omega) (by omega)).mp c_4; omega
        refine r_iconst (v := 0) (n := 31) C dDV_wouldFallBelowZero_30 rfl (by decide) ?_
        exact r_zret C dDV_wouldFallBelowZero_31 rfl (Nat.le_refl _) (Nat.le_refl _) ⟨wl1, by rw [negA_f (fun t0 h0 => hneg t0 (by omega))]; rfl, hd1, hx1, hF1⟩
      · have hlt : t < 3 := by
          rcases Nat.lt_or_ge t 3 with q | q
          · exact q
          · exact absurd (nI_le (a := 3) (b := t) q (by omega)) c_4
        refine r_aload_n (n := 8) C dDV_wouldFallBelowZero_7 rfl rfl ?_
        refine r_iload_n (n := 9) C dDV_wouldFallBelowZero_8 rfl rfl ?_
        refine r_cv (n := 12) (rn_V (z := 1) (ci := 9) (T := TDV) C (c_DV_gatherTable (Kl K) (Ko K) h1 x t nn G Ls Ns wl1 pl rf cf Rl hd1 g hxx hlt hsrt) tw_444 tw_446 ts_15 tw_1 tw_447 rfl rfl ndDV_gatherTable ⟨Nat.le_of_ble_eq_true rfl, Nat.le_of_ble_eq_true rfl⟩ hbx rfl rfl rfl (Nat.le_of_ble_eq_true rfl) dDV_wouldFallBelowZero_9 ⟨Nat.le_of_ble_eq_true rfl, Nat.le_of_ble_eq_true rfl⟩) rfl (fun h2 hq => ?_)
        obtain ⟨hd2, hx2, hF2⟩ := hq
        obtain ⟨fw, gw, hRw⟩ := hd2.2.2.1
        have hbx2 : h2 x = _ := hx2.trans hxx
        refine r_aload_n (n := 13) C dDV_wouldFallBelowZero_12 rfl rfl ?_
        refine r_get (ci := 9) (n := 16) C hinDV rfl 2 (by decide) tw_68 rfl dDV_wouldFallBelowZero_13 rfl hbx2 rfl ?_
        refine r_ci (n := 19) (rn_V (z := 0) (ci := 0) (T := TRW) C (c_RW_hasBelowZero (Kl K) (Ko K) h2 (gwk G) fw gw _ hRw) tw_453 tw_454 tw_455 tw_2 tw_456 rfl rfl ndRW_hasBelowZero ⟨Nat.le_of_ble_eq_true rfl, Nat.le_of_ble_eq_true rfl⟩ hRw.1 rfl rfl rfl (Nat.le_of_ble_eq_true rfl) dDV_wouldFallBelowZero_16 ⟨Nat.le_of_ble_eq_true rfl, Nat.le_of_ble_eq_true rfl⟩) rfl (fun y ah hq => ?_)
        obtain ⟨e1, e2⟩ := hq
        subst e1
        rw [e2]
        refine r_if_eq (tgt := 24) (n := 22) C dDV_wouldFallBelowZero_19 (by decide) rfl (fun c_19 => ?_) (fun c_19 => ?_)
        · have hz : negT Ls pl t = false := b01_f c_19
          refine r_iinc (n := 27) C dDV_wouldFallBelowZero_24 rfl rfl (nI_i t) (by decide) ?_
          refine r_goto (tgt := 2) C dDV_wouldFallBelowZero_27 (by decide) ?_
          refine V.byk (ls' := [(0, .ref x), (1, .int (nI (t + 1)))]) rfl ?_
          exact ih _ (by omega) (t + 1) h2 _ rfl (by omega) hd2 (hx2.trans hx1) (hF1.tr hF2) (lt_s hneg hz)
        · have hz : negT Ls pl t = true := b01_t c_19
          refine r_iconst (v := 1) (n := 23) C dDV_wouldFallBelowZero_22 rfl (by decide) ?_
          exact r_zret C dDV_wouldFallBelowZero_23 rfl (Nat.le_refl _) (Nat.le_refl _) ⟨_, by rw [negA_t hlt hz]; rfl, hd2, hx2.trans hx1, hF1.tr hF2⟩
  refine r_iconst (v := 0) (n := 1) C dDV_wouldFallBelowZero_0 rfl (by decide) ?_
  refine r_istore_n (n := 2) C dDV_wouldFallBelowZero_1 rfl (by decide) ?_
  refine V.byk (ls' := [(0, .ref x), (1, .int (nI 0))]) rfl ?_
  exact loop _ 0 h wl rfl (by omega) hd rfl Frm.rf (fun t0 h0 => absurd h0 (Nat.not_lt_zero _))
def newT (Ls : Nat → List Rw) (pl : List Pn) (t : Nat) : List Rw := nz (addP (nI t) (Ls t) pl)
def fitA (Ls : Nat → List Rw) (pl : List Pn) : Bool := fitB 12 (newT Ls pl 0) && (fitB 12 (newT Ls pl 1) && fitB 12 (newT Ls pl 2))
theorem fitA_t {Ls : Nat → List Rw} {pl : List Pn} (h : ∀ t, t < 3 → fitB 12 (newT Ls pl t) = true) : fitA Ls pl = true := by
  unfold fitA; rw [h 0 (by omega), h 1 (by omega), h 2 (by omega)]; rfl
theorem fitA_f {Ls : Nat → List Rw} {pl : List Pn} {t : Nat} (ht : t < 3) (h : fitB 12 (newT Ls pl t) = false) : fitA Ls pl = false := by
  unfold fitA
  rcases (show t = 0 ∨ t = 1 ∨ t = 2 by omega) with e | e | e <;> subst e <;> rw [h] <;> simp
theorem newT_srt {Ls : Nat → List Rw} {pl : List Pn} (hs : ∀ i, i < 13 → Srt (Ls i)) {t : Nat} (ht : t < 3) : Srt (newT Ls pl t) := nz_srt (addP_srt _ (hs t (by omega)))
theorem updL_srt {Ls : Nat → List Rw} {k : Nat} {N : List Rw} (hs : ∀ i, i < 13 → Srt (Ls i)) (hN : Srt N) : ∀ i, i < 13 → Srt (updL Ls k N i) := fun i hi => by
  unfold updL; split
  · exact hN
  · exact hs i hi
theorem swFrm {G : Gh} {h h' : AH} (hf : Frm (ownG (sw G)) h h') : Frm (ownG G) h h' := hf.mono (fun _ => ownG.sw)
set_option maxHeartbeats 4000000 in
set_option maxRecDepth 100000 in
/-- fillNextTables -/
theorem c_DV_fillNextTables (l : Launch) (o : Om) (h : AH) (x : Nat) (nn : Int32) (G : Gh) (Ls Ns : Nat → List Rw) (wl : List Rw) (pl : List Pn) (rf : Nat → Option Nat) (cf : Nat → Int32) (Rl : List Ru) (hd : DB o h G Ls Ns wl pl rf cf Rl) (g : GD G) (hx : DX h x G nn) (hsrt : ∀ i, i < 13 → Srt (Ls i)) (hsN : ∀ i, i < 13 → Srt (Ns i)) : Mt l o yDV_fillNextTables cDV_fillNextTables 2 (some .boolean) ({ frames := 5, cells := 0, slots := 0, locals := 146 } : Room) [.ref x] h (QI o (fun r h' => ∃ Ns' wl', r = b01 (fitA Ls pl) ∧ DB o h' G Ls Ns' wl' pl rf cf Rl ∧ (∀ i, i < 13 → Srt (Ns' i)) ∧ (fitA Ls pl = true → ∀ t, t < 3 → Ns' t = newT Ls pl t) ∧ h' x = h x ∧ Frm (ownG G) h h')) (0) (0) := by
  refine Met.ofV (by decide) (Nat.le_of_ble_eq_true rfl) (fun K hl ho C => ?_)
  subst hl; subst ho
  have loop : ∀ (m t : Nat) (h1 : AH) (wl1 : List Rw) (Ns1 : Nat → List Rw), 3 - t = m → t ≤ 3 → DB (Ko K) h1 G Ls Ns1 wl1 pl rf cf Rl → h1 x = h x → Frm (ownG G) h h1 → (∀ i, i < 13 → Srt (Ns1 i)) → (∀ t', t' < t → fitB 12 (newT Ls pl t') = true ∧ Ns1 t' = newT Ls pl t') → V K h1 0 0 (EndQ K (QI (Ko K) (fun r h' => ∃ Ns' wl', r = b01 (fitA Ls pl) ∧ DB (Ko K) h' G Ls Ns' wl' pl rf cf Rl ∧ (∀ i, i < 13 → Srt (Ns' i)) ∧ (fitA Ls pl = true → ∀ t, t < 3 → Ns' t = newT Ls pl t) ∧ h' x = h x ∧ Frm (ownG G) h h')) 0 0) 2 [(0, .ref x), (1, .int (nI t))] [] := by
    intro m
    induction m using Nat.strongRecOn with
    | _ m ih =>
      intro t h1 wl1 Ns1 hm ht hd1 hx1 hF1 hsN1 hfit
      have hxx : DX h1 x G nn := hx1.trans hx
      have hbx : h1 x = _ := hxx
      refine r_iload_n (n := 3) C dDV_fillNextTables_2 rfl rfl ?_
      refine r_iconst (v := 3) (n := 4) C dDV_fillNextTables_3 rfl (by decide) ?_
      refine r_icmp_ge (tgt := 33) (n := 7) C dDV_fillNextTables_4 (by decide) rfl (fun c_4 => ?_) (fun c_4 => ?_)
      · have hie : t = 3 := by have := (nI_leI (a := 3) (b := t) (by omega) (by omega)).mp c_4; omega
        refine r_iconst (v := 1) (n := 34) C dDV_fillNextTables_33 rfl (by decide) ?_
        exact r_zret C dDV_fillNextTables_34 rfl (Nat.le_refl _) (Nat.le_refl _) ⟨Ns1, wl1, by rw [fitA_t (fun t0 h0 => (hfit t0 (by omega)).1)]; rfl, hd1, hsN1, fun _ t0 h0 => (hfit t0 (by omega)).2, hx1, hF1⟩
      · have hlt : t < 3 := by
          rcases Nat.lt_or_ge t 3 with q | q
          · exact q
          · exact absurd (nI_le (a := 3) (b := t) q (by omega)) c_4
        refine r_aload_n (n := 8) C dDV_fillNextTables_7 rfl rfl ?_
        refine r_iload_n (n := 9) C dDV_fillNextTables_8 rfl rfl ?_
        refine r_cv (n := 12) (rn_V (z := 1) (ci := 9) (T := TDV) C (c_DV_gatherTable (Kl K) (Ko K) h1 x t nn G Ls Ns1 wl1 pl rf cf Rl hd1 g hxx hlt hsrt) tw_444 tw_446 ts_15 tw_1 tw_447 rfl rfl ndDV_gatherTable ⟨Nat.le_of_ble_eq_true rfl, Nat.le_of_ble_eq_true rfl⟩ hbx rfl rfl rfl (Nat.le_of_ble_eq_true rfl) dDV_fillNextTables_9 ⟨Nat.le_of_ble_eq_true rfl, Nat.le_of_ble_eq_true rfl⟩) rfl (fun h2 hq => ?_)
        obtain ⟨hd2, hx2, hF2⟩ := hq
        have hbx2 : h2 x = _ := hx2.trans hxx
        obtain ⟨fs0, hs0, hsl⟩ := hd2.2.1
        have hc12 : capOf t = 12 := if_pos hlt
        refine r_aload_n (n := 13) C dDV_fillNextTables_12 rfl rfl ?_
        refine r_aload_n (n := 14) C dDV_fillNextTables_13 rfl rfl ?_
        refine r_get (ci := 9) (n := 17) C hinDV rfl 1 (by decide) tw_67 rfl dDV_fillNextTables_14 rfl hbx2 rfl ?_
        refine r_iload_n (n := 18) C dDV_fillNextTables_17 rfl rfl ?_
        refine r_aald (n := 19) (t0 := 2) C dDV_fillNextTables_18 rfl hs0 rfl t rfl (by omega) (by omega) (hsl t (by omega)).1 ?_
        refine r_ci (n := 22) (rn_V (z := 1) (ci := 9) (T := TDV) C (c_DV_settleWork (Kl K) (Ko K) h2 x t _ (sw G) Ns1 Ls _ pl rf cf Rl hd2.sw g.sw hbx2 rfl (by omega)) tw_275 tw_277 ts_12 tw_1 tw_278 rfl rfl ndDV_settleWork ⟨Nat.le_of_ble_eq_true rfl, Nat.le_of_ble_eq_true rfl⟩ hbx2 rfl rfl rfl (Nat.le_of_ble_eq_true rfl) dDV_fillNextTables_19 ⟨Nat.le_of_ble_eq_true rfl, Nat.le_of_ble_eq_true rfl⟩) rfl (fun y h3 hq => ?_)
        rw [hc12] at hq
        obtain ⟨e1, hd3, hx3, hF3⟩ := hq
        subst e1
        have hd3 := hd3.sw
        refine r_if_ne (tgt := 27) (n := 25) C dDV_fillNextTables_22 (by decide) rfl (fun c_22 => ?_) (fun c_22 => ?_)
        · have hz : fitB 12 (newT Ls pl t) = true := b01_t c_22
          refine r_iinc (n := 30) C dDV_fillNextTables_27 rfl rfl (nI_i t) (by decide) ?_
          refine r_goto (tgt := 2) C dDV_fillNextTables_30 (by decide) ?_
          refine V.byk (ls' := [(0, .ref x), (1, .int (nI (t + 1)))]) rfl ?_
          rw [show fitB 12 (nz (addP (nI t) (Ls t) pl)) = true from hz, if_pos rfl] at hd3
          refine ih _ (by omega) (t + 1) h3 _ (updL Ns1 t (newT Ls pl t)) rfl (by omega) hd3 (hx3.trans (hx2.trans hx1)) ((hF1.tr hF2).tr (swFrm hF3)) (updL_srt hsN1 (newT_srt hsrt hlt)) (fun t0 h0 => ?_)
          unfold updL
          by_cases e : t0 = t
          · subst e; exact ⟨hz, if_pos rfl⟩
          · rw [if_neg e]; exact hfit t0 (by omega)
        · have hz : fitB 12 (newT Ls pl t) = false := b01_f c_22
          rw [show fitB 12 (nz (addP (nI t) (Ls t) pl)) = false from hz, if_neg (by decide)] at hd3
          refine r_iconst (v := 0) (n := 26) C dDV_fillNextTables_25 rfl (by decide) ?_
          exact r_zret C dDV_fillNextTables_26 rfl (Nat.le_refl _) (Nat.le_refl _) ⟨Ns1, _, by rw [fitA_f hlt hz]; rfl, hd3, hsN1, (fun hc => by rw [fitA_f hlt hz] at hc; cases hc), hx3.trans (hx2.trans hx1), (hF1.tr hF2).tr (swFrm hF3)⟩
  refine r_iconst (v := 0) (n := 1) C dDV_fillNextTables_0 rfl (by decide) ?_
  refine r_istore_n (n := 2) C dDV_fillNextTables_1 rfl (by decide) ?_
  refine V.byk (ls' := [(0, .ref x), (1, .int (nI 0))]) rfl ?_
  exact loop _ 0 h wl Ns rfl (by omega) hd rfl Frm.rf hsN (fun t0 h0 => absurd h0 (Nat.not_lt_zero _))
def dsum (Ls Ns : Nat → List Rw) : Nat → Nat
  | 0 => 0
  | j + 1 => dsum Ls Ns j + diffs (Ls (3 + j)) (Ns (3 + j))
def cfN (Ls Ns : Nat → List Rw) (n : Nat) (cf : Nat → Int32) : Nat → Int32 := fun j => if j < n then nI (diffs (Ls (3 + j)) (Ns (3 + j))) else cf j
theorem cfN_0 (Ls Ns : Nat → List Rw) (cf : Nat → Int32) : cfN Ls Ns 0 cf = cf := by funext j; simp [cfN]
theorem cfN_s (Ls Ns : Nat → List Rw) (n : Nat) (cf : Nat → Int32) : upd (cfN Ls Ns n cf) n (nI (diffs (Ls (3 + n)) (Ns (3 + n)))) = cfN Ls Ns (n + 1) cf := by
  funext j
  by_cases e : j = n
  · subst e; rw [pk_us]; simp [cfN]
  · rw [pk_un e]
    unfold cfN
    by_cases h : j < n
    · rw [if_pos h, if_pos (by omega)]
    · rw [if_neg h, if_neg (by omega)]
set_option maxHeartbeats 4000000 in
set_option maxRecDepth 100000 in
/-- noteChangesSince -/
theorem c_DV_noteChangesSince (l : Launch) (o : Om) (h : AH) (x : Nat) (G : Gh) (Ls Ns : Nat → List Rw) (wl : List Rw) (pl : List Pn) (rf : Nat → Option Nat) (cf : Nat → Int32) (Rl : List Ru) (hd : DB o h G Ls Ns wl pl rf cf Rl) (g : GD G) (hx : DX h x G (nI Rl.length)) (hnd : Rl.length ≤ 10) (hsrt : ∀ i, i < 13 → Srt (Ls i)) (hsN : ∀ i, i < 13 → Srt (Ns i)) : Mt l o yDV_noteChangesSince cDV_noteChangesSince 5 (some .int) ({ frames := 4, cells := 0, slots := 0, locals := 98 } : Room) [.ref x, .ref (gnx G)] h (QI o (fun r h' => r = nI (dsum Ls Ns Rl.length) ∧ DB o h' G Ls Ns wl pl rf (cfN Ls Ns Rl.length cf) Rl ∧ h' x = h x ∧ Frm (ownG G) h h')) (0) (0) := by
  refine Met.ofV (by decide) (Nat.le_of_ble_eq_true rfl) (fun K hl ho C => ?_)
  subst hl; subst ho
  unfold DX at hx
  have loop : ∀ (m j : Nat) (h1 : AH), Rl.length - j = m → j ≤ Rl.length → DB (Ko K) h1 G Ls Ns wl pl rf (cfN Ls Ns j cf) Rl → h1 x = h x → Frm (ownG G) h h1 → V K h1 0 0 (EndQ K (QI (Ko K) (fun r h' => r = nI (dsum Ls Ns Rl.length) ∧ DB (Ko K) h' G Ls Ns wl pl rf (cfN Ls Ns Rl.length cf) Rl ∧ h' x = h x ∧ Frm (ownG G) h h')) 0 0) 4 [(0, .ref x), (1, .ref (gnx G)), (2, .int (nI (dsum Ls Ns j))), (3, .int (nI j))] [] := by
    intro m
    induction m using Nat.strongRecOn with
    | _ m ih =>
      intro j h1 hm hj hd1 hx1 hF1
      have hbx : h1 x = _ := hx1.trans hx
      obtain ⟨fs0, hs0, hsl⟩ := hd1.1
      obtain ⟨ft0, ht0, htl⟩ := hd1.2.1
      have hch := hd1.2.2.2.2.2.1
      refine r_iload_n (n := 5) C dDV_noteChangesSince_4 rfl rfl ?_
      refine r_aload_n (n := 6) C dDV_noteChangesSince_5 rfl rfl ?_
      refine r_get (ci := 9) (n := 9) C hinDV rfl 6 (by decide) tw_72 rfl dDV_noteChangesSince_6 rfl (by assumption) rfl ?_
      refine r_icmp_ge (tgt := 53) (n := 12) C dDV_noteChangesSince_9 (by decide) rfl (fun c_9 => ?_) (fun c_9 => ?_)
      · have hie : j = Rl.length := by have := (nI_leI (a := Rl.length) (b := j) (by omega) (by omega)).mp c_9; omega
        refine r_iload_n (n := 54) C dDV_noteChangesSince_53 rfl rfl ?_
        exact r_iret C dDV_noteChangesSince_54 (Nat.le_refl _) (Nat.le_refl _) ⟨by rw [hie], by rw [← hie]; exact hd1, hx1, hF1⟩
      · have hlt : j < Rl.length := by
          rcases Nat.lt_or_ge j Rl.length with q | q
          · exact q
          · exact absurd (nI_le (a := Rl.length) (b := j) q (by omega)) c_9
        obtain ⟨fi, gi, hRi⟩ := (hsl (3 + j) (by omega)).2
        obtain ⟨fb, gb, hRb⟩ := (htl (3 + j) (by omega)).2
        refine r_iload_n (n := 13) C dDV_noteChangesSince_12 rfl rfl ?_
        refine r_ci (n := 16) (rn_S (z := 1) C (c_DV_slotOf (Kl K) (Ko K) h1 j) tw_272 tw_273 tw_1 tw_274 rfl rfl ndDV_slotOf.2 ⟨Nat.le_of_ble_eq_true rfl, Nat.le_of_ble_eq_true rfl⟩ rfl rfl (Nat.le_of_ble_eq_true rfl) dDV_noteChangesSince_13 ⟨Nat.le_of_ble_eq_true rfl, Nat.le_of_ble_eq_true rfl⟩) rfl (fun y ah hq => ?_)
        obtain ⟨e1, e2⟩ := hq
        subst e1
        rw [e2]
        refine r_istore (n := 18) C dDV_noteChangesSince_16 rfl (by decide) ?_
        refine r_aload_n (n := 19) C dDV_noteChangesSince_18 rfl rfl ?_
        refine r_get (ci := 9) (n := 22) C hinDV rfl 5 (by decide) tw_71 rfl dDV_noteChangesSince_19 rfl hbx rfl ?_
        refine r_iload_n (n := 23) C dDV_noteChangesSince_22 rfl rfl ?_
        refine r_aload_n (n := 24) C dDV_noteChangesSince_23 rfl rfl ?_
        refine r_get (ci := 9) (n := 27) C hinDV rfl 0 (by decide) tw_66 rfl dDV_noteChangesSince_24 rfl hbx rfl ?_
        refine r_iload (n := 29) C dDV_noteChangesSince_27 rfl rfl ?_
        refine r_aald (n := 30) (t0 := 2) C dDV_noteChangesSince_29 rfl hs0 rfl (3 + j) rfl (by omega) (by omega) (hsl (3 + j) (by omega)).1 ?_
        refine r_aload_n (n := 31) C dDV_noteChangesSince_30 rfl rfl ?_
        refine r_iload (n := 33) C dDV_noteChangesSince_31 rfl rfl ?_
        refine r_aald (n := 34) (t0 := 2) C dDV_noteChangesSince_33 rfl ht0 rfl (3 + j) rfl (by omega) (by omega) (htl (3 + j) (by omega)).1 ?_
        refine r_ci (n := 37) (rn_V (z := 1) (ci := 0) (T := TRW) C (c_RW_differencesFrom (Kl K) (Ko K) h1 (gS G (3 + j)) fi gi (Ls (3 + j)) (gT G (3 + j)) fb gb (Ns (3 + j)) hRi hRb (hsrt (3 + j) (by omega)) (hsN (3 + j) (by omega))) tw_469 tw_470 tw_471 tw_2 tw_472 rfl rfl ndRW_differencesFrom ⟨Nat.le_of_ble_eq_true rfl, Nat.le_of_ble_eq_true rfl⟩ hRi.1 rfl rfl rfl (Nat.le_of_ble_eq_true rfl) dDV_noteChangesSince_34 ⟨Nat.le_of_ble_eq_true rfl, Nat.le_of_ble_eq_true rfl⟩) rfl (fun y ah hq => ?_)
        obtain ⟨e1, e2⟩ := hq
        subst e1
        rw [e2]
        refine r_iast (n := 38) C dDV_noteChangesSince_37 rfl hch j rfl (by omega) (by omega) ?_
        have hd2 := hd1.ch g (upd (cfN Ls Ns j cf) j (nI (diffs (Ls (3 + j)) (Ns (3 + j)))))
        have hchx : gch G ≠ x := fun e => by rw [e, hbx] at hch; simp at hch
        generalize eh2 : hu h1 (gch G) _ = h2 at hd2
        have hbx2 : h2 x = _ := ((congrFun eh2.symm x).trans (hu_ne _ _ (Ne.symm hchx))).trans hbx
        have hx2 : h2 x = h x := ((congrFun eh2.symm x).trans (hu_ne _ _ (Ne.symm hchx))).trans hx1
        have hF2 : Frm (ownG G) h h2 := hF1.tr (eh2 ▸ hu_frm.mono (fun q e => Or.inr (Or.inr (Or.inr (Or.inl e)))))
        have hch2 := hd2.2.2.2.2.2.1
        refine r_iload_n (n := 39) C dDV_noteChangesSince_38 rfl rfl ?_
        refine r_aload_n (n := 40) C dDV_noteChangesSince_39 rfl rfl ?_
        refine r_get (ci := 9) (n := 43) C hinDV rfl 5 (by decide) tw_71 rfl dDV_noteChangesSince_40 rfl hbx2 rfl ?_
        refine r_iload_n (n := 44) C dDV_noteChangesSince_43 rfl rfl ?_
        refine r_iald (n := 45) C dDV_noteChangesSince_44 rfl hch2 j rfl (by omega) (by omega) ?_
        rw [pk_us]
        refine r_iadd (n := 46) C dDV_noteChangesSince_45 rfl ?_
        refine V.eqi (y := nI (dsum Ls Ns (j + 1))) (nI_add _ _) ?_
        refine r_istore_n (n := 47) C dDV_noteChangesSince_46 rfl (by decide) ?_
        refine r_iinc (n := 50) C dDV_noteChangesSince_47 rfl rfl (nI_i j) (by decide) ?_
        refine r_goto (tgt := 4) C dDV_noteChangesSince_50 (by decide) ?_
        refine V.byk (ls' := [(0, .ref x), (1, .ref (gnx G)), (2, .int (nI (dsum Ls Ns (j + 1)))), (3, .int (nI (j + 1)))]) rfl ?_
        rw [cfN_s] at hd2
        exact ih _ (by omega) (j + 1) h2 rfl (by omega) hd2 hx2 hF2
  refine r_iconst (v := 0) (n := 1) C dDV_noteChangesSince_0 rfl (by decide) ?_
  refine r_istore_n (n := 2) C dDV_noteChangesSince_1 rfl (by decide) ?_
  refine r_iconst (v := 0) (n := 3) C dDV_noteChangesSince_2 rfl (by decide) ?_
  refine r_istore_n (n := 4) C dDV_noteChangesSince_3 rfl (by decide) ?_
  refine V.byk (ls' := [(0, .ref x), (1, .ref (gnx G)), (2, .int (nI 0)), (3, .int (nI 0))]) rfl ?_
  exact loop _ 0 h rfl (Nat.zero_le _) (by rw [cfN_0]; exact hd) rfl Frm.rf
