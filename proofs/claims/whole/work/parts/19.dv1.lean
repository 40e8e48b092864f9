/-! DELTAVIEWS: settleWork, fillNode, gatherTable, and what stands on them -/
set_option maxHeartbeats 4000000 in
set_option maxRecDepth 100000 in
/-- rowsOf -/
theorem c_DV_rowsOf (l : Launch) (o : Om) (h : AH) (x j : Nat) (nn : Int32) (G : Gh) (Ls Ns : Nat → List Rw) (wl : List Rw) (pl : List Pn) (rf : Nat → Option Nat) (cf : Nat → Int32) (Rl : List Ru) (hd : DB o h G Ls Ns wl pl rf cf Rl) (g : GD G) (hx : DX h x G nn) (hj : j < 10) : Mt l o yDV_rowsOf cDV_rowsOf 2 (some (.object "DeltaViews$Rows")) ({ frames := 1, cells := 0, slots := 0, locals := 20 } : Room) [.ref x, .int (nI j)] h (QR o (fun u => u = (h, (gS G (3 + j)).1))) (0) (0) := by
  refine Met.ofV (by decide) (Nat.le_of_ble_eq_true rfl) (fun K hl ho C => ?_)
  subst hl; subst ho
  obtain ⟨fs0, hs0, hsl⟩ := hd.1
  unfold DX at hx
  refine r_aload_n (n := 1) C dDV_rowsOf_0 rfl rfl ?_
  refine r_get (ci := 9) (n := 4) C hinDV rfl 0 (by decide) tw_66 rfl dDV_rowsOf_1 rfl (by assumption) rfl ?_
  refine r_iload_n (n := 5) C dDV_rowsOf_4 rfl rfl ?_
  refine r_ci (n := 8) (rn_S (z := 1) C (c_DV_slotOf (Kl K) (Ko K) h j) tw_272 tw_273 tw_1 tw_274 rfl rfl ndDV_slotOf.2 ⟨Nat.le_of_ble_eq_true rfl, Nat.le_of_ble_eq_true rfl⟩ rfl rfl (Nat.le_of_ble_eq_true rfl) dDV_rowsOf_5 ⟨Nat.le_of_ble_eq_true rfl, Nat.le_of_ble_eq_true rfl⟩) rfl (fun y ah hq => ?_)
  obtain ⟨e1, e2⟩ := hq
  subst e1
  rw [e2]
  refine r_aald (n := 9) (t0 := 2) C dDV_rowsOf_8 rfl hs0 rfl (3 + j) rfl (by omega) (by omega) (hsl (3 + j) (by omega)).1 ?_
  exact r_aret C (Or.inl ⟨_, rfl⟩) dDV_rowsOf_9 (Nat.le_refl _) (Nat.le_refl _) rfl
section DBX
variable {o : Om} {h h' : AH} {G : Gh} {Ls Ns : Nat → List Rw} {wl : List Rw} {pl : List Pn} {rf : Nat → Option Nat} {cf : Nat → Int32} {Rl : List Ru} {x : Nat} {fs : List Value}
theorem DB.x_wk (hd : DB o h G Ls Ns wl pl rf cf Rl) (hx : h x = some (.inr (9, fs))) (hf : Frm (ownA (gwk G)) h h') : h' x = some (.inr (9, fs)) := (hf x (nown_obj hd.2.2.1 hx (by decide))).trans hx
theorem DB.x_S (hd : DB o h G Ls Ns wl pl rf cf Rl) {k : Nat} (hk : k < 13) (hx : h x = some (.inr (9, fs))) (hf : Frm (ownA (gS G k)) h h') : h' x = some (.inr (9, fs)) := (hf x (nown_obj (hd.1.slot hk) hx (by decide))).trans hx
end DBX
set_option maxHeartbeats 4000000 in
set_option maxRecDepth 100000 in
/-- settleWork -/
theorem c_DV_settleWork (l : Launch) (o : Om) (h : AH) (x k : Nat) (fs : List Value) (G : Gh) (Ls Ns : Nat → List Rw) (wl : List Rw) (pl : List Pn) (rf : Nat → Option Nat) (cf : Nat → Int32) (Rl : List Ru) (hd : DB o h G Ls Ns wl pl rf cf Rl) (g : GD G) (hx : h x = some (.inr (9, fs))) (hf2 : fs[2]? = some (.ref (gwk G).1)) (hk13 : k < 13) : Mt l o yDV_settleWork cDV_settleWork 2 (some .boolean) ({ frames := 2, cells := 0, slots := 0, locals := 70 } : Room) [.ref x, .ref (gS G k).1] h (QI o (fun r h' => r = b01 (fitB (capOf k) (nz wl)) ∧ DB o h' G (if fitB (capOf k) (nz wl) = true then updL Ls k (nz wl) else Ls) Ns (nz wl) pl rf cf Rl ∧ h' x = h x ∧ Frm (ownG G) h h')) (0) (0) := by
  refine Met.ofV (by decide) (Nat.le_of_ble_eq_true rfl) (fun K hl ho C => ?_)
  subst hl; subst ho
  obtain ⟨fw, gw, hRw⟩ := hd.2.2.1
  have hcap : (gS G k).2.2.2 = capOf k := g.2.2.2.2.2.2.2.2.2.2.2.1 k hk13
  refine r_aload_n (n := 1) C dDV_settleWork_0 rfl rfl ?_
  refine r_get (ci := 9) (n := 4) C hinDV rfl 2 (by decide) tw_68 rfl dDV_settleWork_1 rfl hx hf2 ?_
  refine r_cv (n := 7) (rn_V (z := 0) (ci := 0) (T := TRW) C (c_RW_dropZeros (Kl K) (Ko K) h (gwk G) fw gw wl hRw) tw_279 tw_280 tw_281 tw_2 tw_282 rfl rfl ndRW_dropZeros ⟨Nat.le_of_ble_eq_true rfl, Nat.le_of_ble_eq_true rfl⟩ hRw.1 rfl rfl rfl (Nat.le_of_ble_eq_true rfl) dDV_settleWork_4 ⟨Nat.le_of_ble_eq_true rfl, Nat.le_of_ble_eq_true rfl⟩) rfl (fun h1 hq => ?_)
  obtain ⟨f1, g1, hR1, hO1⟩ := hq
  have hx1 := hd.x_wk hx hO1.frm
  have hd1 := hd.wk g hO1.frm ⟨f1, g1, hR1⟩
  obtain ⟨fk, gk, hRk⟩ := hd1.1.slot hk13
  refine r_aload_n (n := 8) C dDV_settleWork_7 rfl rfl ?_
  refine r_aload_n (n := 9) C dDV_settleWork_8 rfl rfl ?_
  refine r_get (ci := 9) (n := 12) C hinDV rfl 2 (by decide) tw_68 rfl dDV_settleWork_9 rfl hx1 hf2 ?_
  refine r_ci (n := 15) (rn_V (z := 1) (ci := 0) (T := TRW) C (c_RW_canHold (Kl K) (Ko K) h1 (gS G k) fk gk (Ls k) (gwk G) f1 g1 (nz wl) hRk hR1) tw_283 tw_284 tw_285 tw_2 tw_286 rfl rfl ndRW_canHold ⟨Nat.le_of_ble_eq_true rfl, Nat.le_of_ble_eq_true rfl⟩ hRk.1 rfl rfl rfl (Nat.le_of_ble_eq_true rfl) dDV_settleWork_12 ⟨Nat.le_of_ble_eq_true rfl, Nat.le_of_ble_eq_true rfl⟩) rfl (fun y ah hq => ?_)
  obtain ⟨e1, e2⟩ := hq
  subst e1
  rw [e2]
  rw [hcap]
  refine r_if_ne (tgt := 20) (n := 18) C dDV_settleWork_15 (by decide) rfl (fun c_15 => ?_) (fun c_15 => ?_)
  · have hz : fitB (capOf k) (nz wl) = true := b01_t c_15
    refine r_aload_n (n := 21) C dDV_settleWork_20 rfl rfl ?_
    refine r_aload_n (n := 22) C dDV_settleWork_21 rfl rfl ?_
    refine r_get (ci := 9) (n := 25) C hinDV rfl 2 (by decide) tw_68 rfl dDV_settleWork_22 rfl hx1 hf2 ?_
    refine r_cv (n := 28) (rn_V (z := 1) (ci := 0) (T := TRW) C (c_RW_copyFrom (Kl K) (Ko K) h1 (gS G k) fk gk (Ls k) (gwk G) f1 g1 (nz wl) hRk hR1 (g.2.2.2.1 k hk13).symm (by rw [hcap]; have := hz; unfold fitB at this; simp only [Bool.and_eq_true, decide_eq_true_eq] at this; exact this.1)) tw_289 tw_134 tw_135 tw_2 tw_136 rfl rfl ndRW_copyFrom ⟨Nat.le_of_ble_eq_true rfl, Nat.le_of_ble_eq_true rfl⟩ hRk.1 rfl rfl rfl (Nat.le_of_ble_eq_true rfl) dDV_settleWork_25 ⟨Nat.le_of_ble_eq_true rfl, Nat.le_of_ble_eq_true rfl⟩) rfl (fun h2 hq => ?_)
    obtain ⟨f2, g2, hR2, hO2⟩ := hq
    refine r_iconst (v := 1) (n := 29) C dDV_settleWork_28 rfl (by decide) ?_
    exact r_zret C dDV_settleWork_29 rfl (Nat.le_refl _) (Nat.le_refl _) ⟨by rw [hz]; rfl, by rw [hz]; exact hd1.slot g hk13 hO2.frm ⟨f2, g2, hR2⟩, (hd1.x_S hk13 hx1 hO2.frm).trans hx.symm, (hO1.frm.mono (fun _ => ownG.wk)).tr (hO2.frm.mono (fun _ => ownG.S hk13))⟩
  · have hz : fitB (capOf k) (nz wl) = false := b01_f c_15
    refine r_iconst (v := 0) (n := 19) C dDV_settleWork_18 rfl (by decide) ?_
    exact r_zret C dDV_settleWork_19 rfl (Nat.le_refl _) (Nat.le_refl _) ⟨by rw [hz]; rfl, by rw [hz]; exact hd1, hx1.trans hx.symm, hO1.frm.mono (fun _ => ownG.wk)⟩
set_option maxHeartbeats 4000000 in
set_option maxRecDepth 100000 in
/-- fillNode -/
theorem c_DV_fillNode (l : Launch) (o : Om) (h : AH) (x rr j : Nat) (fs : List Value) (R : Ru) (G : Gh) (Ls Ns : Nat → List Rw) (wl : List Rw) (pl : List Pn) (rf : Nat → Option Nat) (cf : Nat → Int32) (Rl : List Ru) (hd : DB o h G Ls Ns wl pl rf cf Rl) (g : GD G) (hx : h x = some (.inr (9, fs))) (hf2 : fs[2]? = some (.ref (gwk G).1)) (hj : j < 10) (hrr : h rr = some (rcell R)) (hok : rok (3 + j) R) (hsrt : ∀ i, i < 13 → Srt (Ls i)) : Mt l o yDV_fillNode cDV_fillNode 4 (some .boolean) ({ frames := 5, cells := 0, slots := 0, locals := 151 } : Room) [.ref x, .ref rr, .ref (gnw G), .int (nI j)] h (QI o (fun r h' => r = b01 (fitB 24 (nz (rfill R Ls))) ∧ DB o h' G (if fitB 24 (nz (rfill R Ls)) = true then updL Ls (3 + j) (nz (rfill R Ls)) else Ls) Ns (nz (rfill R Ls)) pl rf cf Rl ∧ h' x = h x ∧ Frm (ownG G) h h')) (0) (0) := by
  refine Met.ofV (by decide) (Nat.le_of_ble_eq_true rfl) (fun K hl ho C => ?_)
  subst hl; subst ho
  obtain ⟨fw, gw, hRw⟩ := hd.2.2.1
  have rest : ∀ (h2 : AH), DB (Ko K) h2 G Ls Ns (rfill R Ls) pl rf cf Rl → h2 x = some (.inr (9, fs)) → Frm (ownG G) h h2 → V K h2 0 0 (EndQ K (QI (Ko K) (fun r h' => r = b01 (fitB 24 (nz (rfill R Ls))) ∧ DB (Ko K) h' G (if fitB 24 (nz (rfill R Ls)) = true then updL Ls (3 + j) (nz (rfill R Ls)) else Ls) Ns (nz (rfill R Ls)) pl rf cf Rl ∧ h' x = h x ∧ Frm (ownG G) h h')) 0 0) 18 [(0, .ref x), (1, .ref rr), (2, .ref (gnw G)), (3, .int (nI j))] [] := by
    intro h2 hd2 hx2 hf2'
    obtain ⟨fs0, hs0, hsl⟩ := hd2.1
    refine r_aload_n (n := 19) C dDV_fillNode_18 rfl rfl ?_
    refine r_aload_n (n := 20) C dDV_fillNode_19 rfl rfl ?_
    refine r_iload_n (n := 21) C dDV_fillNode_20 rfl rfl ?_
    refine r_ci (n := 24) (rn_S (z := 1) C (c_DV_slotOf (Kl K) (Ko K) h2 j) tw_272 tw_273 tw_1 tw_274 rfl rfl ndDV_slotOf.2 ⟨Nat.le_of_ble_eq_true rfl, Nat.le_of_ble_eq_true rfl⟩ rfl rfl (Nat.le_of_ble_eq_true rfl) dDV_fillNode_21 ⟨Nat.le_of_ble_eq_true rfl, Nat.le_of_ble_eq_true rfl⟩) rfl (fun y ah hq => ?_)
    obtain ⟨e1, e2⟩ := hq
    subst e1
    rw [e2]
    refine r_aald (n := 25) (t0 := 2) C dDV_fillNode_24 rfl hs0 rfl (3 + j) rfl (by omega) (by omega) (hsl (3 + j) (by omega)).1 ?_
    refine r_ci (n := 28) (rn_V (z := 1) (ci := 9) (T := TDV) C (c_DV_settleWork (Kl K) (Ko K) h2 x (3 + j) fs G Ls Ns (rfill R Ls) pl rf cf Rl hd2 g hx2 hf2 (by omega)) tw_275 tw_277 ts_12 tw_1 tw_278 rfl rfl ndDV_settleWork ⟨Nat.le_of_ble_eq_true rfl, Nat.le_of_ble_eq_true rfl⟩ hx2 rfl rfl rfl (Nat.le_of_ble_eq_true rfl) dDV_fillNode_25 ⟨Nat.le_of_ble_eq_true rfl, Nat.le_of_ble_eq_true rfl⟩) rfl (fun y h3 hq => ?_)
    have hc24 : capOf (3 + j) = 24 := if_neg (by omega)
    rw [hc24] at hq
    obtain ⟨e1, e2, e3, e4⟩ := hq
    exact r_zret C dDV_fillNode_28 (by rw [e1]; exact b01_n _) (Nat.le_refl _) (Nat.le_refl _) ⟨e1, e2, e3.trans (hx2.trans hx.symm), hf2'.tr e4⟩
  refine r_aload_n (n := 1) C dDV_fillNode_0 rfl rfl ?_
  refine r_get (ci := 9) (n := 4) C hinDV rfl 2 (by decide) tw_68 rfl dDV_fillNode_1 rfl hx hf2 ?_
  refine r_cv (n := 7) (rn_V (z := 0) (ci := 0) (T := TRW) C (c_RW_clear (Kl K) (Ko K) h (gwk G) fw gw wl hRw) tw_119 tw_120 tw_121 tw_2 tw_122 rfl rfl ndRW_clear ⟨Nat.le_of_ble_eq_true rfl, Nat.le_of_ble_eq_true rfl⟩ hRw.1 rfl rfl rfl (Nat.le_of_ble_eq_true rfl) dDV_fillNode_4 ⟨Nat.le_of_ble_eq_true rfl, Nat.le_of_ble_eq_true rfl⟩) rfl (fun h1 hq => ?_)
  obtain ⟨f1, g1, hR1, hO1⟩ := hq
  have hx1 := hd.x_wk hx hO1.frm
  have hd1 := hd.wk g hO1.frm ⟨f1, g1, hR1⟩
  refine r_aload_n (n := 8) C dDV_fillNode_7 rfl rfl ?_
  refine r_aload_n (n := 9) C dDV_fillNode_8 rfl rfl ?_
  refine r_aload_n (n := 10) C dDV_fillNode_9 rfl rfl ?_
  refine r_get (ci := 9) (n := 13) C hinDV rfl 2 (by decide) tw_68 rfl dDV_fillNode_10 rfl hx1 hf2 ?_
  have hFP : FP (Ko K) h1 (gnw G) (gS G) Ls (gwk G) := ⟨hd1.1, fun i hi => ⟨g.2.2.2.1 i hi, hsrt i hi, by obtain ⟨_, _, _, _, _, hl, _⟩ := hd1.1.slot hi; have hc := g.2.2.2.2.2.2.2.2.2.2.2.1 i hi; rw [hc] at hl; unfold capOf at hl; split at hl <;> omega⟩⟩
  have hcw : (gwk G).2.2.2 = 576 := g.2.2.2.2.2.2.2.2.2.2.1
  have fin : ∀ (h2 : AH), (∃ f' g', RA0 (Ko K) h2 (gwk G) f' g' (rfill R Ls) ∧ Off (gwk G) h1 h2) → V K h2 0 0 _ 18 _ [] := fun h2 ⟨f2, g2, hR2, hO2⟩ => rest h2 (hd1.wk g hO2.frm ⟨f2, g2, hR2⟩) (hd1.x_wk hx1 hO2.frm) ((hO1.frm.mono (fun _ => ownG.wk)).tr (hO2.frm.mono (fun _ => ownG.wk)))
  have hrr1 : h1 rr = some (rcell R) := by obtain ⟨ci, fs1, e, n0, _, _, _⟩ := rcell_obj R; rw [e] at hrr; exact ((hO1.frm rr (nown_obj hd.2.2.1 hrr n0)).trans hrr).trans (by rw [e])
  obtain ⟨kd, a, b, c, d, e, n⟩ := R
  rcases kd with _ | _ | _ | _ | _ | _ | _ | kd
  · have hok : a < 3 := hok
    refine r_cFv (n := 18) (rn_F (z := 2) (ci := 2) (T := TTR) (Cn := "DeltaViews$TableRule") C (c_TR_fill (Kl K) (Ko K) h1 (gnw G) rr (gS G) Ls (gwk G) f1 g1 a hFP hR1 hcw (by omega) hrr1) tw_124 tw_266 tw_268 tw_6 tw_270 rfl rfl (by decide +kernel) (by decide +kernel) ⟨Nat.le_of_ble_eq_true rfl, Nat.le_of_ble_eq_true rfl⟩ hrr1 rfl rfl rfl (Nat.le_of_ble_eq_true rfl) dDV_fillNode_13 ⟨Nat.le_of_ble_eq_true rfl, Nat.le_of_ble_eq_true rfl⟩) rfl (fun h2 hq => ?_)
    exact fin h2 hq
  · obtain ⟨k1, k2, k3, k4⟩ : 3 ≤ a ∧ a < 3 + j ∧ b < 3 ∧ c < 4 := hok
    refine r_cFv (n := 18) (rn_F (z := 2) (ci := 3) (T := TFR) (Cn := "DeltaViews$FilterRule") C (c_FR_fill (Kl K) (Ko K) h1 (gnw G) rr (gS G) Ls (gwk G) f1 g1 a b c n hFP hR1 hcw (by omega) k3 k4 hrr1) tw_124 tw_190 tw_192 tw_11 tw_194 rfl rfl (by decide +kernel) (by decide +kernel) ⟨Nat.le_of_ble_eq_true rfl, Nat.le_of_ble_eq_true rfl⟩ hrr1 rfl rfl rfl (Nat.le_of_ble_eq_true rfl) dDV_fillNode_13 ⟨Nat.le_of_ble_eq_true rfl, Nat.le_of_ble_eq_true rfl⟩) rfl (fun h2 hq => ?_)
    exact fin h2 hq
  · obtain ⟨k1, k2, k3, k4, k5⟩ : 3 ≤ a ∧ a < 3 + j ∧ b < 6 ∧ c < 6 ∧ d < 6 := hok
    refine r_cFv (n := 18) (rn_F (z := 2) (ci := 4) (T := TMR) (Cn := "DeltaViews$MapRule") C (c_MR_fill (Kl K) (Ko K) h1 (gnw G) rr (gS G) Ls (gwk G) f1 g1 a b c d hFP hR1 hcw (by omega) k3 k4 k5 hrr1) tw_124 tw_253 tw_255 tw_10 tw_257 rfl rfl (by decide +kernel) (by decide +kernel) ⟨Nat.le_of_ble_eq_true rfl, Nat.le_of_ble_eq_true rfl⟩ hrr1 rfl rfl rfl (Nat.le_of_ble_eq_true rfl) dDV_fillNode_13 ⟨Nat.le_of_ble_eq_true rfl, Nat.le_of_ble_eq_true rfl⟩) rfl (fun h2 hq => ?_)
    exact fin h2 hq
  · obtain ⟨k1, k2, k3, k4, k5, k6, k7⟩ : 3 ≤ a ∧ a < 3 + j ∧ 3 ≤ b ∧ b < 3 + j ∧ c < 3 ∧ d < 3 ∧ e < 216 := hok
    refine r_cFv (n := 18) (rn_F (z := 2) (ci := 5) (T := TJR) (Cn := "DeltaViews$JoinRule") C (c_JR_fill (Kl K) (Ko K) h1 (gnw G) rr (gS G) Ls (gwk G) f1 g1 a b c d e hFP hR1 hcw (by omega) (by omega) k5 k6 k7 hrr1) tw_124 tw_240 tw_242 tw_9 tw_244 rfl rfl (by decide +kernel) (by decide +kernel) ⟨Nat.le_of_ble_eq_true rfl, Nat.le_of_ble_eq_true rfl⟩ hrr1 rfl rfl rfl (Nat.le_of_ble_eq_true rfl) dDV_fillNode_13 ⟨Nat.le_of_ble_eq_true rfl, Nat.le_of_ble_eq_true rfl⟩) rfl (fun h2 hq => ?_)
    exact fin h2 hq
  · obtain ⟨k1, k2, k3, k4, k5⟩ : 3 ≤ a ∧ a < 3 + j ∧ 3 ≤ b ∧ b < 3 + j ∧ c < 2 := hok
    refine r_cFv (n := 18) (rn_F (z := 2) (ci := 6) (T := TCR) (Cn := "DeltaViews$CombineRule") C (c_CR_fill (Kl K) (Ko K) h1 (gnw G) rr (gS G) Ls (gwk G) f1 g1 a b c hFP hR1 hcw (by omega) (by omega) k5 hrr1) tw_124 tw_128 tw_130 tw_12 tw_132 rfl rfl (by decide +kernel) (by decide +kernel) ⟨Nat.le_of_ble_eq_true rfl, Nat.le_of_ble_eq_true rfl⟩ hrr1 rfl rfl rfl (Nat.le_of_ble_eq_true rfl) dDV_fillNode_13 ⟨Nat.le_of_ble_eq_true rfl, Nat.le_of_ble_eq_true rfl⟩) rfl (fun h2 hq => ?_)
    exact fin h2 hq
  · obtain ⟨k1, k2⟩ : 3 ≤ a ∧ a < 3 + j := hok
    refine r_cFv (n := 18) (rn_F (z := 2) (ci := 7) (T := TDR) (Cn := "DeltaViews$DistinctRule") C (c_DR_fill (Kl K) (Ko K) h1 (gnw G) rr (gS G) Ls (gwk G) f1 g1 a hFP hR1 hcw (by omega) hrr1) tw_124 tw_181 tw_183 tw_13 tw_185 rfl rfl (by decide +kernel) (by decide +kernel) ⟨Nat.le_of_ble_eq_true rfl, Nat.le_of_ble_eq_true rfl⟩ hrr1 rfl rfl rfl (Nat.le_of_ble_eq_true rfl) dDV_fillNode_13 ⟨Nat.le_of_ble_eq_true rfl, Nat.le_of_ble_eq_true rfl⟩) rfl (fun h2 hq => ?_)
    exact fin h2 hq
  · obtain ⟨k1, k2, k3, k4, k5⟩ : 3 ≤ a ∧ a < 3 + j ∧ b < 3 ∧ c < 3 ∧ d < 4 := hok
    refine r_cFv (n := 18) (rn_F (z := 2) (ci := 8) (T := TGR) (Cn := "DeltaViews$GroupRule") C (c_GR_fill (Kl K) (Ko K) h1 (gnw G) rr (gS G) Ls (gwk G) f1 g1 a b c d hFP hR1 hcw (by omega) k3 k4 k5 hrr1) tw_124 tw_205 tw_207 tw_14 tw_209 rfl rfl (by decide +kernel) (by decide +kernel) ⟨Nat.le_of_ble_eq_true rfl, Nat.le_of_ble_eq_true rfl⟩ hrr1 rfl rfl rfl (Nat.le_of_ble_eq_true rfl) dDV_fillNode_13 ⟨Nat.le_of_ble_eq_true rfl, Nat.le_of_ble_eq_true rfl⟩) rfl (fun h2 hq => ?_)
    exact fin h2 hq
  · exact absurd hok id
