/-! DELTAVIEWS: step -/
def nwS (Rl : List Ru) (b : Nat → List Rw) : Nat → Nat → List Rw
  | 0 => b
  | j + 1 => match Rl[j]? with
    | some R => updL (nwS Rl b j) (3 + j) (nz (rfill R (nwS Rl b j)))
    | none => nwS Rl b j
def nwOK (Rl : List Ru) (b : Nat → List Rw) : Nat → Bool
  | 0 => true
  | j + 1 => nwOK Rl b j && (match Rl[j]? with
    | some R => fitB 24 (nz (rfill R (nwS Rl b j)))
    | none => true)
theorem nwS_s {Rl : List Ru} {b : Nat → List Rw} {j : Nat} {R : Ru} (h : Rl[j]? = some R) : nwS Rl b (j + 1) = updL (nwS Rl b j) (3 + j) (nz (rfill R (nwS Rl b j))) := by
  show (match Rl[j]? with
    | some R => updL (nwS Rl b j) (3 + j) (nz (rfill R (nwS Rl b j)))
    | none => nwS Rl b j) = _
  rw [h]
theorem nwOK_s {Rl : List Ru} {b : Nat → List Rw} {j : Nat} {R : Ru} (h : Rl[j]? = some R) : nwOK Rl b (j + 1) = (nwOK Rl b j && fitB 24 (nz (rfill R (nwS Rl b j)))) := by
  show (nwOK Rl b j && (match Rl[j]? with
    | some R => fitB 24 (nz (rfill R (nwS Rl b j)))
    | none => true)) = _
  rw [h]
theorem nwOK_f {Rl : List Ru} {b : Nat → List Rw} {j n : Nat} (h : nwOK Rl b j = false) (hj : j ≤ n) : nwOK Rl b n = false := by
  induction n with
  | zero => have : j = 0 := by omega
            subst this; exact h
  | succ n ih =>
    by_cases e : j = n + 1
    · subst e; exact h
    · unfold nwOK; rw [ih (by omega)]; rfl
def newS (S : Sx) : Nat → List Rw := nwS S.2.2.2 (newT S.1 S.2.1) S.2.2.2.length
def stpS (S : Sx) : Int32 × Sx := if negA S.1 S.2.1 = true then (-1, S) else if fitA S.1 S.2.1 = false then (-2, S) else if nwOK S.2.2.2 (newT S.1 S.2.1) S.2.2.2.length = false then (-2, S) else (nI (dsum (newS S) S.1 S.2.2.2.length), (newS S, [], cfN (newS S) S.1 S.2.2.2.length S.2.2.1, S.2.2.2))
theorem negA_congr {Ls Ms : Nat → List Rw} {pl : List Pn} (e : ∀ i, i < 3 → Ls i = Ms i) : negA Ls pl = negA Ms pl := by
  unfold negA negT; rw [e 0 (by omega), e 1 (by omega), e 2 (by omega)]
theorem newT_congr {Ls Ms : Nat → List Rw} {pl : List Pn} (e : ∀ i, i < 3 → Ls i = Ms i) {t : Nat} (ht : t < 3) : newT Ls pl t = newT Ms pl t := by
  unfold newT; rw [e t ht]
theorem fitA_congr {Ls Ms : Nat → List Rw} {pl : List Pn} (e : ∀ i, i < 3 → Ls i = Ms i) : fitA Ls pl = fitA Ms pl := by
  unfold fitA; rw [newT_congr e (t := 0) (by omega), newT_congr e (t := 1) (by omega), newT_congr e (t := 2) (by omega)]
theorem dsum_congr {Ls Ms Ns Os : Nat → List Rw} {n : Nat} (e : ∀ i, i < 3 + n → Ls i = Ms i) (e2 : ∀ i, i < 3 + n → Ns i = Os i) : dsum Ls Ns n = dsum Ms Os n := by
  induction n with
  | zero => rfl
  | succ n ih =>
    unfold dsum
    rw [ih (fun i hi => e i (by omega)) (fun i hi => e2 i (by omega)), e (3 + n) (by omega), e2 (3 + n) (by omega)]
set_option maxHeartbeats 4000000 in
set_option maxRecDepth 100000 in
/-- step -/
theorem c_DV_step (l : Launch) (o : Om) (h : AH) (x : Nat) (G : Gh) (S : Sx) (hc : CI o h x G S) : Mt l o yDV_step cDV_step 2 (some .int) ({ frames := 6, cells := 0, slots := 0, locals := 174 } : Room) [.ref x] h (QI o (fun r h' => r = (stpS S).1 ∧ Upd o h h' x G (stpS S).2)) (0) (0) := by
  refine Met.ofV (by decide) (Nat.le_of_ble_eq_true rfl) (fun K hl ho C => ?_)
  subst hl; subst ho
  obtain ⟨g, hx, hn, Ls, Ns, wl, rf, cf, hd, hsL, hsN, hag, hcf⟩ := id hc
  unfold DX at hx
  have hag3 : ∀ i, i < 3 → Ls i = S.1 i := fun i hi => hag i (by omega)
  obtain ⟨b, hb⟩ : ∃ b, b = newT S.1 S.2.1 := ⟨_, rfl⟩
  have loop : negA S.1 S.2.1 = false → fitA S.1 S.2.1 = true → ∀ (m j : Nat) (h1 : AH) (wl1 : List Rw) (Ns1 : Nat → List Rw), S.2.2.2.length - j = m → j ≤ S.2.2.2.length → DB (Ko K) h1 G Ls Ns1 wl1 S.2.1 rf cf S.2.2.2 → h1 x = h x → Frm (ownG G) h h1 → (∀ i, i < 13 → Srt (Ns1 i)) → (∀ i, i < 3 + j → Ns1 i = nwS S.2.2.2 b j i) → nwOK S.2.2.2 b j = true → V K h1 0 0 (EndQ K (QI (Ko K) (fun r h' => r = (stpS S).1 ∧ Upd (Ko K) h h' x G (stpS S).2)) 0 0) 21 [(0, .ref x), (1, .int (nI j))] [] := by
    intro hneg hfit m
    induction m using Nat.strongRecOn with
    | _ m ih =>
      intro j h1 wl1 Ns1 hm hj hd1 hxe hF1 hsN1 hag1 hok1
      have hx1 : h1 x = _ := hxe.trans hx
      have hru := hd1.2.2.2.2.1
      refine r_iload_n (n := 22) C dDV_step_21 rfl rfl ?_
      refine r_aload_n (n := 23) C dDV_step_22 rfl rfl ?_
      refine r_get (ci := 9) (n := 26) C hinDV rfl 6 (by decide) tw_72 rfl dDV_step_23 rfl hx1 rfl ?_
      refine r_icmp_ge (tgt := 56) (n := 29) C dDV_step_26 (by decide) rfl (fun c_26 => ?_) (fun c_26 => ?_)
      · have hie : j = S.2.2.2.length := by have := (nI_leI (a := S.2.2.2.length) (b := j) (by omega) (by omega)).mp c_26; omega
        subst hie
        have hpre : stpS S = (nI (dsum (newS S) S.1 S.2.2.2.length), (newS S, [], cfN (newS S) S.1 S.2.2.2.length S.2.2.1, S.2.2.2)) := by
          unfold stpS; rw [if_neg (by rw [hneg]; decide), if_neg (by rw [hfit]; decide), if_neg (by rw [← hb, hok1]; decide)]
        have hnew : ∀ i, i < 3 + S.2.2.2.length → Ns1 i = newS S i := fun i hi => by rw [hag1 i hi, hb]; rfl
        rw [hpre]
        refine r_aload_n (n := 57) C dDV_step_56 rfl rfl ?_
        refine r_get (ci := 9) (n := 60) C hinDV rfl 0 (by decide) tw_66 rfl dDV_step_57 rfl hx1 rfl ?_
        refine r_astore_n (n := 61) C dDV_step_60 rfl (by decide) ?_
        refine r_aload_n (n := 62) C dDV_step_61 rfl rfl ?_
        refine r_aload_n (n := 63) C dDV_step_62 rfl rfl ?_
        refine r_get (ci := 9) (n := 66) C hinDV rfl 1 (by decide) tw_67 rfl dDV_step_63 rfl hx1 rfl ?_
        refine r_put (ci := 9) (n := 69) C hinDV tyDV okDV nmDV rfl 0 (by decide) tw_66 rfl rfl (okDV 0 (by decide)) rfl rfl dDV_step_66 rfl hx1 (Nat.le_of_ble_eq_true rfl) ?_
        have hd2 := hd1.own9 hx1 (.inr (9, [.ref (gnx G), .ref (gnx G), .ref (gwk G).1, .ref (gP G).1, .ref (gru G), .ref (gch G), .int (nI S.2.2.2.length)]))
        have hx2 := hu_eq h1 x (.inr (9, [.ref (gnx G), .ref (gnx G), .ref (gwk G).1, .ref (gP G).1, .ref (gru G), .ref (gch G), .int (nI S.2.2.2.length)]))
        have hF2 : Frm (xown h x G) h (hu h1 x (.inr (9, [.ref (gnx G), .ref (gnx G), .ref (gwk G).1, .ref (gP G).1, .ref (gru G), .ref (gch G), .int (nI S.2.2.2.length)]))) := hF1.x.tr (hu_frm.mono (fun q e => Or.inl e))
        generalize eh2 : hu h1 x _ = h2 at hd2 hx2 hF2
        refine V.eqh (h' := h2) eh2 ?_
        refine r_aload_n (n := 70) C dDV_step_69 rfl rfl ?_
        refine r_aload_n (n := 71) C dDV_step_70 rfl rfl ?_
        refine r_put (ci := 9) (n := 74) C hinDV tyDV okDV nmDV rfl 1 (by decide) tw_67 rfl rfl (okDV 1 (by decide)) rfl rfl dDV_step_71 rfl hx2 (Nat.le_of_ble_eq_true rfl) ?_
        have hd3 := hd2.own9 hx2 (.inr (9, [.ref (gnx G), .ref (gnw G), .ref (gwk G).1, .ref (gP G).1, .ref (gru G), .ref (gch G), .int (nI S.2.2.2.length)]))
        have hx3 := hu_eq h2 x (.inr (9, [.ref (gnx G), .ref (gnw G), .ref (gwk G).1, .ref (gP G).1, .ref (gru G), .ref (gch G), .int (nI S.2.2.2.length)]))
        have hF3 : Frm (xown h x G) h (hu h2 x (.inr (9, [.ref (gnx G), .ref (gnw G), .ref (gwk G).1, .ref (gP G).1, .ref (gru G), .ref (gch G), .int (nI S.2.2.2.length)]))) := hF2.tr (hu_frm.mono (fun q e => Or.inl e))
        generalize eh3 : hu h2 x _ = h3 at hd3 hx3 hF3
        refine V.eqh (h' := h3) eh3 ?_
        have hd3 := hd3.sw
        obtain ⟨pt, pv, pb, hP3⟩ := hd3.2.2.2.1
        refine r_aload_n (n := 75) C dDV_step_74 rfl rfl ?_
        refine r_get (ci := 9) (n := 78) C hinDV rfl 3 (by decide) tw_69 rfl dDV_step_75 rfl hx3 rfl ?_
        refine r_cv (n := 81) (rn_V (z := 0) (ci := 1) (T := TPD) C (c_PD_clear (Kl K) (Ko K) h3 (gP G) pt pv pb S.2.1 hP3) tw_461 tw_462 tw_463 tw_3 tw_464 rfl rfl ndPD_clear ⟨Nat.le_of_ble_eq_true rfl, Nat.le_of_ble_eq_true rfl⟩ hP3.1 rfl rfl rfl (Nat.le_of_ble_eq_true rfl) dDV_step_78 ⟨Nat.le_of_ble_eq_true rfl, Nat.le_of_ble_eq_true rfl⟩) rfl (fun h4 hq => ?_)
        obtain ⟨hP4, hO4⟩ := hq
        have hd4 := hd3.pd g.sw hO4.frm hP4
        have hx4 : h4 x = _ := (hO4.frm x (nownP_obj hd3.2.2.2.1 hx3 (by decide))).trans hx3
        refine r_aload_n (n := 82) C dDV_step_81 rfl rfl ?_
        refine r_aload_n (n := 83) C dDV_step_82 rfl rfl ?_
        refine r_ci (n := 86) (rn_V (z := 1) (ci := 9) (T := TDV) C (c_DV_noteChangesSince (Kl K) (Ko K) h4 x (sw G) Ns1 Ls wl1 [] rf cf S.2.2.2 hd4 g.sw hx4 hn hsN1 hsL) tw_465 tw_467 ts_17 tw_1 tw_468 rfl rfl ndDV_noteChangesSince ⟨Nat.le_of_ble_eq_true rfl, Nat.le_of_ble_eq_true rfl⟩ hx4 rfl rfl rfl (Nat.le_of_ble_eq_true rfl) dDV_step_83 ⟨Nat.le_of_ble_eq_true rfl, Nat.le_of_ble_eq_true rfl⟩) rfl (fun y h5 hq => ?_)
        obtain ⟨e1, hd5, hxe5, hF5⟩ := hq
        subst e1
        exact r_iret C dDV_step_86 (Nat.le_refl _) (Nat.le_refl _) ⟨by rw [dsum_congr hnew hag], ⟨sw G, ⟨g.sw, hxe5.trans hx4, hn, _, Ls, _, rf, _, hd5, hsN1, hsL, hnew, fun j hj => by
                  show cfN Ns1 Ls S.2.2.2.length cf j = cfN (newS S) S.1 S.2.2.2.length S.2.2.1 j
                  have hj : j < S.2.2.2.length := hj
                  unfold cfN
                  rw [if_pos hj, if_pos hj, hnew _ (by omega), hag _ (by omega)]⟩, fun _ => ownG.sw, (hF3.tr (hO4.frm.mono (fun _ hq => Or.inr (Or.inl (ownG.P hq))))).tr (hF5.mono (fun _ hq => Or.inr (Or.inl (ownG.sw hq))))⟩⟩
      · have hlt : j < S.2.2.2.length := by
          rcases Nat.lt_or_ge j S.2.2.2.length with q | q
          · exact q
          · exact absurd (nI_le (a := S.2.2.2.length) (b := j) q (by omega)) c_26
        obtain ⟨R, hR⟩ : ∃ R, S.2.2.2[j]? = some R := ⟨_, List.getElem?_eq_getElem hlt⟩
        obtain ⟨a, hra, hrc, hrok⟩ := hd1.2.2.2.2.2.2 j R hR
        have hcg := rfill_congr hrok (by omega) hag1
        refine r_aload_n (n := 30) C dDV_step_29 rfl rfl ?_
        refine r_aload_n (n := 31) C dDV_step_30 rfl rfl ?_
        refine r_get (ci := 9) (n := 34) C hinDV rfl 4 (by decide) tw_70 rfl dDV_step_31 rfl hx1 rfl ?_
        refine r_iload_n (n := 35) C dDV_step_34 rfl rfl ?_
        refine r_aald (n := 36) (t0 := 3) C dDV_step_35 rfl hru rfl j rfl (by omega) (by omega) hra ?_
        refine r_aload_n (n := 37) C dDV_step_36 rfl rfl ?_
        refine r_get (ci := 9) (n := 40) C hinDV rfl 1 (by decide) tw_67 rfl dDV_step_37 rfl hx1 rfl ?_
        refine r_iload_n (n := 41) C dDV_step_40 rfl rfl ?_
        refine r_ci (n := 44) (rn_V (z := 3) (ci := 9) (T := TDV) C (c_DV_fillNode (Kl K) (Ko K) h1 x a j _ R (sw G) Ns1 Ls wl1 S.2.1 rf cf S.2.2.2 hd1.sw g.sw hx1 rfl (by omega) hrc hrok hsN1) tw_115 tw_117 ts_1 tw_1 tw_118 rfl rfl ndDV_fillNode ⟨Nat.le_of_ble_eq_true rfl, Nat.le_of_ble_eq_true rfl⟩ hx1 rfl rfl rfl (Nat.le_of_ble_eq_true rfl) dDV_step_41 ⟨Nat.le_of_ble_eq_true rfl, Nat.le_of_ble_eq_true rfl⟩) rfl (fun y h2 hq => ?_)
        rw [hcg] at hq
        obtain ⟨e1, hd2, hxe2, hF2⟩ := hq
        subst e1
        have hd2 := hd2.sw
        refine r_if_ne (tgt := 50) (n := 47) C dDV_step_44 (by decide) rfl (fun c_44 => ?_) (fun c_44 => ?_)
        · have hz : fitB 24 (nz (rfill R (nwS S.2.2.2 b j))) = true := b01_t c_44
          rw [hz, if_pos rfl] at hd2
          refine r_iinc (n := 53) C dDV_step_50 rfl rfl (nI_i j) (by decide) ?_
          refine r_goto (tgt := 21) C dDV_step_53 (by decide) ?_
          refine V.byk (ls' := [(0, .ref x), (1, .int (nI (j + 1)))]) rfl ?_
          refine ih _ (by omega) (j + 1) h2 _ _ rfl (by omega) hd2 (hxe2.trans hxe) (hF1.tr (swFrm hF2)) (updL_srt hsN1 (nz_srt (hcg ▸ rfill_srt hrok (by omega) (by omega) hsN1))) (fun i hi => ?_) ?_
          · rw [nwS_s hR]; unfold updL
            by_cases e : i = 3 + j
            · rw [if_pos e, if_pos e]
            · rw [if_neg e, if_neg e, hag1 i (by omega)]
          · rw [nwOK_s hR, hok1, hz]; rfl
        · have hz : fitB 24 (nz (rfill R (nwS S.2.2.2 b j))) = false := b01_f c_44
          rw [hz, if_neg (by decide)] at hd2
          have hok2 : nwOK S.2.2.2 b (j + 1) = false := by rw [nwOK_s hR, hok1, hz]; rfl
          have hpre : stpS S = (-2, S) := by unfold stpS; rw [if_neg (by rw [hneg]; decide), if_neg (by rw [hfit]; decide), if_pos (by rw [← hb]; exact nwOK_f hok2 (by omega))]
          refine r_bipush (v := -2) (n := 49) C dDV_step_47 rfl (by decide) ?_
          exact r_iret C dDV_step_49 (Nat.le_refl _) (Nat.le_refl _) ⟨by rw [hpre], by rw [hpre]; exact ⟨G, ⟨g, (hxe2.trans hxe).trans hx, hn, Ls, Ns1, _, rf, cf, hd2, hsL, hsN1, hag, hcf⟩, fun _ h => h, (hF1.tr (swFrm hF2)).x⟩⟩
  refine r_aload_n (n := 1) C dDV_step_0 rfl rfl ?_
  refine r_ci (n := 4) (rn_V (z := 0) (ci := 9) (T := TDV) C (c_DV_wouldFallBelowZero (Kl K) (Ko K) h x _ G Ls Ns wl S.2.1 rf cf S.2.2.2 hd g hx hsL) tw_440 tw_442 ts_14 tw_1 tw_443 rfl rfl ndDV_wouldFallBelowZero ⟨Nat.le_of_ble_eq_true rfl, Nat.le_of_ble_eq_true rfl⟩ hx rfl rfl rfl (Nat.le_of_ble_eq_true rfl) dDV_step_1 ⟨Nat.le_of_ble_eq_true rfl, Nat.le_of_ble_eq_true rfl⟩) rfl (fun y h1 hq => ?_)
  rw [negA_congr hag3] at hq
  obtain ⟨wl1, e1, hd1, hxe, hF1⟩ := hq
  subst e1
  have hx1 : h1 x = _ := hxe.trans hx
  refine r_if_eq (tgt := 9) (n := 7) C dDV_step_4 (by decide) rfl (fun c_4 => ?_) (fun c_4 => ?_)
  · have hneg : negA S.1 S.2.1 = false := b01_f c_4
    refine r_aload_n (n := 10) C dDV_step_9 rfl rfl ?_
    refine r_ci (n := 13) (rn_V (z := 0) (ci := 9) (T := TDV) C (c_DV_fillNextTables (Kl K) (Ko K) h1 x _ G Ls Ns wl1 S.2.1 rf cf S.2.2.2 hd1 g hx1 hsL hsN) tw_457 tw_459 ts_16 tw_1 tw_460 rfl rfl ndDV_fillNextTables ⟨Nat.le_of_ble_eq_true rfl, Nat.le_of_ble_eq_true rfl⟩ hx1 rfl rfl rfl (Nat.le_of_ble_eq_true rfl) dDV_step_10 ⟨Nat.le_of_ble_eq_true rfl, Nat.le_of_ble_eq_true rfl⟩) rfl (fun y h2 hq => ?_)
    rw [fitA_congr hag3] at hq
    obtain ⟨Ns2, wl2, e1, hd2, hsN2, hnt, hxe2, hF2⟩ := hq
    subst e1
    refine r_if_ne (tgt := 19) (n := 16) C dDV_step_13 (by decide) rfl (fun c_13 => ?_) (fun c_13 => ?_)
    · have hfit : fitA S.1 S.2.1 = true := b01_t c_13
      refine r_iconst (v := 0) (n := 20) C dDV_step_19 rfl (by decide) ?_
      refine r_istore_n (n := 21) C dDV_step_20 rfl (by decide) ?_
      refine V.byk (ls' := [(0, .ref x), (1, .int (nI 0))]) rfl ?_
      exact loop hneg hfit _ 0 h2 wl2 Ns2 rfl (Nat.zero_le _) hd2 (hxe2.trans hxe) (hF1.tr hF2) hsN2 (fun i hi => by rw [hnt hfit i (by omega), newT_congr hag3 (by omega), hb]; rfl) rfl
    · have hz : fitA S.1 S.2.1 = false := b01_f c_13
      have hpre : stpS S = (-2, S) := by unfold stpS; rw [if_neg (by rw [hneg]; decide), if_pos hz]
      refine r_bipush (v := -2) (n := 18) C dDV_step_16 rfl (by decide) ?_
      exact r_iret C dDV_step_18 (Nat.le_refl _) (Nat.le_refl _) ⟨by rw [hpre], by rw [hpre]; exact ⟨G, ⟨g, hxe2.trans hx1, hn, Ls, Ns2, _, rf, cf, hd2, hsL, hsN2, hag, hcf⟩, fun _ h => h, (hF1.tr hF2).x⟩⟩
  · have hz : negA S.1 S.2.1 = true := b01_t c_4
    have hpre : stpS S = (-1, S) := by unfold stpS; rw [if_pos hz]
    refine r_iconst (v := -1) (n := 8) C dDV_step_7 rfl (by decide) ?_
    exact r_iret C dDV_step_8 (Nat.le_refl _) (Nat.le_refl _) ⟨by rw [hpre], by rw [hpre]; exact ⟨G, ⟨g, hx1, hn, Ls, Ns, _, rf, cf, hd1, hsL, hsN, hag, hcf⟩, fun _ h => h, hF1.x⟩⟩
