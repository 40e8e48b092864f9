/-! THE REFERENCE: its state, make and the calls that make a node -/
def PLm (MI : Nat → Nat → Int32) (MV : Nat → Int32) (pl : List Pn) : Prop := MV 19 = nI pl.length ∧ pl.length ≤ 12 ∧ ∀ (i : Nat) (e : Pn), pl[i]? = some e → MI 14 i = e.1 ∧ MI 15 i = e.2.1.1 ∧ MI 16 i = e.2.1.2.1 ∧ MI 17 i = e.2.1.2.2 ∧ MI 18 i = e.2.2
def MRl (MI : Nat → Nat → Int32) (Rl : List Ru) : Prop := ∀ (j : Nat) (R : Ru), Rl[j]? = some R → MAr MI j R ∧ rok (3 + j) R
theorem MRl.keep {MI MI' : Nat → Nat → Int32} {Rl : List Ru} (h : MRl MI Rl) (h10 : ∀ j, j < Rl.length → MI' 10 j = MI 10 j) (h11 : ∀ p, p < Rl.length * 5 → MI' 11 p = MI 11 p) : MRl MI' Rl := fun j R hj => by
  have hl := (List.getElem?_eq_some_iff.mp hj).1
  obtain ⟨⟨e1, e2⟩, e3⟩ := h j R hj
  exact ⟨⟨by rw [h10 j hl]; exact e1, fun i hi => by rw [h11 _ (by omega)]; exact e2 i hi⟩, e3⟩
def PI (S : Sx) : Prop := ∀ i, i < 3 + S.2.2.2.length → Srt (S.1 i) ∧ ∀ r ∈ S.1 i, r.2 ≠ 0
def MS (o : Om) (h : AH) (m : Nat) (ad : Nat → Nat) (S : Sx) : Prop := ∃ MI ML MV, MH o h m ad MI ML MV ∧ MV 13 = nI S.2.2.2.length ∧ S.2.2.2.length ≤ 10 ∧ (∀ i, i < 3 + S.2.2.2.length → BL MI ML i (S.1 i)) ∧ PLm MI MV S.2.1 ∧ MRl MI S.2.2.2 ∧ (∀ j, j < S.2.2.2.length → MI 12 j = S.2.2.1 j) ∧ (∀ c, c < 26 → ∃ L, BL MI ML c L)
def MUp (o : Om) (h h' : AH) (m : Nat) (ad : Nat → Nat) (S : Sx) : Prop := MS o h' m ad S ∧ Frm (mown m ad) h h'
theorem MUp.rf {o : Om} {h : AH} {m : Nat} {ad : Nat → Nat} {S : Sx} (hs : MS o h m ad S) : MUp o h h m ad S := ⟨hs, Frm.rf⟩
theorem PI.srt {S : Sx} (h : PI S) : ∀ i, i < 3 + S.2.2.2.length → Srt (S.1 i) := fun i hi => (h i hi).1
theorem PLm.keep {MI MI' : Nat → Nat → Int32} {MV MV' : Nat → Int32} {pl : List Pn} (h : PLm MI MV pl) (hi : ∀ j, 14 ≤ j → j ≤ 18 → MI' j = MI j) (hv : MV' 19 = MV 19) : PLm MI' MV' pl := by
  obtain ⟨h1, h2, h3⟩ := h
  refine ⟨by rw [hv]; exact h1, h2, fun i e he => ?_⟩
  obtain ⟨e1, e2, e3, e4, e5⟩ := h3 i e he
  rw [hi 14 (by omega) (by omega), hi 15 (by omega) (by omega), hi 16 (by omega) (by omega), hi 17 (by omega) (by omega), hi 18 (by omega) (by omega)]
  exact ⟨e1, e2, e3, e4, e5⟩
theorem rfill_srt13 {R : Ru} {j : Nat} (hok : rok (3 + j) R) {Ls : Nat → List Rw} (hs : ∀ i, i < 3 + j → Srt (Ls i)) : Srt (rfill R Ls) := by
  obtain ⟨kd, a, b, c, d, f, n⟩ := R
  rcases kd with _ | _ | _ | _ | _ | _ | _ | kd
  · have k1 : a < 3 := hok
    exact hs a (by omega)
  · exact (gdF b c n).srt0 _
  · exact (gdM b c d).srt0 _
  · exact JO_srt _ List.Pairwise.nil
  · obtain ⟨k1, k2, k3, k4, -⟩ : 3 ≤ a ∧ a < 3 + j ∧ 3 ≤ b ∧ b < 3 + j ∧ c < 2 := hok
    exact (gdC (sgF c)).srt _ (hs a (by omega))
  · exact gdD.srt0 _
  · exact GRi_srt _ _ _ _ _
  · exact absurd hok id
set_option maxHeartbeats 4000000 in
set_option maxRecDepth 100000 in
/-- make -/
theorem c_MD_make (l : Launch) (o : Om) (h : AH) (m : Nat) (ad : Nat → Nat) (S : Sx) (R : Ru) (hs : MS o h m ad S) (pi : PI S) (hok0 : S.2.2.2.length < 10 → rok (3 + S.2.2.2.length) R) : Mt l o yMD_make cMD_make 7 (some .int) ({ frames := 4, cells := 0, slots := 0, locals := 108 } : Room) [.ref m, .int (nI R.1), .int (mArg R 0), .int (mArg R 1), .int (mArg R 2), .int (mArg R 3), .int (mArg R 4)] h (QI o (fun r h' => r = (mkS R S).1 ∧ MUp o h h' m ad (mkS R S).2)) (0) (0) := by
  refine Met.ofV (by decide) (Nat.le_of_ble_eq_true rfl) (fun K hl ho C => ?_)
  subst hl; subst ho
  obtain ⟨MI, ML, MV, hM, hnd, hn10, hBL, hPL, hRL, hcf, hall⟩ := id hs
  refine r_aload_n (n := 1) C dMD_make_0 rfl rfl ?_
  refine r_get (ci := 10) (n := 4) C hinMD rfl 13 (by decide) tw_548 rfl dMD_make_1 rfl hM.1 rfl ?_
  refine V.eqi hnd ?_
  refine r_bipush (v := 10) (n := 6) C dMD_make_4 rfl (by decide) ?_
  refine r_icmp_ne (tgt := 12) (n := 9) C dMD_make_6 (by decide) rfl (fun c_6 => ?_) (fun c_6 => ?_)
  · have hlt : S.2.2.2.length < 10 := by
      have : S.2.2.2.length ≠ 10 := fun e => c_6 (by rw [e]; rfl)
      omega
    have hok := hok0 hlt
    refine r_aload_n (n := 13) C dMD_make_12 rfl rfl ?_
    refine r_get (ci := 10) (n := 16) C hinMD rfl 10 (by decide) tw_545 rfl dMD_make_13 rfl hM.1 rfl ?_
    refine r_aload_n (n := 17) C dMD_make_16 rfl rfl ?_
    refine r_get (ci := 10) (n := 20) C hinMD rfl 13 (by decide) tw_548 rfl dMD_make_17 rfl hM.1 rfl ?_
    refine V.eqi hnd ?_
    refine r_iload_n (n := 21) C dMD_make_20 rfl rfl ?_
    refine r_iastM (n := 22) C dMD_make_21 rfl hM 10 (by decide) S.2.2.2.length rfl (by show _ < 10; omega) (fun h1 hM1 hF1 => ?_)
    refine r_aload_n (n := 23) C dMD_make_22 rfl rfl ?_
    refine r_get (ci := 10) (n := 26) C hinMD rfl 11 (by decide) tw_546 rfl dMD_make_23 rfl hM1.1 rfl ?_
    refine r_aload_n (n := 27) C dMD_make_26 rfl rfl ?_
    refine r_get (ci := 10) (n := 30) C hinMD rfl 13 (by decide) tw_548 rfl dMD_make_27 rfl hM1.1 rfl ?_
    refine V.eqi hnd ?_
    refine r_iconst (v := 5) (n := 31) C dMD_make_30 rfl (by decide) ?_
    refine r_imul (n := 32) C dMD_make_31 rfl ?_
    refine r_iload_n (n := 33) C dMD_make_32 rfl rfl ?_
    refine r_iastM (n := 34) C dMD_make_33 rfl hM1 11 (by decide) (S.2.2.2.length * 5) (x5 _) (by show _ < 50; omega) (fun h2 hM2 hF2 => ?_)
    refine r_aload_n (n := 35) C dMD_make_34 rfl rfl ?_
    refine r_get (ci := 10) (n := 38) C hinMD rfl 11 (by decide) tw_546 rfl dMD_make_35 rfl hM2.1 rfl ?_
    refine r_aload_n (n := 39) C dMD_make_38 rfl rfl ?_
    refine r_get (ci := 10) (n := 42) C hinMD rfl 13 (by decide) tw_548 rfl dMD_make_39 rfl hM2.1 rfl ?_
    refine V.eqi hnd ?_
    refine r_iconst (v := 5) (n := 43) C dMD_make_42 rfl (by decide) ?_
    refine r_imul (n := 44) C dMD_make_43 rfl ?_
    refine r_iconst (v := 1) (n := 45) C dMD_make_44 rfl (by decide) ?_
    refine r_iadd (n := 46) C dMD_make_45 rfl ?_
    refine r_iload_n (n := 47) C dMD_make_46 rfl rfl ?_
    refine r_iastM (n := 48) C dMD_make_47 rfl hM2 11 (by decide) (S.2.2.2.length * 5 + 1) (x5i _ 1) (by show _ < 50; omega) (fun h3 hM3 hF3 => ?_)
    refine r_aload_n (n := 49) C dMD_make_48 rfl rfl ?_
    refine r_get (ci := 10) (n := 52) C hinMD rfl 11 (by decide) tw_546 rfl dMD_make_49 rfl hM3.1 rfl ?_
    refine r_aload_n (n := 53) C dMD_make_52 rfl rfl ?_
    refine r_get (ci := 10) (n := 56) C hinMD rfl 13 (by decide) tw_548 rfl dMD_make_53 rfl hM3.1 rfl ?_
    refine V.eqi hnd ?_
    refine r_iconst (v := 5) (n := 57) C dMD_make_56 rfl (by decide) ?_
    refine r_imul (n := 58) C dMD_make_57 rfl ?_
    refine r_iconst (v := 2) (n := 59) C dMD_make_58 rfl (by decide) ?_
    refine r_iadd (n := 60) C dMD_make_59 rfl ?_
    refine r_iload (n := 62) C dMD_make_60 rfl rfl ?_
    refine r_iastM (n := 63) C dMD_make_62 rfl hM3 11 (by decide) (S.2.2.2.length * 5 + 2) (x5i _ 2) (by show _ < 50; omega) (fun h4 hM4 hF4 => ?_)
    refine r_aload_n (n := 64) C dMD_make_63 rfl rfl ?_
    refine r_get (ci := 10) (n := 67) C hinMD rfl 11 (by decide) tw_546 rfl dMD_make_64 rfl hM4.1 rfl ?_
    refine r_aload_n (n := 68) C dMD_make_67 rfl rfl ?_
    refine r_get (ci := 10) (n := 71) C hinMD rfl 13 (by decide) tw_548 rfl dMD_make_68 rfl hM4.1 rfl ?_
    refine V.eqi hnd ?_
    refine r_iconst (v := 5) (n := 72) C dMD_make_71 rfl (by decide) ?_
    refine r_imul (n := 73) C dMD_make_72 rfl ?_
    refine r_iconst (v := 3) (n := 74) C dMD_make_73 rfl (by decide) ?_
    refine r_iadd (n := 75) C dMD_make_74 rfl ?_
    refine r_iload (n := 77) C dMD_make_75 rfl rfl ?_
    refine r_iastM (n := 78) C dMD_make_77 rfl hM4 11 (by decide) (S.2.2.2.length * 5 + 3) (x5i _ 3) (by show _ < 50; omega) (fun h5 hM5 hF5 => ?_)
    refine r_aload_n (n := 79) C dMD_make_78 rfl rfl ?_
    refine r_get (ci := 10) (n := 82) C hinMD rfl 11 (by decide) tw_546 rfl dMD_make_79 rfl hM5.1 rfl ?_
    refine r_aload_n (n := 83) C dMD_make_82 rfl rfl ?_
    refine r_get (ci := 10) (n := 86) C hinMD rfl 13 (by decide) tw_548 rfl dMD_make_83 rfl hM5.1 rfl ?_
    refine V.eqi hnd ?_
    refine r_iconst (v := 5) (n := 87) C dMD_make_86 rfl (by decide) ?_
    refine r_imul (n := 88) C dMD_make_87 rfl ?_
    refine r_iconst (v := 4) (n := 89) C dMD_make_88 rfl (by decide) ?_
    refine r_iadd (n := 90) C dMD_make_89 rfl ?_
    refine r_iload (n := 92) C dMD_make_90 rfl rfl ?_
    refine r_iastM (n := 93) C dMD_make_92 rfl hM5 11 (by decide) (S.2.2.2.length * 5 + 4) (x5i _ 4) (by show _ < 50; omega) (fun h6 hM6 hF6 => ?_)
    obtain ⟨MI6, eMI6⟩ : ∃ f, f = va_up (va_up (va_up (va_up (va_up (va_up MI 10 (upd (MI 10) S.2.2.2.length (nI R.1))) 11 (upd (MI 11) (S.2.2.2.length * 5) (mArg R 0))) 11 (upd (upd (MI 11) (S.2.2.2.length * 5) (mArg R 0)) (S.2.2.2.length * 5 + 1) (mArg R 1))) 11 (upd (upd (upd (MI 11) (S.2.2.2.length * 5) (mArg R 0)) (S.2.2.2.length * 5 + 1) (mArg R 1)) (S.2.2.2.length * 5 + 2) (mArg R 2))) 11 (upd (upd (upd (upd (MI 11) (S.2.2.2.length * 5) (mArg R 0)) (S.2.2.2.length * 5 + 1) (mArg R 1)) (S.2.2.2.length * 5 + 2) (mArg R 2)) (S.2.2.2.length * 5 + 3) (mArg R 3))) 11 (upd (upd (upd (upd (upd (MI 11) (S.2.2.2.length * 5) (mArg R 0)) (S.2.2.2.length * 5 + 1) (mArg R 1)) (S.2.2.2.length * 5 + 2) (mArg R 2)) (S.2.2.2.length * 5 + 3) (mArg R 3)) (S.2.2.2.length * 5 + 4) (mArg R 4)) := ⟨_, rfl⟩
    have hM6 : MH (Ko K) h6 m ad MI6 ML MV := by rw [eMI6]; exact hM6
    have hoth : ∀ j, j ≠ 10 → j ≠ 11 → MI6 j = MI j := fun j h10 h11 => by rw [eMI6, va_up_ne _ _ h11, va_up_ne _ _ h11, va_up_ne _ _ h11, va_up_ne _ _ h11, va_up_ne _ _ h11, va_up_ne _ _ h10]
    have h10 : MI6 10 = upd (MI 10) S.2.2.2.length (nI R.1) := by rw [eMI6]; rfl
    have h11 : MI6 11 = upd (upd (upd (upd (upd (MI 11) (S.2.2.2.length * 5) (mArg R 0)) (S.2.2.2.length * 5 + 1) (mArg R 1)) (S.2.2.2.length * 5 + 2) (mArg R 2)) (S.2.2.2.length * 5 + 3) (mArg R 3)) (S.2.2.2.length * 5 + 4) (mArg R 4) := by rw [eMI6]; rfl
    have hA6 : MAr MI6 S.2.2.2.length R := by
      refine ⟨by rw [h10, pk_us], fun i hi => ?_⟩
      rw [h11]
      rcases (show i = 0 ∨ i = 1 ∨ i = 2 ∨ i = 3 ∨ i = 4 by omega) with e | e | e | e | e <;> subst e
      · rw [pk_un (by omega), pk_un (by omega), pk_un (by omega), pk_un (by omega), Nat.add_zero, pk_us]
      · rw [pk_un (by omega), pk_un (by omega), pk_un (by omega), pk_us]
      · rw [pk_un (by omega), pk_un (by omega), pk_us]
      · rw [pk_un (by omega), pk_us]
      · rw [pk_us]
    have hRL6 : MRl MI6 S.2.2.2 := hRL.keep (fun j hj => by rw [h10, pk_un (by omega)]) (fun p hp => by rw [h11, pk_un (by omega), pk_un (by omega), pk_un (by omega), pk_un (by omega), pk_un (by omega)])
    have hB6 : ∀ i, i < 3 + S.2.2.2.length → BL MI6 ML (0 + i) (S.1 i) := fun i hi => by
      rw [Nat.zero_add]
      obtain ⟨b1, b2, b3⟩ := hBL i hi
      exact ⟨by rw [hoth 4 (by decide) (by decide)]; exact b1, b2, fun k r hr => by rw [hoth 0 (by decide) (by decide), hoth 1 (by decide) (by decide), hoth 2 (by decide) (by decide)]; exact b3 k r hr⟩
    have hPL6 : PLm MI6 MV S.2.1 := hPL.keep (fun j h14 h18 => hoth j (by omega) (by omega)) rfl
    have hF06 : Frm (mown m ad) h h6 := ((((hF1.tr hF2).tr hF3).tr hF4).tr hF5).tr hF6
    have hev := ev_wt hok (by omega) pi.srt
    have hse := settle_eq (rfill_srt13 hok pi.srt) hev.2 hev.1
    refine r_aload_n (n := 94) C dMD_make_93 rfl rfl ?_
    refine r_aload_n (n := 95) C dMD_make_94 rfl rfl ?_
    refine r_get (ci := 10) (n := 98) C hinMD rfl 13 (by decide) tw_548 rfl dMD_make_95 rfl hM6.1 rfl ?_
    refine V.eqi hnd ?_
    refine r_iconst (v := 0) (n := 99) C dMD_make_98 rfl (by decide) ?_
    refine r_ci (n := 102) (rn_V (z := 2) (ci := 10) (T := TMD) C (c_MD_evaluate (Kl K) (Ko K) h6 m ad MI6 ML MV S.2.2.2.length 0 R S.1 hM6 hlt (by omega) hA6 hok hB6) tw_608 tw_610 ts_21 tw_4 tw_611 rfl rfl ndMD_evaluate ⟨Nat.le_of_ble_eq_true rfl, Nat.le_of_ble_eq_true rfl⟩ hM6.1 rfl rfl rfl (Nat.le_of_ble_eq_true rfl) dMD_make_99 ⟨Nat.le_of_ble_eq_true rfl, Nat.le_of_ble_eq_true rfl⟩) rfl (fun y h7 hq => ?_)
    rw [hse, show 0 + 3 + S.2.2.2.length = 3 + S.2.2.2.length by omega] at hq
    obtain ⟨e1, MI7, ML7, MV7, hM7, hE7, hB7, hN7, hF7⟩ := hq
    subst e1
    have hRL7 : MRl MI7 S.2.2.2 := hRL6.keep (fun j hj => by rw [hE7.1 10 (by decide) (by decide) (by decide) (by decide) (by decide) (by decide) (by decide)]) (fun p hp => by rw [hE7.1 11 (by decide) (by decide) (by decide) (by decide) (by decide) (by decide) (by decide)])
    have hPL7 : PLm MI7 MV7 S.2.1 := hPL6.keep (fun j h14 h18 => hE7.1 j (by omega) (by omega) (by omega) (by omega) (by omega) (by omega) (by omega)) (hE7.2.2.2 19 (by decide))
    have hBL7 : ∀ i, i < 3 + S.2.2.2.length → BL MI7 ML7 i (S.1 i) := fun i hi => by have := hB6 i hi; rw [Nat.zero_add] at this; exact this.esame hE7 (by omega)
    have hnd7 : MV7 13 = nI S.2.2.2.length := by rw [hE7.2.2.2 13 (by decide)]; exact hnd
    have hall6 : ∀ c, c < 26 → ∃ L, BL MI6 ML c L := fun c hc => by
      obtain ⟨L, b1, b2, b3⟩ := hall c hc
      exact ⟨L, by rw [hoth 4 (by decide) (by decide)]; exact b1, b2, fun k r hr => by rw [hoth 0 (by decide) (by decide), hoth 1 (by decide) (by decide), hoth 2 (by decide) (by decide)]; exact b3 k r hr⟩
    have hall7 : ∀ c, c < 26 → ∃ L, BL MI7 ML7 c L := fun c hc => by
      obtain ⟨L, hL⟩ := hall6 c hc
      by_cases e : c = 3 + S.2.2.2.length
      · cases hfb : fitB 24 (nz (rfill R S.1)) with
        | true => exact ⟨_, e ▸ hB7 hfb⟩
        | false =>
          obtain ⟨n0, n1, n2, n4, n3⟩ := hN7 hfb
          exact ⟨L, by rw [n4]; exact hL.1, hL.2.1, fun k r hr => by rw [n0, n1, n2, n3]; exact hL.2.2 k r hr⟩
      · exact ⟨L, hL.esame hE7 e⟩
    have h127 : MI7 12 = MI 12 := (hE7.1 12 (by decide) (by decide) (by decide) (by decide) (by decide) (by decide) (by decide)).trans (hoth 12 (by decide) (by decide))
    refine r_if_ne (tgt := 108) (n := 105) C dMD_make_102 (by decide) rfl (fun c_102 => ?_) (fun c_102 => ?_)
    · have hz0 : fitB 24 (nz (rfill R S.1)) = true := b01_t c_102
      have hz : mkOK R S = true := by unfold mkOK; rw [hz0, decide_eq_true hlt]; rfl
      refine r_aload_n (n := 109) C dMD_make_108 rfl rfl ?_
      refine r_get (ci := 10) (n := 112) C hinMD rfl 12 (by decide) tw_547 rfl dMD_make_109 rfl hM7.1 rfl ?_
      refine r_aload_n (n := 113) C dMD_make_112 rfl rfl ?_
      refine r_get (ci := 10) (n := 116) C hinMD rfl 13 (by decide) tw_548 rfl dMD_make_113 rfl hM7.1 rfl ?_
      refine V.eqi hnd7 ?_
      refine r_iconst (v := 0) (n := 117) C dMD_make_116 rfl (by decide) ?_
      refine r_iastM (n := 118) C dMD_make_117 rfl hM7 12 (by decide) S.2.2.2.length rfl (by show _ < 10; omega) (fun h8 hM8 hF8 => ?_)
      refine r_aload_n (n := 119) C dMD_make_118 rfl rfl ?_
      refine r_dup (n := 120) C dMD_make_119 rfl rfl ?_
      refine r_get (ci := 10) (n := 123) C hinMD rfl 13 (by decide) tw_548 rfl dMD_make_120 rfl hM8.1 rfl ?_
      refine V.eqi hnd7 ?_
      refine r_iconst (v := 1) (n := 124) C dMD_make_123 rfl (by decide) ?_
      refine r_iadd (n := 125) C dMD_make_124 rfl ?_
      refine V.eqi (nI_1 _) ?_
      refine r_put (ci := 10) (n := 128) C hinMD tyMD okMD nmMD rfl 13 (by decide) tw_548 rfl rfl (okMD 13 (by decide)) rfl rfl dMD_make_125 rfl hM8.1 (Nat.le_of_ble_eq_true rfl) ?_
      refine V.setV hM8 13 (by decide) _ rfl (fun h9 hM9 hF9 => ?_)
      refine r_aload_n (n := 129) C dMD_make_128 rfl rfl ?_
      refine r_get (ci := 10) (n := 132) C hinMD rfl 13 (by decide) tw_548 rfl dMD_make_129 rfl hM9.1 rfl ?_
      refine V.eqi (y := nI (S.2.2.2.length + 1)) rfl ?_
      refine r_iconst (v := 1) (n := 133) C dMD_make_132 rfl (by decide) ?_
      refine r_isub (n := 134) C dMD_make_133 rfl ?_
      refine V.eqi (nI_pred _) ?_
      exact r_iret C dMD_make_134 (Nat.le_refl _) (Nat.le_refl _) ⟨by unfold mkS; rw [hz]; rfl, by
            unfold mkS; rw [hz]
            simp only [if_pos]
            refine ⟨⟨_, _, _, hM9, by rw [List.length_append]; rfl, by rw [List.length_append]; exact hlt, fun i hi => ?_, hPL7.keep (fun j h14 h18 => va_up_ne _ _ (by omega)) rfl, fun j R0 hj => ?_, fun j hj => ?_, hall7⟩, ((hF06.tr hF7).tr hF8).tr hF9⟩
            · show BL (va_up MI7 12 _) ML7 i (updL S.1 (3 + S.2.2.2.length) (nz (rfill R S.1)) i)
              rw [List.length_append] at hi
              unfold updL
              by_cases e : i = 3 + S.2.2.2.length
              · rw [if_pos e, e]; exact hB7 hz0
              · rw [if_neg e]; exact hBL7 i (by simp at hi; omega)
            · by_cases hjl : j < S.2.2.2.length
              · rw [List.getElem?_append_left hjl] at hj
                exact hRL7 j R0 hj
              · rw [List.getElem?_append_right (by omega)] at hj
                have hz1 := (List.getElem?_eq_some_iff.mp hj).1
                have ej : j = S.2.2.2.length := by simp at hz1; omega
                subst ej
                rw [Nat.sub_self] at hj
                cases hj
                refine ⟨⟨?_, fun i hi => ?_⟩, hok⟩
                · show MI7 10 _ = _
                  rw [hE7.1 10 (by decide) (by decide) (by decide) (by decide) (by decide) (by decide) (by decide)]; exact hA6.1
                · show MI7 11 _ = _
                  rw [hE7.1 11 (by decide) (by decide) (by decide) (by decide) (by decide) (by decide) (by decide)]; exact hA6.2 i hi
            · show upd (MI7 12) S.2.2.2.length 0 j = upd S.2.2.1 S.2.2.2.length 0 j
              rw [List.length_append] at hj
              by_cases e : j = S.2.2.2.length
              · subst e; rw [pk_us, pk_us]
              · rw [pk_un e, pk_un e, h127]; exact hcf j (by simp at hj; omega)⟩
    · have hz0 : fitB 24 (nz (rfill R S.1)) = false := b01_f c_102
      have hz : mkOK R S = false := by unfold mkOK; rw [hz0, Bool.and_false]
      refine r_bipush (v := -2) (n := 107) C dMD_make_105 rfl (by decide) ?_
      exact r_iret C dMD_make_107 (Nat.le_refl _) (Nat.le_refl _) ⟨by unfold mkS; rw [hz]; rfl, by unfold mkS; rw [hz]; exact ⟨⟨MI7, ML7, MV7, hM7, hnd7, hn10, hBL7, hPL7, hRL7, fun j hj => by rw [h127]; exact hcf j hj, hall7⟩, hF06.tr hF7⟩⟩
  · have hz : mkOK R S = false := by
      have : S.2.2.2.length = 10 := (nI_eq (a := S.2.2.2.length) (b := 10) (by omega) (by omega)).mp c_6
      unfold mkOK; rw [this]; rfl
    refine r_bipush (v := -2) (n := 11) C dMD_make_9 rfl (by decide) ?_
    exact r_iret C dMD_make_11 (Nat.le_refl _) (Nat.le_refl _) ⟨by unfold mkS; rw [hz]; rfl, by unfold mkS; rw [hz]; exact MUp.rf hs⟩
set_option maxHeartbeats 4000000 in
set_option maxRecDepth 100000 in
/-- table -/
theorem c_MD_table (l : Launch) (o : Om) (h : AH) (m : Nat) (v : Int32) (ad : Nat → Nat) (S : Sx) (hs : MS o h m ad S) (pi : PI S) : Mt l o yMD_table cMD_table 2 (some .int) ({ frames := 5, cells := 0, slots := 0, locals := 134 } : Room) [.ref m, .int v] h (QI o (fun r h' => r = (tabS v S).1 ∧ MUp o h h' m ad (tabS v S).2)) (0) (0) := by
  refine Met.ofV (by decide) (Nat.le_of_ble_eq_true rfl) (fun K hl ho C => ?_)
  subst hl; subst ho
  obtain ⟨MI, ML, MV, hM, hnd, hn10, hBL, hPL, hRL, hcf, hall⟩ := id hs
  refine r_aload_n (n := 1) C dMD_table_0 rfl rfl ?_
  refine r_iload_n (n := 2) C dMD_table_1 rfl rfl ?_
  refine r_iconst (v := 3) (n := 3) C dMD_table_2 rfl (by decide) ?_
  refine r_ci (n := 6) (rn_V (z := 2) (ci := 10) (T := TMD) C (c_MD_out (Kl K) (Ko K) h m _ v (3) hM.1) tw_600 tw_602 ts_19 tw_4 tw_603 rfl rfl ndMD_out ⟨Nat.le_of_ble_eq_true rfl, Nat.le_of_ble_eq_true rfl⟩ hM.1 rfl rfl rfl (Nat.le_of_ble_eq_true rfl) dMD_table_3 ⟨Nat.le_of_ble_eq_true rfl, Nat.le_of_ble_eq_true rfl⟩) rfl (fun y ah hq => ?_)
  obtain ⟨e1, e2⟩ := hq
  subst e1
  rw [e2]
  refine r_if_eq (tgt := 13) (n := 9) C dMD_table_6 (by decide) rfl (fun c_6 => ?_) (fun c_6 => ?_)
  · have hy0 : inR v (3) = true := by have := b01_f c_6; simpa using this
    obtain ⟨ev, lv⟩ := inR_c (n := 3) (by omega) hy0
    refine r_aload_n (n := 14) C dMD_table_13 rfl rfl ?_
    refine r_iconst (v := 0) (n := 15) C dMD_table_14 rfl (by decide) ?_
    refine r_iload_n (n := 16) C dMD_table_15 rfl rfl ?_
    refine V.eqi ev ?_
    refine r_iconst (v := 0) (n := 17) C dMD_table_16 rfl (by decide) ?_
    refine r_iconst (v := 0) (n := 18) C dMD_table_17 rfl (by decide) ?_
    refine r_iconst (v := 0) (n := 19) C dMD_table_18 rfl (by decide) ?_
    refine r_iconst (v := 0) (n := 20) C dMD_table_19 rfl (by decide) ?_
    refine r_ci (n := 23) (rn_V (z := 6) (ci := 10) (T := TMD) C (c_MD_make (Kl K) (Ko K) h m ad S (0, cl v, 0, 0, 0, 0, 0) hs pi (fun _ => by show _; first | exact lv | exact ⟨by omega, by omega, by omega⟩ | exact ⟨by omega, by omega⟩ | exact ⟨by omega, by omega, by omega, by omega⟩ | exact ⟨by omega, by omega, by omega, by omega, by omega⟩ | exact ⟨by omega, by omega, by omega, by omega, by omega, by omega, by omega⟩)) tw_604 tw_606 ts_20 tw_4 tw_607 rfl rfl ndMD_make ⟨Nat.le_of_ble_eq_true rfl, Nat.le_of_ble_eq_true rfl⟩ hM.1 rfl rfl rfl (Nat.le_of_ble_eq_true rfl) dMD_table_20 ⟨Nat.le_of_ble_eq_true rfl, Nat.le_of_ble_eq_true rfl⟩) rfl (fun y h3 hq => ?_)
    obtain ⟨e1, e2⟩ := hq
    subst e1
    exact r_iret C dMD_table_23 (Nat.le_refl _) (Nat.le_refl _) ⟨by unfold tabS; rw [if_pos (by simp [hy0])], by unfold tabS; rw [if_pos (by simp [hy0])]; exact e2⟩
  · have hz0 : inR v (3) = false := by have := b01_t c_6; simpa using this
    refine r_iconst (v := -1) (n := 10) C dMD_table_9 rfl (by decide) ?_
    refine r_goto (tgt := 23) C dMD_table_10 (by decide) ?_
    exact r_iret C dMD_table_23 (Nat.le_refl _) (Nat.le_refl _) ⟨by unfold tabS; rw [if_neg (by simp [hz0])], by unfold tabS; rw [if_neg (by simp [hz0])]; exact MUp.rf hs⟩
set_option maxHeartbeats 4000000 in
set_option maxRecDepth 100000 in
/-- filter -/
theorem c_MD_filter (l : Launch) (o : Om) (h : AH) (m : Nat) (v c t n : Int32) (ad : Nat → Nat) (S : Sx) (hs : MS o h m ad S) (pi : PI S) : Mt l o yMD_filter cMD_filter 5 (some .int) ({ frames := 5, cells := 0, slots := 0, locals := 134 } : Room) [.ref m, .int v, .int c, .int t, .int n] h (QI o (fun r h' => r = (filS v c t n S).1 ∧ MUp o h h' m ad (filS v c t n S).2)) (0) (0) := by
  refine Met.ofV (by decide) (Nat.le_of_ble_eq_true rfl) (fun K hl ho C => ?_)
  subst hl; subst ho
  obtain ⟨MI, ML, MV, hM, hnd, hn10, hBL, hPL, hRL, hcf, hall⟩ := id hs
  refine r_aload_n (n := 1) C dMD_filter_0 rfl rfl ?_
  refine r_iload_n (n := 2) C dMD_filter_1 rfl rfl ?_
  refine r_aload_n (n := 3) C dMD_filter_2 rfl rfl ?_
  refine r_get (ci := 10) (n := 6) C hinMD rfl 13 (by decide) tw_548 rfl dMD_filter_3 rfl hM.1 rfl ?_
  refine V.eqi hnd ?_
  refine r_ci (n := 9) (rn_V (z := 2) (ci := 10) (T := TMD) C (c_MD_out (Kl K) (Ko K) h m _ v (nod S) hM.1) tw_600 tw_602 ts_19 tw_4 tw_603 rfl rfl ndMD_out ⟨Nat.le_of_ble_eq_true rfl, Nat.le_of_ble_eq_true rfl⟩ hM.1 rfl rfl rfl (Nat.le_of_ble_eq_true rfl) dMD_filter_6 ⟨Nat.le_of_ble_eq_true rfl, Nat.le_of_ble_eq_true rfl⟩) rfl (fun y ah hq => ?_)
  obtain ⟨e1, e2⟩ := hq
  subst e1
  rw [e2]
  refine r_if_ne (tgt := 30) (n := 12) C dMD_filter_9 (by decide) rfl (fun c_9 => ?_) (fun c_9 => ?_)
  · have hz0 : inR v (nod S) = false := by have := b01_t c_9; simpa using this
    refine r_iconst (v := -1) (n := 31) C dMD_filter_30 rfl (by decide) ?_
    exact r_iret C dMD_filter_31 (Nat.le_refl _) (Nat.le_refl _) ⟨by unfold filS; rw [if_neg (by simp [hz0])], by unfold filS; rw [if_neg (by simp [hz0])]; exact MUp.rf hs⟩
  · have hy0 : inR v (nod S) = true := by have := b01_f c_9; simpa using this
    obtain ⟨ev, lv⟩ := inR_c (n := S.2.2.2.length) (by omega) hy0
    refine r_aload_n (n := 13) C dMD_filter_12 rfl rfl ?_
    refine r_iload_n (n := 14) C dMD_filter_13 rfl rfl ?_
    refine r_iconst (v := 3) (n := 15) C dMD_filter_14 rfl (by decide) ?_
    refine r_ci (n := 18) (rn_V (z := 2) (ci := 10) (T := TMD) C (c_MD_out (Kl K) (Ko K) h m _ c (3) hM.1) tw_600 tw_602 ts_19 tw_4 tw_603 rfl rfl ndMD_out ⟨Nat.le_of_ble_eq_true rfl, Nat.le_of_ble_eq_true rfl⟩ hM.1 rfl rfl rfl (Nat.le_of_ble_eq_true rfl) dMD_filter_15 ⟨Nat.le_of_ble_eq_true rfl, Nat.le_of_ble_eq_true rfl⟩) rfl (fun y ah hq => ?_)
    obtain ⟨e1, e2⟩ := hq
    subst e1
    rw [e2]
    refine r_if_ne (tgt := 30) (n := 21) C dMD_filter_18 (by decide) rfl (fun c_18 => ?_) (fun c_18 => ?_)
    · have hz1 : inR c (3) = false := by have := b01_t c_18; simpa using this
      refine r_iconst (v := -1) (n := 31) C dMD_filter_30 rfl (by decide) ?_
      exact r_iret C dMD_filter_31 (Nat.le_refl _) (Nat.le_refl _) ⟨by unfold filS; rw [if_neg (by simp [hz1])], by unfold filS; rw [if_neg (by simp [hz1])]; exact MUp.rf hs⟩
    · have hy1 : inR c (3) = true := by have := b01_f c_18; simpa using this
      obtain ⟨ec, lc⟩ := inR_c (n := 3) (by omega) hy1
      refine r_aload_n (n := 22) C dMD_filter_21 rfl rfl ?_
      refine r_iload_n (n := 23) C dMD_filter_22 rfl rfl ?_
      refine r_iconst (v := 4) (n := 24) C dMD_filter_23 rfl (by decide) ?_
      refine r_ci (n := 27) (rn_V (z := 2) (ci := 10) (T := TMD) C (c_MD_out (Kl K) (Ko K) h m _ t (4) hM.1) tw_600 tw_602 ts_19 tw_4 tw_603 rfl rfl ndMD_out ⟨Nat.le_of_ble_eq_true rfl, Nat.le_of_ble_eq_true rfl⟩ hM.1 rfl rfl rfl (Nat.le_of_ble_eq_true rfl) dMD_filter_24 ⟨Nat.le_of_ble_eq_true rfl, Nat.le_of_ble_eq_true rfl⟩) rfl (fun y ah hq => ?_)
      obtain ⟨e1, e2⟩ := hq
      subst e1
      rw [e2]
      refine r_if_eq (tgt := 32) (n := 30) C dMD_filter_27 (by decide) rfl (fun c_27 => ?_) (fun c_27 => ?_)
      · have hy2 : inR t (4) = true := by have := b01_f c_27; simpa using this
        obtain ⟨et, lt⟩ := inR_c (n := 4) (by omega) hy2
        refine r_aload_n (n := 33) C dMD_filter_32 rfl rfl ?_
        refine r_iconst (v := 1) (n := 34) C dMD_filter_33 rfl (by decide) ?_
        refine r_iload_n (n := 35) C dMD_filter_34 rfl rfl ?_
        refine V.eqi (y := nI (3 + cl v - 3)) (by rw [Nat.add_sub_cancel_left]; exact ev) ?_
        refine r_iload_n (n := 36) C dMD_filter_35 rfl rfl ?_
        refine V.eqi ec ?_
        refine r_iload_n (n := 37) C dMD_filter_36 rfl rfl ?_
        refine V.eqi et ?_
        refine r_iload (n := 39) C dMD_filter_37 rfl rfl ?_
        refine r_iconst (v := 0) (n := 40) C dMD_filter_39 rfl (by decide) ?_
        refine r_ci (n := 43) (rn_V (z := 6) (ci := 10) (T := TMD) C (c_MD_make (Kl K) (Ko K) h m ad S (1, 3 + cl v, cl c, cl t, 0, 0, n) hs pi (fun _ => by show _; first | exact lv | exact ⟨by omega, by omega, by omega⟩ | exact ⟨by omega, by omega⟩ | exact ⟨by omega, by omega, by omega, by omega⟩ | exact ⟨by omega, by omega, by omega, by omega, by omega⟩ | exact ⟨by omega, by omega, by omega, by omega, by omega, by omega, by omega⟩)) tw_604 tw_606 ts_20 tw_4 tw_607 rfl rfl ndMD_make ⟨Nat.le_of_ble_eq_true rfl, Nat.le_of_ble_eq_true rfl⟩ hM.1 rfl rfl rfl (Nat.le_of_ble_eq_true rfl) dMD_filter_40 ⟨Nat.le_of_ble_eq_true rfl, Nat.le_of_ble_eq_true rfl⟩) rfl (fun y h3 hq => ?_)
        obtain ⟨e1, e2⟩ := hq
        subst e1
        exact r_iret C dMD_filter_43 (Nat.le_refl _) (Nat.le_refl _) ⟨by unfold filS; rw [if_pos (by simp [hy0, hy1, hy2])], by unfold filS; rw [if_pos (by simp [hy0, hy1, hy2])]; exact e2⟩
      · have hz2 : inR t (4) = false := by have := b01_t c_27; simpa using this
        refine r_iconst (v := -1) (n := 31) C dMD_filter_30 rfl (by decide) ?_
        exact r_iret C dMD_filter_31 (Nat.le_refl _) (Nat.le_refl _) ⟨by unfold filS; rw [if_neg (by simp [hz2])], by unfold filS; rw [if_neg (by simp [hz2])]; exact MUp.rf hs⟩
set_option maxHeartbeats 4000000 in
set_option maxRecDepth 100000 in
/-- map -/
theorem c_MD_map (l : Launch) (o : Om) (h : AH) (m : Nat) (v x1 y1 z1 : Int32) (ad : Nat → Nat) (S : Sx) (hs : MS o h m ad S) (pi : PI S) : Mt l o yMD_map cMD_map 5 (some .int) ({ frames := 5, cells := 0, slots := 0, locals := 134 } : Room) [.ref m, .int v, .int x1, .int y1, .int z1] h (QI o (fun r h' => r = (mapS v x1 y1 z1 S).1 ∧ MUp o h h' m ad (mapS v x1 y1 z1 S).2)) (0) (0) := by
  refine Met.ofV (by decide) (Nat.le_of_ble_eq_true rfl) (fun K hl ho C => ?_)
  subst hl; subst ho
  obtain ⟨MI, ML, MV, hM, hnd, hn10, hBL, hPL, hRL, hcf, hall⟩ := id hs
  refine r_aload_n (n := 1) C dMD_map_0 rfl rfl ?_
  refine r_iload_n (n := 2) C dMD_map_1 rfl rfl ?_
  refine r_aload_n (n := 3) C dMD_map_2 rfl rfl ?_
  refine r_get (ci := 10) (n := 6) C hinMD rfl 13 (by decide) tw_548 rfl dMD_map_3 rfl hM.1 rfl ?_
  refine V.eqi hnd ?_
  refine r_ci (n := 9) (rn_V (z := 2) (ci := 10) (T := TMD) C (c_MD_out (Kl K) (Ko K) h m _ v (nod S) hM.1) tw_600 tw_602 ts_19 tw_4 tw_603 rfl rfl ndMD_out ⟨Nat.le_of_ble_eq_true rfl, Nat.le_of_ble_eq_true rfl⟩ hM.1 rfl rfl rfl (Nat.le_of_ble_eq_true rfl) dMD_map_6 ⟨Nat.le_of_ble_eq_true rfl, Nat.le_of_ble_eq_true rfl⟩) rfl (fun y ah hq => ?_)
  obtain ⟨e1, e2⟩ := hq
  subst e1
  rw [e2]
  refine r_if_ne (tgt := 43) (n := 12) C dMD_map_9 (by decide) rfl (fun c_9 => ?_) (fun c_9 => ?_)
  · have hz0 : inR v (nod S) = false := by have := b01_t c_9; simpa using this
    refine r_iconst (v := -1) (n := 44) C dMD_map_43 rfl (by decide) ?_
    exact r_iret C dMD_map_44 (Nat.le_refl _) (Nat.le_refl _) ⟨by unfold mapS; rw [if_neg (by simp [hz0])], by unfold mapS; rw [if_neg (by simp [hz0])]; exact MUp.rf hs⟩
  · have hy0 : inR v (nod S) = true := by have := b01_f c_9; simpa using this
    obtain ⟨ev, lv⟩ := inR_c (n := S.2.2.2.length) (by omega) hy0
    refine r_aload_n (n := 13) C dMD_map_12 rfl rfl ?_
    refine r_iload_n (n := 14) C dMD_map_13 rfl rfl ?_
    refine r_bipush (v := 6) (n := 16) C dMD_map_14 rfl (by decide) ?_
    refine r_ci (n := 19) (rn_V (z := 2) (ci := 10) (T := TMD) C (c_MD_out (Kl K) (Ko K) h m _ x1 (6) hM.1) tw_600 tw_602 ts_19 tw_4 tw_603 rfl rfl ndMD_out ⟨Nat.le_of_ble_eq_true rfl, Nat.le_of_ble_eq_true rfl⟩ hM.1 rfl rfl rfl (Nat.le_of_ble_eq_true rfl) dMD_map_16 ⟨Nat.le_of_ble_eq_true rfl, Nat.le_of_ble_eq_true rfl⟩) rfl (fun y ah hq => ?_)
    obtain ⟨e1, e2⟩ := hq
    subst e1
    rw [e2]
    refine r_if_ne (tgt := 43) (n := 22) C dMD_map_19 (by decide) rfl (fun c_19 => ?_) (fun c_19 => ?_)
    · have hz1 : inR x1 (6) = false := by have := b01_t c_19; simpa using this
      refine r_iconst (v := -1) (n := 44) C dMD_map_43 rfl (by decide) ?_
      exact r_iret C dMD_map_44 (Nat.le_refl _) (Nat.le_refl _) ⟨by unfold mapS; rw [if_neg (by simp [hz1])], by unfold mapS; rw [if_neg (by simp [hz1])]; exact MUp.rf hs⟩
    · have hy1 : inR x1 (6) = true := by have := b01_f c_19; simpa using this
      obtain ⟨ex1, lx1⟩ := inR_c (n := 6) (by omega) hy1
      refine r_aload_n (n := 23) C dMD_map_22 rfl rfl ?_
      refine r_iload_n (n := 24) C dMD_map_23 rfl rfl ?_
      refine r_bipush (v := 6) (n := 26) C dMD_map_24 rfl (by decide) ?_
      refine r_ci (n := 29) (rn_V (z := 2) (ci := 10) (T := TMD) C (c_MD_out (Kl K) (Ko K) h m _ y1 (6) hM.1) tw_600 tw_602 ts_19 tw_4 tw_603 rfl rfl ndMD_out ⟨Nat.le_of_ble_eq_true rfl, Nat.le_of_ble_eq_true rfl⟩ hM.1 rfl rfl rfl (Nat.le_of_ble_eq_true rfl) dMD_map_26 ⟨Nat.le_of_ble_eq_true rfl, Nat.le_of_ble_eq_true rfl⟩) rfl (fun y ah hq => ?_)
      obtain ⟨e1, e2⟩ := hq
      subst e1
      rw [e2]
      refine r_if_ne (tgt := 43) (n := 32) C dMD_map_29 (by decide) rfl (fun c_29 => ?_) (fun c_29 => ?_)
      · have hz2 : inR y1 (6) = false := by have := b01_t c_29; simpa using this
        refine r_iconst (v := -1) (n := 44) C dMD_map_43 rfl (by decide) ?_
        exact r_iret C dMD_map_44 (Nat.le_refl _) (Nat.le_refl _) ⟨by unfold mapS; rw [if_neg (by simp [hz2])], by unfold mapS; rw [if_neg (by simp [hz2])]; exact MUp.rf hs⟩
      · have hy2 : inR y1 (6) = true := by have := b01_f c_29; simpa using this
        obtain ⟨ey1, ly1⟩ := inR_c (n := 6) (by omega) hy2
        refine r_aload_n (n := 33) C dMD_map_32 rfl rfl ?_
        refine r_iload (n := 35) C dMD_map_33 rfl rfl ?_
        refine r_bipush (v := 6) (n := 37) C dMD_map_35 rfl (by decide) ?_
        refine r_ci (n := 40) (rn_V (z := 2) (ci := 10) (T := TMD) C (c_MD_out (Kl K) (Ko K) h m _ z1 (6) hM.1) tw_600 tw_602 ts_19 tw_4 tw_603 rfl rfl ndMD_out ⟨Nat.le_of_ble_eq_true rfl, Nat.le_of_ble_eq_true rfl⟩ hM.1 rfl rfl rfl (Nat.le_of_ble_eq_true rfl) dMD_map_37 ⟨Nat.le_of_ble_eq_true rfl, Nat.le_of_ble_eq_true rfl⟩) rfl (fun y ah hq => ?_)
        obtain ⟨e1, e2⟩ := hq
        subst e1
        rw [e2]
        refine r_if_eq (tgt := 45) (n := 43) C dMD_map_40 (by decide) rfl (fun c_40 => ?_) (fun c_40 => ?_)
        · have hy3 : inR z1 (6) = true := by have := b01_f c_40; simpa using this
          obtain ⟨ez1, lz1⟩ := inR_c (n := 6) (by omega) hy3
          refine r_aload_n (n := 46) C dMD_map_45 rfl rfl ?_
          refine r_iconst (v := 2) (n := 47) C dMD_map_46 rfl (by decide) ?_
          refine r_iload_n (n := 48) C dMD_map_47 rfl rfl ?_
          refine V.eqi (y := nI (3 + cl v - 3)) (by rw [Nat.add_sub_cancel_left]; exact ev) ?_
          refine r_iload_n (n := 49) C dMD_map_48 rfl rfl ?_
          refine V.eqi ex1 ?_
          refine r_iload_n (n := 50) C dMD_map_49 rfl rfl ?_
          refine V.eqi ey1 ?_
          refine r_iload (n := 52) C dMD_map_50 rfl rfl ?_
          refine V.eqi ez1 ?_
          refine r_iconst (v := 0) (n := 53) C dMD_map_52 rfl (by decide) ?_
          refine r_ci (n := 56) (rn_V (z := 6) (ci := 10) (T := TMD) C (c_MD_make (Kl K) (Ko K) h m ad S (2, 3 + cl v, cl x1, cl y1, cl z1, 0, 0) hs pi (fun _ => by show _; first | exact lv | exact ⟨by omega, by omega, by omega⟩ | exact ⟨by omega, by omega⟩ | exact ⟨by omega, by omega, by omega, by omega⟩ | exact ⟨by omega, by omega, by omega, by omega, by omega⟩ | exact ⟨by omega, by omega, by omega, by omega, by omega, by omega, by omega⟩)) tw_604 tw_606 ts_20 tw_4 tw_607 rfl rfl ndMD_make ⟨Nat.le_of_ble_eq_true rfl, Nat.le_of_ble_eq_true rfl⟩ hM.1 rfl rfl rfl (Nat.le_of_ble_eq_true rfl) dMD_map_53 ⟨Nat.le_of_ble_eq_true rfl, Nat.le_of_ble_eq_true rfl⟩) rfl (fun y h3 hq => ?_)
          obtain ⟨e1, e2⟩ := hq
          subst e1
          exact r_iret C dMD_map_56 (Nat.le_refl _) (Nat.le_refl _) ⟨by unfold mapS; rw [if_pos (by simp [hy0, hy1, hy2, hy3])], by unfold mapS; rw [if_pos (by simp [hy0, hy1, hy2, hy3])]; exact e2⟩
        · have hz3 : inR z1 (6) = false := by have := b01_t c_40; simpa using this
          refine r_iconst (v := -1) (n := 44) C dMD_map_43 rfl (by decide) ?_
          exact r_iret C dMD_map_44 (Nat.le_refl _) (Nat.le_refl _) ⟨by unfold mapS; rw [if_neg (by simp [hz3])], by unfold mapS; rw [if_neg (by simp [hz3])]; exact MUp.rf hs⟩
set_option maxHeartbeats 4000000 in
set_option maxRecDepth 100000 in
/-- join -/
theorem c_MD_join (l : Launch) (o : Om) (h : AH) (m : Nat) (v w c d p : Int32) (ad : Nat → Nat) (S : Sx) (hs : MS o h m ad S) (pi : PI S) : Mt l o yMD_join cMD_join 6 (some .int) ({ frames := 5, cells := 0, slots := 0, locals := 134 } : Room) [.ref m, .int v, .int w, .int c, .int d, .int p] h (QI o (fun r h' => r = (joiS v w c d p S).1 ∧ MUp o h h' m ad (joiS v w c d p S).2)) (0) (0) := by
  refine Met.ofV (by decide) (Nat.le_of_ble_eq_true rfl) (fun K hl ho C => ?_)
  subst hl; subst ho
  obtain ⟨MI, ML, MV, hM, hnd, hn10, hBL, hPL, hRL, hcf, hall⟩ := id hs
  refine r_aload_n (n := 1) C dMD_join_0 rfl rfl ?_
  refine r_iload_n (n := 2) C dMD_join_1 rfl rfl ?_
  refine r_aload_n (n := 3) C dMD_join_2 rfl rfl ?_
  refine r_get (ci := 10) (n := 6) C hinMD rfl 13 (by decide) tw_548 rfl dMD_join_3 rfl hM.1 rfl ?_
  refine V.eqi hnd ?_
  refine r_ci (n := 9) (rn_V (z := 2) (ci := 10) (T := TMD) C (c_MD_out (Kl K) (Ko K) h m _ v (nod S) hM.1) tw_600 tw_602 ts_19 tw_4 tw_603 rfl rfl ndMD_out ⟨Nat.le_of_ble_eq_true rfl, Nat.le_of_ble_eq_true rfl⟩ hM.1 rfl rfl rfl (Nat.le_of_ble_eq_true rfl) dMD_join_6 ⟨Nat.le_of_ble_eq_true rfl, Nat.le_of_ble_eq_true rfl⟩) rfl (fun y ah hq => ?_)
  obtain ⟨e1, e2⟩ := hq
  subst e1
  rw [e2]
  refine r_if_ne (tgt := 55) (n := 12) C dMD_join_9 (by decide) rfl (fun c_9 => ?_) (fun c_9 => ?_)
  · have hz0 : inR v (nod S) = false := by have := b01_t c_9; simpa using this
    refine r_iconst (v := -1) (n := 56) C dMD_join_55 rfl (by decide) ?_
    exact r_iret C dMD_join_56 (Nat.le_refl _) (Nat.le_refl _) ⟨by unfold joiS; rw [if_neg (by simp [hz0])], by unfold joiS; rw [if_neg (by simp [hz0])]; exact MUp.rf hs⟩
  · have hy0 : inR v (nod S) = true := by have := b01_f c_9; simpa using this
    obtain ⟨ev, lv⟩ := inR_c (n := S.2.2.2.length) (by omega) hy0
    refine r_aload_n (n := 13) C dMD_join_12 rfl rfl ?_
    refine r_iload_n (n := 14) C dMD_join_13 rfl rfl ?_
    refine r_aload_n (n := 15) C dMD_join_14 rfl rfl ?_
    refine r_get (ci := 10) (n := 18) C hinMD rfl 13 (by decide) tw_548 rfl dMD_join_15 rfl hM.1 rfl ?_
    refine V.eqi hnd ?_
    refine r_ci (n := 21) (rn_V (z := 2) (ci := 10) (T := TMD) C (c_MD_out (Kl K) (Ko K) h m _ w (nod S) hM.1) tw_600 tw_602 ts_19 tw_4 tw_603 rfl rfl ndMD_out ⟨Nat.le_of_ble_eq_true rfl, Nat.le_of_ble_eq_true rfl⟩ hM.1 rfl rfl rfl (Nat.le_of_ble_eq_true rfl) dMD_join_18 ⟨Nat.le_of_ble_eq_true rfl, Nat.le_of_ble_eq_true rfl⟩) rfl (fun y ah hq => ?_)
    obtain ⟨e1, e2⟩ := hq
    subst e1
    rw [e2]
    refine r_if_ne (tgt := 55) (n := 24) C dMD_join_21 (by decide) rfl (fun c_21 => ?_) (fun c_21 => ?_)
    · have hz1 : inR w (nod S) = false := by have := b01_t c_21; simpa using this
      refine r_iconst (v := -1) (n := 56) C dMD_join_55 rfl (by decide) ?_
      exact r_iret C dMD_join_56 (Nat.le_refl _) (Nat.le_refl _) ⟨by unfold joiS; rw [if_neg (by simp [hz1])], by unfold joiS; rw [if_neg (by simp [hz1])]; exact MUp.rf hs⟩
    · have hy1 : inR w (nod S) = true := by have := b01_f c_21; simpa using this
      obtain ⟨ew, lw⟩ := inR_c (n := S.2.2.2.length) (by omega) hy1
      refine r_aload_n (n := 25) C dMD_join_24 rfl rfl ?_
      refine r_iload_n (n := 26) C dMD_join_25 rfl rfl ?_
      refine r_iconst (v := 3) (n := 27) C dMD_join_26 rfl (by decide) ?_
      refine r_ci (n := 30) (rn_V (z := 2) (ci := 10) (T := TMD) C (c_MD_out (Kl K) (Ko K) h m _ c (3) hM.1) tw_600 tw_602 ts_19 tw_4 tw_603 rfl rfl ndMD_out ⟨Nat.le_of_ble_eq_true rfl, Nat.le_of_ble_eq_true rfl⟩ hM.1 rfl rfl rfl (Nat.le_of_ble_eq_true rfl) dMD_join_27 ⟨Nat.le_of_ble_eq_true rfl, Nat.le_of_ble_eq_true rfl⟩) rfl (fun y ah hq => ?_)
      obtain ⟨e1, e2⟩ := hq
      subst e1
      rw [e2]
      refine r_if_ne (tgt := 55) (n := 33) C dMD_join_30 (by decide) rfl (fun c_30 => ?_) (fun c_30 => ?_)
      · have hz2 : inR c (3) = false := by have := b01_t c_30; simpa using this
        refine r_iconst (v := -1) (n := 56) C dMD_join_55 rfl (by decide) ?_
        exact r_iret C dMD_join_56 (Nat.le_refl _) (Nat.le_refl _) ⟨by unfold joiS; rw [if_neg (by simp [hz2])], by unfold joiS; rw [if_neg (by simp [hz2])]; exact MUp.rf hs⟩
      · have hy2 : inR c (3) = true := by have := b01_f c_30; simpa using this
        obtain ⟨ec, lc⟩ := inR_c (n := 3) (by omega) hy2
        refine r_aload_n (n := 34) C dMD_join_33 rfl rfl ?_
        refine r_iload (n := 36) C dMD_join_34 rfl rfl ?_
        refine r_iconst (v := 3) (n := 37) C dMD_join_36 rfl (by decide) ?_
        refine r_ci (n := 40) (rn_V (z := 2) (ci := 10) (T := TMD) C (c_MD_out (Kl K) (Ko K) h m _ d (3) hM.1) tw_600 tw_602 ts_19 tw_4 tw_603 rfl rfl ndMD_out ⟨Nat.le_of_ble_eq_true rfl, Nat.le_of_ble_eq_true rfl⟩ hM.1 rfl rfl rfl (Nat.le_of_ble_eq_true rfl) dMD_join_37 ⟨Nat.le_of_ble_eq_true rfl, Nat.le_of_ble_eq_true rfl⟩) rfl (fun y ah hq => ?_)
        obtain ⟨e1, e2⟩ := hq
        subst e1
        rw [e2]
        refine r_if_ne (tgt := 55) (n := 43) C dMD_join_40 (by decide) rfl (fun c_40 => ?_) (fun c_40 => ?_)
        · have hz3 : inR d (3) = false := by have := b01_t c_40; simpa using this
          refine r_iconst (v := -1) (n := 56) C dMD_join_55 rfl (by decide) ?_
          exact r_iret C dMD_join_56 (Nat.le_refl _) (Nat.le_refl _) ⟨by unfold joiS; rw [if_neg (by simp [hz3])], by unfold joiS; rw [if_neg (by simp [hz3])]; exact MUp.rf hs⟩
        · have hy3 : inR d (3) = true := by have := b01_f c_40; simpa using this
          obtain ⟨ed, ld⟩ := inR_c (n := 3) (by omega) hy3
          refine r_aload_n (n := 44) C dMD_join_43 rfl rfl ?_
          refine r_iload (n := 46) C dMD_join_44 rfl rfl ?_
          refine r_sipush (v := 216) (n := 49) C dMD_join_46 rfl (by decide) ?_
          refine r_ci (n := 52) (rn_V (z := 2) (ci := 10) (T := TMD) C (c_MD_out (Kl K) (Ko K) h m _ p (216) hM.1) tw_600 tw_602 ts_19 tw_4 tw_603 rfl rfl ndMD_out ⟨Nat.le_of_ble_eq_true rfl, Nat.le_of_ble_eq_true rfl⟩ hM.1 rfl rfl rfl (Nat.le_of_ble_eq_true rfl) dMD_join_49 ⟨Nat.le_of_ble_eq_true rfl, Nat.le_of_ble_eq_true rfl⟩) rfl (fun y ah hq => ?_)
          obtain ⟨e1, e2⟩ := hq
          subst e1
          rw [e2]
          refine r_if_eq (tgt := 57) (n := 55) C dMD_join_52 (by decide) rfl (fun c_52 => ?_) (fun c_52 => ?_)
          · have hy4 : inR p (216) = true := by have := b01_f c_52; simpa using this
            obtain ⟨ep, lp⟩ := inR_c (n := 216) (by omega) hy4
            refine r_aload_n (n := 58) C dMD_join_57 rfl rfl ?_
            refine r_iconst (v := 3) (n := 59) C dMD_join_58 rfl (by decide) ?_
            refine r_iload_n (n := 60) C dMD_join_59 rfl rfl ?_
            refine V.eqi (y := nI (3 + cl v - 3)) (by rw [Nat.add_sub_cancel_left]; exact ev) ?_
            refine r_iload_n (n := 61) C dMD_join_60 rfl rfl ?_
            refine V.eqi (y := nI (3 + cl w - 3)) (by rw [Nat.add_sub_cancel_left]; exact ew) ?_
            refine r_iload_n (n := 62) C dMD_join_61 rfl rfl ?_
            refine V.eqi ec ?_
            refine r_iload (n := 64) C dMD_join_62 rfl rfl ?_
            refine V.eqi ed ?_
            refine r_iload (n := 66) C dMD_join_64 rfl rfl ?_
            refine V.eqi ep ?_
            refine r_ci (n := 69) (rn_V (z := 6) (ci := 10) (T := TMD) C (c_MD_make (Kl K) (Ko K) h m ad S (3, 3 + cl v, 3 + cl w, cl c, cl d, cl p, 0) hs pi (fun _ => by show _; first | exact lv | exact ⟨by omega, by omega, by omega⟩ | exact ⟨by omega, by omega⟩ | exact ⟨by omega, by omega, by omega, by omega⟩ | exact ⟨by omega, by omega, by omega, by omega, by omega⟩ | exact ⟨by omega, by omega, by omega, by omega, by omega, by omega, by omega⟩)) tw_604 tw_606 ts_20 tw_4 tw_607 rfl rfl ndMD_make ⟨Nat.le_of_ble_eq_true rfl, Nat.le_of_ble_eq_true rfl⟩ hM.1 rfl rfl rfl (Nat.le_of_ble_eq_true rfl) dMD_join_66 ⟨Nat.le_of_ble_eq_true rfl, Nat.le_of_ble_eq_true rfl⟩) rfl (fun y h3 hq => ?_)
            obtain ⟨e1, e2⟩ := hq
            subst e1
            exact r_iret C dMD_join_69 (Nat.le_refl _) (Nat.le_refl _) ⟨by unfold joiS; rw [if_pos (by simp [hy0, hy1, hy2, hy3, hy4])], by unfold joiS; rw [if_pos (by simp [hy0, hy1, hy2, hy3, hy4])]; exact e2⟩
          · have hz4 : inR p (216) = false := by have := b01_t c_52; simpa using this
            refine r_iconst (v := -1) (n := 56) C dMD_join_55 rfl (by decide) ?_
            exact r_iret C dMD_join_56 (Nat.le_refl _) (Nat.le_refl _) ⟨by unfold joiS; rw [if_neg (by simp [hz4])], by unfold joiS; rw [if_neg (by simp [hz4])]; exact MUp.rf hs⟩
set_option maxHeartbeats 4000000 in
set_option maxRecDepth 100000 in
/-- combine -/
theorem c_MD_combine (l : Launch) (o : Om) (h : AH) (m : Nat) (v w k : Int32) (ad : Nat → Nat) (S : Sx) (hs : MS o h m ad S) (pi : PI S) : Mt l o yMD_combine cMD_combine 4 (some .int) ({ frames := 5, cells := 0, slots := 0, locals := 134 } : Room) [.ref m, .int v, .int w, .int k] h (QI o (fun r h' => r = (comS v w k S).1 ∧ MUp o h h' m ad (comS v w k S).2)) (0) (0) := by
  refine Met.ofV (by decide) (Nat.le_of_ble_eq_true rfl) (fun K hl ho C => ?_)
  subst hl; subst ho
  obtain ⟨MI, ML, MV, hM, hnd, hn10, hBL, hPL, hRL, hcf, hall⟩ := id hs
  refine r_aload_n (n := 1) C dMD_combine_0 rfl rfl ?_
  refine r_iload_n (n := 2) C dMD_combine_1 rfl rfl ?_
  refine r_aload_n (n := 3) C dMD_combine_2 rfl rfl ?_
  refine r_get (ci := 10) (n := 6) C hinMD rfl 13 (by decide) tw_548 rfl dMD_combine_3 rfl hM.1 rfl ?_
  refine V.eqi hnd ?_
  refine r_ci (n := 9) (rn_V (z := 2) (ci := 10) (T := TMD) C (c_MD_out (Kl K) (Ko K) h m _ v (nod S) hM.1) tw_600 tw_602 ts_19 tw_4 tw_603 rfl rfl ndMD_out ⟨Nat.le_of_ble_eq_true rfl, Nat.le_of_ble_eq_true rfl⟩ hM.1 rfl rfl rfl (Nat.le_of_ble_eq_true rfl) dMD_combine_6 ⟨Nat.le_of_ble_eq_true rfl, Nat.le_of_ble_eq_true rfl⟩) rfl (fun y ah hq => ?_)
  obtain ⟨e1, e2⟩ := hq
  subst e1
  rw [e2]
  refine r_if_ne (tgt := 33) (n := 12) C dMD_combine_9 (by decide) rfl (fun c_9 => ?_) (fun c_9 => ?_)
  · have hz0 : inR v (nod S) = false := by have := b01_t c_9; simpa using this
    refine r_iconst (v := -1) (n := 34) C dMD_combine_33 rfl (by decide) ?_
    exact r_iret C dMD_combine_34 (Nat.le_refl _) (Nat.le_refl _) ⟨by unfold comS; rw [if_neg (by simp [hz0])], by unfold comS; rw [if_neg (by simp [hz0])]; exact MUp.rf hs⟩
  · have hy0 : inR v (nod S) = true := by have := b01_f c_9; simpa using this
    obtain ⟨ev, lv⟩ := inR_c (n := S.2.2.2.length) (by omega) hy0
    refine r_aload_n (n := 13) C dMD_combine_12 rfl rfl ?_
    refine r_iload_n (n := 14) C dMD_combine_13 rfl rfl ?_
    refine r_aload_n (n := 15) C dMD_combine_14 rfl rfl ?_
    refine r_get (ci := 10) (n := 18) C hinMD rfl 13 (by decide) tw_548 rfl dMD_combine_15 rfl hM.1 rfl ?_
    refine V.eqi hnd ?_
    refine r_ci (n := 21) (rn_V (z := 2) (ci := 10) (T := TMD) C (c_MD_out (Kl K) (Ko K) h m _ w (nod S) hM.1) tw_600 tw_602 ts_19 tw_4 tw_603 rfl rfl ndMD_out ⟨Nat.le_of_ble_eq_true rfl, Nat.le_of_ble_eq_true rfl⟩ hM.1 rfl rfl rfl (Nat.le_of_ble_eq_true rfl) dMD_combine_18 ⟨Nat.le_of_ble_eq_true rfl, Nat.le_of_ble_eq_true rfl⟩) rfl (fun y ah hq => ?_)
    obtain ⟨e1, e2⟩ := hq
    subst e1
    rw [e2]
    refine r_if_ne (tgt := 33) (n := 24) C dMD_combine_21 (by decide) rfl (fun c_21 => ?_) (fun c_21 => ?_)
    · have hz1 : inR w (nod S) = false := by have := b01_t c_21; simpa using this
      refine r_iconst (v := -1) (n := 34) C dMD_combine_33 rfl (by decide) ?_
      exact r_iret C dMD_combine_34 (Nat.le_refl _) (Nat.le_refl _) ⟨by unfold comS; rw [if_neg (by simp [hz1])], by unfold comS; rw [if_neg (by simp [hz1])]; exact MUp.rf hs⟩
    · have hy1 : inR w (nod S) = true := by have := b01_f c_21; simpa using this
      obtain ⟨ew, lw⟩ := inR_c (n := S.2.2.2.length) (by omega) hy1
      refine r_aload_n (n := 25) C dMD_combine_24 rfl rfl ?_
      refine r_iload_n (n := 26) C dMD_combine_25 rfl rfl ?_
      refine r_iconst (v := 2) (n := 27) C dMD_combine_26 rfl (by decide) ?_
      refine r_ci (n := 30) (rn_V (z := 2) (ci := 10) (T := TMD) C (c_MD_out (Kl K) (Ko K) h m _ k (2) hM.1) tw_600 tw_602 ts_19 tw_4 tw_603 rfl rfl ndMD_out ⟨Nat.le_of_ble_eq_true rfl, Nat.le_of_ble_eq_true rfl⟩ hM.1 rfl rfl rfl (Nat.le_of_ble_eq_true rfl) dMD_combine_27 ⟨Nat.le_of_ble_eq_true rfl, Nat.le_of_ble_eq_true rfl⟩) rfl (fun y ah hq => ?_)
      obtain ⟨e1, e2⟩ := hq
      subst e1
      rw [e2]
      refine r_if_eq (tgt := 35) (n := 33) C dMD_combine_30 (by decide) rfl (fun c_30 => ?_) (fun c_30 => ?_)
      · have hy2 : inR k (2) = true := by have := b01_f c_30; simpa using this
        obtain ⟨ek, lk⟩ := inR_c (n := 2) (by omega) hy2
        refine r_aload_n (n := 36) C dMD_combine_35 rfl rfl ?_
        refine r_iconst (v := 4) (n := 37) C dMD_combine_36 rfl (by decide) ?_
        refine r_iload_n (n := 38) C dMD_combine_37 rfl rfl ?_
        refine V.eqi (y := nI (3 + cl v - 3)) (by rw [Nat.add_sub_cancel_left]; exact ev) ?_
        refine r_iload_n (n := 39) C dMD_combine_38 rfl rfl ?_
        refine V.eqi (y := nI (3 + cl w - 3)) (by rw [Nat.add_sub_cancel_left]; exact ew) ?_
        refine r_iload_n (n := 40) C dMD_combine_39 rfl rfl ?_
        refine V.eqi ek ?_
        refine r_iconst (v := 0) (n := 41) C dMD_combine_40 rfl (by decide) ?_
        refine r_iconst (v := 0) (n := 42) C dMD_combine_41 rfl (by decide) ?_
        refine r_ci (n := 45) (rn_V (z := 6) (ci := 10) (T := TMD) C (c_MD_make (Kl K) (Ko K) h m ad S (4, 3 + cl v, 3 + cl w, cl k, 0, 0, 0) hs pi (fun _ => by show _; first | exact lv | exact ⟨by omega, by omega, by omega⟩ | exact ⟨by omega, by omega⟩ | exact ⟨by omega, by omega, by omega, by omega⟩ | exact ⟨by omega, by omega, by omega, by omega, by omega⟩ | exact ⟨by omega, by omega, by omega, by omega, by omega, by omega, by omega⟩)) tw_604 tw_606 ts_20 tw_4 tw_607 rfl rfl ndMD_make ⟨Nat.le_of_ble_eq_true rfl, Nat.le_of_ble_eq_true rfl⟩ hM.1 rfl rfl rfl (Nat.le_of_ble_eq_true rfl) dMD_combine_42 ⟨Nat.le_of_ble_eq_true rfl, Nat.le_of_ble_eq_true rfl⟩) rfl (fun y h3 hq => ?_)
        obtain ⟨e1, e2⟩ := hq
        subst e1
        exact r_iret C dMD_combine_45 (Nat.le_refl _) (Nat.le_refl _) ⟨by unfold comS; rw [if_pos (by simp [hy0, hy1, hy2])], by unfold comS; rw [if_pos (by simp [hy0, hy1, hy2])]; exact e2⟩
      · have hz2 : inR k (2) = false := by have := b01_t c_30; simpa using this
        refine r_iconst (v := -1) (n := 34) C dMD_combine_33 rfl (by decide) ?_
        exact r_iret C dMD_combine_34 (Nat.le_refl _) (Nat.le_refl _) ⟨by unfold comS; rw [if_neg (by simp [hz2])], by unfold comS; rw [if_neg (by simp [hz2])]; exact MUp.rf hs⟩
set_option maxHeartbeats 4000000 in
set_option maxRecDepth 100000 in
/-- distinct -/
theorem c_MD_distinct (l : Launch) (o : Om) (h : AH) (m : Nat) (v : Int32) (ad : Nat → Nat) (S : Sx) (hs : MS o h m ad S) (pi : PI S) : Mt l o yMD_distinct cMD_distinct 2 (some .int) ({ frames := 5, cells := 0, slots := 0, locals := 134 } : Room) [.ref m, .int v] h (QI o (fun r h' => r = (disS v S).1 ∧ MUp o h h' m ad (disS v S).2)) (0) (0) := by
  refine Met.ofV (by decide) (Nat.le_of_ble_eq_true rfl) (fun K hl ho C => ?_)
  subst hl; subst ho
  obtain ⟨MI, ML, MV, hM, hnd, hn10, hBL, hPL, hRL, hcf, hall⟩ := id hs
  refine r_aload_n (n := 1) C dMD_distinct_0 rfl rfl ?_
  refine r_iload_n (n := 2) C dMD_distinct_1 rfl rfl ?_
  refine r_aload_n (n := 3) C dMD_distinct_2 rfl rfl ?_
  refine r_get (ci := 10) (n := 6) C hinMD rfl 13 (by decide) tw_548 rfl dMD_distinct_3 rfl hM.1 rfl ?_
  refine V.eqi hnd ?_
  refine r_ci (n := 9) (rn_V (z := 2) (ci := 10) (T := TMD) C (c_MD_out (Kl K) (Ko K) h m _ v (nod S) hM.1) tw_600 tw_602 ts_19 tw_4 tw_603 rfl rfl ndMD_out ⟨Nat.le_of_ble_eq_true rfl, Nat.le_of_ble_eq_true rfl⟩ hM.1 rfl rfl rfl (Nat.le_of_ble_eq_true rfl) dMD_distinct_6 ⟨Nat.le_of_ble_eq_true rfl, Nat.le_of_ble_eq_true rfl⟩) rfl (fun y ah hq => ?_)
  obtain ⟨e1, e2⟩ := hq
  subst e1
  rw [e2]
  refine r_if_eq (tgt := 16) (n := 12) C dMD_distinct_9 (by decide) rfl (fun c_9 => ?_) (fun c_9 => ?_)
  · have hy0 : inR v (nod S) = true := by have := b01_f c_9; simpa using this
    obtain ⟨ev, lv⟩ := inR_c (n := S.2.2.2.length) (by omega) hy0
    refine r_aload_n (n := 17) C dMD_distinct_16 rfl rfl ?_
    refine r_iconst (v := 5) (n := 18) C dMD_distinct_17 rfl (by decide) ?_
    refine r_iload_n (n := 19) C dMD_distinct_18 rfl rfl ?_
    refine V.eqi (y := nI (3 + cl v - 3)) (by rw [Nat.add_sub_cancel_left]; exact ev) ?_
    refine r_iconst (v := 0) (n := 20) C dMD_distinct_19 rfl (by decide) ?_
    refine r_iconst (v := 0) (n := 21) C dMD_distinct_20 rfl (by decide) ?_
    refine r_iconst (v := 0) (n := 22) C dMD_distinct_21 rfl (by decide) ?_
    refine r_iconst (v := 0) (n := 23) C dMD_distinct_22 rfl (by decide) ?_
    refine r_ci (n := 26) (rn_V (z := 6) (ci := 10) (T := TMD) C (c_MD_make (Kl K) (Ko K) h m ad S (5, 3 + cl v, 0, 0, 0, 0, 0) hs pi (fun _ => by show _; first | exact lv | exact ⟨by omega, by omega, by omega⟩ | exact ⟨by omega, by omega⟩ | exact ⟨by omega, by omega, by omega, by omega⟩ | exact ⟨by omega, by omega, by omega, by omega, by omega⟩ | exact ⟨by omega, by omega, by omega, by omega, by omega, by omega, by omega⟩)) tw_604 tw_606 ts_20 tw_4 tw_607 rfl rfl ndMD_make ⟨Nat.le_of_ble_eq_true rfl, Nat.le_of_ble_eq_true rfl⟩ hM.1 rfl rfl rfl (Nat.le_of_ble_eq_true rfl) dMD_distinct_23 ⟨Nat.le_of_ble_eq_true rfl, Nat.le_of_ble_eq_true rfl⟩) rfl (fun y h3 hq => ?_)
    obtain ⟨e1, e2⟩ := hq
    subst e1
    exact r_iret C dMD_distinct_26 (Nat.le_refl _) (Nat.le_refl _) ⟨by unfold disS; rw [if_pos (by simp [hy0])], by unfold disS; rw [if_pos (by simp [hy0])]; exact e2⟩
  · have hz0 : inR v (nod S) = false := by have := b01_t c_9; simpa using this
    refine r_iconst (v := -1) (n := 13) C dMD_distinct_12 rfl (by decide) ?_
    refine r_goto (tgt := 26) C dMD_distinct_13 (by decide) ?_
    exact r_iret C dMD_distinct_26 (Nat.le_refl _) (Nat.le_refl _) ⟨by unfold disS; rw [if_neg (by simp [hz0])], by unfold disS; rw [if_neg (by simp [hz0])]; exact MUp.rf hs⟩
set_option maxHeartbeats 4000000 in
set_option maxRecDepth 100000 in
/-- group -/
theorem c_MD_group (l : Launch) (o : Om) (h : AH) (m : Nat) (v k c d : Int32) (ad : Nat → Nat) (S : Sx) (hs : MS o h m ad S) (pi : PI S) : Mt l o yMD_group cMD_group 5 (some .int) ({ frames := 5, cells := 0, slots := 0, locals := 134 } : Room) [.ref m, .int v, .int k, .int c, .int d] h (QI o (fun r h' => r = (groS v k c d S).1 ∧ MUp o h h' m ad (groS v k c d S).2)) (0) (0) := by
  refine Met.ofV (by decide) (Nat.le_of_ble_eq_true rfl) (fun K hl ho C => ?_)
  subst hl; subst ho
  obtain ⟨MI, ML, MV, hM, hnd, hn10, hBL, hPL, hRL, hcf, hall⟩ := id hs
  refine r_aload_n (n := 1) C dMD_group_0 rfl rfl ?_
  refine r_iload_n (n := 2) C dMD_group_1 rfl rfl ?_
  refine r_aload_n (n := 3) C dMD_group_2 rfl rfl ?_
  refine r_get (ci := 10) (n := 6) C hinMD rfl 13 (by decide) tw_548 rfl dMD_group_3 rfl hM.1 rfl ?_
  refine V.eqi hnd ?_
  refine r_ci (n := 9) (rn_V (z := 2) (ci := 10) (T := TMD) C (c_MD_out (Kl K) (Ko K) h m _ v (nod S) hM.1) tw_600 tw_602 ts_19 tw_4 tw_603 rfl rfl ndMD_out ⟨Nat.le_of_ble_eq_true rfl, Nat.le_of_ble_eq_true rfl⟩ hM.1 rfl rfl rfl (Nat.le_of_ble_eq_true rfl) dMD_group_6 ⟨Nat.le_of_ble_eq_true rfl, Nat.le_of_ble_eq_true rfl⟩) rfl (fun y ah hq => ?_)
  obtain ⟨e1, e2⟩ := hq
  subst e1
  rw [e2]
  refine r_if_ne (tgt := 40) (n := 12) C dMD_group_9 (by decide) rfl (fun c_9 => ?_) (fun c_9 => ?_)
  · have hz0 : inR v (nod S) = false := by have := b01_t c_9; simpa using this
    refine r_iconst (v := -1) (n := 41) C dMD_group_40 rfl (by decide) ?_
    exact r_iret C dMD_group_41 (Nat.le_refl _) (Nat.le_refl _) ⟨by unfold groS; rw [if_neg (by simp [hz0])], by unfold groS; rw [if_neg (by simp [hz0])]; exact MUp.rf hs⟩
  · have hy0 : inR v (nod S) = true := by have := b01_f c_9; simpa using this
    obtain ⟨ev, lv⟩ := inR_c (n := S.2.2.2.length) (by omega) hy0
    refine r_aload_n (n := 13) C dMD_group_12 rfl rfl ?_
    refine r_iload_n (n := 14) C dMD_group_13 rfl rfl ?_
    refine r_iconst (v := 3) (n := 15) C dMD_group_14 rfl (by decide) ?_
    refine r_ci (n := 18) (rn_V (z := 2) (ci := 10) (T := TMD) C (c_MD_out (Kl K) (Ko K) h m _ k (3) hM.1) tw_600 tw_602 ts_19 tw_4 tw_603 rfl rfl ndMD_out ⟨Nat.le_of_ble_eq_true rfl, Nat.le_of_ble_eq_true rfl⟩ hM.1 rfl rfl rfl (Nat.le_of_ble_eq_true rfl) dMD_group_15 ⟨Nat.le_of_ble_eq_true rfl, Nat.le_of_ble_eq_true rfl⟩) rfl (fun y ah hq => ?_)
    obtain ⟨e1, e2⟩ := hq
    subst e1
    rw [e2]
    refine r_if_ne (tgt := 40) (n := 21) C dMD_group_18 (by decide) rfl (fun c_18 => ?_) (fun c_18 => ?_)
    · have hz1 : inR k (3) = false := by have := b01_t c_18; simpa using this
      refine r_iconst (v := -1) (n := 41) C dMD_group_40 rfl (by decide) ?_
      exact r_iret C dMD_group_41 (Nat.le_refl _) (Nat.le_refl _) ⟨by unfold groS; rw [if_neg (by simp [hz1])], by unfold groS; rw [if_neg (by simp [hz1])]; exact MUp.rf hs⟩
    · have hy1 : inR k (3) = true := by have := b01_f c_18; simpa using this
      obtain ⟨ek, lk⟩ := inR_c (n := 3) (by omega) hy1
      refine r_aload_n (n := 22) C dMD_group_21 rfl rfl ?_
      refine r_iload_n (n := 23) C dMD_group_22 rfl rfl ?_
      refine r_iconst (v := 3) (n := 24) C dMD_group_23 rfl (by decide) ?_
      refine r_ci (n := 27) (rn_V (z := 2) (ci := 10) (T := TMD) C (c_MD_out (Kl K) (Ko K) h m _ c (3) hM.1) tw_600 tw_602 ts_19 tw_4 tw_603 rfl rfl ndMD_out ⟨Nat.le_of_ble_eq_true rfl, Nat.le_of_ble_eq_true rfl⟩ hM.1 rfl rfl rfl (Nat.le_of_ble_eq_true rfl) dMD_group_24 ⟨Nat.le_of_ble_eq_true rfl, Nat.le_of_ble_eq_true rfl⟩) rfl (fun y ah hq => ?_)
      obtain ⟨e1, e2⟩ := hq
      subst e1
      rw [e2]
      refine r_if_ne (tgt := 40) (n := 30) C dMD_group_27 (by decide) rfl (fun c_27 => ?_) (fun c_27 => ?_)
      · have hz2 : inR c (3) = false := by have := b01_t c_27; simpa using this
        refine r_iconst (v := -1) (n := 41) C dMD_group_40 rfl (by decide) ?_
        exact r_iret C dMD_group_41 (Nat.le_refl _) (Nat.le_refl _) ⟨by unfold groS; rw [if_neg (by simp [hz2])], by unfold groS; rw [if_neg (by simp [hz2])]; exact MUp.rf hs⟩
      · have hy2 : inR c (3) = true := by have := b01_f c_27; simpa using this
        obtain ⟨ec, lc⟩ := inR_c (n := 3) (by omega) hy2
        refine r_aload_n (n := 31) C dMD_group_30 rfl rfl ?_
        refine r_iload (n := 33) C dMD_group_31 rfl rfl ?_
        refine r_iconst (v := 4) (n := 34) C dMD_group_33 rfl (by decide) ?_
        refine r_ci (n := 37) (rn_V (z := 2) (ci := 10) (T := TMD) C (c_MD_out (Kl K) (Ko K) h m _ d (4) hM.1) tw_600 tw_602 ts_19 tw_4 tw_603 rfl rfl ndMD_out ⟨Nat.le_of_ble_eq_true rfl, Nat.le_of_ble_eq_true rfl⟩ hM.1 rfl rfl rfl (Nat.le_of_ble_eq_true rfl) dMD_group_34 ⟨Nat.le_of_ble_eq_true rfl, Nat.le_of_ble_eq_true rfl⟩) rfl (fun y ah hq => ?_)
        obtain ⟨e1, e2⟩ := hq
        subst e1
        rw [e2]
        refine r_if_eq (tgt := 42) (n := 40) C dMD_group_37 (by decide) rfl (fun c_37 => ?_) (fun c_37 => ?_)
        · have hy3 : inR d (4) = true := by have := b01_f c_37; simpa using this
          obtain ⟨ed, ld⟩ := inR_c (n := 4) (by omega) hy3
          refine r_aload_n (n := 43) C dMD_group_42 rfl rfl ?_
          refine r_bipush (v := 6) (n := 45) C dMD_group_43 rfl (by decide) ?_
          refine r_iload_n (n := 46) C dMD_group_45 rfl rfl ?_
          refine V.eqi (y := nI (3 + cl v - 3)) (by rw [Nat.add_sub_cancel_left]; exact ev) ?_
          refine r_iload_n (n := 47) C dMD_group_46 rfl rfl ?_
          refine V.eqi ek ?_
          refine r_iload_n (n := 48) C dMD_group_47 rfl rfl ?_
          refine V.eqi ec ?_
          refine r_iload (n := 50) C dMD_group_48 rfl rfl ?_
          refine V.eqi ed ?_
          refine r_iconst (v := 0) (n := 51) C dMD_group_50 rfl (by decide) ?_
          refine r_ci (n := 54) (rn_V (z := 6) (ci := 10) (T := TMD) C (c_MD_make (Kl K) (Ko K) h m ad S (6, 3 + cl v, cl k, cl c, cl d, 0, 0) hs pi (fun _ => by show _; first | exact lv | exact ⟨by omega, by omega, by omega⟩ | exact ⟨by omega, by omega⟩ | exact ⟨by omega, by omega, by omega, by omega⟩ | exact ⟨by omega, by omega, by omega, by omega, by omega⟩ | exact ⟨by omega, by omega, by omega, by omega, by omega, by omega, by omega⟩)) tw_604 tw_606 ts_20 tw_4 tw_607 rfl rfl ndMD_make ⟨Nat.le_of_ble_eq_true rfl, Nat.le_of_ble_eq_true rfl⟩ hM.1 rfl rfl rfl (Nat.le_of_ble_eq_true rfl) dMD_group_51 ⟨Nat.le_of_ble_eq_true rfl, Nat.le_of_ble_eq_true rfl⟩) rfl (fun y h3 hq => ?_)
          obtain ⟨e1, e2⟩ := hq
          subst e1
          exact r_iret C dMD_group_54 (Nat.le_refl _) (Nat.le_refl _) ⟨by unfold groS; rw [if_pos (by simp [hy0, hy1, hy2, hy3])], by unfold groS; rw [if_pos (by simp [hy0, hy1, hy2, hy3])]; exact e2⟩
        · have hz3 : inR d (4) = false := by have := b01_t c_37; simpa using this
          refine r_iconst (v := -1) (n := 41) C dMD_group_40 rfl (by decide) ?_
          exact r_iret C dMD_group_41 (Nat.le_refl _) (Nat.le_refl _) ⟨by unfold groS; rw [if_neg (by simp [hz3])], by unfold groS; rw [if_neg (by simp [hz3])]; exact MUp.rf hs⟩
