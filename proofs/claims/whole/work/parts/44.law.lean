/-! THE LAW: its walk -/
def SC (K : Kx) (b L : Nat) (xs : Nat → Int32) : Prop := va_X b L xs (Ks K) (Ks K).heap ∧ b < (Ks K).heap.size ∧ ¬ (Ko K).2.2 ≤ b
section LWR
variable {K : Kx} {h : AH} {cells slots : Nat} {Q : State → Prop} {pc n : Nat} {ls : List (Nat × Value)} {st : List Value} {cc : ByteArray} {nL : Nat} {own nm : String} {rm : Room} {rt : Option FieldType} {b L : Nat} {xs : Nat → Int32}
theorem r_sld {i : Int32} (C : Cx K cc nL own rm rt nm) (hX : SC K b L xs) (d : decode cc pc = .ok (.iaload, 1)) (hn : pc + 1 = n) (j : Nat) (hi : i = nI j) (hj : j < L) (hN : L < 2147483648) (k : V K h cells slots Q n ls (.int (xs j) :: st)) : V K h cells slots Q pc ls (.int i :: .ref b :: st) := by
  subst hn
  intro H locs la hp hS hl
  refine va_sld C.1.1 C.1.2.1 hX.1 hX.2.1 hX.2.2 hS (xk_in hi hj hN) d ?_
  rw [xk_cl hi hj hN]
  exact k H locs la hp hS hl
theorem r_slen (C : Cx K cc nL own rm rt nm) (hX : SC K b L xs) (d : decode cc pc = .ok (.arraylength, 1)) (hn : pc + 1 = n) (k : V K h cells slots Q n ls (.int (nI L) :: st)) : V K h cells slots Q pc ls (.ref b :: st) := by
  subst hn
  intro H locs la hp hS hl
  exact va_slen C.1.1 C.1.2.1 hX.1 hX.2.1 hX.2.2 hS d (k H locs la hp hS hl)
def LwR (K : Kx) (Q : State → Prop) : Prop := (Ko K).2.2 = (Ks K).heap.size ∧ ∀ (H : Heap) (la : Array Slot) (pc : Nat), decode code pc = .ok (.ireturn, 1) → W (Kp K) (Kl K) (Ke K) (KR K) (Ks K) (Km K) (Ka K) (Kb K) (Kme K) (Kc K) H [] 600000 7302250 Q (F0 (Km K) pc la [.int 1])
theorem r_lawret (hr : LwR K Q) (hc : cells ≤ 600000) (hs : slots ≤ 7302250) (d : decode code pc = .ok (.ireturn, 1)) : V K h cells slots Q pc ls [.int 1] := fun H locs la hp hS hl => W.widen hc hs (W.forget (locs := []) (L := locs) (fun q hq => by rw [← hr.1]; exact hS.2.2 q hq) (hr.2 H la pc d))
end LWR
theorem lw_more {L i : Nat} (hL : L ≤ 3072) (hi : i ≤ 3078) : nI L - 6 < nI i ↔ L < i + 6 := by
  by_cases h : 6 ≤ L
  · have e : nI L - 6 = nI (L - 6) := by
      have h1 : nI L = nI (L - 6) + 6 := by rw [show (6 : Int32) = nI 6 from rfl, nI_add, Nat.sub_add_cancel h]
      rw [h1, Int32.add_sub_cancel]
    rw [e, nI_ltI (by omega) (by omega)]
    omega
  · have h1 : (nI L - 6).toInt < 0 := by
      rcases (show L = 0 ∨ L = 1 ∨ L = 2 ∨ L = 3 ∨ L = 4 ∨ L = 5 by omega) with e | e | e | e | e | e <;> subst e <;> decide
    refine ⟨fun _ => by omega, fun _ => Int32.lt_iff_toInt_lt.mpr ?_⟩
    rw [nI_toInt (by omega)]
    omega
theorem sw18 (x : Int32) : (x.toInt < 0 ∨ 17 < x.toInt) ∨ ∃ k, k < 18 ∧ x = nI k := by
  by_cases h0 : x < 0
  · exact Or.inl (Or.inl (Int32.lt_iff_toInt_lt.mp h0))
  · obtain ⟨j, hj, e⟩ := nI_of h0
    by_cases h : j < 18
    · exact Or.inr ⟨j, h, e⟩
    · refine Or.inl (Or.inr ?_)
      rw [e, nI_toInt hj]
      omega
set_option maxHeartbeats 4000000 in
set_option maxRecDepth 100000 in
theorem lb_table {K : Kx} {nm : String} {Q : State → Prop} {b L : Nat} {xs : Nat → Int32} (C : Cx K code 8 "DeltaViewsLaw" room_1 ret nm) (hX : SC K b L xs) (hL : L ≤ 3072) {i : Nat} (hi : i + 6 ≤ L) {x m : Nat} {ad : Nat → Nat} {h : AH} {c t : Nat} {G : Gh} {S : Sx} (hc : c ≤ 200 + i) (ht : t ≤ 11000 + i) (hJ : JI (Ko K) h x G m ad S) (next : ∀ (h' : AH) (c' t' : Nat) (G' : Gh) (S' : Sx), c' ≤ 206 + i → t' ≤ 11006 + i → JI (Ko K) h' x G' m ad S' → V K h' c' t' Q 826 [(0, .ref b), (1, .ref x), (2, .ref m), (3, .int (nI i))] []) : V K h c t Q 120 [(0, .ref b), (1, .ref x), (2, .ref m), (3, .int (nI i))] [] := by
  have hn : S.2.2.2.length ≤ 10 := hJ.1.2.2.1
  obtain ⟨fs0, hm0⟩ := hJ.2.1.obj
  refine r_aload_n (n := 121) C dLW_law_120 rfl rfl ?_
  refine r_aload_n (n := 122) C dLW_law_121 rfl rfl ?_
  refine r_iload_n (n := 123) C dLW_law_122 rfl rfl ?_
  refine r_iconst (v := 1) (n := 124) C dLW_law_123 rfl (by decide) ?_
  refine r_iadd (n := 125) C dLW_law_124 rfl ?_
  refine r_sld (n := 126) C hX dLW_law_125 rfl (i + 1) (nI_add i 1) (by omega) (by omega) ?_
  refine r_ci (n := 129) (rn_V (z := 1) (ci := 9) (T := TDV) C (c_DV_table (Kl K) (Ko K) h x (xs (i + 1)) G S hJ.1) tw_88 tw_89 tw_90 tw_1 tw_91 rfl rfl ndDV_table ⟨Nat.le_of_ble_eq_true rfl, Nat.le_of_ble_eq_true rfl⟩ hJ.1.2.1 rfl rfl rfl (Nat.le_of_ble_eq_true rfl) dLW_law_126 ⟨by show _ ≤ 600000; omega, by show _ ≤ 7302250; omega⟩) rfl (fun r1 h1 hq1 => ?_)
  obtain ⟨e1, hU⟩ := hq1
  subst e1
  obtain ⟨G1, hC1, hM1, hA1⟩ := hJ.cls hU
  obtain ⟨fs1, hm1⟩ := hM1.obj
  refine r_aload_n (n := 130) C dLW_law_129 rfl rfl ?_
  refine r_aload_n (n := 131) C dLW_law_130 rfl rfl ?_
  refine r_iload_n (n := 132) C dLW_law_131 rfl rfl ?_
  refine r_iconst (v := 1) (n := 133) C dLW_law_132 rfl (by decide) ?_
  refine r_iadd (n := 134) C dLW_law_133 rfl ?_
  refine r_sld (n := 135) C hX dLW_law_134 rfl (i + 1) (nI_add i 1) (by omega) (by omega) ?_
  refine r_ci (n := 138) (rn_V (z := 1) (ci := 10) (T := TMD) C (c_MD_table (Kl K) (Ko K) h1 m (xs (i + 1)) ad S hM1 hJ.2.2.1) tw_596 tw_597 tw_598 tw_4 tw_599 rfl rfl ndMD_table ⟨Nat.le_of_ble_eq_true rfl, Nat.le_of_ble_eq_true rfl⟩ hm1 rfl rfl rfl (Nat.le_of_ble_eq_true rfl) dLW_law_135 ⟨by show _ ≤ 600000; omega, by show _ ≤ 7302250; omega⟩) rfl (fun r2 h2 hq2 => ?_)
  obtain ⟨e2, hV⟩ := hq2
  subst e2
  have hJ2 := JI.mod hC1 hM1 hA1 hV (tabS_pi  hJ.2.2.1)
  refine r_icmp_eq (tgt := 826) (n := 141) C dLW_law_138 (by decide) rfl (fun c_138 => ?_) (fun c_138 => ?_)
  · refine V.byk (ls' := [(0, .ref b), (1, .ref x), (2, .ref m), (3, .int (nI i))]) rfl ?_
    exact next _ _ _ _ _ (by omega) (by omega) hJ2
  · exact absurd rfl c_138
set_option maxHeartbeats 4000000 in
set_option maxRecDepth 100000 in
theorem lb_filter {K : Kx} {nm : String} {Q : State → Prop} {b L : Nat} {xs : Nat → Int32} (C : Cx K code 8 "DeltaViewsLaw" room_1 ret nm) (hX : SC K b L xs) (hL : L ≤ 3072) {i : Nat} (hi : i + 6 ≤ L) {x m : Nat} {ad : Nat → Nat} {h : AH} {c t : Nat} {G : Gh} {S : Sx} (hc : c ≤ 200 + i) (ht : t ≤ 11000 + i) (hJ : JI (Ko K) h x G m ad S) (next : ∀ (h' : AH) (c' t' : Nat) (G' : Gh) (S' : Sx), c' ≤ 206 + i → t' ≤ 11006 + i → JI (Ko K) h' x G' m ad S' → V K h' c' t' Q 826 [(0, .ref b), (1, .ref x), (2, .ref m), (3, .int (nI i))] []) : V K h c t Q 143 [(0, .ref b), (1, .ref x), (2, .ref m), (3, .int (nI i))] [] := by
  have hn : S.2.2.2.length ≤ 10 := hJ.1.2.2.1
  obtain ⟨fs0, hm0⟩ := hJ.2.1.obj
  refine r_aload_n (n := 144) C dLW_law_143 rfl rfl ?_
  refine r_aload_n (n := 145) C dLW_law_144 rfl rfl ?_
  refine r_iload_n (n := 146) C dLW_law_145 rfl rfl ?_
  refine r_iconst (v := 1) (n := 147) C dLW_law_146 rfl (by decide) ?_
  refine r_iadd (n := 148) C dLW_law_147 rfl ?_
  refine r_sld (n := 149) C hX dLW_law_148 rfl (i + 1) (nI_add i 1) (by omega) (by omega) ?_
  refine r_aload_n (n := 150) C dLW_law_149 rfl rfl ?_
  refine r_iload_n (n := 151) C dLW_law_150 rfl rfl ?_
  refine r_iconst (v := 2) (n := 152) C dLW_law_151 rfl (by decide) ?_
  refine r_iadd (n := 153) C dLW_law_152 rfl ?_
  refine r_sld (n := 154) C hX dLW_law_153 rfl (i + 2) (nI_add i 2) (by omega) (by omega) ?_
  refine r_aload_n (n := 155) C dLW_law_154 rfl rfl ?_
  refine r_iload_n (n := 156) C dLW_law_155 rfl rfl ?_
  refine r_iconst (v := 3) (n := 157) C dLW_law_156 rfl (by decide) ?_
  refine r_iadd (n := 158) C dLW_law_157 rfl ?_
  refine r_sld (n := 159) C hX dLW_law_158 rfl (i + 3) (nI_add i 3) (by omega) (by omega) ?_
  refine r_aload_n (n := 160) C dLW_law_159 rfl rfl ?_
  refine r_iload_n (n := 161) C dLW_law_160 rfl rfl ?_
  refine r_iconst (v := 4) (n := 162) C dLW_law_161 rfl (by decide) ?_
  refine r_iadd (n := 163) C dLW_law_162 rfl ?_
  refine r_sld (n := 164) C hX dLW_law_163 rfl (i + 4) (nI_add i 4) (by omega) (by omega) ?_
  refine r_ci (n := 167) (rn_V (z := 4) (ci := 9) (T := TDV) C (c_DV_filter (Kl K) (Ko K) h x (xs (i + 1)) (xs (i + 2)) (xs (i + 3)) (xs (i + 4)) G S hJ.1) tw_290 tw_291 tw_292 tw_1 tw_293 rfl rfl ndDV_filter ⟨Nat.le_of_ble_eq_true rfl, Nat.le_of_ble_eq_true rfl⟩ hJ.1.2.1 rfl rfl rfl (Nat.le_of_ble_eq_true rfl) dLW_law_164 ⟨by show _ ≤ 600000; omega, by show _ ≤ 7302250; omega⟩) rfl (fun r1 h1 hq1 => ?_)
  obtain ⟨e1, hU⟩ := hq1
  subst e1
  obtain ⟨G1, hC1, hM1, hA1⟩ := hJ.cls hU
  obtain ⟨fs1, hm1⟩ := hM1.obj
  refine r_aload_n (n := 168) C dLW_law_167 rfl rfl ?_
  refine r_aload_n (n := 169) C dLW_law_168 rfl rfl ?_
  refine r_iload_n (n := 170) C dLW_law_169 rfl rfl ?_
  refine r_iconst (v := 1) (n := 171) C dLW_law_170 rfl (by decide) ?_
  refine r_iadd (n := 172) C dLW_law_171 rfl ?_
  refine r_sld (n := 173) C hX dLW_law_172 rfl (i + 1) (nI_add i 1) (by omega) (by omega) ?_
  refine r_aload_n (n := 174) C dLW_law_173 rfl rfl ?_
  refine r_iload_n (n := 175) C dLW_law_174 rfl rfl ?_
  refine r_iconst (v := 2) (n := 176) C dLW_law_175 rfl (by decide) ?_
  refine r_iadd (n := 177) C dLW_law_176 rfl ?_
  refine r_sld (n := 178) C hX dLW_law_177 rfl (i + 2) (nI_add i 2) (by omega) (by omega) ?_
  refine r_aload_n (n := 179) C dLW_law_178 rfl rfl ?_
  refine r_iload_n (n := 180) C dLW_law_179 rfl rfl ?_
  refine r_iconst (v := 3) (n := 181) C dLW_law_180 rfl (by decide) ?_
  refine r_iadd (n := 182) C dLW_law_181 rfl ?_
  refine r_sld (n := 183) C hX dLW_law_182 rfl (i + 3) (nI_add i 3) (by omega) (by omega) ?_
  refine r_aload_n (n := 184) C dLW_law_183 rfl rfl ?_
  refine r_iload_n (n := 185) C dLW_law_184 rfl rfl ?_
  refine r_iconst (v := 4) (n := 186) C dLW_law_185 rfl (by decide) ?_
  refine r_iadd (n := 187) C dLW_law_186 rfl ?_
  refine r_sld (n := 188) C hX dLW_law_187 rfl (i + 4) (nI_add i 4) (by omega) (by omega) ?_
  refine r_ci (n := 191) (rn_V (z := 4) (ci := 10) (T := TMD) C (c_MD_filter (Kl K) (Ko K) h1 m (xs (i + 1)) (xs (i + 2)) (xs (i + 3)) (xs (i + 4)) ad S hM1 hJ.2.2.1) tw_654 tw_655 tw_656 tw_4 tw_657 rfl rfl ndMD_filter ⟨Nat.le_of_ble_eq_true rfl, Nat.le_of_ble_eq_true rfl⟩ hm1 rfl rfl rfl (Nat.le_of_ble_eq_true rfl) dLW_law_188 ⟨by show _ ≤ 600000; omega, by show _ ≤ 7302250; omega⟩) rfl (fun r2 h2 hq2 => ?_)
  obtain ⟨e2, hV⟩ := hq2
  subst e2
  have hJ2 := JI.mod hC1 hM1 hA1 hV (filS_pi hn hJ.2.2.1)
  refine r_icmp_eq (tgt := 826) (n := 194) C dLW_law_191 (by decide) rfl (fun c_191 => ?_) (fun c_191 => ?_)
  · refine V.byk (ls' := [(0, .ref b), (1, .ref x), (2, .ref m), (3, .int (nI i))]) rfl ?_
    exact next _ _ _ _ _ (by omega) (by omega) hJ2
  · exact absurd rfl c_191
set_option maxHeartbeats 4000000 in
set_option maxRecDepth 100000 in
theorem lb_map {K : Kx} {nm : String} {Q : State → Prop} {b L : Nat} {xs : Nat → Int32} (C : Cx K code 8 "DeltaViewsLaw" room_1 ret nm) (hX : SC K b L xs) (hL : L ≤ 3072) {i : Nat} (hi : i + 6 ≤ L) {x m : Nat} {ad : Nat → Nat} {h : AH} {c t : Nat} {G : Gh} {S : Sx} (hc : c ≤ 200 + i) (ht : t ≤ 11000 + i) (hJ : JI (Ko K) h x G m ad S) (next : ∀ (h' : AH) (c' t' : Nat) (G' : Gh) (S' : Sx), c' ≤ 206 + i → t' ≤ 11006 + i → JI (Ko K) h' x G' m ad S' → V K h' c' t' Q 826 [(0, .ref b), (1, .ref x), (2, .ref m), (3, .int (nI i))] []) : V K h c t Q 196 [(0, .ref b), (1, .ref x), (2, .ref m), (3, .int (nI i))] [] := by
  have hn : S.2.2.2.length ≤ 10 := hJ.1.2.2.1
  obtain ⟨fs0, hm0⟩ := hJ.2.1.obj
  refine r_aload_n (n := 197) C dLW_law_196 rfl rfl ?_
  refine r_aload_n (n := 198) C dLW_law_197 rfl rfl ?_
  refine r_iload_n (n := 199) C dLW_law_198 rfl rfl ?_
  refine r_iconst (v := 1) (n := 200) C dLW_law_199 rfl (by decide) ?_
  refine r_iadd (n := 201) C dLW_law_200 rfl ?_
  refine r_sld (n := 202) C hX dLW_law_201 rfl (i + 1) (nI_add i 1) (by omega) (by omega) ?_
  refine r_aload_n (n := 203) C dLW_law_202 rfl rfl ?_
  refine r_iload_n (n := 204) C dLW_law_203 rfl rfl ?_
  refine r_iconst (v := 2) (n := 205) C dLW_law_204 rfl (by decide) ?_
  refine r_iadd (n := 206) C dLW_law_205 rfl ?_
  refine r_sld (n := 207) C hX dLW_law_206 rfl (i + 2) (nI_add i 2) (by omega) (by omega) ?_
  refine r_aload_n (n := 208) C dLW_law_207 rfl rfl ?_
  refine r_iload_n (n := 209) C dLW_law_208 rfl rfl ?_
  refine r_iconst (v := 3) (n := 210) C dLW_law_209 rfl (by decide) ?_
  refine r_iadd (n := 211) C dLW_law_210 rfl ?_
  refine r_sld (n := 212) C hX dLW_law_211 rfl (i + 3) (nI_add i 3) (by omega) (by omega) ?_
  refine r_aload_n (n := 213) C dLW_law_212 rfl rfl ?_
  refine r_iload_n (n := 214) C dLW_law_213 rfl rfl ?_
  refine r_iconst (v := 4) (n := 215) C dLW_law_214 rfl (by decide) ?_
  refine r_iadd (n := 216) C dLW_law_215 rfl ?_
  refine r_sld (n := 217) C hX dLW_law_216 rfl (i + 4) (nI_add i 4) (by omega) (by omega) ?_
  refine r_ci (n := 220) (rn_V (z := 4) (ci := 9) (T := TDV) C (c_DV_map (Kl K) (Ko K) h x (xs (i + 1)) (xs (i + 2)) (xs (i + 3)) (xs (i + 4)) G S hJ.1) tw_319 tw_320 tw_321 tw_1 tw_322 rfl rfl ndDV_map ⟨Nat.le_of_ble_eq_true rfl, Nat.le_of_ble_eq_true rfl⟩ hJ.1.2.1 rfl rfl rfl (Nat.le_of_ble_eq_true rfl) dLW_law_217 ⟨by show _ ≤ 600000; omega, by show _ ≤ 7302250; omega⟩) rfl (fun r1 h1 hq1 => ?_)
  obtain ⟨e1, hU⟩ := hq1
  subst e1
  obtain ⟨G1, hC1, hM1, hA1⟩ := hJ.cls hU
  obtain ⟨fs1, hm1⟩ := hM1.obj
  refine r_aload_n (n := 221) C dLW_law_220 rfl rfl ?_
  refine r_aload_n (n := 222) C dLW_law_221 rfl rfl ?_
  refine r_iload_n (n := 223) C dLW_law_222 rfl rfl ?_
  refine r_iconst (v := 1) (n := 224) C dLW_law_223 rfl (by decide) ?_
  refine r_iadd (n := 225) C dLW_law_224 rfl ?_
  refine r_sld (n := 226) C hX dLW_law_225 rfl (i + 1) (nI_add i 1) (by omega) (by omega) ?_
  refine r_aload_n (n := 227) C dLW_law_226 rfl rfl ?_
  refine r_iload_n (n := 228) C dLW_law_227 rfl rfl ?_
  refine r_iconst (v := 2) (n := 229) C dLW_law_228 rfl (by decide) ?_
  refine r_iadd (n := 230) C dLW_law_229 rfl ?_
  refine r_sld (n := 231) C hX dLW_law_230 rfl (i + 2) (nI_add i 2) (by omega) (by omega) ?_
  refine r_aload_n (n := 232) C dLW_law_231 rfl rfl ?_
  refine r_iload_n (n := 233) C dLW_law_232 rfl rfl ?_
  refine r_iconst (v := 3) (n := 234) C dLW_law_233 rfl (by decide) ?_
  refine r_iadd (n := 235) C dLW_law_234 rfl ?_
  refine r_sld (n := 236) C hX dLW_law_235 rfl (i + 3) (nI_add i 3) (by omega) (by omega) ?_
  refine r_aload_n (n := 237) C dLW_law_236 rfl rfl ?_
  refine r_iload_n (n := 238) C dLW_law_237 rfl rfl ?_
  refine r_iconst (v := 4) (n := 239) C dLW_law_238 rfl (by decide) ?_
  refine r_iadd (n := 240) C dLW_law_239 rfl ?_
  refine r_sld (n := 241) C hX dLW_law_240 rfl (i + 4) (nI_add i 4) (by omega) (by omega) ?_
  refine r_ci (n := 244) (rn_V (z := 4) (ci := 10) (T := TMD) C (c_MD_map (Kl K) (Ko K) h1 m (xs (i + 1)) (xs (i + 2)) (xs (i + 3)) (xs (i + 4)) ad S hM1 hJ.2.2.1) tw_658 tw_659 tw_660 tw_4 tw_661 rfl rfl ndMD_map ⟨Nat.le_of_ble_eq_true rfl, Nat.le_of_ble_eq_true rfl⟩ hm1 rfl rfl rfl (Nat.le_of_ble_eq_true rfl) dLW_law_241 ⟨by show _ ≤ 600000; omega, by show _ ≤ 7302250; omega⟩) rfl (fun r2 h2 hq2 => ?_)
  obtain ⟨e2, hV⟩ := hq2
  subst e2
  have hJ2 := JI.mod hC1 hM1 hA1 hV (mapS_pi hn hJ.2.2.1)
  refine r_icmp_eq (tgt := 826) (n := 247) C dLW_law_244 (by decide) rfl (fun c_244 => ?_) (fun c_244 => ?_)
  · refine V.byk (ls' := [(0, .ref b), (1, .ref x), (2, .ref m), (3, .int (nI i))]) rfl ?_
    exact next _ _ _ _ _ (by omega) (by omega) hJ2
  · exact absurd rfl c_244
set_option maxHeartbeats 4000000 in
set_option maxRecDepth 100000 in
theorem lb_join {K : Kx} {nm : String} {Q : State → Prop} {b L : Nat} {xs : Nat → Int32} (C : Cx K code 8 "DeltaViewsLaw" room_1 ret nm) (hX : SC K b L xs) (hL : L ≤ 3072) {i : Nat} (hi : i + 6 ≤ L) {x m : Nat} {ad : Nat → Nat} {h : AH} {c t : Nat} {G : Gh} {S : Sx} (hc : c ≤ 200 + i) (ht : t ≤ 11000 + i) (hJ : JI (Ko K) h x G m ad S) (next : ∀ (h' : AH) (c' t' : Nat) (G' : Gh) (S' : Sx), c' ≤ 206 + i → t' ≤ 11006 + i → JI (Ko K) h' x G' m ad S' → V K h' c' t' Q 826 [(0, .ref b), (1, .ref x), (2, .ref m), (3, .int (nI i))] []) : V K h c t Q 249 [(0, .ref b), (1, .ref x), (2, .ref m), (3, .int (nI i))] [] := by
  have hn : S.2.2.2.length ≤ 10 := hJ.1.2.2.1
  obtain ⟨fs0, hm0⟩ := hJ.2.1.obj
  refine r_aload_n (n := 250) C dLW_law_249 rfl rfl ?_
  refine r_aload_n (n := 251) C dLW_law_250 rfl rfl ?_
  refine r_iload_n (n := 252) C dLW_law_251 rfl rfl ?_
  refine r_iconst (v := 1) (n := 253) C dLW_law_252 rfl (by decide) ?_
  refine r_iadd (n := 254) C dLW_law_253 rfl ?_
  refine r_sld (n := 255) C hX dLW_law_254 rfl (i + 1) (nI_add i 1) (by omega) (by omega) ?_
  refine r_aload_n (n := 256) C dLW_law_255 rfl rfl ?_
  refine r_iload_n (n := 257) C dLW_law_256 rfl rfl ?_
  refine r_iconst (v := 2) (n := 258) C dLW_law_257 rfl (by decide) ?_
  refine r_iadd (n := 259) C dLW_law_258 rfl ?_
  refine r_sld (n := 260) C hX dLW_law_259 rfl (i + 2) (nI_add i 2) (by omega) (by omega) ?_
  refine r_aload_n (n := 261) C dLW_law_260 rfl rfl ?_
  refine r_iload_n (n := 262) C dLW_law_261 rfl rfl ?_
  refine r_iconst (v := 3) (n := 263) C dLW_law_262 rfl (by decide) ?_
  refine r_iadd (n := 264) C dLW_law_263 rfl ?_
  refine r_sld (n := 265) C hX dLW_law_264 rfl (i + 3) (nI_add i 3) (by omega) (by omega) ?_
  refine r_aload_n (n := 266) C dLW_law_265 rfl rfl ?_
  refine r_iload_n (n := 267) C dLW_law_266 rfl rfl ?_
  refine r_iconst (v := 4) (n := 268) C dLW_law_267 rfl (by decide) ?_
  refine r_iadd (n := 269) C dLW_law_268 rfl ?_
  refine r_sld (n := 270) C hX dLW_law_269 rfl (i + 4) (nI_add i 4) (by omega) (by omega) ?_
  refine r_aload_n (n := 271) C dLW_law_270 rfl rfl ?_
  refine r_iload_n (n := 272) C dLW_law_271 rfl rfl ?_
  refine r_iconst (v := 5) (n := 273) C dLW_law_272 rfl (by decide) ?_
  refine r_iadd (n := 274) C dLW_law_273 rfl ?_
  refine r_sld (n := 275) C hX dLW_law_274 rfl (i + 5) (nI_add i 5) (by omega) (by omega) ?_
  refine r_ci (n := 278) (rn_V (z := 5) (ci := 9) (T := TDV) C (c_DV_join (Kl K) (Ko K) h x (xs (i + 1)) (xs (i + 2)) (xs (i + 3)) (xs (i + 4)) (xs (i + 5)) G S hJ.1) tw_342 tw_343 tw_344 tw_1 tw_345 rfl rfl ndDV_join ⟨Nat.le_of_ble_eq_true rfl, Nat.le_of_ble_eq_true rfl⟩ hJ.1.2.1 rfl rfl rfl (Nat.le_of_ble_eq_true rfl) dLW_law_275 ⟨by show _ ≤ 600000; omega, by show _ ≤ 7302250; omega⟩) rfl (fun r1 h1 hq1 => ?_)
  obtain ⟨e1, hU⟩ := hq1
  subst e1
  obtain ⟨G1, hC1, hM1, hA1⟩ := hJ.cls hU
  obtain ⟨fs1, hm1⟩ := hM1.obj
  refine r_aload_n (n := 279) C dLW_law_278 rfl rfl ?_
  refine r_aload_n (n := 280) C dLW_law_279 rfl rfl ?_
  refine r_iload_n (n := 281) C dLW_law_280 rfl rfl ?_
  refine r_iconst (v := 1) (n := 282) C dLW_law_281 rfl (by decide) ?_
  refine r_iadd (n := 283) C dLW_law_282 rfl ?_
  refine r_sld (n := 284) C hX dLW_law_283 rfl (i + 1) (nI_add i 1) (by omega) (by omega) ?_
  refine r_aload_n (n := 285) C dLW_law_284 rfl rfl ?_
  refine r_iload_n (n := 286) C dLW_law_285 rfl rfl ?_
  refine r_iconst (v := 2) (n := 287) C dLW_law_286 rfl (by decide) ?_
  refine r_iadd (n := 288) C dLW_law_287 rfl ?_
  refine r_sld (n := 289) C hX dLW_law_288 rfl (i + 2) (nI_add i 2) (by omega) (by omega) ?_
  refine r_aload_n (n := 290) C dLW_law_289 rfl rfl ?_
  refine r_iload_n (n := 291) C dLW_law_290 rfl rfl ?_
  refine r_iconst (v := 3) (n := 292) C dLW_law_291 rfl (by decide) ?_
  refine r_iadd (n := 293) C dLW_law_292 rfl ?_
  refine r_sld (n := 294) C hX dLW_law_293 rfl (i + 3) (nI_add i 3) (by omega) (by omega) ?_
  refine r_aload_n (n := 295) C dLW_law_294 rfl rfl ?_
  refine r_iload_n (n := 296) C dLW_law_295 rfl rfl ?_
  refine r_iconst (v := 4) (n := 297) C dLW_law_296 rfl (by decide) ?_
  refine r_iadd (n := 298) C dLW_law_297 rfl ?_
  refine r_sld (n := 299) C hX dLW_law_298 rfl (i + 4) (nI_add i 4) (by omega) (by omega) ?_
  refine r_aload_n (n := 300) C dLW_law_299 rfl rfl ?_
  refine r_iload_n (n := 301) C dLW_law_300 rfl rfl ?_
  refine r_iconst (v := 5) (n := 302) C dLW_law_301 rfl (by decide) ?_
  refine r_iadd (n := 303) C dLW_law_302 rfl ?_
  refine r_sld (n := 304) C hX dLW_law_303 rfl (i + 5) (nI_add i 5) (by omega) (by omega) ?_
  refine r_ci (n := 307) (rn_V (z := 5) (ci := 10) (T := TMD) C (c_MD_join (Kl K) (Ko K) h1 m (xs (i + 1)) (xs (i + 2)) (xs (i + 3)) (xs (i + 4)) (xs (i + 5)) ad S hM1 hJ.2.2.1) tw_662 tw_663 tw_664 tw_4 tw_665 rfl rfl ndMD_join ⟨Nat.le_of_ble_eq_true rfl, Nat.le_of_ble_eq_true rfl⟩ hm1 rfl rfl rfl (Nat.le_of_ble_eq_true rfl) dLW_law_304 ⟨by show _ ≤ 600000; omega, by show _ ≤ 7302250; omega⟩) rfl (fun r2 h2 hq2 => ?_)
  obtain ⟨e2, hV⟩ := hq2
  subst e2
  have hJ2 := JI.mod hC1 hM1 hA1 hV (joiS_pi hn hJ.2.2.1)
  refine r_icmp_eq (tgt := 826) (n := 310) C dLW_law_307 (by decide) rfl (fun c_307 => ?_) (fun c_307 => ?_)
  · refine V.byk (ls' := [(0, .ref b), (1, .ref x), (2, .ref m), (3, .int (nI i))]) rfl ?_
    exact next _ _ _ _ _ (by omega) (by omega) hJ2
  · exact absurd rfl c_307
set_option maxHeartbeats 4000000 in
set_option maxRecDepth 100000 in
theorem lb_combine {K : Kx} {nm : String} {Q : State → Prop} {b L : Nat} {xs : Nat → Int32} (C : Cx K code 8 "DeltaViewsLaw" room_1 ret nm) (hX : SC K b L xs) (hL : L ≤ 3072) {i : Nat} (hi : i + 6 ≤ L) {x m : Nat} {ad : Nat → Nat} {h : AH} {c t : Nat} {G : Gh} {S : Sx} (hc : c ≤ 200 + i) (ht : t ≤ 11000 + i) (hJ : JI (Ko K) h x G m ad S) (next : ∀ (h' : AH) (c' t' : Nat) (G' : Gh) (S' : Sx), c' ≤ 206 + i → t' ≤ 11006 + i → JI (Ko K) h' x G' m ad S' → V K h' c' t' Q 826 [(0, .ref b), (1, .ref x), (2, .ref m), (3, .int (nI i))] []) : V K h c t Q 312 [(0, .ref b), (1, .ref x), (2, .ref m), (3, .int (nI i))] [] := by
  have hn : S.2.2.2.length ≤ 10 := hJ.1.2.2.1
  obtain ⟨fs0, hm0⟩ := hJ.2.1.obj
  refine r_aload_n (n := 313) C dLW_law_312 rfl rfl ?_
  refine r_aload_n (n := 314) C dLW_law_313 rfl rfl ?_
  refine r_iload_n (n := 315) C dLW_law_314 rfl rfl ?_
  refine r_iconst (v := 1) (n := 316) C dLW_law_315 rfl (by decide) ?_
  refine r_iadd (n := 317) C dLW_law_316 rfl ?_
  refine r_sld (n := 318) C hX dLW_law_317 rfl (i + 1) (nI_add i 1) (by omega) (by omega) ?_
  refine r_aload_n (n := 319) C dLW_law_318 rfl rfl ?_
  refine r_iload_n (n := 320) C dLW_law_319 rfl rfl ?_
  refine r_iconst (v := 2) (n := 321) C dLW_law_320 rfl (by decide) ?_
  refine r_iadd (n := 322) C dLW_law_321 rfl ?_
  refine r_sld (n := 323) C hX dLW_law_322 rfl (i + 2) (nI_add i 2) (by omega) (by omega) ?_
  refine r_aload_n (n := 324) C dLW_law_323 rfl rfl ?_
  refine r_iload_n (n := 325) C dLW_law_324 rfl rfl ?_
  refine r_iconst (v := 3) (n := 326) C dLW_law_325 rfl (by decide) ?_
  refine r_iadd (n := 327) C dLW_law_326 rfl ?_
  refine r_sld (n := 328) C hX dLW_law_327 rfl (i + 3) (nI_add i 3) (by omega) (by omega) ?_
  refine r_ci (n := 331) (rn_V (z := 3) (ci := 9) (T := TDV) C (c_DV_combine (Kl K) (Ko K) h x (xs (i + 1)) (xs (i + 2)) (xs (i + 3)) G S hJ.1) tw_368 tw_369 tw_370 tw_1 tw_371 rfl rfl ndDV_combine ⟨Nat.le_of_ble_eq_true rfl, Nat.le_of_ble_eq_true rfl⟩ hJ.1.2.1 rfl rfl rfl (Nat.le_of_ble_eq_true rfl) dLW_law_328 ⟨by show _ ≤ 600000; omega, by show _ ≤ 7302250; omega⟩) rfl (fun r1 h1 hq1 => ?_)
  obtain ⟨e1, hU⟩ := hq1
  subst e1
  obtain ⟨G1, hC1, hM1, hA1⟩ := hJ.cls hU
  obtain ⟨fs1, hm1⟩ := hM1.obj
  refine r_aload_n (n := 332) C dLW_law_331 rfl rfl ?_
  refine r_aload_n (n := 333) C dLW_law_332 rfl rfl ?_
  refine r_iload_n (n := 334) C dLW_law_333 rfl rfl ?_
  refine r_iconst (v := 1) (n := 335) C dLW_law_334 rfl (by decide) ?_
  refine r_iadd (n := 336) C dLW_law_335 rfl ?_
  refine r_sld (n := 337) C hX dLW_law_336 rfl (i + 1) (nI_add i 1) (by omega) (by omega) ?_
  refine r_aload_n (n := 338) C dLW_law_337 rfl rfl ?_
  refine r_iload_n (n := 339) C dLW_law_338 rfl rfl ?_
  refine r_iconst (v := 2) (n := 340) C dLW_law_339 rfl (by decide) ?_
  refine r_iadd (n := 341) C dLW_law_340 rfl ?_
  refine r_sld (n := 342) C hX dLW_law_341 rfl (i + 2) (nI_add i 2) (by omega) (by omega) ?_
  refine r_aload_n (n := 343) C dLW_law_342 rfl rfl ?_
  refine r_iload_n (n := 344) C dLW_law_343 rfl rfl ?_
  refine r_iconst (v := 3) (n := 345) C dLW_law_344 rfl (by decide) ?_
  refine r_iadd (n := 346) C dLW_law_345 rfl ?_
  refine r_sld (n := 347) C hX dLW_law_346 rfl (i + 3) (nI_add i 3) (by omega) (by omega) ?_
  refine r_ci (n := 350) (rn_V (z := 3) (ci := 10) (T := TMD) C (c_MD_combine (Kl K) (Ko K) h1 m (xs (i + 1)) (xs (i + 2)) (xs (i + 3)) ad S hM1 hJ.2.2.1) tw_666 tw_667 tw_668 tw_4 tw_669 rfl rfl ndMD_combine ⟨Nat.le_of_ble_eq_true rfl, Nat.le_of_ble_eq_true rfl⟩ hm1 rfl rfl rfl (Nat.le_of_ble_eq_true rfl) dLW_law_347 ⟨by show _ ≤ 600000; omega, by show _ ≤ 7302250; omega⟩) rfl (fun r2 h2 hq2 => ?_)
  obtain ⟨e2, hV⟩ := hq2
  subst e2
  have hJ2 := JI.mod hC1 hM1 hA1 hV (comS_pi hn hJ.2.2.1)
  refine r_icmp_eq (tgt := 826) (n := 353) C dLW_law_350 (by decide) rfl (fun c_350 => ?_) (fun c_350 => ?_)
  · refine V.byk (ls' := [(0, .ref b), (1, .ref x), (2, .ref m), (3, .int (nI i))]) rfl ?_
    exact next _ _ _ _ _ (by omega) (by omega) hJ2
  · exact absurd rfl c_350
set_option maxHeartbeats 4000000 in
set_option maxRecDepth 100000 in
theorem lb_distinct {K : Kx} {nm : String} {Q : State → Prop} {b L : Nat} {xs : Nat → Int32} (C : Cx K code 8 "DeltaViewsLaw" room_1 ret nm) (hX : SC K b L xs) (hL : L ≤ 3072) {i : Nat} (hi : i + 6 ≤ L) {x m : Nat} {ad : Nat → Nat} {h : AH} {c t : Nat} {G : Gh} {S : Sx} (hc : c ≤ 200 + i) (ht : t ≤ 11000 + i) (hJ : JI (Ko K) h x G m ad S) (next : ∀ (h' : AH) (c' t' : Nat) (G' : Gh) (S' : Sx), c' ≤ 206 + i → t' ≤ 11006 + i → JI (Ko K) h' x G' m ad S' → V K h' c' t' Q 826 [(0, .ref b), (1, .ref x), (2, .ref m), (3, .int (nI i))] []) : V K h c t Q 355 [(0, .ref b), (1, .ref x), (2, .ref m), (3, .int (nI i))] [] := by
  have hn : S.2.2.2.length ≤ 10 := hJ.1.2.2.1
  obtain ⟨fs0, hm0⟩ := hJ.2.1.obj
  refine r_aload_n (n := 356) C dLW_law_355 rfl rfl ?_
  refine r_aload_n (n := 357) C dLW_law_356 rfl rfl ?_
  refine r_iload_n (n := 358) C dLW_law_357 rfl rfl ?_
  refine r_iconst (v := 1) (n := 359) C dLW_law_358 rfl (by decide) ?_
  refine r_iadd (n := 360) C dLW_law_359 rfl ?_
  refine r_sld (n := 361) C hX dLW_law_360 rfl (i + 1) (nI_add i 1) (by omega) (by omega) ?_
  refine r_ci (n := 364) (rn_V (z := 1) (ci := 9) (T := TDV) C (c_DV_distinct (Kl K) (Ko K) h x (xs (i + 1)) G S hJ.1) tw_388 tw_389 tw_390 tw_1 tw_391 rfl rfl ndDV_distinct ⟨Nat.le_of_ble_eq_true rfl, Nat.le_of_ble_eq_true rfl⟩ hJ.1.2.1 rfl rfl rfl (Nat.le_of_ble_eq_true rfl) dLW_law_361 ⟨by show _ ≤ 600000; omega, by show _ ≤ 7302250; omega⟩) rfl (fun r1 h1 hq1 => ?_)
  obtain ⟨e1, hU⟩ := hq1
  subst e1
  obtain ⟨G1, hC1, hM1, hA1⟩ := hJ.cls hU
  obtain ⟨fs1, hm1⟩ := hM1.obj
  refine r_aload_n (n := 365) C dLW_law_364 rfl rfl ?_
  refine r_aload_n (n := 366) C dLW_law_365 rfl rfl ?_
  refine r_iload_n (n := 367) C dLW_law_366 rfl rfl ?_
  refine r_iconst (v := 1) (n := 368) C dLW_law_367 rfl (by decide) ?_
  refine r_iadd (n := 369) C dLW_law_368 rfl ?_
  refine r_sld (n := 370) C hX dLW_law_369 rfl (i + 1) (nI_add i 1) (by omega) (by omega) ?_
  refine r_ci (n := 373) (rn_V (z := 1) (ci := 10) (T := TMD) C (c_MD_distinct (Kl K) (Ko K) h1 m (xs (i + 1)) ad S hM1 hJ.2.2.1) tw_670 tw_671 tw_672 tw_4 tw_673 rfl rfl ndMD_distinct ⟨Nat.le_of_ble_eq_true rfl, Nat.le_of_ble_eq_true rfl⟩ hm1 rfl rfl rfl (Nat.le_of_ble_eq_true rfl) dLW_law_370 ⟨by show _ ≤ 600000; omega, by show _ ≤ 7302250; omega⟩) rfl (fun r2 h2 hq2 => ?_)
  obtain ⟨e2, hV⟩ := hq2
  subst e2
  have hJ2 := JI.mod hC1 hM1 hA1 hV (disS_pi hn hJ.2.2.1)
  refine r_icmp_eq (tgt := 826) (n := 376) C dLW_law_373 (by decide) rfl (fun c_373 => ?_) (fun c_373 => ?_)
  · refine V.byk (ls' := [(0, .ref b), (1, .ref x), (2, .ref m), (3, .int (nI i))]) rfl ?_
    exact next _ _ _ _ _ (by omega) (by omega) hJ2
  · exact absurd rfl c_373
set_option maxHeartbeats 4000000 in
set_option maxRecDepth 100000 in
theorem lb_group {K : Kx} {nm : String} {Q : State → Prop} {b L : Nat} {xs : Nat → Int32} (C : Cx K code 8 "DeltaViewsLaw" room_1 ret nm) (hX : SC K b L xs) (hL : L ≤ 3072) {i : Nat} (hi : i + 6 ≤ L) {x m : Nat} {ad : Nat → Nat} {h : AH} {c t : Nat} {G : Gh} {S : Sx} (hc : c ≤ 200 + i) (ht : t ≤ 11000 + i) (hJ : JI (Ko K) h x G m ad S) (next : ∀ (h' : AH) (c' t' : Nat) (G' : Gh) (S' : Sx), c' ≤ 206 + i → t' ≤ 11006 + i → JI (Ko K) h' x G' m ad S' → V K h' c' t' Q 826 [(0, .ref b), (1, .ref x), (2, .ref m), (3, .int (nI i))] []) : V K h c t Q 378 [(0, .ref b), (1, .ref x), (2, .ref m), (3, .int (nI i))] [] := by
  have hn : S.2.2.2.length ≤ 10 := hJ.1.2.2.1
  obtain ⟨fs0, hm0⟩ := hJ.2.1.obj
  refine r_aload_n (n := 379) C dLW_law_378 rfl rfl ?_
  refine r_aload_n (n := 380) C dLW_law_379 rfl rfl ?_
  refine r_iload_n (n := 381) C dLW_law_380 rfl rfl ?_
  refine r_iconst (v := 1) (n := 382) C dLW_law_381 rfl (by decide) ?_
  refine r_iadd (n := 383) C dLW_law_382 rfl ?_
  refine r_sld (n := 384) C hX dLW_law_383 rfl (i + 1) (nI_add i 1) (by omega) (by omega) ?_
  refine r_aload_n (n := 385) C dLW_law_384 rfl rfl ?_
  refine r_iload_n (n := 386) C dLW_law_385 rfl rfl ?_
  refine r_iconst (v := 2) (n := 387) C dLW_law_386 rfl (by decide) ?_
  refine r_iadd (n := 388) C dLW_law_387 rfl ?_
  refine r_sld (n := 389) C hX dLW_law_388 rfl (i + 2) (nI_add i 2) (by omega) (by omega) ?_
  refine r_aload_n (n := 390) C dLW_law_389 rfl rfl ?_
  refine r_iload_n (n := 391) C dLW_law_390 rfl rfl ?_
  refine r_iconst (v := 3) (n := 392) C dLW_law_391 rfl (by decide) ?_
  refine r_iadd (n := 393) C dLW_law_392 rfl ?_
  refine r_sld (n := 394) C hX dLW_law_393 rfl (i + 3) (nI_add i 3) (by omega) (by omega) ?_
  refine r_aload_n (n := 395) C dLW_law_394 rfl rfl ?_
  refine r_iload_n (n := 396) C dLW_law_395 rfl rfl ?_
  refine r_iconst (v := 4) (n := 397) C dLW_law_396 rfl (by decide) ?_
  refine r_iadd (n := 398) C dLW_law_397 rfl ?_
  refine r_sld (n := 399) C hX dLW_law_398 rfl (i + 4) (nI_add i 4) (by omega) (by omega) ?_
  refine r_ci (n := 402) (rn_V (z := 4) (ci := 9) (T := TDV) C (c_DV_group (Kl K) (Ko K) h x (xs (i + 1)) (xs (i + 2)) (xs (i + 3)) (xs (i + 4)) G S hJ.1) tw_402 tw_403 tw_404 tw_1 tw_405 rfl rfl ndDV_group ⟨Nat.le_of_ble_eq_true rfl, Nat.le_of_ble_eq_true rfl⟩ hJ.1.2.1 rfl rfl rfl (Nat.le_of_ble_eq_true rfl) dLW_law_399 ⟨by show _ ≤ 600000; omega, by show _ ≤ 7302250; omega⟩) rfl (fun r1 h1 hq1 => ?_)
  obtain ⟨e1, hU⟩ := hq1
  subst e1
  obtain ⟨G1, hC1, hM1, hA1⟩ := hJ.cls hU
  obtain ⟨fs1, hm1⟩ := hM1.obj
  refine r_aload_n (n := 403) C dLW_law_402 rfl rfl ?_
  refine r_aload_n (n := 404) C dLW_law_403 rfl rfl ?_
  refine r_iload_n (n := 405) C dLW_law_404 rfl rfl ?_
  refine r_iconst (v := 1) (n := 406) C dLW_law_405 rfl (by decide) ?_
  refine r_iadd (n := 407) C dLW_law_406 rfl ?_
  refine r_sld (n := 408) C hX dLW_law_407 rfl (i + 1) (nI_add i 1) (by omega) (by omega) ?_
  refine r_aload_n (n := 409) C dLW_law_408 rfl rfl ?_
  refine r_iload_n (n := 410) C dLW_law_409 rfl rfl ?_
  refine r_iconst (v := 2) (n := 411) C dLW_law_410 rfl (by decide) ?_
  refine r_iadd (n := 412) C dLW_law_411 rfl ?_
  refine r_sld (n := 413) C hX dLW_law_412 rfl (i + 2) (nI_add i 2) (by omega) (by omega) ?_
  refine r_aload_n (n := 414) C dLW_law_413 rfl rfl ?_
  refine r_iload_n (n := 415) C dLW_law_414 rfl rfl ?_
  refine r_iconst (v := 3) (n := 416) C dLW_law_415 rfl (by decide) ?_
  refine r_iadd (n := 417) C dLW_law_416 rfl ?_
  refine r_sld (n := 418) C hX dLW_law_417 rfl (i + 3) (nI_add i 3) (by omega) (by omega) ?_
  refine r_aload_n (n := 419) C dLW_law_418 rfl rfl ?_
  refine r_iload_n (n := 420) C dLW_law_419 rfl rfl ?_
  refine r_iconst (v := 4) (n := 421) C dLW_law_420 rfl (by decide) ?_
  refine r_iadd (n := 422) C dLW_law_421 rfl ?_
  refine r_sld (n := 423) C hX dLW_law_422 rfl (i + 4) (nI_add i 4) (by omega) (by omega) ?_
  refine r_ci (n := 426) (rn_V (z := 4) (ci := 10) (T := TMD) C (c_MD_group (Kl K) (Ko K) h1 m (xs (i + 1)) (xs (i + 2)) (xs (i + 3)) (xs (i + 4)) ad S hM1 hJ.2.2.1) tw_674 tw_675 tw_676 tw_4 tw_677 rfl rfl ndMD_group ⟨Nat.le_of_ble_eq_true rfl, Nat.le_of_ble_eq_true rfl⟩ hm1 rfl rfl rfl (Nat.le_of_ble_eq_true rfl) dLW_law_423 ⟨by show _ ≤ 600000; omega, by show _ ≤ 7302250; omega⟩) rfl (fun r2 h2 hq2 => ?_)
  obtain ⟨e2, hV⟩ := hq2
  subst e2
  have hJ2 := JI.mod hC1 hM1 hA1 hV (groS_pi hn hJ.2.2.1)
  refine r_icmp_eq (tgt := 826) (n := 429) C dLW_law_426 (by decide) rfl (fun c_426 => ?_) (fun c_426 => ?_)
  · refine V.byk (ls' := [(0, .ref b), (1, .ref x), (2, .ref m), (3, .int (nI i))]) rfl ?_
    exact next _ _ _ _ _ (by omega) (by omega) hJ2
  · exact absurd rfl c_426
set_option maxHeartbeats 4000000 in
set_option maxRecDepth 100000 in
theorem lb_change {K : Kx} {nm : String} {Q : State → Prop} {b L : Nat} {xs : Nat → Int32} (C : Cx K code 8 "DeltaViewsLaw" room_1 ret nm) (hX : SC K b L xs) (hL : L ≤ 3072) {i : Nat} (hi : i + 6 ≤ L) {x m : Nat} {ad : Nat → Nat} {h : AH} {c t : Nat} {G : Gh} {S : Sx} (hc : c ≤ 200 + i) (ht : t ≤ 11000 + i) (hJ : JI (Ko K) h x G m ad S) (next : ∀ (h' : AH) (c' t' : Nat) (G' : Gh) (S' : Sx), c' ≤ 206 + i → t' ≤ 11006 + i → JI (Ko K) h' x G' m ad S' → V K h' c' t' Q 826 [(0, .ref b), (1, .ref x), (2, .ref m), (3, .int (nI i))] []) : V K h c t Q 431 [(0, .ref b), (1, .ref x), (2, .ref m), (3, .int (nI i))] [] := by
  have hn : S.2.2.2.length ≤ 10 := hJ.1.2.2.1
  obtain ⟨fs0, hm0⟩ := hJ.2.1.obj
  refine r_aload_n (n := 432) C dLW_law_431 rfl rfl ?_
  refine r_aload_n (n := 433) C dLW_law_432 rfl rfl ?_
  refine r_iload_n (n := 434) C dLW_law_433 rfl rfl ?_
  refine r_iconst (v := 1) (n := 435) C dLW_law_434 rfl (by decide) ?_
  refine r_iadd (n := 436) C dLW_law_435 rfl ?_
  refine r_sld (n := 437) C hX dLW_law_436 rfl (i + 1) (nI_add i 1) (by omega) (by omega) ?_
  refine r_aload_n (n := 438) C dLW_law_437 rfl rfl ?_
  refine r_iload_n (n := 439) C dLW_law_438 rfl rfl ?_
  refine r_iconst (v := 2) (n := 440) C dLW_law_439 rfl (by decide) ?_
  refine r_iadd (n := 441) C dLW_law_440 rfl ?_
  refine r_sld (n := 442) C hX dLW_law_441 rfl (i + 2) (nI_add i 2) (by omega) (by omega) ?_
  refine r_aload_n (n := 443) C dLW_law_442 rfl rfl ?_
  refine r_iload_n (n := 444) C dLW_law_443 rfl rfl ?_
  refine r_iconst (v := 3) (n := 445) C dLW_law_444 rfl (by decide) ?_
  refine r_iadd (n := 446) C dLW_law_445 rfl ?_
  refine r_sld (n := 447) C hX dLW_law_446 rfl (i + 3) (nI_add i 3) (by omega) (by omega) ?_
  refine r_aload_n (n := 448) C dLW_law_447 rfl rfl ?_
  refine r_iload_n (n := 449) C dLW_law_448 rfl rfl ?_
  refine r_iconst (v := 4) (n := 450) C dLW_law_449 rfl (by decide) ?_
  refine r_iadd (n := 451) C dLW_law_450 rfl ?_
  refine r_sld (n := 452) C hX dLW_law_451 rfl (i + 4) (nI_add i 4) (by omega) (by omega) ?_
  refine r_aload_n (n := 453) C dLW_law_452 rfl rfl ?_
  refine r_iload_n (n := 454) C dLW_law_453 rfl rfl ?_
  refine r_iconst (v := 5) (n := 455) C dLW_law_454 rfl (by decide) ?_
  refine r_iadd (n := 456) C dLW_law_455 rfl ?_
  refine r_sld (n := 457) C hX dLW_law_456 rfl (i + 5) (nI_add i 5) (by omega) (by omega) ?_
  refine r_ci (n := 460) (rn_V (z := 5) (ci := 9) (T := TDV) C (c_DV_change (Kl K) (Ko K) h x (xs (i + 1)) (xs (i + 2)) (xs (i + 3)) (xs (i + 4)) (xs (i + 5)) G S hJ.1) tw_424 tw_425 tw_426 tw_1 tw_427 rfl rfl ndDV_change ⟨Nat.le_of_ble_eq_true rfl, Nat.le_of_ble_eq_true rfl⟩ hJ.1.2.1 rfl rfl rfl (Nat.le_of_ble_eq_true rfl) dLW_law_457 ⟨by show _ ≤ 600000; omega, by show _ ≤ 7302250; omega⟩) rfl (fun r1 h1 hq1 => ?_)
  obtain ⟨e1, hU⟩ := hq1
  subst e1
  obtain ⟨G1, hC1, hM1, hA1⟩ := hJ.cls hU
  obtain ⟨fs1, hm1⟩ := hM1.obj
  refine r_aload_n (n := 461) C dLW_law_460 rfl rfl ?_
  refine r_aload_n (n := 462) C dLW_law_461 rfl rfl ?_
  refine r_iload_n (n := 463) C dLW_law_462 rfl rfl ?_
  refine r_iconst (v := 1) (n := 464) C dLW_law_463 rfl (by decide) ?_
  refine r_iadd (n := 465) C dLW_law_464 rfl ?_
  refine r_sld (n := 466) C hX dLW_law_465 rfl (i + 1) (nI_add i 1) (by omega) (by omega) ?_
  refine r_aload_n (n := 467) C dLW_law_466 rfl rfl ?_
  refine r_iload_n (n := 468) C dLW_law_467 rfl rfl ?_
  refine r_iconst (v := 2) (n := 469) C dLW_law_468 rfl (by decide) ?_
  refine r_iadd (n := 470) C dLW_law_469 rfl ?_
  refine r_sld (n := 471) C hX dLW_law_470 rfl (i + 2) (nI_add i 2) (by omega) (by omega) ?_
  refine r_aload_n (n := 472) C dLW_law_471 rfl rfl ?_
  refine r_iload_n (n := 473) C dLW_law_472 rfl rfl ?_
  refine r_iconst (v := 3) (n := 474) C dLW_law_473 rfl (by decide) ?_
  refine r_iadd (n := 475) C dLW_law_474 rfl ?_
  refine r_sld (n := 476) C hX dLW_law_475 rfl (i + 3) (nI_add i 3) (by omega) (by omega) ?_
  refine r_aload_n (n := 477) C dLW_law_476 rfl rfl ?_
  refine r_iload_n (n := 478) C dLW_law_477 rfl rfl ?_
  refine r_iconst (v := 4) (n := 479) C dLW_law_478 rfl (by decide) ?_
  refine r_iadd (n := 480) C dLW_law_479 rfl ?_
  refine r_sld (n := 481) C hX dLW_law_480 rfl (i + 4) (nI_add i 4) (by omega) (by omega) ?_
  refine r_aload_n (n := 482) C dLW_law_481 rfl rfl ?_
  refine r_iload_n (n := 483) C dLW_law_482 rfl rfl ?_
  refine r_iconst (v := 5) (n := 484) C dLW_law_483 rfl (by decide) ?_
  refine r_iadd (n := 485) C dLW_law_484 rfl ?_
  refine r_sld (n := 486) C hX dLW_law_485 rfl (i + 5) (nI_add i 5) (by omega) (by omega) ?_
  refine r_ci (n := 489) (rn_V (z := 5) (ci := 10) (T := TMD) C (c_MD_change (Kl K) (Ko K) h1 m (xs (i + 1)) (xs (i + 2)) (xs (i + 3)) (xs (i + 4)) (xs (i + 5)) ad S hM1) tw_678 tw_679 tw_680 tw_4 tw_681 rfl rfl ndMD_change ⟨Nat.le_of_ble_eq_true rfl, Nat.le_of_ble_eq_true rfl⟩ hm1 rfl rfl rfl (Nat.le_of_ble_eq_true rfl) dLW_law_486 ⟨by show _ ≤ 600000; omega, by show _ ≤ 7302250; omega⟩) rfl (fun r2 h2 hq2 => ?_)
  obtain ⟨e2, hV⟩ := hq2
  subst e2
  have hJ2 := JI.mod hC1 hM1 hA1 hV (chaS_pi  hJ.2.2.1)
  refine r_icmp_eq (tgt := 826) (n := 492) C dLW_law_489 (by decide) rfl (fun c_489 => ?_) (fun c_489 => ?_)
  · refine V.byk (ls' := [(0, .ref b), (1, .ref x), (2, .ref m), (3, .int (nI i))]) rfl ?_
    exact next _ _ _ _ _ (by omega) (by omega) hJ2
  · exact absurd rfl c_489
set_option maxHeartbeats 4000000 in
set_option maxRecDepth 100000 in
theorem lb_step {K : Kx} {nm : String} {Q : State → Prop} {b L : Nat} {xs : Nat → Int32} (C : Cx K code 8 "DeltaViewsLaw" room_1 ret nm) (hX : SC K b L xs) (hL : L ≤ 3072) {i : Nat} (hi : i + 6 ≤ L) {x m : Nat} {ad : Nat → Nat} {h : AH} {c t : Nat} {G : Gh} {S : Sx} (hc : c ≤ 200 + i) (ht : t ≤ 11000 + i) (hJ : JI (Ko K) h x G m ad S) (next : ∀ (h' : AH) (c' t' : Nat) (G' : Gh) (S' : Sx), c' ≤ 206 + i → t' ≤ 11006 + i → JI (Ko K) h' x G' m ad S' → V K h' c' t' Q 826 [(0, .ref b), (1, .ref x), (2, .ref m), (3, .int (nI i))] []) : V K h c t Q 494 [(0, .ref b), (1, .ref x), (2, .ref m), (3, .int (nI i))] [] := by
  have hn : S.2.2.2.length ≤ 10 := hJ.1.2.2.1
  obtain ⟨fs0, hm0⟩ := hJ.2.1.obj
  refine r_aload_n (n := 495) C dLW_law_494 rfl rfl ?_
  refine r_ci (n := 498) (rn_V (z := 0) (ci := 9) (T := TDV) C (c_DV_step (Kl K) (Ko K) h x  G S hJ.1) tw_436 tw_437 tw_438 tw_1 tw_439 rfl rfl ndDV_step ⟨Nat.le_of_ble_eq_true rfl, Nat.le_of_ble_eq_true rfl⟩ hJ.1.2.1 rfl rfl rfl (Nat.le_of_ble_eq_true rfl) dLW_law_495 ⟨by show _ ≤ 600000; omega, by show _ ≤ 7302250; omega⟩) rfl (fun r1 h1 hq1 => ?_)
  obtain ⟨e1, hU⟩ := hq1
  subst e1
  obtain ⟨G1, hC1, hM1, hA1⟩ := hJ.cls hU
  obtain ⟨fs1, hm1⟩ := hM1.obj
  refine r_aload_n (n := 499) C dLW_law_498 rfl rfl ?_
  refine r_ci (n := 502) (rn_V (z := 0) (ci := 10) (T := TMD) C (c_MD_step (Kl K) (Ko K) h1 m  ad S hM1 hJ.2.2.1) tw_682 tw_683 tw_684 tw_4 tw_685 rfl rfl ndMD_step ⟨Nat.le_of_ble_eq_true rfl, Nat.le_of_ble_eq_true rfl⟩ hm1 rfl rfl rfl (Nat.le_of_ble_eq_true rfl) dLW_law_499 ⟨by show _ ≤ 600000; omega, by show _ ≤ 7302250; omega⟩) rfl (fun r2 h2 hq2 => ?_)
  obtain ⟨e2, hV⟩ := hq2
  subst e2
  have hJ2 := JI.mod hC1 hM1 hA1 hV (stpS_pi hJ.2.1.rks hJ.2.2.1)
  refine r_icmp_eq (tgt := 826) (n := 505) C dLW_law_502 (by decide) rfl (fun c_502 => ?_) (fun c_502 => ?_)
  · refine V.byk (ls' := [(0, .ref b), (1, .ref x), (2, .ref m), (3, .int (nI i))]) rfl ?_
    exact next _ _ _ _ _ (by omega) (by omega) hJ2
  · exact absurd rfl c_502
set_option maxHeartbeats 4000000 in
set_option maxRecDepth 100000 in
theorem lb_drop {K : Kx} {nm : String} {Q : State → Prop} {b L : Nat} {xs : Nat → Int32} (C : Cx K code 8 "DeltaViewsLaw" room_1 ret nm) (hX : SC K b L xs) (hL : L ≤ 3072) {i : Nat} (hi : i + 6 ≤ L) {x m : Nat} {ad : Nat → Nat} {h : AH} {c t : Nat} {G : Gh} {S : Sx} (hc : c ≤ 200 + i) (ht : t ≤ 11000 + i) (hJ : JI (Ko K) h x G m ad S) (next : ∀ (h' : AH) (c' t' : Nat) (G' : Gh) (S' : Sx), c' ≤ 206 + i → t' ≤ 11006 + i → JI (Ko K) h' x G' m ad S' → V K h' c' t' Q 826 [(0, .ref b), (1, .ref x), (2, .ref m), (3, .int (nI i))] []) : V K h c t Q 507 [(0, .ref b), (1, .ref x), (2, .ref m), (3, .int (nI i))] [] := by
  have hn : S.2.2.2.length ≤ 10 := hJ.1.2.2.1
  obtain ⟨fs0, hm0⟩ := hJ.2.1.obj
  refine r_aload_n (n := 508) C dLW_law_507 rfl rfl ?_
  refine r_ci (n := 511) (rn_V (z := 0) (ci := 9) (T := TDV) C (c_DV_drop (Kl K) (Ko K) h x  G S hJ.1) tw_477 tw_478 tw_479 tw_1 tw_480 rfl rfl ndDV_drop ⟨Nat.le_of_ble_eq_true rfl, Nat.le_of_ble_eq_true rfl⟩ hJ.1.2.1 rfl rfl rfl (Nat.le_of_ble_eq_true rfl) dLW_law_508 ⟨by show _ ≤ 600000; omega, by show _ ≤ 7302250; omega⟩) rfl (fun r1 h1 hq1 => ?_)
  obtain ⟨e1, hU⟩ := hq1
  subst e1
  obtain ⟨G1, hC1, hM1, hA1⟩ := hJ.cls hU
  obtain ⟨fs1, hm1⟩ := hM1.obj
  refine r_aload_n (n := 512) C dLW_law_511 rfl rfl ?_
  refine r_ci (n := 515) (rn_V (z := 0) (ci := 10) (T := TMD) C (c_MD_drop (Kl K) (Ko K) h1 m  ad S hM1) tw_702 tw_703 tw_704 tw_4 tw_705 rfl rfl ndMD_drop ⟨Nat.le_of_ble_eq_true rfl, Nat.le_of_ble_eq_true rfl⟩ hm1 rfl rfl rfl (Nat.le_of_ble_eq_true rfl) dLW_law_512 ⟨by show _ ≤ 600000; omega, by show _ ≤ 7302250; omega⟩) rfl (fun r2 h2 hq2 => ?_)
  obtain ⟨e2, hV⟩ := hq2
  subst e2
  have hJ2 := JI.mod hC1 hM1 hA1 hV (droS_pi  hJ.2.2.1)
  refine r_icmp_eq (tgt := 826) (n := 518) C dLW_law_515 (by decide) rfl (fun c_515 => ?_) (fun c_515 => ?_)
  · refine V.byk (ls' := [(0, .ref b), (1, .ref x), (2, .ref m), (3, .int (nI i))]) rfl ?_
    exact next _ _ _ _ _ (by omega) (by omega) hJ2
  · exact absurd rfl c_515
set_option maxHeartbeats 4000000 in
set_option maxRecDepth 100000 in
theorem lb_weight {K : Kx} {nm : String} {Q : State → Prop} {b L : Nat} {xs : Nat → Int32} (C : Cx K code 8 "DeltaViewsLaw" room_1 ret nm) (hX : SC K b L xs) (hL : L ≤ 3072) {i : Nat} (hi : i + 6 ≤ L) {x m : Nat} {ad : Nat → Nat} {h : AH} {c t : Nat} {G : Gh} {S : Sx} (hc : c ≤ 200 + i) (ht : t ≤ 11000 + i) (hJ : JI (Ko K) h x G m ad S) (next : ∀ (h' : AH) (c' t' : Nat) (G' : Gh) (S' : Sx), c' ≤ 206 + i → t' ≤ 11006 + i → JI (Ko K) h' x G' m ad S' → V K h' c' t' Q 826 [(0, .ref b), (1, .ref x), (2, .ref m), (3, .int (nI i))] []) : V K h c t Q 520 [(0, .ref b), (1, .ref x), (2, .ref m), (3, .int (nI i))] [] := by
  have hn : S.2.2.2.length ≤ 10 := hJ.1.2.2.1
  obtain ⟨fs0, hm0⟩ := hJ.2.1.obj
  refine r_aload_n (n := 521) C dLW_law_520 rfl rfl ?_
  refine r_aload_n (n := 522) C dLW_law_521 rfl rfl ?_
  refine r_iload_n (n := 523) C dLW_law_522 rfl rfl ?_
  refine r_iconst (v := 1) (n := 524) C dLW_law_523 rfl (by decide) ?_
  refine r_iadd (n := 525) C dLW_law_524 rfl ?_
  refine r_sld (n := 526) C hX dLW_law_525 rfl (i + 1) (nI_add i 1) (by omega) (by omega) ?_
  refine r_aload_n (n := 527) C dLW_law_526 rfl rfl ?_
  refine r_iload_n (n := 528) C dLW_law_527 rfl rfl ?_
  refine r_iconst (v := 2) (n := 529) C dLW_law_528 rfl (by decide) ?_
  refine r_iadd (n := 530) C dLW_law_529 rfl ?_
  refine r_sld (n := 531) C hX dLW_law_530 rfl (i + 2) (nI_add i 2) (by omega) (by omega) ?_
  refine r_aload_n (n := 532) C dLW_law_531 rfl rfl ?_
  refine r_iload_n (n := 533) C dLW_law_532 rfl rfl ?_
  refine r_iconst (v := 3) (n := 534) C dLW_law_533 rfl (by decide) ?_
  refine r_iadd (n := 535) C dLW_law_534 rfl ?_
  refine r_sld (n := 536) C hX dLW_law_535 rfl (i + 3) (nI_add i 3) (by omega) (by omega) ?_
  refine r_aload_n (n := 537) C dLW_law_536 rfl rfl ?_
  refine r_iload_n (n := 538) C dLW_law_537 rfl rfl ?_
  refine r_iconst (v := 4) (n := 539) C dLW_law_538 rfl (by decide) ?_
  refine r_iadd (n := 540) C dLW_law_539 rfl ?_
  refine r_sld (n := 541) C hX dLW_law_540 rfl (i + 4) (nI_add i 4) (by omega) (by omega) ?_
  refine r_cl (n := 544) (rn_V (z := 4) (ci := 9) (T := TDV) C (c_DV_weight (Kl K) (Ko K) h x (xs (i + 1)) (xs (i + 2)) (xs (i + 3)) (xs (i + 4)) G S hJ.1) tw_481 tw_482 tw_483 tw_1 tw_484 rfl rfl ndDV_weight ⟨Nat.le_of_ble_eq_true rfl, Nat.le_of_ble_eq_true rfl⟩ hJ.1.2.1 rfl rfl rfl (Nat.le_of_ble_eq_true rfl) dLW_law_541 ⟨by show _ ≤ 600000; omega, by show _ ≤ 7302250; omega⟩) rfl (fun r1 h1 hq1 => ?_)
  obtain ⟨e1a, e1b⟩ := hq1
  subst e1a
  rw [e1b]
  refine r_aload_n (n := 545) C dLW_law_544 rfl rfl ?_
  refine r_aload_n (n := 546) C dLW_law_545 rfl rfl ?_
  refine r_iload_n (n := 547) C dLW_law_546 rfl rfl ?_
  refine r_iconst (v := 1) (n := 548) C dLW_law_547 rfl (by decide) ?_
  refine r_iadd (n := 549) C dLW_law_548 rfl ?_
  refine r_sld (n := 550) C hX dLW_law_549 rfl (i + 1) (nI_add i 1) (by omega) (by omega) ?_
  refine r_aload_n (n := 551) C dLW_law_550 rfl rfl ?_
  refine r_iload_n (n := 552) C dLW_law_551 rfl rfl ?_
  refine r_iconst (v := 2) (n := 553) C dLW_law_552 rfl (by decide) ?_
  refine r_iadd (n := 554) C dLW_law_553 rfl ?_
  refine r_sld (n := 555) C hX dLW_law_554 rfl (i + 2) (nI_add i 2) (by omega) (by omega) ?_
  refine r_aload_n (n := 556) C dLW_law_555 rfl rfl ?_
  refine r_iload_n (n := 557) C dLW_law_556 rfl rfl ?_
  refine r_iconst (v := 3) (n := 558) C dLW_law_557 rfl (by decide) ?_
  refine r_iadd (n := 559) C dLW_law_558 rfl ?_
  refine r_sld (n := 560) C hX dLW_law_559 rfl (i + 3) (nI_add i 3) (by omega) (by omega) ?_
  refine r_aload_n (n := 561) C dLW_law_560 rfl rfl ?_
  refine r_iload_n (n := 562) C dLW_law_561 rfl rfl ?_
  refine r_iconst (v := 4) (n := 563) C dLW_law_562 rfl (by decide) ?_
  refine r_iadd (n := 564) C dLW_law_563 rfl ?_
  refine r_sld (n := 565) C hX dLW_law_564 rfl (i + 4) (nI_add i 4) (by omega) (by omega) ?_
  refine r_cl (n := 568) (rn_V (z := 4) (ci := 10) (T := TMD) C (c_MD_weight (Kl K) (Ko K) h m (xs (i + 1)) (xs (i + 2)) (xs (i + 3)) (xs (i + 4)) ad S hJ.2.1) tw_706 tw_707 tw_708 tw_4 tw_709 rfl rfl ndMD_weight ⟨Nat.le_of_ble_eq_true rfl, Nat.le_of_ble_eq_true rfl⟩ hm0 rfl rfl rfl (Nat.le_of_ble_eq_true rfl) dLW_law_565 ⟨by show _ ≤ 600000; omega, by show _ ≤ 7302250; omega⟩) rfl (fun r2 h2 hq2 => ?_)
  obtain ⟨e2a, e2b⟩ := hq2
  subst e2a
  rw [e2b]
  have hJ2 := hJ
  refine r_lcmp (n := 569) C dLW_law_568 rfl ?_
  refine r_if_eq (tgt := 826) (n := 572) C dLW_law_569 (by decide) rfl (fun c_569 => ?_) (fun c_569 => ?_)
  · refine V.byk (ls' := [(0, .ref b), (1, .ref x), (2, .ref m), (3, .int (nI i))]) rfl ?_
    exact next _ _ _ _ _ (by omega) (by omega) hJ2
  · exact absurd ((lg_cmp_eq _ _).mpr rfl) c_569
set_option maxHeartbeats 4000000 in
set_option maxRecDepth 100000 in
theorem lb_inTable {K : Kx} {nm : String} {Q : State → Prop} {b L : Nat} {xs : Nat → Int32} (C : Cx K code 8 "DeltaViewsLaw" room_1 ret nm) (hX : SC K b L xs) (hL : L ≤ 3072) {i : Nat} (hi : i + 6 ≤ L) {x m : Nat} {ad : Nat → Nat} {h : AH} {c t : Nat} {G : Gh} {S : Sx} (hc : c ≤ 200 + i) (ht : t ≤ 11000 + i) (hJ : JI (Ko K) h x G m ad S) (next : ∀ (h' : AH) (c' t' : Nat) (G' : Gh) (S' : Sx), c' ≤ 206 + i → t' ≤ 11006 + i → JI (Ko K) h' x G' m ad S' → V K h' c' t' Q 826 [(0, .ref b), (1, .ref x), (2, .ref m), (3, .int (nI i))] []) : V K h c t Q 574 [(0, .ref b), (1, .ref x), (2, .ref m), (3, .int (nI i))] [] := by
  have hn : S.2.2.2.length ≤ 10 := hJ.1.2.2.1
  obtain ⟨fs0, hm0⟩ := hJ.2.1.obj
  refine r_aload_n (n := 575) C dLW_law_574 rfl rfl ?_
  refine r_aload_n (n := 576) C dLW_law_575 rfl rfl ?_
  refine r_iload_n (n := 577) C dLW_law_576 rfl rfl ?_
  refine r_iconst (v := 1) (n := 578) C dLW_law_577 rfl (by decide) ?_
  refine r_iadd (n := 579) C dLW_law_578 rfl ?_
  refine r_sld (n := 580) C hX dLW_law_579 rfl (i + 1) (nI_add i 1) (by omega) (by omega) ?_
  refine r_aload_n (n := 581) C dLW_law_580 rfl rfl ?_
  refine r_iload_n (n := 582) C dLW_law_581 rfl rfl ?_
  refine r_iconst (v := 2) (n := 583) C dLW_law_582 rfl (by decide) ?_
  refine r_iadd (n := 584) C dLW_law_583 rfl ?_
  refine r_sld (n := 585) C hX dLW_law_584 rfl (i + 2) (nI_add i 2) (by omega) (by omega) ?_
  refine r_aload_n (n := 586) C dLW_law_585 rfl rfl ?_
  refine r_iload_n (n := 587) C dLW_law_586 rfl rfl ?_
  refine r_iconst (v := 3) (n := 588) C dLW_law_587 rfl (by decide) ?_
  refine r_iadd (n := 589) C dLW_law_588 rfl ?_
  refine r_sld (n := 590) C hX dLW_law_589 rfl (i + 3) (nI_add i 3) (by omega) (by omega) ?_
  refine r_aload_n (n := 591) C dLW_law_590 rfl rfl ?_
  refine r_iload_n (n := 592) C dLW_law_591 rfl rfl ?_
  refine r_iconst (v := 4) (n := 593) C dLW_law_592 rfl (by decide) ?_
  refine r_iadd (n := 594) C dLW_law_593 rfl ?_
  refine r_sld (n := 595) C hX dLW_law_594 rfl (i + 4) (nI_add i 4) (by omega) (by omega) ?_
  refine r_cl (n := 598) (rn_V (z := 4) (ci := 9) (T := TDV) C (c_DV_inTable (Kl K) (Ko K) h x (xs (i + 1)) (xs (i + 2)) (xs (i + 3)) (xs (i + 4)) G S hJ.1) tw_491 tw_492 tw_493 tw_1 tw_494 rfl rfl ndDV_inTable ⟨Nat.le_of_ble_eq_true rfl, Nat.le_of_ble_eq_true rfl⟩ hJ.1.2.1 rfl rfl rfl (Nat.le_of_ble_eq_true rfl) dLW_law_595 ⟨by show _ ≤ 600000; omega, by show _ ≤ 7302250; omega⟩) rfl (fun r1 h1 hq1 => ?_)
  obtain ⟨e1a, e1b⟩ := hq1
  subst e1a
  rw [e1b]
  refine r_aload_n (n := 599) C dLW_law_598 rfl rfl ?_
  refine r_aload_n (n := 600) C dLW_law_599 rfl rfl ?_
  refine r_iload_n (n := 601) C dLW_law_600 rfl rfl ?_
  refine r_iconst (v := 1) (n := 602) C dLW_law_601 rfl (by decide) ?_
  refine r_iadd (n := 603) C dLW_law_602 rfl ?_
  refine r_sld (n := 604) C hX dLW_law_603 rfl (i + 1) (nI_add i 1) (by omega) (by omega) ?_
  refine r_aload_n (n := 605) C dLW_law_604 rfl rfl ?_
  refine r_iload_n (n := 606) C dLW_law_605 rfl rfl ?_
  refine r_iconst (v := 2) (n := 607) C dLW_law_606 rfl (by decide) ?_
  refine r_iadd (n := 608) C dLW_law_607 rfl ?_
  refine r_sld (n := 609) C hX dLW_law_608 rfl (i + 2) (nI_add i 2) (by omega) (by omega) ?_
  refine r_aload_n (n := 610) C dLW_law_609 rfl rfl ?_
  refine r_iload_n (n := 611) C dLW_law_610 rfl rfl ?_
  refine r_iconst (v := 3) (n := 612) C dLW_law_611 rfl (by decide) ?_
  refine r_iadd (n := 613) C dLW_law_612 rfl ?_
  refine r_sld (n := 614) C hX dLW_law_613 rfl (i + 3) (nI_add i 3) (by omega) (by omega) ?_
  refine r_aload_n (n := 615) C dLW_law_614 rfl rfl ?_
  refine r_iload_n (n := 616) C dLW_law_615 rfl rfl ?_
  refine r_iconst (v := 4) (n := 617) C dLW_law_616 rfl (by decide) ?_
  refine r_iadd (n := 618) C dLW_law_617 rfl ?_
  refine r_sld (n := 619) C hX dLW_law_618 rfl (i + 4) (nI_add i 4) (by omega) (by omega) ?_
  refine r_cl (n := 622) (rn_V (z := 4) (ci := 10) (T := TMD) C (c_MD_inTable (Kl K) (Ko K) h m (xs (i + 1)) (xs (i + 2)) (xs (i + 3)) (xs (i + 4)) ad S hJ.2.1) tw_711 tw_712 tw_713 tw_4 tw_714 rfl rfl ndMD_inTable ⟨Nat.le_of_ble_eq_true rfl, Nat.le_of_ble_eq_true rfl⟩ hm0 rfl rfl rfl (Nat.le_of_ble_eq_true rfl) dLW_law_619 ⟨by show _ ≤ 600000; omega, by show _ ≤ 7302250; omega⟩) rfl (fun r2 h2 hq2 => ?_)
  obtain ⟨e2a, e2b⟩ := hq2
  subst e2a
  rw [e2b]
  have hJ2 := hJ
  refine r_lcmp (n := 623) C dLW_law_622 rfl ?_
  refine r_if_eq (tgt := 826) (n := 626) C dLW_law_623 (by decide) rfl (fun c_623 => ?_) (fun c_623 => ?_)
  · refine V.byk (ls' := [(0, .ref b), (1, .ref x), (2, .ref m), (3, .int (nI i))]) rfl ?_
    exact next _ _ _ _ _ (by omega) (by omega) hJ2
  · exact absurd ((lg_cmp_eq _ _).mpr rfl) c_623
set_option maxHeartbeats 4000000 in
set_option maxRecDepth 100000 in
theorem lb_rows {K : Kx} {nm : String} {Q : State → Prop} {b L : Nat} {xs : Nat → Int32} (C : Cx K code 8 "DeltaViewsLaw" room_1 ret nm) (hX : SC K b L xs) (hL : L ≤ 3072) {i : Nat} (hi : i + 6 ≤ L) {x m : Nat} {ad : Nat → Nat} {h : AH} {c t : Nat} {G : Gh} {S : Sx} (hc : c ≤ 200 + i) (ht : t ≤ 11000 + i) (hJ : JI (Ko K) h x G m ad S) (next : ∀ (h' : AH) (c' t' : Nat) (G' : Gh) (S' : Sx), c' ≤ 206 + i → t' ≤ 11006 + i → JI (Ko K) h' x G' m ad S' → V K h' c' t' Q 826 [(0, .ref b), (1, .ref x), (2, .ref m), (3, .int (nI i))] []) : V K h c t Q 628 [(0, .ref b), (1, .ref x), (2, .ref m), (3, .int (nI i))] [] := by
  have hn : S.2.2.2.length ≤ 10 := hJ.1.2.2.1
  obtain ⟨fs0, hm0⟩ := hJ.2.1.obj
  refine r_aload_n (n := 629) C dLW_law_628 rfl rfl ?_
  refine r_aload_n (n := 630) C dLW_law_629 rfl rfl ?_
  refine r_iload_n (n := 631) C dLW_law_630 rfl rfl ?_
  refine r_iconst (v := 1) (n := 632) C dLW_law_631 rfl (by decide) ?_
  refine r_iadd (n := 633) C dLW_law_632 rfl ?_
  refine r_sld (n := 634) C hX dLW_law_633 rfl (i + 1) (nI_add i 1) (by omega) (by omega) ?_
  refine r_ci (n := 637) (rn_V (z := 1) (ci := 9) (T := TDV) C (c_DV_rows (Kl K) (Ko K) h x (xs (i + 1)) G S hJ.1) tw_495 tw_496 tw_497 tw_1 tw_498 rfl rfl ndDV_rows ⟨Nat.le_of_ble_eq_true rfl, Nat.le_of_ble_eq_true rfl⟩ hJ.1.2.1 rfl rfl rfl (Nat.le_of_ble_eq_true rfl) dLW_law_634 ⟨by show _ ≤ 600000; omega, by show _ ≤ 7302250; omega⟩) rfl (fun r1 h1 hq1 => ?_)
  obtain ⟨e1a, e1b⟩ := hq1
  subst e1a
  rw [e1b]
  refine r_aload_n (n := 638) C dLW_law_637 rfl rfl ?_
  refine r_aload_n (n := 639) C dLW_law_638 rfl rfl ?_
  refine r_iload_n (n := 640) C dLW_law_639 rfl rfl ?_
  refine r_iconst (v := 1) (n := 641) C dLW_law_640 rfl (by decide) ?_
  refine r_iadd (n := 642) C dLW_law_641 rfl ?_
  refine r_sld (n := 643) C hX dLW_law_642 rfl (i + 1) (nI_add i 1) (by omega) (by omega) ?_
  refine r_ci (n := 646) (rn_V (z := 1) (ci := 10) (T := TMD) C (c_MD_rows (Kl K) (Ko K) h m (xs (i + 1)) ad S hJ.2.1) tw_715 tw_716 tw_717 tw_4 tw_718 rfl rfl ndMD_rows ⟨Nat.le_of_ble_eq_true rfl, Nat.le_of_ble_eq_true rfl⟩ hm0 rfl rfl rfl (Nat.le_of_ble_eq_true rfl) dLW_law_643 ⟨by show _ ≤ 600000; omega, by show _ ≤ 7302250; omega⟩) rfl (fun r2 h2 hq2 => ?_)
  obtain ⟨e2a, e2b⟩ := hq2
  subst e2a
  rw [e2b]
  have hJ2 := hJ
  refine r_icmp_eq (tgt := 826) (n := 649) C dLW_law_646 (by decide) rfl (fun c_646 => ?_) (fun c_646 => ?_)
  · refine V.byk (ls' := [(0, .ref b), (1, .ref x), (2, .ref m), (3, .int (nI i))]) rfl ?_
    exact next _ _ _ _ _ (by omega) (by omega) hJ2
  · exact absurd rfl c_646
set_option maxHeartbeats 4000000 in
set_option maxRecDepth 100000 in
theorem lb_cell {K : Kx} {nm : String} {Q : State → Prop} {b L : Nat} {xs : Nat → Int32} (C : Cx K code 8 "DeltaViewsLaw" room_1 ret nm) (hX : SC K b L xs) (hL : L ≤ 3072) {i : Nat} (hi : i + 6 ≤ L) {x m : Nat} {ad : Nat → Nat} {h : AH} {c t : Nat} {G : Gh} {S : Sx} (hc : c ≤ 200 + i) (ht : t ≤ 11000 + i) (hJ : JI (Ko K) h x G m ad S) (next : ∀ (h' : AH) (c' t' : Nat) (G' : Gh) (S' : Sx), c' ≤ 206 + i → t' ≤ 11006 + i → JI (Ko K) h' x G' m ad S' → V K h' c' t' Q 826 [(0, .ref b), (1, .ref x), (2, .ref m), (3, .int (nI i))] []) : V K h c t Q 651 [(0, .ref b), (1, .ref x), (2, .ref m), (3, .int (nI i))] [] := by
  have hn : S.2.2.2.length ≤ 10 := hJ.1.2.2.1
  obtain ⟨fs0, hm0⟩ := hJ.2.1.obj
  refine r_aload_n (n := 652) C dLW_law_651 rfl rfl ?_
  refine r_aload_n (n := 653) C dLW_law_652 rfl rfl ?_
  refine r_iload_n (n := 654) C dLW_law_653 rfl rfl ?_
  refine r_iconst (v := 1) (n := 655) C dLW_law_654 rfl (by decide) ?_
  refine r_iadd (n := 656) C dLW_law_655 rfl ?_
  refine r_sld (n := 657) C hX dLW_law_656 rfl (i + 1) (nI_add i 1) (by omega) (by omega) ?_
  refine r_aload_n (n := 658) C dLW_law_657 rfl rfl ?_
  refine r_iload_n (n := 659) C dLW_law_658 rfl rfl ?_
  refine r_iconst (v := 2) (n := 660) C dLW_law_659 rfl (by decide) ?_
  refine r_iadd (n := 661) C dLW_law_660 rfl ?_
  refine r_sld (n := 662) C hX dLW_law_661 rfl (i + 2) (nI_add i 2) (by omega) (by omega) ?_
  refine r_aload_n (n := 663) C dLW_law_662 rfl rfl ?_
  refine r_iload_n (n := 664) C dLW_law_663 rfl rfl ?_
  refine r_iconst (v := 3) (n := 665) C dLW_law_664 rfl (by decide) ?_
  refine r_iadd (n := 666) C dLW_law_665 rfl ?_
  refine r_sld (n := 667) C hX dLW_law_666 rfl (i + 3) (nI_add i 3) (by omega) (by omega) ?_
  refine r_cl (n := 670) (rn_V (z := 3) (ci := 9) (T := TDV) C (c_DV_cell (Kl K) (Ko K) h x (xs (i + 1)) (xs (i + 2)) (xs (i + 3)) G S hJ.1) tw_500 tw_501 tw_502 tw_1 tw_503 rfl rfl ndDV_cell ⟨Nat.le_of_ble_eq_true rfl, Nat.le_of_ble_eq_true rfl⟩ hJ.1.2.1 rfl rfl rfl (Nat.le_of_ble_eq_true rfl) dLW_law_667 ⟨by show _ ≤ 600000; omega, by show _ ≤ 7302250; omega⟩) rfl (fun r1 h1 hq1 => ?_)
  obtain ⟨e1a, e1b⟩ := hq1
  subst e1a
  rw [e1b]
  refine r_aload_n (n := 671) C dLW_law_670 rfl rfl ?_
  refine r_aload_n (n := 672) C dLW_law_671 rfl rfl ?_
  refine r_iload_n (n := 673) C dLW_law_672 rfl rfl ?_
  refine r_iconst (v := 1) (n := 674) C dLW_law_673 rfl (by decide) ?_
  refine r_iadd (n := 675) C dLW_law_674 rfl ?_
  refine r_sld (n := 676) C hX dLW_law_675 rfl (i + 1) (nI_add i 1) (by omega) (by omega) ?_
  refine r_aload_n (n := 677) C dLW_law_676 rfl rfl ?_
  refine r_iload_n (n := 678) C dLW_law_677 rfl rfl ?_
  refine r_iconst (v := 2) (n := 679) C dLW_law_678 rfl (by decide) ?_
  refine r_iadd (n := 680) C dLW_law_679 rfl ?_
  refine r_sld (n := 681) C hX dLW_law_680 rfl (i + 2) (nI_add i 2) (by omega) (by omega) ?_
  refine r_aload_n (n := 682) C dLW_law_681 rfl rfl ?_
  refine r_iload_n (n := 683) C dLW_law_682 rfl rfl ?_
  refine r_iconst (v := 3) (n := 684) C dLW_law_683 rfl (by decide) ?_
  refine r_iadd (n := 685) C dLW_law_684 rfl ?_
  refine r_sld (n := 686) C hX dLW_law_685 rfl (i + 3) (nI_add i 3) (by omega) (by omega) ?_
  refine r_cl (n := 689) (rn_V (z := 3) (ci := 10) (T := TMD) C (c_MD_cell (Kl K) (Ko K) h m (xs (i + 1)) (xs (i + 2)) (xs (i + 3)) ad S hJ.2.1) tw_719 tw_720 tw_721 tw_4 tw_722 rfl rfl ndMD_cell ⟨Nat.le_of_ble_eq_true rfl, Nat.le_of_ble_eq_true rfl⟩ hm0 rfl rfl rfl (Nat.le_of_ble_eq_true rfl) dLW_law_686 ⟨by show _ ≤ 600000; omega, by show _ ≤ 7302250; omega⟩) rfl (fun r2 h2 hq2 => ?_)
  obtain ⟨e2a, e2b⟩ := hq2
  subst e2a
  rw [e2b]
  have hJ2 := hJ
  refine r_lcmp (n := 690) C dLW_law_689 rfl ?_
  refine r_if_eq (tgt := 826) (n := 693) C dLW_law_690 (by decide) rfl (fun c_690 => ?_) (fun c_690 => ?_)
  · refine V.byk (ls' := [(0, .ref b), (1, .ref x), (2, .ref m), (3, .int (nI i))]) rfl ?_
    exact next _ _ _ _ _ (by omega) (by omega) hJ2
  · exact absurd ((lg_cmp_eq _ _).mpr rfl) c_690
set_option maxHeartbeats 4000000 in
set_option maxRecDepth 100000 in
theorem lb_total {K : Kx} {nm : String} {Q : State → Prop} {b L : Nat} {xs : Nat → Int32} (C : Cx K code 8 "DeltaViewsLaw" room_1 ret nm) (hX : SC K b L xs) (hL : L ≤ 3072) {i : Nat} (hi : i + 6 ≤ L) {x m : Nat} {ad : Nat → Nat} {h : AH} {c t : Nat} {G : Gh} {S : Sx} (hc : c ≤ 200 + i) (ht : t ≤ 11000 + i) (hJ : JI (Ko K) h x G m ad S) (next : ∀ (h' : AH) (c' t' : Nat) (G' : Gh) (S' : Sx), c' ≤ 206 + i → t' ≤ 11006 + i → JI (Ko K) h' x G' m ad S' → V K h' c' t' Q 826 [(0, .ref b), (1, .ref x), (2, .ref m), (3, .int (nI i))] []) : V K h c t Q 695 [(0, .ref b), (1, .ref x), (2, .ref m), (3, .int (nI i))] [] := by
  have hn : S.2.2.2.length ≤ 10 := hJ.1.2.2.1
  obtain ⟨fs0, hm0⟩ := hJ.2.1.obj
  refine r_aload_n (n := 696) C dLW_law_695 rfl rfl ?_
  refine r_aload_n (n := 697) C dLW_law_696 rfl rfl ?_
  refine r_iload_n (n := 698) C dLW_law_697 rfl rfl ?_
  refine r_iconst (v := 1) (n := 699) C dLW_law_698 rfl (by decide) ?_
  refine r_iadd (n := 700) C dLW_law_699 rfl ?_
  refine r_sld (n := 701) C hX dLW_law_700 rfl (i + 1) (nI_add i 1) (by omega) (by omega) ?_
  refine r_cl (n := 704) (rn_V (z := 1) (ci := 9) (T := TDV) C (c_DV_total (Kl K) (Ko K) h x (xs (i + 1)) G S hJ.1) tw_505 tw_506 tw_507 tw_1 tw_508 rfl rfl ndDV_total ⟨Nat.le_of_ble_eq_true rfl, Nat.le_of_ble_eq_true rfl⟩ hJ.1.2.1 rfl rfl rfl (Nat.le_of_ble_eq_true rfl) dLW_law_701 ⟨by show _ ≤ 600000; omega, by show _ ≤ 7302250; omega⟩) rfl (fun r1 h1 hq1 => ?_)
  obtain ⟨e1a, e1b⟩ := hq1
  subst e1a
  rw [e1b]
  refine r_aload_n (n := 705) C dLW_law_704 rfl rfl ?_
  refine r_aload_n (n := 706) C dLW_law_705 rfl rfl ?_
  refine r_iload_n (n := 707) C dLW_law_706 rfl rfl ?_
  refine r_iconst (v := 1) (n := 708) C dLW_law_707 rfl (by decide) ?_
  refine r_iadd (n := 709) C dLW_law_708 rfl ?_
  refine r_sld (n := 710) C hX dLW_law_709 rfl (i + 1) (nI_add i 1) (by omega) (by omega) ?_
  refine r_cl (n := 713) (rn_V (z := 1) (ci := 10) (T := TMD) C (c_MD_total (Kl K) (Ko K) h m (xs (i + 1)) ad S hJ.2.1) tw_723 tw_724 tw_725 tw_4 tw_726 rfl rfl ndMD_total ⟨Nat.le_of_ble_eq_true rfl, Nat.le_of_ble_eq_true rfl⟩ hm0 rfl rfl rfl (Nat.le_of_ble_eq_true rfl) dLW_law_710 ⟨by show _ ≤ 600000; omega, by show _ ≤ 7302250; omega⟩) rfl (fun r2 h2 hq2 => ?_)
  obtain ⟨e2a, e2b⟩ := hq2
  subst e2a
  rw [e2b]
  have hJ2 := hJ
  refine r_lcmp (n := 714) C dLW_law_713 rfl ?_
  refine r_if_eq (tgt := 826) (n := 717) C dLW_law_714 (by decide) rfl (fun c_714 => ?_) (fun c_714 => ?_)
  · refine V.byk (ls' := [(0, .ref b), (1, .ref x), (2, .ref m), (3, .int (nI i))]) rfl ?_
    exact next _ _ _ _ _ (by omega) (by omega) hJ2
  · exact absurd ((lg_cmp_eq _ _).mpr rfl) c_714
set_option maxHeartbeats 4000000 in
set_option maxRecDepth 100000 in
theorem lb_changed {K : Kx} {nm : String} {Q : State → Prop} {b L : Nat} {xs : Nat → Int32} (C : Cx K code 8 "DeltaViewsLaw" room_1 ret nm) (hX : SC K b L xs) (hL : L ≤ 3072) {i : Nat} (hi : i + 6 ≤ L) {x m : Nat} {ad : Nat → Nat} {h : AH} {c t : Nat} {G : Gh} {S : Sx} (hc : c ≤ 200 + i) (ht : t ≤ 11000 + i) (hJ : JI (Ko K) h x G m ad S) (next : ∀ (h' : AH) (c' t' : Nat) (G' : Gh) (S' : Sx), c' ≤ 206 + i → t' ≤ 11006 + i → JI (Ko K) h' x G' m ad S' → V K h' c' t' Q 826 [(0, .ref b), (1, .ref x), (2, .ref m), (3, .int (nI i))] []) : V K h c t Q 719 [(0, .ref b), (1, .ref x), (2, .ref m), (3, .int (nI i))] [] := by
  have hn : S.2.2.2.length ≤ 10 := hJ.1.2.2.1
  obtain ⟨fs0, hm0⟩ := hJ.2.1.obj
  refine r_aload_n (n := 720) C dLW_law_719 rfl rfl ?_
  refine r_aload_n (n := 721) C dLW_law_720 rfl rfl ?_
  refine r_iload_n (n := 722) C dLW_law_721 rfl rfl ?_
  refine r_iconst (v := 1) (n := 723) C dLW_law_722 rfl (by decide) ?_
  refine r_iadd (n := 724) C dLW_law_723 rfl ?_
  refine r_sld (n := 725) C hX dLW_law_724 rfl (i + 1) (nI_add i 1) (by omega) (by omega) ?_
  refine r_ci (n := 728) (rn_V (z := 1) (ci := 9) (T := TDV) C (c_DV_changed (Kl K) (Ko K) h x (xs (i + 1)) G S hJ.1) tw_513 tw_514 tw_515 tw_1 tw_516 rfl rfl ndDV_changed ⟨Nat.le_of_ble_eq_true rfl, Nat.le_of_ble_eq_true rfl⟩ hJ.1.2.1 rfl rfl rfl (Nat.le_of_ble_eq_true rfl) dLW_law_725 ⟨by show _ ≤ 600000; omega, by show _ ≤ 7302250; omega⟩) rfl (fun r1 h1 hq1 => ?_)
  obtain ⟨e1a, e1b⟩ := hq1
  subst e1a
  rw [e1b]
  refine r_aload_n (n := 729) C dLW_law_728 rfl rfl ?_
  refine r_aload_n (n := 730) C dLW_law_729 rfl rfl ?_
  refine r_iload_n (n := 731) C dLW_law_730 rfl rfl ?_
  refine r_iconst (v := 1) (n := 732) C dLW_law_731 rfl (by decide) ?_
  refine r_iadd (n := 733) C dLW_law_732 rfl ?_
  refine r_sld (n := 734) C hX dLW_law_733 rfl (i + 1) (nI_add i 1) (by omega) (by omega) ?_
  refine r_ci (n := 737) (rn_V (z := 1) (ci := 10) (T := TMD) C (c_MD_changed (Kl K) (Ko K) h m (xs (i + 1)) ad S hJ.2.1) tw_727 tw_728 tw_729 tw_4 tw_730 rfl rfl ndMD_changed ⟨Nat.le_of_ble_eq_true rfl, Nat.le_of_ble_eq_true rfl⟩ hm0 rfl rfl rfl (Nat.le_of_ble_eq_true rfl) dLW_law_734 ⟨by show _ ≤ 600000; omega, by show _ ≤ 7302250; omega⟩) rfl (fun r2 h2 hq2 => ?_)
  obtain ⟨e2a, e2b⟩ := hq2
  subst e2a
  rw [e2b]
  have hJ2 := hJ
  refine r_icmp_eq (tgt := 826) (n := 740) C dLW_law_737 (by decide) rfl (fun c_737 => ?_) (fun c_737 => ?_)
  · refine V.byk (ls' := [(0, .ref b), (1, .ref x), (2, .ref m), (3, .int (nI i))]) rfl ?_
    exact next _ _ _ _ _ (by omega) (by omega) hJ2
  · exact absurd rfl c_737
set_option maxHeartbeats 4000000 in
set_option maxRecDepth 100000 in
theorem lb_mean {K : Kx} {nm : String} {Q : State → Prop} {b L : Nat} {xs : Nat → Int32} (C : Cx K code 8 "DeltaViewsLaw" room_1 ret nm) (hX : SC K b L xs) (hL : L ≤ 3072) {i : Nat} (hi : i + 6 ≤ L) {x m : Nat} {ad : Nat → Nat} {h : AH} {c t : Nat} {G : Gh} {S : Sx} (hc : c ≤ 200 + i) (ht : t ≤ 11000 + i) (hJ : JI (Ko K) h x G m ad S) (next : ∀ (h' : AH) (c' t' : Nat) (G' : Gh) (S' : Sx), c' ≤ 206 + i → t' ≤ 11006 + i → JI (Ko K) h' x G' m ad S' → V K h' c' t' Q 826 [(0, .ref b), (1, .ref x), (2, .ref m), (3, .int (nI i))] []) : V K h c t Q 742 [(0, .ref b), (1, .ref x), (2, .ref m), (3, .int (nI i))] [] := by
  have hn : S.2.2.2.length ≤ 10 := hJ.1.2.2.1
  obtain ⟨fs0, hm0⟩ := hJ.2.1.obj
  refine r_aload_n (n := 743) C dLW_law_742 rfl rfl ?_
  refine r_aload_n (n := 744) C dLW_law_743 rfl rfl ?_
  refine r_iload_n (n := 745) C dLW_law_744 rfl rfl ?_
  refine r_iconst (v := 1) (n := 746) C dLW_law_745 rfl (by decide) ?_
  refine r_iadd (n := 747) C dLW_law_746 rfl ?_
  refine r_sld (n := 748) C hX dLW_law_747 rfl (i + 1) (nI_add i 1) (by omega) (by omega) ?_
  refine r_aload_n (n := 749) C dLW_law_748 rfl rfl ?_
  refine r_iload_n (n := 750) C dLW_law_749 rfl rfl ?_
  refine r_iconst (v := 2) (n := 751) C dLW_law_750 rfl (by decide) ?_
  refine r_iadd (n := 752) C dLW_law_751 rfl ?_
  refine r_sld (n := 753) C hX dLW_law_752 rfl (i + 2) (nI_add i 2) (by omega) (by omega) ?_
  refine r_cd (n := 756) (rn_V (z := 2) (ci := 9) (T := TDV) C (c_DV_mean (Kl K) (Ko K) h x (xs (i + 1)) (xs (i + 2)) G S hJ.1) tw_517 tw_518 tw_519 tw_1 tw_520 rfl rfl ndDV_mean ⟨Nat.le_of_ble_eq_true rfl, Nat.le_of_ble_eq_true rfl⟩ hJ.1.2.1 rfl rfl rfl (Nat.le_of_ble_eq_true rfl) dLW_law_753 ⟨by show _ ≤ 600000; omega, by show _ ≤ 7302250; omega⟩) rfl (fun r1 h1 hq1 => ?_)
  obtain ⟨e1a, e1b⟩ := hq1
  subst e1a
  rw [e1b]
  refine r_dstore (n := 758) C dLW_law_756 rfl (by decide) ?_
  refine r_aload_n (n := 759) C dLW_law_758 rfl rfl ?_
  refine r_aload_n (n := 760) C dLW_law_759 rfl rfl ?_
  refine r_iload_n (n := 761) C dLW_law_760 rfl rfl ?_
  refine r_iconst (v := 1) (n := 762) C dLW_law_761 rfl (by decide) ?_
  refine r_iadd (n := 763) C dLW_law_762 rfl ?_
  refine r_sld (n := 764) C hX dLW_law_763 rfl (i + 1) (nI_add i 1) (by omega) (by omega) ?_
  refine r_aload_n (n := 765) C dLW_law_764 rfl rfl ?_
  refine r_iload_n (n := 766) C dLW_law_765 rfl rfl ?_
  refine r_iconst (v := 2) (n := 767) C dLW_law_766 rfl (by decide) ?_
  refine r_iadd (n := 768) C dLW_law_767 rfl ?_
  refine r_sld (n := 769) C hX dLW_law_768 rfl (i + 2) (nI_add i 2) (by omega) (by omega) ?_
  refine r_cd (n := 772) (rn_V (z := 2) (ci := 10) (T := TMD) C (c_MD_mean (Kl K) (Ko K) h m (xs (i + 1)) (xs (i + 2)) ad S hJ.2.1) tw_731 tw_732 tw_733 tw_4 tw_734 rfl rfl ndMD_mean ⟨Nat.le_of_ble_eq_true rfl, Nat.le_of_ble_eq_true rfl⟩ hm0 rfl rfl rfl (Nat.le_of_ble_eq_true rfl) dLW_law_769 ⟨by show _ ≤ 600000; omega, by show _ ≤ 7302250; omega⟩) rfl (fun r2 h2 hq2 => ?_)
  obtain ⟨e2a, e2b⟩ := hq2
  subst e2a
  rw [e2b]
  have hJ2 := hJ
  refine r_dstore (n := 774) C dLW_law_772 rfl (by decide) ?_
  refine r_dload (n := 776) C dLW_law_774 rfl rfl ?_
  refine r_dload (n := 778) C dLW_law_776 rfl rfl ?_
  refine r_dcmp (n := 779) C dLW_law_778 rfl ?_
  refine r_if_eq (tgt := 800) (n := 782) C dLW_law_779 (by decide) rfl (fun c_779 => ?_) (fun c_779 => ?_)
  · refine r_goto (tgt := 826) C dLW_law_800 (by decide) ?_
    refine V.byk (ls' := [(0, .ref b), (1, .ref x), (2, .ref m), (3, .int (nI i))]) rfl ?_
    exact next _ _ _ _ _ (by omega) (by omega) hJ2
  · refine r_dload (n := 784) C dLW_law_782 rfl rfl ?_
    refine r_dload (n := 786) C dLW_law_784 rfl rfl ?_
    refine r_dcmp (n := 787) C dLW_law_786 rfl ?_
    refine r_if_eq (tgt := 798) (n := 790) C dLW_law_787 (by decide) rfl (fun c_787 => ?_) (fun c_787 => ?_)
    · exact absurd c_787 c_779
    · refine r_dload (n := 792) C dLW_law_790 rfl rfl ?_
      refine r_dload (n := 794) C dLW_law_792 rfl rfl ?_
      refine r_dcmp (n := 795) C dLW_law_794 rfl ?_
      refine r_if_ne (tgt := 800) (n := 798) C dLW_law_795 (by decide) rfl (fun c_795 => ?_) (fun c_795 => ?_)
      · refine r_goto (tgt := 826) C dLW_law_800 (by decide) ?_
        refine V.byk (ls' := [(0, .ref b), (1, .ref x), (2, .ref m), (3, .int (nI i))]) rfl ?_
        exact next _ _ _ _ _ (by omega) (by omega) hJ2
      · exact absurd c_795 c_779
set_option maxHeartbeats 4000000 in
set_option maxRecDepth 100000 in
theorem lb_count {K : Kx} {nm : String} {Q : State → Prop} {b L : Nat} {xs : Nat → Int32} (C : Cx K code 8 "DeltaViewsLaw" room_1 ret nm) (hX : SC K b L xs) (hL : L ≤ 3072) {i : Nat} (hi : i + 6 ≤ L) {x m : Nat} {ad : Nat → Nat} {h : AH} {c t : Nat} {G : Gh} {S : Sx} (hc : c ≤ 200 + i) (ht : t ≤ 11000 + i) (hJ : JI (Ko K) h x G m ad S) (next : ∀ (h' : AH) (c' t' : Nat) (G' : Gh) (S' : Sx), c' ≤ 206 + i → t' ≤ 11006 + i → JI (Ko K) h' x G' m ad S' → V K h' c' t' Q 826 [(0, .ref b), (1, .ref x), (2, .ref m), (3, .int (nI i))] []) : V K h c t Q 803 [(0, .ref b), (1, .ref x), (2, .ref m), (3, .int (nI i))] [] := by
  have hn : S.2.2.2.length ≤ 10 := hJ.1.2.2.1
  obtain ⟨fs0, hm0⟩ := hJ.2.1.obj
  refine r_aload_n (n := 804) C dLW_law_803 rfl rfl ?_
  refine r_aload_n (n := 805) C dLW_law_804 rfl rfl ?_
  refine r_iload_n (n := 806) C dLW_law_805 rfl rfl ?_
  refine r_iconst (v := 1) (n := 807) C dLW_law_806 rfl (by decide) ?_
  refine r_iadd (n := 808) C dLW_law_807 rfl ?_
  refine r_sld (n := 809) C hX dLW_law_808 rfl (i + 1) (nI_add i 1) (by omega) (by omega) ?_
  refine r_ci (n := 812) (rn_V (z := 1) (ci := 9) (T := TDV) C (c_DV_count (Kl K) (Ko K) h x (xs (i + 1)) G S hJ.1) tw_525 tw_526 tw_527 tw_1 tw_528 rfl rfl ndDV_count ⟨Nat.le_of_ble_eq_true rfl, Nat.le_of_ble_eq_true rfl⟩ hJ.1.2.1 rfl rfl rfl (Nat.le_of_ble_eq_true rfl) dLW_law_809 ⟨by show _ ≤ 600000; omega, by show _ ≤ 7302250; omega⟩) rfl (fun r1 h1 hq1 => ?_)
  obtain ⟨e1a, e1b⟩ := hq1
  subst e1a
  rw [e1b]
  refine r_aload_n (n := 813) C dLW_law_812 rfl rfl ?_
  refine r_aload_n (n := 814) C dLW_law_813 rfl rfl ?_
  refine r_iload_n (n := 815) C dLW_law_814 rfl rfl ?_
  refine r_iconst (v := 1) (n := 816) C dLW_law_815 rfl (by decide) ?_
  refine r_iadd (n := 817) C dLW_law_816 rfl ?_
  refine r_sld (n := 818) C hX dLW_law_817 rfl (i + 1) (nI_add i 1) (by omega) (by omega) ?_
  refine r_ci (n := 821) (rn_V (z := 1) (ci := 10) (T := TMD) C (c_MD_count (Kl K) (Ko K) h m (xs (i + 1)) ad S hJ.2.1) tw_736 tw_737 tw_738 tw_4 tw_739 rfl rfl ndMD_count ⟨Nat.le_of_ble_eq_true rfl, Nat.le_of_ble_eq_true rfl⟩ hm0 rfl rfl rfl (Nat.le_of_ble_eq_true rfl) dLW_law_818 ⟨by show _ ≤ 600000; omega, by show _ ≤ 7302250; omega⟩) rfl (fun r2 h2 hq2 => ?_)
  obtain ⟨e2a, e2b⟩ := hq2
  subst e2a
  rw [e2b]
  have hJ2 := hJ
  refine r_icmp_eq (tgt := 826) (n := 824) C dLW_law_821 (by decide) rfl (fun c_821 => ?_) (fun c_821 => ?_)
  · refine V.byk (ls' := [(0, .ref b), (1, .ref x), (2, .ref m), (3, .int (nI i))]) rfl ?_
    exact next _ _ _ _ _ (by omega) (by omega) hJ2
  · exact absurd rfl c_821
set_option maxHeartbeats 4000000 in
set_option maxRecDepth 100000 in
theorem law_loop {K : Kx} {nm : String} {Q : State → Prop} {b L : Nat} {xs : Nat → Int32} (C : Cx K code 8 "DeltaViewsLaw" room_1 ret nm) (hX : SC K b L xs) (hL : L ≤ 3072) (hr : LwR K Q) (x m : Nat) (ad : Nat → Nat) : ∀ (q i : Nat) (h : AH) (c t : Nat) (G : Gh) (S : Sx), L + 6 - i = q → i ≤ L + 5 → c ≤ 200 + i → t ≤ 11000 + i → JI (Ko K) h x G m ad S → V K h c t Q 18 [(0, .ref b), (1, .ref x), (2, .ref m), (3, .int (nI i))] [] := by
  intro q
  induction q using Nat.strongRecOn with
  | _ q ih =>
    intro i h c t G S hq hi hc ht hJ
    have next : i + 6 ≤ L → ∀ (h' : AH) (c' t' : Nat) (G' : Gh) (S' : Sx), c' ≤ 206 + i → t' ≤ 11006 + i → JI (Ko K) h' x G' m ad S' → V K h' c' t' Q 826 [(0, .ref b), (1, .ref x), (2, .ref m), (3, .int (nI i))] [] := by
      intro hiL h' c' t' G' S' hc' ht' hJ'
      refine r_iinc (n := 829) C dLW_law_826 rfl rfl (nI_add i 6) (by decide) ?_
      refine r_goto (tgt := 18) C dLW_law_829 (by decide) ?_
      refine V.byk (ls' := [(0, .ref b), (1, .ref x), (2, .ref m), (3, .int (nI (i + 6)))]) rfl ?_
      exact ih _ (by omega) (i + 6) h' c' t' G' S' rfl (by omega) (by omega) (by omega) hJ'
    refine r_iload_n (n := 19) C dLW_law_18 rfl rfl ?_
    refine r_aload_n (n := 20) C dLW_law_19 rfl rfl ?_
    refine r_slen (n := 21) C hX dLW_law_20 rfl ?_
    refine r_bipush (v := 6) (n := 23) C dLW_law_21 rfl (by decide) ?_
    refine r_isub (n := 24) C dLW_law_23 rfl ?_
    refine r_icmp_gt (tgt := 832) (n := 27) C dLW_law_24 (by decide) rfl (fun c_24 => ?_) (fun c_24 => ?_)
    · refine r_iconst (v := 1) (n := 833) C dLW_law_832 rfl (by decide) ?_
      exact r_lawret hr (by omega) (by omega) dLW_law_833
    · have hiL : i + 6 ≤ L := by
        have := mt (lw_more (i := i) hL (by omega)).mpr c_24
        omega
      refine r_aload_n (n := 28) C dLW_law_27 rfl rfl ?_
      refine r_iload_n (n := 29) C dLW_law_28 rfl rfl ?_
      refine r_sld (n := 30) C hX dLW_law_29 rfl i rfl (by omega) (by omega) ?_
      refine r_bipush (v := 31) (n := 32) C dLW_law_30 rfl (by decide) ?_
      refine r_iand (n := 33) C dLW_law_32 rfl ?_
      rcases sw18 (xs i &&& 31) with hsw | ⟨k, hk, hsw⟩
      · refine r_tableOut (tgt := 826) C dLW_law_33 hsw (by decide) ?_
        refine V.byk (ls' := [(0, .ref b), (1, .ref x), (2, .ref m), (3, .int (nI i))]) rfl ?_
        exact next hiL _ _ _ _ _ (by omega) (by omega) hJ
      · refine V.eqi hsw ?_
        rcases (show k = 0 ∨ k = 1 ∨ k = 2 ∨ k = 3 ∨ k = 4 ∨ k = 5 ∨ k = 6 ∨ k = 7 ∨ k = 8 ∨ k = 9 ∨ k = 10 ∨ k = 11 ∨ k = 12 ∨ k = 13 ∨ k = 14 ∨ k = 15 ∨ k = 16 ∨ k = 17 by omega) with e | e | e | e | e | e | e | e | e | e | e | e | e | e | e | e | e | e <;> subst e
        · refine r_tableIn (off := 87) (tgt := 120) C dLW_law_33 (by decide +kernel) (by decide +kernel) (by decide +kernel) (by decide) ?_
          refine V.byk (ls' := [(0, .ref b), (1, .ref x), (2, .ref m), (3, .int (nI i))]) rfl ?_
          exact lb_table C hX hL hiL hc ht hJ (next hiL)
        · refine r_tableIn (off := 110) (tgt := 143) C dLW_law_33 (by decide +kernel) (by decide +kernel) (by decide +kernel) (by decide) ?_
          refine V.byk (ls' := [(0, .ref b), (1, .ref x), (2, .ref m), (3, .int (nI i))]) rfl ?_
          exact lb_filter C hX hL hiL hc ht hJ (next hiL)
        · refine r_tableIn (off := 163) (tgt := 196) C dLW_law_33 (by decide +kernel) (by decide +kernel) (by decide +kernel) (by decide) ?_
          refine V.byk (ls' := [(0, .ref b), (1, .ref x), (2, .ref m), (3, .int (nI i))]) rfl ?_
          exact lb_map C hX hL hiL hc ht hJ (next hiL)
        · refine r_tableIn (off := 216) (tgt := 249) C dLW_law_33 (by decide +kernel) (by decide +kernel) (by decide +kernel) (by decide) ?_
          refine V.byk (ls' := [(0, .ref b), (1, .ref x), (2, .ref m), (3, .int (nI i))]) rfl ?_
          exact lb_join C hX hL hiL hc ht hJ (next hiL)
        · refine r_tableIn (off := 279) (tgt := 312) C dLW_law_33 (by decide +kernel) (by decide +kernel) (by decide +kernel) (by decide) ?_
          refine V.byk (ls' := [(0, .ref b), (1, .ref x), (2, .ref m), (3, .int (nI i))]) rfl ?_
          exact lb_combine C hX hL hiL hc ht hJ (next hiL)
        · refine r_tableIn (off := 322) (tgt := 355) C dLW_law_33 (by decide +kernel) (by decide +kernel) (by decide +kernel) (by decide) ?_
          refine V.byk (ls' := [(0, .ref b), (1, .ref x), (2, .ref m), (3, .int (nI i))]) rfl ?_
          exact lb_distinct C hX hL hiL hc ht hJ (next hiL)
        · refine r_tableIn (off := 345) (tgt := 378) C dLW_law_33 (by decide +kernel) (by decide +kernel) (by decide +kernel) (by decide) ?_
          refine V.byk (ls' := [(0, .ref b), (1, .ref x), (2, .ref m), (3, .int (nI i))]) rfl ?_
          exact lb_group C hX hL hiL hc ht hJ (next hiL)
        · refine r_tableIn (off := 398) (tgt := 431) C dLW_law_33 (by decide +kernel) (by decide +kernel) (by decide +kernel) (by decide) ?_
          refine V.byk (ls' := [(0, .ref b), (1, .ref x), (2, .ref m), (3, .int (nI i))]) rfl ?_
          exact lb_change C hX hL hiL hc ht hJ (next hiL)
        · refine r_tableIn (off := 461) (tgt := 494) C dLW_law_33 (by decide +kernel) (by decide +kernel) (by decide +kernel) (by decide) ?_
          refine V.byk (ls' := [(0, .ref b), (1, .ref x), (2, .ref m), (3, .int (nI i))]) rfl ?_
          exact lb_step C hX hL hiL hc ht hJ (next hiL)
        · refine r_tableIn (off := 474) (tgt := 507) C dLW_law_33 (by decide +kernel) (by decide +kernel) (by decide +kernel) (by decide) ?_
          refine V.byk (ls' := [(0, .ref b), (1, .ref x), (2, .ref m), (3, .int (nI i))]) rfl ?_
          exact lb_drop C hX hL hiL hc ht hJ (next hiL)
        · refine r_tableIn (off := 487) (tgt := 520) C dLW_law_33 (by decide +kernel) (by decide +kernel) (by decide +kernel) (by decide) ?_
          refine V.byk (ls' := [(0, .ref b), (1, .ref x), (2, .ref m), (3, .int (nI i))]) rfl ?_
          exact lb_weight C hX hL hiL hc ht hJ (next hiL)
        · refine r_tableIn (off := 541) (tgt := 574) C dLW_law_33 (by decide +kernel) (by decide +kernel) (by decide +kernel) (by decide) ?_
          refine V.byk (ls' := [(0, .ref b), (1, .ref x), (2, .ref m), (3, .int (nI i))]) rfl ?_
          exact lb_inTable C hX hL hiL hc ht hJ (next hiL)
        · refine r_tableIn (off := 595) (tgt := 628) C dLW_law_33 (by decide +kernel) (by decide +kernel) (by decide +kernel) (by decide) ?_
          refine V.byk (ls' := [(0, .ref b), (1, .ref x), (2, .ref m), (3, .int (nI i))]) rfl ?_
          exact lb_rows C hX hL hiL hc ht hJ (next hiL)
        · refine r_tableIn (off := 618) (tgt := 651) C dLW_law_33 (by decide +kernel) (by decide +kernel) (by decide +kernel) (by decide) ?_
          refine V.byk (ls' := [(0, .ref b), (1, .ref x), (2, .ref m), (3, .int (nI i))]) rfl ?_
          exact lb_cell C hX hL hiL hc ht hJ (next hiL)
        · refine r_tableIn (off := 662) (tgt := 695) C dLW_law_33 (by decide +kernel) (by decide +kernel) (by decide +kernel) (by decide) ?_
          refine V.byk (ls' := [(0, .ref b), (1, .ref x), (2, .ref m), (3, .int (nI i))]) rfl ?_
          exact lb_total C hX hL hiL hc ht hJ (next hiL)
        · refine r_tableIn (off := 686) (tgt := 719) C dLW_law_33 (by decide +kernel) (by decide +kernel) (by decide +kernel) (by decide) ?_
          refine V.byk (ls' := [(0, .ref b), (1, .ref x), (2, .ref m), (3, .int (nI i))]) rfl ?_
          exact lb_changed C hX hL hiL hc ht hJ (next hiL)
        · refine r_tableIn (off := 709) (tgt := 742) C dLW_law_33 (by decide +kernel) (by decide +kernel) (by decide +kernel) (by decide) ?_
          refine V.byk (ls' := [(0, .ref b), (1, .ref x), (2, .ref m), (3, .int (nI i))]) rfl ?_
          exact lb_mean C hX hL hiL hc ht hJ (next hiL)
        · refine r_tableIn (off := 770) (tgt := 803) C dLW_law_33 (by decide +kernel) (by decide +kernel) (by decide +kernel) (by decide) ?_
          refine V.byk (ls' := [(0, .ref b), (1, .ref x), (2, .ref m), (3, .int (nI i))]) rfl ?_
          exact lb_count C hX hL hiL hc ht hJ (next hiL)
set_option maxHeartbeats 4000000 in
set_option maxRecDepth 100000 in
theorem law_all {K : Kx} {nm : String} {Q : State → Prop} {b L : Nat} {xs : Nat → Int32} (C : Cx K code 8 "DeltaViewsLaw" room_1 ret nm) (hX : SC K b L xs) (hL : L ≤ 3072) (hr : LwR K Q) : V K (fun _ => none) 0 0 Q 0 [(0, .ref b)] [] := by
  refine r_new (ci := 9) (fs := [.null, .null, .null, .null, .null, .null, .int 0]) (n := 3) C hinDV tyDV okDV tw_15 tw_16 tw_1 rfl (fun j hj => by rcases (show j = 0 ∨ j = 1 ∨ j = 2 ∨ j = 3 ∨ j = 4 ∨ j = 5 ∨ j = 6 by omega) with rfl | rfl | rfl | rfl | rfl | rfl | rfl <;> rfl) dLW_law_0 rfl (Nat.le_of_ble_eq_true rfl) (Nat.le_of_ble_eq_true rfl) (fun x hx0 => ?_)
  refine r_dup (n := 4) C dLW_law_3 rfl rfl ?_
  refine r_cv (n := 7) (rn_I (z := 0) C (c_DV_init (Kl K) (Ko K) _ x (hu_eq _ _ _)) tw_17 tw_18 tw_1 rfl tw_19 rfl rfl ndDV_init.2 ⟨Nat.le_of_ble_eq_true rfl, Nat.le_of_ble_eq_true rfl⟩ rfl rfl (Nat.le_of_ble_eq_true rfl) dLW_law_4 ⟨(Nat.le_of_ble_eq_true rfl), (Nat.le_of_ble_eq_true rfl)⟩) rfl (fun h1 hq1 => ?_)
  obtain ⟨G, hC1, hO1, hF1⟩ := hq1
  refine r_astore_n (n := 8) C dLW_law_7 rfl (by decide) ?_
  refine r_new (ci := 10) (fs := [.null, .null, .null, .null, .null, .null, .null, .null, .null, .int 0, .null, .null, .null, .int 0, .null, .null, .null, .null, .null, .int 0]) (n := 11) C hinMD tyMD okMD tw_529 tw_530 tw_4 rfl (fun j hj => by rcases (show j = 0 ∨ j = 1 ∨ j = 2 ∨ j = 3 ∨ j = 4 ∨ j = 5 ∨ j = 6 ∨ j = 7 ∨ j = 8 ∨ j = 9 ∨ j = 10 ∨ j = 11 ∨ j = 12 ∨ j = 13 ∨ j = 14 ∨ j = 15 ∨ j = 16 ∨ j = 17 ∨ j = 18 ∨ j = 19 by omega) with rfl | rfl | rfl | rfl | rfl | rfl | rfl | rfl | rfl | rfl | rfl | rfl | rfl | rfl | rfl | rfl | rfl | rfl | rfl | rfl <;> rfl) dLW_law_8 rfl (Nat.le_of_ble_eq_true rfl) (Nat.le_of_ble_eq_true rfl) (fun m hm0 => ?_)
  refine r_dup (n := 12) C dLW_law_11 rfl rfl ?_
  refine r_cv (n := 15) (rn_I (z := 0) C (c_MD_init (Kl K) (Ko K) _ m (hu_eq _ _ _)) tw_531 tw_532 tw_4 rfl tw_533 rfl rfl ndMD_init.2 ⟨Nat.le_of_ble_eq_true rfl, Nat.le_of_ble_eq_true rfl⟩ rfl rfl (Nat.le_of_ble_eq_true rfl) dLW_law_12 ⟨(Nat.le_of_ble_eq_true rfl), (Nat.le_of_ble_eq_true rfl)⟩) rfl (fun h3 hq3 => ?_)
  obtain ⟨ad, hM3, hZ3, hF3⟩ := hq3
  have hC2 := hC1.fresh hm0 (.inr (10, [.null, .null, .null, .null, .null, .null, .null, .null, .null, .int 0, .null, .null, .null, .int 0, .null, .null, .null, .null, .null, .int 0]))
  have hne : ∀ q, (q = x ∨ ownG G q) → q ≠ m := fun q hq e => by
    obtain ⟨w, hw⟩ := hC1.own hq
    rw [e, hm0] at hw; cases hw
  have hnf : ∀ q, (q = x ∨ ownG G q) → ¬ frX (hu h1 m (.inr (10, [.null, .null, .null, .null, .null, .null, .null, .null, .null, .int 0, .null, .null, .null, .int 0, .null, .null, .null, .null, .null, .int 0]))) m q := fun q hq z => z.elim (fun e => hne q hq e) (fun e => by
    obtain ⟨w, hw⟩ := hC2.own hq
    rw [e] at hw; cases hw)
  have hC3 : CI (Ko K) h3 x G S0 := hC2.frm (hnf x (Or.inl rfl)) (fun q hq => hnf q (Or.inr hq)) (fun a ci fs ha n10 z => z.elim (fun e => by
    rw [e, hu_eq] at ha
    have : (10 : Nat) = ci := by injection ha with w; injection w with w; injection w
    exact n10 this.symm) (fun e => by rw [e] at ha; cases ha)) hF3
  have hA3 : Apt x G m ad := fun q hq z => by
    rcases hq with e | ⟨k, hk, e⟩
    · exact hne q z e
    · obtain ⟨w, hw⟩ := hC2.own z
      rw [e, hZ3 k hk] at hw; cases hw
  have hJ : JI (Ko K) h3 x G m ad S0 := ⟨hC3, hM3, fun i hi => ⟨List.Pairwise.nil, fun r hr => by cases hr⟩, hA3⟩
  refine r_astore_n (n := 16) C dLW_law_15 rfl (by decide) ?_
  refine r_iconst (v := 0) (n := 17) C dLW_law_16 rfl (by decide) ?_
  refine r_istore_n (n := 18) C dLW_law_17 rfl (by decide) ?_
  refine V.byk (ls' := [(0, .ref b), (1, .ref x), (2, .ref m), (3, .int (nI 0))]) rfl ?_
  exact law_loop C hX hL hr x m ad _ 0 h3 _ _ G S0 rfl (by omega) (by decide) (by decide) hJ
