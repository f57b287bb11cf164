set_option maxHeartbeats 8000000 in
set_option maxRecDepth 100000 in
theorem law_0 {p : Program} {e : Env} {s : State} {m : MethodId} {below : List Frame} {meth : Method} {c : Code} (l : Launch) {b L : Nat} {xs : Nat → Int32} {A : Nat → Prop} {dC : Nat → ClassId} {dI : Nat → Nat → Nat} {kk : Nat → ClassId} {adK adV : Nat → Nat} (C0 : lw_At p s m meth c b L xs) (hL : L ≤ 3072) (hA : ∀ q : Nat, s.heap.size ≤ q → A q) (hbA : ¬ A b) (hE : EnvOK s) (hSE : SE adK adV A s) (hK : va_K (dC, dI) vwCl (cT kk) s) {i : Int32} (hi : 0 ≤ i.toInt ∧ i.toInt + 6 ≤ (L : Int)) {ws : va_W} {xa h0 : Nat} {q : Nat → Nat} {g : Nat → Int32} {F : Nat → Nat → Int32} {n σ B1 B2 : Int} {H : Heap} {locs : List Loc} {ls : Array Slot} {cells slots : Nat} (hC : CS kk ws xa n σ g F) (hM : MS g F n) (hB1 : (cells : Int) + 10 * n ≤ B1 + 3 * σ) (hB2 : (slots : Int) + 118 * n ≤ B2 + 2504 * σ) (hc1 : B1 ≤ 590000) (hc2 : B2 ≤ 5500000) (hP : va_P (dC, dI) vwCl ((mW h0 (kk 0) (kk 1) (kk 2) q g F) ++ ws) H) (hD : va_D A ((mW h0 (kk 0) (kk 1) (kk 2) q g F) ++ ws)) (hS : va_S A s.heap H locs) (hl : lv_has ls 4 [(3, .int i), (2, .ref h0), (1, .ref xa), (0, .ref b)]) (kont : ∀ (ws : va_W) (g : Nat → Int32) (F : Nat → Nat → Int32) (n σ : Int) (H : Heap) (locs : List Loc) (cells slots : Nat), CS kk ws xa n σ g F → MS g F n → (cells : Int) + 10 * n ≤ B1 + 228 + 3 * σ → (slots : Int) + 118 * n ≤ B2 + 6860 + 2504 * σ → va_P (dC, dI) vwCl ((mW h0 (kk 0) (kk 1) (kk 2) q g F) ++ ws) H → va_D A ((mW h0 (kk 0) (kk 1) (kk 2) q g F) ++ ws) → va_S A s.heap H locs → W p l e room_1 s m #[Value.ref b] below meth c H locs cells slots (lw_Z below #[Value.ref b] s) (F0 m 833 ls [])) : W p l e room_1 s m #[Value.ref b] below meth c H locs cells slots (lw_Z below #[Value.ref b] s) (F0 m 148 ls []) := by
  obtain ⟨hx, hb, hr9, hml, hown, hts0, hX, hbl, hlocks, hgv⟩ := C0
  have hts := fun w h => hts0 w (wL_tb w h)
  obtain ⟨ad, κ, wd, G, P, U, V, X, O, kd, ln, cnt, x, tp, bk, fl, rfl, hW, hT, hI, hkx, hκ, h220, h229, h3, hn, hσ, hR⟩ := hC
  have hk220 := (((CInv_P220 hI :) x).2 tp h220).1
  have hk229 := (((CInv_P229 hI :) x).2 bk h229).1
  have hs0 := s7_b (CInv_V3 hI :) fl
  have hn0 := (CInv_G141 hI :) tp
  have hj1 : (i + 1).toInt = i.toInt + 1 := z_addc (by decide +kernel) (by omega) (by omega)
  have hj2 : (i + 2).toInt = i.toInt + 2 := z_addc (by decide +kernel) (by omega) (by omega)
  have hj3 : (i + 3).toInt = i.toInt + 3 := z_addc (by decide +kernel) (by omega) (by omega)
  have hj4 : (i + 4).toInt = i.toInt + 4 := z_addc (by decide +kernel) (by omega) (by omega)
  have hj5 : (i + 5).toInt = i.toInt + 5 := z_addc (by decide +kernel) (by omega) (by omega)
  refine lv_aload_n hx hb dL_law_148 rfl (lv_at hl 2 rfl) ?_
  refine lv_aload_n hx hb dL_law_149 rfl (lv_at hl 3 rfl) ?_
  refine lv_iload_n hx hb dL_law_150 rfl (lv_at hl 0 rfl) ?_
  refine lv_iconst (v := 1) hx hb dL_law_151 (by decide +kernel) ?_
  refine lv_iadd hx hb dL_law_152 ?_
  refine va_sld hx hb hX hbl hbA hS (z_in (by omega) (by omega)) dL_law_153 ?_
  refine lv_topi (fun y1 ey1 => ?_)
  refine lv_aload_n hx hb dL_law_154 rfl (lv_at hl 3 rfl) ?_
  refine lv_iload_n hx hb dL_law_155 rfl (lv_at hl 0 rfl) ?_
  refine lv_iconst (v := 2) hx hb dL_law_156 (by decide +kernel) ?_
  refine lv_iadd hx hb dL_law_157 ?_
  refine va_sld hx hb hX hbl hbA hS (z_in (by omega) (by omega)) dL_law_158 ?_
  refine lv_topi (fun y2 ey2 => ?_)
  refine lv_aload_n hx hb dL_law_159 rfl (lv_at hl 3 rfl) ?_
  refine lv_iload_n hx hb dL_law_160 rfl (lv_at hl 0 rfl) ?_
  refine lv_iconst (v := 3) hx hb dL_law_161 (by decide +kernel) ?_
  refine lv_iadd hx hb dL_law_162 ?_
  refine va_sld hx hb hX hbl hbA hS (z_in (by omega) (by omega)) dL_law_163 ?_
  refine lv_topi (fun y3 ey3 => ?_)
  refine lv_aload_n hx hb dL_law_164 rfl (lv_at hl 3 rfl) ?_
  refine lv_iload_n hx hb dL_law_165 rfl (lv_at hl 0 rfl) ?_
  refine lv_iconst (v := 4) hx hb dL_law_166 (by decide +kernel) ?_
  refine lv_iadd hx hb dL_law_167 ?_
  refine va_sld hx hb hX hbl hbA hS (z_in (by omega) (by omega)) dL_law_168 ?_
  refine lv_topi (fun y4 ey4 => ?_)
  refine lv_aload_n hx hb dL_law_169 rfl (lv_at hl 3 rfl) ?_
  refine lv_iload_n hx hb dL_law_170 rfl (lv_at hl 0 rfl) ?_
  refine lv_iconst (v := 5) hx hb dL_law_171 (by decide +kernel) ?_
  refine lv_iadd hx hb dL_law_172 ?_
  refine va_sld hx hb hX hbl hbA hS (z_in (by omega) (by omega)) dL_law_173 ?_
  refine lv_topi (fun y5 ey5 => ?_)
  obtain ⟨⟨r1, c_G141, c_V0⟩, hr1, hnG141, po0⟩ := ok_X11_feed κ wd G P U V X O kd ln cnt x y1 y2 y3 y4 y5 (CInv_G141 hI :) (CInv_P140 hI :) (CInv_P220 hI :) (CInv_LN hI :) hκ
  have hI1 : CInv κ wd (va_up G 141 c_G141) P (va_up V 0 c_V0) O ln cnt := (CInv_i (CInv_G43 hI :) (CInv_G44 hI :) (CInv_G45 hI :) (CInv_G60 hI :) (CInv_G83 hI :) (CInv_G84 hI :) (CInv_G85 hI :) (CInv_G87 hI :) (CInv_G88 hI :) (CInv_G102 hI :) (CInv_G125 hI :) (CInv_G126 hI :) (CInv_G127 hI :) hnG141 (CInv_G160 hI :) (CInv_G161 hI :) (CInv_G162 hI :) (CInv_G165 hI :) (CInv_G166 hI :) (CInv_G183 hI :) (CInv_G200 hI :) (CInv_G203 hI :) (CInv_G222 hI :) (CInv_G231 hI :) (CInv_G233 hI :) (CInv_P0 hI :) (CInv_P1 hI :) (CInv_P2 hI :) (CInv_P3 hI :) (CInv_P4 hI :) (CInv_P5 hI :) (CInv_P20 hI :) (CInv_P21 hI :) (CInv_P22 hI :) (CInv_P23 hI :) (CInv_P40 hI :) (CInv_P41 hI :) (CInv_P42 hI :) (CInv_P61 hI :) (CInv_P62 hI :) (CInv_P63 hI :) (CInv_P64 hI :) (CInv_P65 hI :) (CInv_P66 hI :) (CInv_P82 hI :) (CInv_P101 hI :) (CInv_P103 hI :) (CInv_P104 hI :) (CInv_P105 hI :) (CInv_P106 hI :) (CInv_P108 hI :) (CInv_P109 hI :) (CInv_P110 hI :) (CInv_P120 hI :) (CInv_P121 hI :) (CInv_P122 hI :) (CInv_P123 hI :) (CInv_P140 hI :) (CInv_P164 hI :) (CInv_P180 hI :) (CInv_P181 hI :) (CInv_P182 hI :) (CInv_P185 hI :) (CInv_P186 hI :) (CInv_P187 hI :) (CInv_P201 hI :) (CInv_P202 hI :) (CInv_P220 hI :) (CInv_P221 hI :) (CInv_P224 hI :) (CInv_P225 hI :) (CInv_P226 hI :) (CInv_P227 hI :) (CInv_P228 hI :) (CInv_P229 hI :) (CInv_P230 hI :) (CInv_P232 hI :) (CInv_P234 hI :) (CInv_P235 hI :) (CInv_P236 hI :) (CInv_V1 hI :) (CInv_V2 hI :) (CInv_V3 hI :) (CInv_V9 hI :) (CInv_O0 hI :) (CInv_O1 hI :) (CInv_O2 hI :) (CInv_RA hI :) (CInv_RB hI :) (CInv_RI hI :) (CInv_RM103 hI :) (CInv_RM104 hI :) (CInv_RM108 hI :) (CInv_LN hI :) (CInv_FL hI :) (CInv_W0 hI :) (CInv_KC hI :) (CInv_WK hI :))
  dsimp only at po0
  try dsimp only at hnG141
  have ht := po0 tp h220
  have hn1 := hnG141 tp
  obtain ⟨la, D, tb, wl, wz, hLB, hxc, hlx, hdr, hD0, h140, h0w, h201, h202, hlz, h24, hr203, hr0, hr49, hr50, hRR, hRW, hTA, hTB, hTC, hTD, hBW, hBM, hBO, hBK, hMX⟩ := hR
  have ltp := (hLB.1 220 fl_220 x tp h220).2.1
  have lbp : la tp = 10 := lk_220.mp (hLB.1 220 fl_220 x tp h220).2.2
  have ltb := (hLB.1 140 fl_140 tp tb h140).2.1
  have lbb : la tb = la tp + 1 := lk_140.mp (hLB.1 140 fl_140 tp tb h140).2.2
  obtain ⟨_, lbk, _⟩ := hLB.1 229 fl_229 x bk h229
  have lwd := (hLB.1 0 fl_0 bk wd h0w).2.1
  have lbw : la wd = 20 := lk_0.mp (hLB.1 0 fl_0 bk wd h0w).2.2
  have lwl := (hLB.1 201 fl_201 wd wl h201).2.1
  have lbl : la wl = la wd + 0 := lk_201.mp (hLB.1 201 fl_201 wd wl h201).2.2
  have lwz := (hLB.1 202 fl_202 wd wz h202).2.1
  have lbz : la wz = la wd + 0 := lk_202.mp (hLB.1 202 fl_202 wd wz h202).2.2
  obtain ⟨qf_G141, qf_V0⟩ : (∀ z, ((la z < 10 ∨ 10 + 1 < la z)) → c_G141 z = (G 141) z) ∧ (∀ z, ((la z < 10 ∨ 10 + 1 < la z)) → c_V0 z = (V 0) z) := fr_X11_feed la G P U V X O kd ln cnt x y1 y2 y3 y4 y5 hLB hlx _ hr1
  have hpx := wp_at (fx_X11_feed κ wd G P U V X O kd ln cnt x y1 y2 y3 y4 y5 (CInv_G141 hI :) (CInv_P140 hI :) (CInv_P220 hI :) (CInv_LN hI :) hκ) hr1
  obtain ⟨_, _, px⟩ := hpx
  try dsimp only at px
  have px := px tp tb h220 h140
  have hFc := va_fr2 hD hS hA
  have hPc := va_Pr hP
  have hDc := va_Drr hD
  obtain ⟨i0, hi0⟩ := hW.o11 hkx
  refine va_calli (va_runV (As := [.int y1, .int y2, .int y3, .int y4, .int y5]) (rest := []) ⟨hx, hb, hml, hown, hts⟩ (m_X11_feed l dC dI kk ad H.size ws G P U V X O kd ln cnt x y1 y2 y3 y4 y5 hkx hW hT r1 c_G141 c_V0 hr1) (cwV 5 hts gl_X11_feed rfl rfl rfl (by decide +kernel) ⟨Nat.le_of_ble_eq_true rfl, Nat.le_of_ble_eq_true rfl⟩) ⟨fun a U g mk q => by obtain ⟨q0, q1, qP, qK, qD⟩ := q; exact ⟨q0, q1, qP, va_K.moved (u := U) (U := U.calling g mk a) (Vm.Alike.refl U.vm) qK, qD⟩, va_recv hK hPc (ci := 11) (q0 := i0) rfl hi0, fun U hU hW => ⟨rfl, by rw [hU], by rw [hU]; exact hPc, va_K.moved hW.alike hK, hDc.weaken (fun _ _ _ _ => trivial)⟩⟩ rfl rfl hl.1 rfl (lv_room (Nat.le_of_ble_eq_true rfl)) dL_law_174 ⟨by show _ ≤ (600000 : Nat); omega, by show _ ≤ (7302250 : Nat); omega⟩) hS (fun q _ h => hFc q h) hFc (fun rr w t H1 locs ht1 hvm hw hB hz1 hk1 hS => ?_)
  obtain ⟨hw0, hW1, hT1⟩ := hw
  subst hw0
  obtain ⟨hP1, hK1, hD1⟩ := hB
  rw [ht1] at hP1
  obtain ⟨hP, hD⟩ := va_join2 hP hD hk1 hFc hP1 hD1
  clear hFc hPc hDc hk1 hz1 hvm ht1 hP1 hD1 hK1
  generalize H1 = H at hP hS ⊢
  refine lv_pop hx hb dL_law_177 rfl ?_
  refine lv_aload_n hx hb dL_law_178 rfl (lv_at hl 1 rfl) ?_
  refine lv_aload_n hx hb dL_law_179 rfl (lv_at hl 3 rfl) ?_
  refine lv_iload_n hx hb dL_law_180 rfl (lv_at hl 0 rfl) ?_
  refine lv_iconst (v := 1) hx hb dL_law_181 (by decide +kernel) ?_
  refine lv_iadd hx hb dL_law_182 ?_
  refine va_sld hx hb hX hbl hbA hS (z_in (by omega) (by omega)) dL_law_183 ?_
  refine lv_topi (fun z1 ez1 => ?_)
  obtain rfl : y1 = z1 := ey1.trans ez1.symm
  refine lv_aload_n hx hb dL_law_184 rfl (lv_at hl 3 rfl) ?_
  refine lv_iload_n hx hb dL_law_185 rfl (lv_at hl 0 rfl) ?_
  refine lv_iconst (v := 2) hx hb dL_law_186 (by decide +kernel) ?_
  refine lv_iadd hx hb dL_law_187 ?_
  refine va_sld hx hb hX hbl hbA hS (z_in (by omega) (by omega)) dL_law_188 ?_
  refine lv_topi (fun z2 ez2 => ?_)
  obtain rfl : y2 = z2 := ey2.trans ez2.symm
  refine lv_aload_n hx hb dL_law_189 rfl (lv_at hl 3 rfl) ?_
  refine lv_iload_n hx hb dL_law_190 rfl (lv_at hl 0 rfl) ?_
  refine lv_iconst (v := 3) hx hb dL_law_191 (by decide +kernel) ?_
  refine lv_iadd hx hb dL_law_192 ?_
  refine va_sld hx hb hX hbl hbA hS (z_in (by omega) (by omega)) dL_law_193 ?_
  refine lv_topi (fun z3 ez3 => ?_)
  obtain rfl : y3 = z3 := ey3.trans ez3.symm
  refine lv_aload_n hx hb dL_law_194 rfl (lv_at hl 3 rfl) ?_
  refine lv_iload_n hx hb dL_law_195 rfl (lv_at hl 0 rfl) ?_
  refine lv_iconst (v := 4) hx hb dL_law_196 (by decide +kernel) ?_
  refine lv_iadd hx hb dL_law_197 ?_
  refine va_sld hx hb hX hbl hbA hS (z_in (by omega) (by omega)) dL_law_198 ?_
  refine lv_topi (fun z4 ez4 => ?_)
  obtain rfl : y4 = z4 := ey4.trans ez4.symm
  refine lv_aload_n hx hb dL_law_199 rfl (lv_at hl 3 rfl) ?_
  refine lv_iload_n hx hb dL_law_200 rfl (lv_at hl 0 rfl) ?_
  refine lv_iconst (v := 5) hx hb dL_law_201 (by decide +kernel) ?_
  refine lv_iadd hx hb dL_law_202 ?_
  refine va_sld hx hb hX hbl hbA hS (z_in (by omega) (by omega)) dL_law_203 ?_
  refine lv_topi (fun z5 ez5 => ?_)
  obtain rfl : y5 = z5 := ey5.trans ez5.symm
  obtain ⟨hMI, hgn⟩ := hM
  refine MInv_e hMI (fun hmg1 hmg2 hmg3 hmg4 hmg5 hmg6 hmg7 hmg8 hmg9 hmg23 hmg27 hmg30 hmg34 hmg36 hmg39 hmg44 hmg47 hmg48 hmg51 hmg56 hmg59 hmg62 hmg65 hmg66 hmg70 hmF11 hmF12 hmF13 hmF15 hmF19 hmF21 hmF24 hmF25 hmF26 hmF33 hmF38 hmF41 hmF43 hmF45 hmF46 hmF50 hmF53 hmF54 hmLQ => ?_)
  obtain ⟨⟨r2, d_g1, d_F0⟩, hr2, hbg1, qo0, qo1⟩ := ok_feed g F y1 y2 y3 y4 y5 hMI
  try dsimp only at qo0
  try dsimp only at qo1
  try dsimp only at hbg1
  have hM1 : MS (upd g 1 d_g1) (upF F 0 d_F0) ((c_G141 tp).toInt) := ⟨(MInv_i hbg1 hmg2 hmg3 hmg4 hmg5 hmg6 hmg7 hmg8 hmg9 hmg23 hmg27 hmg30 hmg34 hmg36 hmg39 hmg44 hmg47 hmg48 hmg51 hmg56 hmg59 hmg62 hmg65 hmg66 hmg70 hmF11 hmF12 hmF13 hmF15 hmF19 hmF21 hmF24 hmF25 hmF26 hmF33 hmF38 hmF41 hmF43 hmF45 hmF46 hmF50 hmF53 hmF54 hmLQ), by show d_g1.toInt = (c_G141 tp).toInt; omega⟩
  have hqx := wp_at (fx_feed g F y1 y2 y3 y4 y5 hMI) hr2
  obtain ⟨_, _, _, qx⟩ := hqx
  try dsimp only at qx
  have hnew0 : c_V0 tb = d_F0 := by
    have hnn : (G 141 tp).toInt = (g 1).toInt := by omega
    by_cases q20 : (g 1).toInt + 20 ≤ 2000
    · rw [px.1 (by omega), qx.1 q20, hr0, hnn]
    · rw [px.2 (by omega), qx.2 (by omega)]; exact hr0
  have hRR1 : RLR (upd g 1 d_g1) (upF F 0 d_F0) la D x (va_up G 141 c_G141) P (va_up V 0 c_V0) O ln cnt := RLR_keep hRR hLB hxc rfl rfl rfl (fun j j1 j2 => (Eq.trans (upF_hi (k := 0) (by decide) j1) rfl)) rfl rfl rfl rfl rfl (fun z hz hl3 => ⟨rfl, rfl⟩) (fun z hz => rfl) (fun z hz hl3 => by have h7 : (la z < 10 ∨ 10 + 1 < la z) := (by omega); exact ⟨rfl, rfl, rfl, rfl, rfl, rfl, rfl, rfl, rfl, rfl, rfl, rfl, rfl, rfl, rfl, rfl, rfl, rfl, (qf_V0 z (h7)), rfl, rfl, rfl, rfl⟩) (Nat.le_refl _) (fun _ _ => rfl)
  have hRW1 : RLW (upd g 1 d_g1) (upF F 0 d_F0) := RLW_keep hRW rfl (fun j j1 j2 => (Eq.trans (upF_hi (k := 0) (by decide) j1) rfl))
  have hTD1 : RTD (upd g 1 d_g1) (upF F 0 d_F0) x (va_up G 141 c_G141) P (va_up V 0 c_V0) ln := RTD_keep hTD hLB rfl rfl rfl rfl (fun z hz => ⟨rfl, rfl, rfl, rfl⟩) (fun z hz hl3 => (by have h7 : (la z < 10 ∨ 10 + 1 < la z) := (by omega); exact ⟨rfl, (qf_V0 z (h7)), rfl⟩))
  have hTA1 : RTA x (va_up G 141 c_G141) P ln := RTA_keep hTA hLB rfl (fun z hz => ⟨rfl, rfl, rfl, rfl, rfl, rfl⟩)
  have hTB1 : RTB (upd g 1 d_g1) (upF F 0 d_F0) x (va_up G 141 c_G141) P (va_up V 0 c_V0) O := fun q hq => RTB_one hTB hRR hLB hq (RVf_eq (fun j j1 j2 => (Eq.trans (upF_hi (k := 0) (by decide) j1) rfl))) (fun z9 h1 => rfl) rfl (fun z hz => ⟨rfl, rfl, rfl, rfl, rfl⟩) (fun z hz h1 h2 => (by have h7 : (la z < 10 ∨ 10 + 1 < la z) := (by omega); exact ⟨rfl, (qf_V0 z (h7)), rfl, rfl⟩))
  have hTC1 : RTC la x (va_up G 141 c_G141) P ln := RTC_keep hTC hLB rfl (fun _ _ _ _ _ _ _ q3 => q3) (fun z hz => ⟨rfl, rfl, rfl, rfl, rfl, rfl, rfl, rfl, rfl, rfl, rfl⟩) (fun _ _ => rfl)
  have hBW1 : RBW (upd g 1 d_g1) (upF F 0 d_F0) := RBW_keep hBW rfl rfl rfl
  have hBM1 : RBM (upd g 1 d_g1) (upF F 0 d_F0) := RBM_keep hBM rfl rfl rfl (fun j j1 j2 => (Eq.trans (upF_hi (k := 0) (by decide) j1) rfl)) rfl rfl rfl rfl rfl
  have hBK1 : RBK (upd g 1 d_g1) (upF F 0 d_F0) la D x (va_up G 141 c_G141) P (va_up V 0 c_V0) O ln cnt := RBK_keep hBK hLB (fun q hq => RVf_eq (fun j j1 j2 => (Eq.trans (upF_hi (k := 0) (by decide) j1) rfl))) (Nat.le_refl _) (fun _ _ => rfl) (fun fl9 s9 => by have z1 := (CInv_FL hI :) fl9 s9; have z2 := (CInv_V3 hI :) fl9 s9; have z3 := clampI (x := V 3 fl9 s9) z2.1; have z4 := congrArg Int32.toInt hr203; have z5 := clampI (x := g 48) (by omega); omega) rfl (fun z hz => ⟨rfl, rfl, rfl, rfl, rfl, rfl, rfl⟩) (fun z hz hl3 => ⟨rfl, rfl⟩) (fun z hz h1 h2 => by obtain ⟨k9, hk9⟩ := h1; exact (by have h7 : (la z < 10 ∨ 10 + 1 < la z) := (by omega); exact ⟨rfl, (qf_V0 z (h7)), rfl⟩)) (Nat.le_refl _) (fun _ _ => rfl) (fun z hz h => h)
  have hBO1 : RBO (upd g 1 d_g1) (upF F 0 d_F0) x (va_up G 141 c_G141) P (va_up V 0 c_V0) := RBO_keep hBO hLB rfl rfl (fun z hz h1 => by have hl9 : la z = 201 := (by have z9 := lk_230.mp (hLB.1 230 fl_230 x z h1).2.2; omega); exact rfl) rfl rfl
  have hMX1 : RMX (upd g 1 d_g1) (upF F 0 d_F0) x (va_up G 141 c_G141) P (va_up V 0 c_V0) := RMX_keep hMX hLB rfl (fun z hz hl3 => ⟨rfl, rfl, rfl⟩) rfl rfl
  have hRL : RLB (upd g 1 d_g1) (upF F 0 d_F0) x tp bk wd (va_up G 141 c_G141) P (va_up V 0 c_V0) O ln cnt := ⟨la, D, tb, wl, wz, hLB, hxc, hlx, hdr, hD0, h140, h0w, h201, h202, hlz, h24, hr203, hnew0, ((qf_V0 wl (show (la wl < 10 ∨ 10 + 1 < la wl) from by omega)).trans hr49), hr50, hRR1, hRW1, hTA1, hTB1, hTC1, hTD1, hBW1, hBM1, hBO1, hBK1, hMX1⟩
  have hC1 : CS kk w (ad x) ((c_G141 tp).toInt) (s7 ((V 3) fl)) (upd g 1 d_g1) (upF F 0 d_F0) := ⟨ad, κ, wd, (va_up G 141 c_G141), P, U, (va_up V 0 c_V0), X, O, kd, ln, cnt, x, tp, bk, fl, rfl, hW1, hT1, hI1, hkx, hκ, h220, h229, h3, rfl, rfl, hRL⟩
  replace hP := va_Psw hP
  replace hD := va_Dsw hD
  have hFc := va_fr2 hD hS hA
  have hPc := va_Pr hP
  have hDc := va_Drr hD
  have hKm : va_K (dC, dI) vwCl (mT (kk 0) (kk 1) (kk 2)) s := hK.sub [0, 1, 2] rfl
  refine va_calli (va_runV (As := [.int y1, .int y2, .int y3, .int y4, .int y5]) (rest := []) ⟨hx, hb, hml, hown, hts⟩ (m_feed l dC dI H.size h0 (kk 0) (kk 1) (kk 2) q g F y1 y2 y3 y4 y5 r2 d_g1 d_F0 hr2) (cwV 5 hts gl_X12_feed rfl rfl rfl (by decide +kernel) ⟨Nat.le_of_ble_eq_true rfl, Nat.le_of_ble_eq_true rfl⟩) ⟨fun a U g mk q => by obtain ⟨q0, q1, qP, qK, qD⟩ := q; exact ⟨q0, q1, qP, va_K.moved (u := U) (U := U.calling g mk a) (Vm.Alike.refl U.vm) qK, qD⟩, va_recv hKm hPc (ci := 12) (q0 := 0) rfl rfl, fun U hU hW => ⟨rfl, by rw [hU], by rw [hU]; exact hPc, va_K.moved hW.alike hKm, hDc.weaken (fun _ _ _ _ => trivial)⟩⟩ rfl rfl hl.1 rfl (lv_room (Nat.le_of_ble_eq_true rfl)) dL_law_204 ⟨by show _ ≤ (600000 : Nat); omega, by show _ ≤ (7302250 : Nat); omega⟩) hS (fun q _ h => hFc q h) hFc (fun rr2 u t H1 locs ht1 hvm hw hB hz1 hk1 hS => ?_)
  subst hw
  obtain ⟨hP1, hK1, hD1⟩ := hB
  rw [ht1] at hP1
  obtain ⟨hP, hD⟩ := va_join2 hP hD hk1 hFc hP1 hD1
  replace hP := va_Psw hP
  replace hD := va_Dsw hD
  refine lv_pop hx hb dL_law_207 rfl ?_
  refine lv_goto (tgt := 833) hx hb dL_law_208 (by decide) ?_
  exact kont w (upd g 1 d_g1) (upF F 0 d_F0) ((c_G141 tp).toInt) (s7 ((V 3) fl)) _ _ _ _ hC1 hM1 (by omega) (by omega) hP hD hS
set_option maxHeartbeats 8000000 in
set_option maxRecDepth 100000 in
theorem law_1 {p : Program} {e : Env} {s : State} {m : MethodId} {below : List Frame} {meth : Method} {c : Code} (l : Launch) {b L : Nat} {xs : Nat → Int32} {A : Nat → Prop} {dC : Nat → ClassId} {dI : Nat → Nat → Nat} {kk : Nat → ClassId} {adK adV : Nat → Nat} (C0 : lw_At p s m meth c b L xs) (hL : L ≤ 3072) (hA : ∀ q : Nat, s.heap.size ≤ q → A q) (hbA : ¬ A b) (hE : EnvOK s) (hSE : SE adK adV A s) (hK : va_K (dC, dI) vwCl (cT kk) s) {i : Int32} (hi : 0 ≤ i.toInt ∧ i.toInt + 6 ≤ (L : Int)) {ws : va_W} {xa h0 : Nat} {q : Nat → Nat} {g : Nat → Int32} {F : Nat → Nat → Int32} {n σ B1 B2 : Int} {H : Heap} {locs : List Loc} {ls : Array Slot} {cells slots : Nat} (hC : CS kk ws xa n σ g F) (hM : MS g F n) (hB1 : (cells : Int) + 10 * n ≤ B1 + 3 * σ) (hB2 : (slots : Int) + 118 * n ≤ B2 + 2504 * σ) (hc1 : B1 ≤ 590000) (hc2 : B2 ≤ 5500000) (hP : va_P (dC, dI) vwCl ((mW h0 (kk 0) (kk 1) (kk 2) q g F) ++ ws) H) (hD : va_D A ((mW h0 (kk 0) (kk 1) (kk 2) q g F) ++ ws)) (hS : va_S A s.heap H locs) (hl : lv_has ls 4 [(3, .int i), (2, .ref h0), (1, .ref xa), (0, .ref b)]) (kont : ∀ (ws : va_W) (g : Nat → Int32) (F : Nat → Nat → Int32) (n σ : Int) (H : Heap) (locs : List Loc) (cells slots : Nat), CS kk ws xa n σ g F → MS g F n → (cells : Int) + 10 * n ≤ B1 + 228 + 3 * σ → (slots : Int) + 118 * n ≤ B2 + 6860 + 2504 * σ → va_P (dC, dI) vwCl ((mW h0 (kk 0) (kk 1) (kk 2) q g F) ++ ws) H → va_D A ((mW h0 (kk 0) (kk 1) (kk 2) q g F) ++ ws) → va_S A s.heap H locs → W p l e room_1 s m #[Value.ref b] below meth c H locs cells slots (lw_Z below #[Value.ref b] s) (F0 m 833 ls [])) : W p l e room_1 s m #[Value.ref b] below meth c H locs cells slots (lw_Z below #[Value.ref b] s) (F0 m 211 ls []) := by
  obtain ⟨hx, hb, hr9, hml, hown, hts0, hX, hbl, hlocks, hgv⟩ := C0
  have hts := fun w h => hts0 w (wL_tb w h)
  obtain ⟨ad, κ, wd, G, P, U, V, X, O, kd, ln, cnt, x, tp, bk, fl, rfl, hW, hT, hI, hkx, hκ, h220, h229, h3, hn, hσ, hR⟩ := hC
  have hk220 := (((CInv_P220 hI :) x).2 tp h220).1
  have hk229 := (((CInv_P229 hI :) x).2 bk h229).1
  have hs0 := s7_b (CInv_V3 hI :) fl
  have hn0 := (CInv_G141 hI :) tp
  have hj1 : (i + 1).toInt = i.toInt + 1 := z_addc (by decide +kernel) (by omega) (by omega)
  refine lv_aload_n hx hb dL_law_211 rfl (lv_at hl 2 rfl) ?_
  refine lv_aload_n hx hb dL_law_212 rfl (lv_at hl 3 rfl) ?_
  refine lv_iload_n hx hb dL_law_213 rfl (lv_at hl 0 rfl) ?_
  refine lv_iconst (v := 1) hx hb dL_law_214 (by decide +kernel) ?_
  refine lv_iadd hx hb dL_law_215 ?_
  refine va_sld hx hb hX hbl hbA hS (z_in (by omega) (by omega)) dL_law_216 ?_
  refine lv_topi (fun y1 ey1 => ?_)
  obtain ⟨⟨r1, c_G141⟩, hr1, hnG141, po0⟩ := ok_X11_end κ wd G P U V X O kd ln cnt x y1 (CInv_G141 hI :) (CInv_P220 hI :) (CInv_LN hI :) hκ
  have hI1 : CInv κ wd (va_up G 141 c_G141) P V O ln cnt := (CInv_i (CInv_G43 hI :) (CInv_G44 hI :) (CInv_G45 hI :) (CInv_G60 hI :) (CInv_G83 hI :) (CInv_G84 hI :) (CInv_G85 hI :) (CInv_G87 hI :) (CInv_G88 hI :) (CInv_G102 hI :) (CInv_G125 hI :) (CInv_G126 hI :) (CInv_G127 hI :) hnG141 (CInv_G160 hI :) (CInv_G161 hI :) (CInv_G162 hI :) (CInv_G165 hI :) (CInv_G166 hI :) (CInv_G183 hI :) (CInv_G200 hI :) (CInv_G203 hI :) (CInv_G222 hI :) (CInv_G231 hI :) (CInv_G233 hI :) (CInv_P0 hI :) (CInv_P1 hI :) (CInv_P2 hI :) (CInv_P3 hI :) (CInv_P4 hI :) (CInv_P5 hI :) (CInv_P20 hI :) (CInv_P21 hI :) (CInv_P22 hI :) (CInv_P23 hI :) (CInv_P40 hI :) (CInv_P41 hI :) (CInv_P42 hI :) (CInv_P61 hI :) (CInv_P62 hI :) (CInv_P63 hI :) (CInv_P64 hI :) (CInv_P65 hI :) (CInv_P66 hI :) (CInv_P82 hI :) (CInv_P101 hI :) (CInv_P103 hI :) (CInv_P104 hI :) (CInv_P105 hI :) (CInv_P106 hI :) (CInv_P108 hI :) (CInv_P109 hI :) (CInv_P110 hI :) (CInv_P120 hI :) (CInv_P121 hI :) (CInv_P122 hI :) (CInv_P123 hI :) (CInv_P140 hI :) (CInv_P164 hI :) (CInv_P180 hI :) (CInv_P181 hI :) (CInv_P182 hI :) (CInv_P185 hI :) (CInv_P186 hI :) (CInv_P187 hI :) (CInv_P201 hI :) (CInv_P202 hI :) (CInv_P220 hI :) (CInv_P221 hI :) (CInv_P224 hI :) (CInv_P225 hI :) (CInv_P226 hI :) (CInv_P227 hI :) (CInv_P228 hI :) (CInv_P229 hI :) (CInv_P230 hI :) (CInv_P232 hI :) (CInv_P234 hI :) (CInv_P235 hI :) (CInv_P236 hI :) (CInv_V1 hI :) (CInv_V2 hI :) (CInv_V3 hI :) (CInv_V9 hI :) (CInv_O0 hI :) (CInv_O1 hI :) (CInv_O2 hI :) (CInv_RA hI :) (CInv_RB hI :) (CInv_RI hI :) (CInv_RM103 hI :) (CInv_RM104 hI :) (CInv_RM108 hI :) (CInv_LN hI :) (CInv_FL hI :) (CInv_W0 hI :) (CInv_KC hI :) (CInv_WK hI :))
  dsimp only at po0
  try dsimp only at hnG141
  have ht := po0 tp h220
  have hn1 := hnG141 tp
  obtain ⟨la, D, tb, wl, wz, hLB, hxc, hlx, hdr, hD0, h140, h0w, h201, h202, hlz, h24, hr203, hr0, hr49, hr50, hRR, hRW, hTA, hTB, hTC, hTD, hBW, hBM, hBO, hBK, hMX⟩ := hR
  have ltp := (hLB.1 220 fl_220 x tp h220).2.1
  have lbp : la tp = 10 := lk_220.mp (hLB.1 220 fl_220 x tp h220).2.2
  have ltb := (hLB.1 140 fl_140 tp tb h140).2.1
  have lbb : la tb = la tp + 1 := lk_140.mp (hLB.1 140 fl_140 tp tb h140).2.2
  obtain ⟨_, lbk, _⟩ := hLB.1 229 fl_229 x bk h229
  have lwd := (hLB.1 0 fl_0 bk wd h0w).2.1
  have lbw : la wd = 20 := lk_0.mp (hLB.1 0 fl_0 bk wd h0w).2.2
  have lwl := (hLB.1 201 fl_201 wd wl h201).2.1
  have lbl : la wl = la wd + 0 := lk_201.mp (hLB.1 201 fl_201 wd wl h201).2.2
  have lwz := (hLB.1 202 fl_202 wd wz h202).2.1
  have lbz : la wz = la wd + 0 := lk_202.mp (hLB.1 202 fl_202 wd wz h202).2.2
  have qf_G141 : (∀ z, ((la z < 10 ∨ 10 < la z)) → c_G141 z = (G 141) z) := fr_X11_end la G P U V X O kd ln cnt x y1 hLB hlx _ hr1
  have hFc := va_fr2 hD hS hA
  have hPc := va_Pr hP
  have hDc := va_Drr hD
  obtain ⟨i0, hi0⟩ := hW.o11 hkx
  refine va_calli (va_runV (As := [.int y1]) (rest := []) ⟨hx, hb, hml, hown, hts⟩ (m_X11_end l dC dI kk ad H.size ws G P U V X O kd ln cnt x y1 hkx hW hT r1 c_G141 hr1) (cwV 1 hts gl_X11_end rfl rfl rfl (by decide +kernel) ⟨Nat.le_of_ble_eq_true rfl, Nat.le_of_ble_eq_true rfl⟩) ⟨fun a U g mk q => by obtain ⟨q0, q1, qP, qK, qD⟩ := q; exact ⟨q0, q1, qP, va_K.moved (u := U) (U := U.calling g mk a) (Vm.Alike.refl U.vm) qK, qD⟩, va_recv hK hPc (ci := 11) (q0 := i0) rfl hi0, fun U hU hW => ⟨rfl, by rw [hU], by rw [hU]; exact hPc, va_K.moved hW.alike hK, hDc.weaken (fun _ _ _ _ => trivial)⟩⟩ rfl rfl hl.1 rfl (lv_room (Nat.le_of_ble_eq_true rfl)) dL_law_217 ⟨by show _ ≤ (600000 : Nat); omega, by show _ ≤ (7302250 : Nat); omega⟩) hS (fun q _ h => hFc q h) hFc (fun rr w t H1 locs ht1 hvm hw hB hz1 hk1 hS => ?_)
  obtain ⟨hw0, hW1, hT1⟩ := hw
  subst hw0
  obtain ⟨hP1, hK1, hD1⟩ := hB
  rw [ht1] at hP1
  obtain ⟨hP, hD⟩ := va_join2 hP hD hk1 hFc hP1 hD1
  clear hFc hPc hDc hk1 hz1 hvm ht1 hP1 hD1 hK1
  generalize H1 = H at hP hS ⊢
  refine lv_pop hx hb dL_law_220 rfl ?_
  refine lv_aload_n hx hb dL_law_221 rfl (lv_at hl 1 rfl) ?_
  refine lv_aload_n hx hb dL_law_222 rfl (lv_at hl 3 rfl) ?_
  refine lv_iload_n hx hb dL_law_223 rfl (lv_at hl 0 rfl) ?_
  refine lv_iconst (v := 1) hx hb dL_law_224 (by decide +kernel) ?_
  refine lv_iadd hx hb dL_law_225 ?_
  refine va_sld hx hb hX hbl hbA hS (z_in (by omega) (by omega)) dL_law_226 ?_
  refine lv_topi (fun z1 ez1 => ?_)
  obtain rfl : y1 = z1 := ey1.trans ez1.symm
  obtain ⟨hMI, hgn⟩ := hM
  refine MInv_e hMI (fun hmg1 hmg2 hmg3 hmg4 hmg5 hmg6 hmg7 hmg8 hmg9 hmg23 hmg27 hmg30 hmg34 hmg36 hmg39 hmg44 hmg47 hmg48 hmg51 hmg56 hmg59 hmg62 hmg65 hmg66 hmg70 hmF11 hmF12 hmF13 hmF15 hmF19 hmF21 hmF24 hmF25 hmF26 hmF33 hmF38 hmF41 hmF43 hmF45 hmF46 hmF50 hmF53 hmF54 hmLQ => ?_)
  obtain ⟨⟨r2, d_g1⟩, hr2, hbg1, qo0, qo1⟩ := ok_end g F y1 hMI
  try dsimp only at qo0
  try dsimp only at qo1
  try dsimp only at hbg1
  have hM1 : MS (upd g 1 d_g1) F ((c_G141 tp).toInt) := ⟨(MInv_i hbg1 hmg2 hmg3 hmg4 hmg5 hmg6 hmg7 hmg8 hmg9 hmg23 hmg27 hmg30 hmg34 hmg36 hmg39 hmg44 hmg47 hmg48 hmg51 hmg56 hmg59 hmg62 hmg65 hmg66 hmg70 hmF11 hmF12 hmF13 hmF15 hmF19 hmF21 hmF24 hmF25 hmF26 hmF33 hmF38 hmF41 hmF43 hmF45 hmF46 hmF50 hmF53 hmF54 hmLQ), by show d_g1.toInt = (c_G141 tp).toInt; omega⟩
  have hRR1 : RLR (upd g 1 d_g1) F la D x (va_up G 141 c_G141) P V O ln cnt := RLR_keep hRR hLB hxc rfl rfl rfl (fun j j1 j2 => rfl) rfl rfl rfl rfl rfl (fun z hz hl3 => ⟨rfl, rfl⟩) (fun z hz => rfl) (fun z hz hl3 => ⟨rfl, rfl, rfl, rfl, rfl, rfl, rfl, rfl, rfl, rfl, rfl, rfl, rfl, rfl, rfl, rfl, rfl, rfl, rfl, rfl, rfl, rfl, rfl⟩) (Nat.le_refl _) (fun _ _ => rfl)
  have hRW1 : RLW (upd g 1 d_g1) F := RLW_keep hRW rfl (fun j j1 j2 => rfl)
  have hTD1 : RTD (upd g 1 d_g1) F x (va_up G 141 c_G141) P V ln := RTD_keep hTD hLB rfl rfl rfl rfl (fun z hz => ⟨rfl, rfl, rfl, rfl⟩) (fun z hz hl3 => ⟨rfl, rfl, rfl⟩)
  have hTA1 : RTA x (va_up G 141 c_G141) P ln := RTA_keep hTA hLB rfl (fun z hz => ⟨rfl, rfl, rfl, rfl, rfl, rfl⟩)
  have hTB1 : RTB (upd g 1 d_g1) F x (va_up G 141 c_G141) P V O := fun q hq => RTB_one hTB hRR hLB hq (RVf_eq (fun j j1 j2 => rfl)) (fun z9 h1 => rfl) rfl (fun z hz => ⟨rfl, rfl, rfl, rfl, rfl⟩) (fun z hz h1 h2 => ⟨rfl, rfl, rfl, rfl⟩)
  have hTC1 : RTC la x (va_up G 141 c_G141) P ln := RTC_keep hTC hLB rfl (fun _ _ _ _ _ _ _ q3 => q3) (fun z hz => ⟨rfl, rfl, rfl, rfl, rfl, rfl, rfl, rfl, rfl, rfl, rfl⟩) (fun _ _ => rfl)
  have hBW1 : RBW (upd g 1 d_g1) F := RBW_keep hBW rfl rfl rfl
  have hBM1 : RBM (upd g 1 d_g1) F := RBM_keep hBM rfl rfl rfl (fun j j1 j2 => rfl) rfl rfl rfl rfl rfl
  have hBK1 : RBK (upd g 1 d_g1) F la D x (va_up G 141 c_G141) P V O ln cnt := RBK_keep hBK hLB (fun q hq => RVf_eq (fun j j1 j2 => rfl)) (Nat.le_refl _) (fun _ _ => rfl) (fun fl9 s9 => by have z1 := (CInv_FL hI :) fl9 s9; have z2 := (CInv_V3 hI :) fl9 s9; have z3 := clampI (x := V 3 fl9 s9) z2.1; have z4 := congrArg Int32.toInt hr203; have z5 := clampI (x := g 48) (by omega); omega) rfl (fun z hz => ⟨rfl, rfl, rfl, rfl, rfl, rfl, rfl⟩) (fun z hz hl3 => ⟨rfl, rfl⟩) (fun z hz h1 h2 => by obtain ⟨k9, hk9⟩ := h1; exact ⟨rfl, rfl, rfl⟩) (Nat.le_refl _) (fun _ _ => rfl) (fun z hz h => h)
  have hBO1 : RBO (upd g 1 d_g1) F x (va_up G 141 c_G141) P V := RBO_keep hBO hLB rfl rfl (fun z hz h1 => by have hl9 : la z = 201 := (by have z9 := lk_230.mp (hLB.1 230 fl_230 x z h1).2.2; omega); exact rfl) rfl rfl
  have hMX1 : RMX (upd g 1 d_g1) F x (va_up G 141 c_G141) P V := RMX_keep hMX hLB rfl (fun z hz hl3 => ⟨rfl, rfl, rfl⟩) rfl rfl
  have hRL : RLB (upd g 1 d_g1) F x tp bk wd (va_up G 141 c_G141) P V O ln cnt := ⟨la, D, tb, wl, wz, hLB, hxc, hlx, hdr, hD0, h140, h0w, h201, h202, hlz, h24, hr203, hr0, hr49, hr50, hRR1, hRW1, hTA1, hTB1, hTC1, hTD1, hBW1, hBM1, hBO1, hBK1, hMX1⟩
  have hC1 : CS kk w (ad x) ((c_G141 tp).toInt) (s7 ((V 3) fl)) (upd g 1 d_g1) F := ⟨ad, κ, wd, (va_up G 141 c_G141), P, U, V, X, O, kd, ln, cnt, x, tp, bk, fl, rfl, hW1, hT1, hI1, hkx, hκ, h220, h229, h3, rfl, rfl, hRL⟩
  replace hP := va_Psw hP
  replace hD := va_Dsw hD
  have hFc := va_fr2 hD hS hA
  have hPc := va_Pr hP
  have hDc := va_Drr hD
  have hKm : va_K (dC, dI) vwCl (mT (kk 0) (kk 1) (kk 2)) s := hK.sub [0, 1, 2] rfl
  refine va_calli (va_runV (As := [.int y1]) (rest := []) ⟨hx, hb, hml, hown, hts⟩ (m_end l dC dI H.size h0 (kk 0) (kk 1) (kk 2) q g F y1 r2 d_g1 hr2) (cwV 1 hts gl_X12_end rfl rfl rfl (by decide +kernel) ⟨Nat.le_of_ble_eq_true rfl, Nat.le_of_ble_eq_true rfl⟩) ⟨fun a U g mk q => by obtain ⟨q0, q1, qP, qK, qD⟩ := q; exact ⟨q0, q1, qP, va_K.moved (u := U) (U := U.calling g mk a) (Vm.Alike.refl U.vm) qK, qD⟩, va_recv hKm hPc (ci := 12) (q0 := 0) rfl rfl, fun U hU hW => ⟨rfl, by rw [hU], by rw [hU]; exact hPc, va_K.moved hW.alike hKm, hDc.weaken (fun _ _ _ _ => trivial)⟩⟩ rfl rfl hl.1 rfl (lv_room (Nat.le_of_ble_eq_true rfl)) dL_law_227 ⟨by show _ ≤ (600000 : Nat); omega, by show _ ≤ (7302250 : Nat); omega⟩) hS (fun q _ h => hFc q h) hFc (fun rr2 u t H1 locs ht1 hvm hw hB hz1 hk1 hS => ?_)
  subst hw
  obtain ⟨hP1, hK1, hD1⟩ := hB
  rw [ht1] at hP1
  obtain ⟨hP, hD⟩ := va_join2 hP hD hk1 hFc hP1 hD1
  replace hP := va_Psw hP
  replace hD := va_Dsw hD
  refine lv_pop hx hb dL_law_230 rfl ?_
  refine lv_goto (tgt := 833) hx hb dL_law_231 (by decide) ?_
  exact kont w (upd g 1 d_g1) F ((c_G141 tp).toInt) (s7 ((V 3) fl)) _ _ _ _ hC1 hM1 (by omega) (by omega) hP hD hS
set_option maxHeartbeats 8000000 in
set_option maxRecDepth 100000 in
theorem law_2 {p : Program} {e : Env} {s : State} {m : MethodId} {below : List Frame} {meth : Method} {c : Code} (l : Launch) {b L : Nat} {xs : Nat → Int32} {A : Nat → Prop} {dC : Nat → ClassId} {dI : Nat → Nat → Nat} {kk : Nat → ClassId} {adK adV : Nat → Nat} (C0 : lw_At p s m meth c b L xs) (hL : L ≤ 3072) (hA : ∀ q : Nat, s.heap.size ≤ q → A q) (hbA : ¬ A b) (hE : EnvOK s) (hSE : SE adK adV A s) (hK : va_K (dC, dI) vwCl (cT kk) s) {i : Int32} (hi : 0 ≤ i.toInt ∧ i.toInt + 6 ≤ (L : Int)) {ws : va_W} {xa h0 : Nat} {q : Nat → Nat} {g : Nat → Int32} {F : Nat → Nat → Int32} {n σ B1 B2 : Int} {H : Heap} {locs : List Loc} {ls : Array Slot} {cells slots : Nat} (hC : CS kk ws xa n σ g F) (hM : MS g F n) (hB1 : (cells : Int) + 10 * n ≤ B1 + 3 * σ) (hB2 : (slots : Int) + 118 * n ≤ B2 + 2504 * σ) (hc1 : B1 ≤ 590000) (hc2 : B2 ≤ 5500000) (hP : va_P (dC, dI) vwCl ((mW h0 (kk 0) (kk 1) (kk 2) q g F) ++ ws) H) (hD : va_D A ((mW h0 (kk 0) (kk 1) (kk 2) q g F) ++ ws)) (hS : va_S A s.heap H locs) (hl : lv_has ls 4 [(3, .int i), (2, .ref h0), (1, .ref xa), (0, .ref b)]) (kont : ∀ (ws : va_W) (g : Nat → Int32) (F : Nat → Nat → Int32) (n σ : Int) (H : Heap) (locs : List Loc) (cells slots : Nat), CS kk ws xa n σ g F → MS g F n → (cells : Int) + 10 * n ≤ B1 + 228 + 3 * σ → (slots : Int) + 118 * n ≤ B2 + 6860 + 2504 * σ → va_P (dC, dI) vwCl ((mW h0 (kk 0) (kk 1) (kk 2) q g F) ++ ws) H → va_D A ((mW h0 (kk 0) (kk 1) (kk 2) q g F) ++ ws) → va_S A s.heap H locs → W p l e room_1 s m #[Value.ref b] below meth c H locs cells slots (lw_Z below #[Value.ref b] s) (F0 m 833 ls [])) : W p l e room_1 s m #[Value.ref b] below meth c H locs cells slots (lw_Z below #[Value.ref b] s) (F0 m 234 ls []) := by
  obtain ⟨hx, hb, hr9, hml, hown, hts0, hX, hbl, hlocks, hgv⟩ := C0
  have hts := fun w h => hts0 w (wL_tb w h)
  obtain ⟨ad, κ, wd, G, P, U, V, X, O, kd, ln, cnt, x, tp, bk, fl, rfl, hW, hT, hI, hkx, hκ, h220, h229, h3, hn, hσ, hR⟩ := hC
  have hk220 := (((CInv_P220 hI :) x).2 tp h220).1
  have hk229 := (((CInv_P229 hI :) x).2 bk h229).1
  have hs0 := s7_b (CInv_V3 hI :) fl
  have hn0 := (CInv_G141 hI :) tp
  have hj1 : (i + 1).toInt = i.toInt + 1 := z_addc (by decide +kernel) (by omega) (by omega)
  refine lv_aload_n hx hb dL_law_234 rfl (lv_at hl 2 rfl) ?_
  refine lv_aload_n hx hb dL_law_235 rfl (lv_at hl 3 rfl) ?_
  refine lv_iload_n hx hb dL_law_236 rfl (lv_at hl 0 rfl) ?_
  refine lv_iconst (v := 1) hx hb dL_law_237 (by decide +kernel) ?_
  refine lv_iadd hx hb dL_law_238 ?_
  refine va_sld hx hb hX hbl hbA hS (z_in (by omega) (by omega)) dL_law_239 ?_
  refine lv_topi (fun y1 ey1 => ?_)
  obtain ⟨⟨⟨r1, c_G, c_P, c_U, c_V, c_X, c_O, c_kd, c_ln, c_cnt⟩, uc, us⟩, hr1, κ1, hI1, hkx1, hcc, hf_P220, hf_P229, hf_P3, hf_P0, hf_V3, hf_G160, hf_ln, po0, po1⟩ := ok_X11_reform κ wd G P U V X O kd ln cnt x y1 hI hκ
  dsimp only at po0
  dsimp only at po1
  have hf220 := (hf_P220 x (by rw [hκ]; decide)).trans h220
  have hf229 := (hf_P229 x (by rw [hκ]; decide)).trans h229
  have hf3 := (hf_P3 bk (by rw [hk229]; decide)).trans h3
  have ht := po0 tp h220
  have hcost := po1 tp h220
  have hs7 : s7 (c_V 3 fl) = s7 (V 3 fl) := congrArg s7 (hf_V3 fl (by rw [(((CInv_P3 hI :) bk).2 fl h3).1]; decide))
  have hs1 := s7_b (show rng2 0 100 (c_V 3) from by obtain ⟨hwG43, hwG44, hwG45, hwG60, hwG83, hwG84, hwG85, hwG87, hwG88, hwG102, hwG125, hwG126, hwG127, hwG141, hwG160, hwG161, hwG162, hwG165, hwG166, hwG183, hwG200, hwG203, hwG222, hwG231, hwG233, hwP0, hwP1, hwP2, hwP3, hwP4, hwP5, hwP20, hwP21, hwP22, hwP23, hwP40, hwP41, hwP42, hwP61, hwP62, hwP63, hwP64, hwP65, hwP66, hwP82, hwP101, hwP103, hwP104, hwP105, hwP106, hwP108, hwP109, hwP110, hwP120, hwP121, hwP122, hwP123, hwP140, hwP164, hwP180, hwP181, hwP182, hwP185, hwP186, hwP187, hwP201, hwP202, hwP220, hwP221, hwP224, hwP225, hwP226, hwP227, hwP228, hwP229, hwP230, hwP232, hwP234, hwP235, hwP236, hwV1, hwV2, hwV3, hwV9, hwO0, hwO1, hwO2, hwRA, hwRB, hwRI, hwRM103, hwRM104, hwRM108, hwLN, hwFL, hwW0, hwKC, hwWK⟩ := hI1; exact hwV3) fl
  have hn1 := (show rng 0 2000 (c_G 141) from by obtain ⟨hwG43, hwG44, hwG45, hwG60, hwG83, hwG84, hwG85, hwG87, hwG88, hwG102, hwG125, hwG126, hwG127, hwG141, hwG160, hwG161, hwG162, hwG165, hwG166, hwG183, hwG200, hwG203, hwG222, hwG231, hwG233, hwP0, hwP1, hwP2, hwP3, hwP4, hwP5, hwP20, hwP21, hwP22, hwP23, hwP40, hwP41, hwP42, hwP61, hwP62, hwP63, hwP64, hwP65, hwP66, hwP82, hwP101, hwP103, hwP104, hwP105, hwP106, hwP108, hwP109, hwP110, hwP120, hwP121, hwP122, hwP123, hwP140, hwP164, hwP180, hwP181, hwP182, hwP185, hwP186, hwP187, hwP201, hwP202, hwP220, hwP221, hwP224, hwP225, hwP226, hwP227, hwP228, hwP229, hwP230, hwP232, hwP234, hwP235, hwP236, hwV1, hwV2, hwV3, hwV9, hwO0, hwO1, hwO2, hwRA, hwRB, hwRI, hwRM103, hwRM104, hwRM108, hwLN, hwFL, hwW0, hwKC, hwWK⟩ := hI1; exact hwG141) tp
  obtain ⟨la, D, tb, wl, wz, hLB, hxc, hlx, hdr, hD0, h140, h0w, h201, h202, hlz, h24, hr203, hr0, hr49, hr50, hRR, hRW, hTA, hTB, hTC, hTD, hBW, hBM, hBO, hBK, hMX⟩ := hR
  have ltp := (hLB.1 220 fl_220 x tp h220).2.1
  have lbp : la tp = 10 := lk_220.mp (hLB.1 220 fl_220 x tp h220).2.2
  have ltb := (hLB.1 140 fl_140 tp tb h140).2.1
  have lbb : la tb = la tp + 1 := lk_140.mp (hLB.1 140 fl_140 tp tb h140).2.2
  obtain ⟨_, lbk, _⟩ := hLB.1 229 fl_229 x bk h229
  have lwd := (hLB.1 0 fl_0 bk wd h0w).2.1
  have lbw : la wd = 20 := lk_0.mp (hLB.1 0 fl_0 bk wd h0w).2.2
  have lwl := (hLB.1 201 fl_201 wd wl h201).2.1
  have lbl : la wl = la wd + 0 := lk_201.mp (hLB.1 201 fl_201 wd wl h201).2.2
  have lwz := (hLB.1 202 fl_202 wd wz h202).2.1
  have lbz : la wz = la wd + 0 := lk_202.mp (hLB.1 202 fl_202 wd wz h202).2.2
  obtain ⟨la1, hag, hLB1, hcc1, fG, fP, fU, fV, fX, fO, fln, hpo7⟩ : ∃ la9 : Nat → Nat, (∀ z, z < cnt → la9 z = la z) ∧ LB la9 c_cnt c_P ∧ cnt ≤ c_cnt ∧ FRM cnt [24, 25, 80, 81, 83, 84, 85, 86, 87, 88, 100, 102, 107, 141, 183, 203, 222, 223] (fun z => (la z < 10 ∨ 10 < la z) ∧ (la z < 300 ∨ 300 < la z) ∧ (la z < 90 ∨ 90 + 8 < la z) ∧ (la z < 200 ∨ 200 + 3 < la z) ∧ (la z < D ∨ D + 5 < la z)) G c_G ∧ FRM cnt [22, 23, 82, 181, 182, 224] (fun z => (la z < 10 ∨ 10 < la z) ∧ (la z < 300 ∨ 300 < la z) ∧ (la z < 90 ∨ 90 + 8 < la z) ∧ (la z < 200 ∨ 200 + 3 < la z) ∧ (la z < D ∨ D + 5 < la z)) P c_P ∧ FRM cnt [184] (fun z => (la z < 10 ∨ 10 < la z) ∧ (la z < 300 ∨ 300 < la z) ∧ (la z < 90 ∨ 90 + 8 < la z) ∧ (la z < 200 ∨ 200 + 3 < la z) ∧ (la z < D ∨ D + 5 < la z)) U c_U ∧ FRM cnt [0, 1, 10, 11] (fun z => (la z < 10 ∨ 10 < la z) ∧ (la z < 300 ∨ 300 < la z) ∧ (la z < 90 ∨ 90 + 8 < la z) ∧ (la z < 200 ∨ 200 + 3 < la z) ∧ (la z < D ∨ D + 5 < la z)) V c_V ∧ FRM cnt [0] (fun z => (la z < 10 ∨ 10 < la z) ∧ (la z < 300 ∨ 300 < la z) ∧ (la z < 90 ∨ 90 + 8 < la z) ∧ (la z < 200 ∨ 200 + 3 < la z) ∧ (la z < D ∨ D + 5 < la z)) X c_X ∧ FRM cnt [0, 2] (fun z => (la z < 10 ∨ 10 < la z) ∧ (la z < 300 ∨ 300 < la z) ∧ (la z < 90 ∨ 90 + 8 < la z) ∧ (la z < 200 ∨ 200 + 3 < la z) ∧ (la z < D ∨ D + 5 < la z)) O c_O ∧ (∀ z, z < cnt → c_ln z = ln z) ∧ (∃ D1, (∀ b, c_P 224 x = some b → b < c_cnt ∧ la9 b = D1) ∧ (D1 = D ∨ 100000 + 10 * cnt ≤ D1)) := fr_X11_reform la G P U V X O kd ln cnt x y1 D hLB hxc hlx hdr _ hr1
  obtain ⟨rd, dr, ra, ⟨a1, a2, a3⟩, ⟨b1, b2, b3⟩, ⟨c1, c2, c3⟩, d1, d2, d3⟩ := id hRR
  obtain ⟨er, br, pr, kp, lr, le, lb, lp, se, sb, sp, hpt⟩ := id b2
  have hnn : Int32.toNatClampNeg (G 141 tp) = Int32.toNatClampNeg (g 1) := congrArg Int.toNat (hn.trans hM.2.symm)
  obtain ⟨dr9, e9, tr9, ph9, tl9, ts9, ⟨v5, v6, v7, v8⟩, v9, v10⟩ := id hTA
  have e8 : dr9 = dr := Option.some.inj (e9.symm.trans a2)
  rw [e8] at v5 v6
  obtain ⟨tn9, nw9, nx9, wh9, pg9, fi9, pa9, pk9, sz9, cl9, ah9, bh9, lah9, sah9, lbh9, sbh9, ⟨v1, v2, v3, v4⟩, _⟩ := RTC_ord hTC
  have px : QF_X11_reform κ wd la G P U V X O kd ln cnt x y1 D (F 0) (Int32.toNatClampNeg (g 1)) (G 223 x).toInt tp tb rd dr ra er br pr kp lr le lb lp se sb sp tr9 ph9 tl9 ts9 tn9 nw9 nx9 (r1, c_G, c_P, c_U, c_V, c_X, c_O, c_kd, c_ln, c_cnt) := (fn_X11_reform κ wd la G P U V X O kd ln cnt x y1 D (F 0) (Int32.toNatClampNeg (g 1)) (G 223 x).toInt tp tb rd dr ra er br pr kp lr le lb lp se sb sp tr9 ph9 tl9 ts9 tn9 nw9 nx9 hI hκ hLB hxc hlx hdr h220 h140 a1 a2 a3 hpt hr0 hnn rfl (by omega) v5 v6 v7 v8 v9 v10 v1 v2 v3 v4 (fun i => by rw [← hr0]; exact hT.2.2.1 tb i)) _ hr1
  obtain ⟨la2, hag2, hLB2, k0, k1, k2, k3, k4, k5, k6, k7, k8⟩ := px
  dsimp only at hLB2 k0 k1 k2 k3 k4 k5 k6 k7 k8
  have hFc := va_fr2 hD hS hA
  have hPc := va_Pr hP
  have hDc := va_Drr hD
  obtain ⟨i0, hi0⟩ := hW.o11 hkx
  refine va_calli (va_runV (As := [.int y1]) (rest := []) ⟨hx, hb, hml, hown, hts⟩ (m_X11_reform l dC dI adK adV kk ad H.size ws G P U V X O kd ln cnt x y1 hkx hW hT r1 c_G c_P c_U c_V c_X c_O c_kd c_ln c_cnt uc us hr1) (cwV 1 hts gl_X11_reform rfl rfl rfl (by decide +kernel) ⟨Nat.le_of_ble_eq_true rfl, Nat.le_of_ble_eq_true rfl⟩) ⟨fun a U g mk q => by obtain ⟨q0, q1, qP, qK, qD, qS, qE⟩ := q; exact ⟨q0, q1, qP, va_K.moved (u := U) (U := U.calling g mk a) (Vm.Alike.refl U.vm) qK, qD, qS.calling, en_call qE⟩, va_recv hK hPc (ci := 11) (q0 := i0) rfl hi0, fun U hU hW => ⟨rfl, by rw [hU], by rw [hU]; exact hPc, va_K.moved hW.alike hK, hDc.weaken (fun _ _ _ _ => trivial), (hSE.warm hS hU hW).narrow hFc, en_warm hW hE⟩⟩ rfl rfl hl.1 rfl (lv_room (Nat.le_of_ble_eq_true rfl)) dL_law_240 ⟨by show _ ≤ (600000 : Nat); omega, by show _ ≤ (7302250 : Nat); omega⟩) hS (fun q _ h => hFc q h) hFc (fun rr w t H1 locs ht1 hvm hw hB hz1 hk1 hS => ?_)
  obtain ⟨w, nad⟩ := w
  dsimp only at hw hB
  obtain ⟨hw0, hW1, hT1, hE2⟩ := hw
  subst hw0
  obtain ⟨hP1, hK1, hD1⟩ := hB
  rw [ht1] at hP1
  obtain ⟨hP, hD⟩ := va_join2 hP hD hk1 hFc hP1 hD1
  clear hFc hPc hDc hk1 hz1 hvm ht1 hP1 hD1 hK1
  generalize H1 = H at hP hS ⊢
  have hxa : ad x = nad x := (hE2.1 x (by rw [hkx]; decide)).symm
  have hkx2 := (hE2.2 x (by rw [hkx]; decide)).trans hkx
  refine lv_pop hx hb dL_law_243 rfl ?_
  refine lv_aload_n hx hb dL_law_244 rfl (lv_at hl 1 rfl) ?_
  refine lv_aload_n hx hb dL_law_245 rfl (lv_at hl 3 rfl) ?_
  refine lv_iload_n hx hb dL_law_246 rfl (lv_at hl 0 rfl) ?_
  refine lv_iconst (v := 1) hx hb dL_law_247 (by decide +kernel) ?_
  refine lv_iadd hx hb dL_law_248 ?_
  refine va_sld hx hb hX hbl hbA hS (z_in (by omega) (by omega)) dL_law_249 ?_
  refine lv_topi (fun z1 ez1 => ?_)
  obtain rfl : y1 = z1 := ey1.trans ez1.symm
  obtain ⟨hMI, hgn⟩ := hM
  refine MInv_e hMI (fun hmg1 hmg2 hmg3 hmg4 hmg5 hmg6 hmg7 hmg8 hmg9 hmg23 hmg27 hmg30 hmg34 hmg36 hmg39 hmg44 hmg47 hmg48 hmg51 hmg56 hmg59 hmg62 hmg65 hmg66 hmg70 hmF11 hmF12 hmF13 hmF15 hmF19 hmF21 hmF24 hmF25 hmF26 hmF33 hmF38 hmF41 hmF43 hmF45 hmF46 hmF50 hmF53 hmF54 hmLQ => ?_)
  obtain ⟨⟨r2, d_g1, d_g2, d_g3, d_g4, d_g5, d_g6, d_g7, d_g8, d_g9, d_g51, d_F10, d_F11, d_F12, d_F13, d_F14, d_F15, d_F16, d_F17, d_F18, d_F19, d_F20, d_F21⟩, hr2, hbg1, hbg2, hbg3, hbg4, hbg5, hbg6, hbg7, hbg8, hbg9, hbg51, hbF11, hbF12, hbF13, hbF15, hbF19, hbF21, hbLQ, qo0⟩ := ok_reform g F y1 hMI
  try dsimp only at qo0
  try dsimp only at hbg1
  try dsimp only at hbg2
  try dsimp only at hbg3
  try dsimp only at hbg4
  try dsimp only at hbg5
  try dsimp only at hbg6
  try dsimp only at hbg7
  try dsimp only at hbg8
  try dsimp only at hbg9
  try dsimp only at hbg51
  have hM1 : MS (upd (upd (upd (upd (upd (upd (upd (upd (upd (upd g 1 d_g1) 2 d_g2) 3 d_g3) 4 d_g4) 5 d_g5) 6 d_g6) 7 d_g7) 8 d_g8) 9 d_g9) 51 d_g51) (upF (upF (upF (upF (upF (upF (upF (upF (upF (upF (upF (upF F 10 d_F10) 11 d_F11) 12 d_F12) 13 d_F13) 14 d_F14) 15 d_F15) 16 d_F16) 17 d_F17) 18 d_F18) 19 d_F19) 20 d_F20) 21 d_F21) (((c_G 141) tp).toInt) := ⟨(MInv_i hbg1 hbg2 hbg3 hbg4 hbg5 hbg6 hbg7 hbg8 hbg9 hmg23 hmg27 hmg30 hmg34 hmg36 hmg39 hmg44 hmg47 hmg48 hbg51 hmg56 hmg59 hmg62 hmg65 hmg66 hmg70 hbF11 hbF12 hbF13 hbF15 hbF19 hbF21 hmF24 hmF25 hmF26 hmF33 hmF38 hmF41 hmF43 hmF45 hmF46 hmF50 hmF53 hmF54 hbLQ), by show d_g1.toInt = ((c_G 141) tp).toInt; omega⟩
  have qx : QF_reform g F y1 (F 0) (Int32.toNatClampNeg (g 1)) (G 223 x).toInt (r2, d_g1, d_g2, d_g3, d_g4, d_g5, d_g6, d_g7, d_g8, d_g9, d_g51, d_F10, d_F11, d_F12, d_F13, d_F14, d_F15, d_F16, d_F17, d_F18, d_F19, d_F20, d_F21) := pwq (fn_reform g F y1 (F 0) (Int32.toNatClampNeg (g 1)) (G 223 x).toInt hMI rfl rfl d2 d1 (fun i => by rw [← hr0]; exact hT.2.2.1 tb i)) hr2
  obtain ⟨n0, n1, n2, n3, n4, n5⟩ := qx
  dsimp only at n0 n1 n2 n3 n4 n5
  have hl4 := (hdr dr a2).1
  obtain ⟨hsm, D1, hdr1, hD1c, hRR1⟩ := rlr_reform (g1 := (upd (upd (upd (upd (upd (upd (upd (upd (upd (upd g 1 d_g1) 2 d_g2) 3 d_g3) 4 d_g4) 5 d_g5) 6 d_g6) 7 d_g7) 8 d_g8) 9 d_g9) 51 d_g51)) (F1 := (upF (upF (upF (upF (upF (upF (upF (upF (upF (upF (upF (upF F 10 d_F10) 11 d_F11) 12 d_F12) 13 d_F13) 14 d_F14) 15 d_F15) 16 d_F16) 17 d_F17) 18 d_F18) 19 d_F19) 20 d_F20) 21 d_F21)) hLB hxc a1 a2 a3 b1 b3 c1 c2 c3 hmg9 rfl d1 d2 d3 k0 k1 k2 k3 k4 k5 (fun h b hb q => by have := k6 h b hb; omega) n0 n1 n2 n3 n4 (fP 225 x hxc (fun q => absurd q (by decide))) (fP 221 x hxc (fun q => absurd q (by decide))) (fun z hz h1 h2 => by have h7 : (la z < 10 ∨ 10 < la z) ∧ (la z < 300 ∨ 300 < la z) ∧ (la z < 90 ∨ 90 + 8 < la z) ∧ (la z < 200 ∨ 200 + 3 < la z) ∧ (la z < D ∨ D + 5 < la z) := (by omega); exact ⟨(fG 100 z hz (fun q => h7)), (fG 102 z hz (fun q => h7)), (fG 107 z hz (fun q => h7)), (fG 200 z hz (fun q => absurd q (by decide))), (fG 203 z hz (fun q => h7)), (fG 24 z hz (fun q => h7)), (fG 25 z hz (fun q => h7)), (fP 101 z hz (fun q => absurd q (by decide))), (fP 103 z hz (fun q => absurd q (by decide))), (fP 104 z hz (fun q => absurd q (by decide))), (fP 105 z hz (fun q => absurd q (by decide))), (fP 106 z hz (fun q => absurd q (by decide))), (fP 201 z hz (fun q => absurd q (by decide))), (fP 202 z hz (fun q => absurd q (by decide))), (fP 20 z hz (fun q => absurd q (by decide))), (fP 21 z hz (fun q => absurd q (by decide))), (fP 22 z hz (fun q => h7)), (fP 23 z hz (fun q => h7)), (fV 0 z hz (fun q => h7)), (fV 1 z hz (fun q => h7)), (fV 10 z hz (fun q => h7)), (fO 0 z hz (fun q => h7)), fln z hz⟩) hcc1 hag2
  obtain ⟨hRW1, hqq⟩ := rlw_reform (g1 := (upd (upd (upd (upd (upd (upd (upd (upd (upd (upd g 1 d_g1) 2 d_g2) 3 d_g3) 4 d_g4) 5 d_g5) 6 d_g6) 7 d_g7) 8 d_g8) 9 d_g9) 51 d_g51)) (F1 := (upF (upF (upF (upF (upF (upF (upF (upF (upF (upF (upF (upF F 10 d_F10) 11 d_F11) 12 d_F12) 13 d_F13) 14 d_F14) 15 d_F15) 16 d_F16) 17 d_F17) 18 d_F18) 19 d_F19) 20 d_F20) 21 d_F21)) hRW (par_wf (fun i => by rw [← hr0]; exact hT.2.2.1 tb i) _ _ _ wfd_0) hmg9 n0 n1 n2 n3 n4
  have hTD1 : RTD (upd (upd (upd (upd (upd (upd (upd (upd (upd (upd g 1 d_g1) 2 d_g2) 3 d_g3) 4 d_g4) 5 d_g5) 6 d_g6) 7 d_g7) 8 d_g8) 9 d_g9) 51 d_g51) (upF (upF (upF (upF (upF (upF (upF (upF (upF (upF (upF (upF F 10 d_F10) 11 d_F11) 12 d_F12) 13 d_F13) 14 d_F14) 15 d_F15) 16 d_F16) 17 d_F17) 18 d_F18) 19 d_F19) 20 d_F20) 21 d_F21) x c_G c_P c_V c_ln := RTD_keep hTD hLB (fP 227 x hxc (fun q => absurd q (by decide))) rfl rfl rfl (fun z hz => ⟨(fP 201 z hz (fun q => absurd q (by decide))), (fP 202 z hz (fun q => absurd q (by decide))), (fG 200 z hz (fun q => absurd q (by decide))), fln z hz⟩) (fun z hz hl3 => (by have h7 : (la z < 10 ∨ 10 < la z) ∧ (la z < 300 ∨ 300 < la z) ∧ (la z < 90 ∨ 90 + 8 < la z) ∧ (la z < 200 ∨ 200 + 3 < la z) ∧ (la z < D ∨ D + 5 < la z) := (by omega); exact ⟨(fG 203 z hz (fun q => h7)), (fV 0 z hz (fun q => h7)), (fV 1 z hz (fun q => h7))⟩))
  have hTA1 : RTA x c_G c_P c_ln := k8
  have hTB1 : RTB (upd (upd (upd (upd (upd (upd (upd (upd (upd (upd g 1 d_g1) 2 d_g2) 3 d_g3) 4 d_g4) 5 d_g5) 6 d_g6) 7 d_g7) 8 d_g8) 9 d_g9) 51 d_g51) (upF (upF (upF (upF (upF (upF (upF (upF (upF (upF (upF (upF F 10 d_F10) 11 d_F11) 12 d_F12) 13 d_F13) 14 d_F14) 15 d_F15) 16 d_F16) 17 d_F17) 18 d_F18) 19 d_F19) 20 d_F20) 21 d_F21) x c_G c_P c_V c_O := rtb_reform hmg9 n0 n1 n2 n3 ((fP 221 x hxc (fun q => absurd q (by decide))).trans a3) (fun h1 h2 h3 => ⟨by have z9 := (k3 h1 h2 (by rw [c1]; exact h3)).2.2.2.2.2.1; rw [c1] at z9; exact z9, k7 h1 h2 (by rw [c1]; exact h3)⟩) (fun q hq => RTB_one hTB hRR hLB hq (n4 q hq).2 (fun z9 h1 => (by have e9 : z9 = ra := Option.some.inj (h1.symm.trans a3); rw [e9]; exact k5.1 q (fun e8 => by rw [c1] at e8; omega))) (fP 221 x hxc (fun q => absurd q (by decide))) (fun z hz => ⟨(fP 108 z hz (fun q => absurd q (by decide))), (fP 109 z hz (fun q => absurd q (by decide))), (fP 201 z hz (fun q => absurd q (by decide))), (fP 202 z hz (fun q => absurd q (by decide))), (fG 200 z hz (fun q => absurd q (by decide)))⟩) (fun z hz h1 h2 => (by have h7 : (la z < 10 ∨ 10 < la z) ∧ (la z < 300 ∨ 300 < la z) ∧ (la z < 90 ∨ 90 + 8 < la z) ∧ (la z < 200 ∨ 200 + 3 < la z) ∧ (la z < D ∨ D + 5 < la z) := (by omega); exact ⟨(fG 203 z hz (fun q => h7)), (fV 0 z hz (fun q => h7)), (fV 1 z hz (fun q => h7)), (fV 11 z hz (fun q => h7))⟩)))
  have hTC1 : RTC la2 x c_G c_P c_ln := RTC_keep hTC hLB (fP 226 x hxc (fun q => absurd q (by decide))) (fun t9 n9 x9 a9 b9 q1 q2 q3 => sw_X11_reform la G P U V X O kd ln cnt x y1 D hLB hxc hlx hdr t9 n9 x9 a9 b9 q2 q3 _ hr1) (fun z hz => ⟨(fP 185 z hz (fun q => absurd q (by decide))), (fP 180 z hz (fun q => absurd q (by decide))), (fP 63 z hz (fun q => absurd q (by decide))), (fP 65 z hz (fun q => absurd q (by decide))), (fP 62 z hz (fun q => absurd q (by decide))), (fP 61 z hz (fun q => absurd q (by decide))), (fP 64 z hz (fun q => absurd q (by decide))), (fP 201 z hz (fun q => absurd q (by decide))), (fP 202 z hz (fun q => absurd q (by decide))), (fG 200 z hz (fun q => absurd q (by decide))), fln z hz⟩) hag2
  have hBW1 : RBW (upd (upd (upd (upd (upd (upd (upd (upd (upd (upd g 1 d_g1) 2 d_g2) 3 d_g3) 4 d_g4) 5 d_g5) 6 d_g6) 7 d_g7) 8 d_g8) 9 d_g9) 51 d_g51) (upF (upF (upF (upF (upF (upF (upF (upF (upF (upF (upF (upF F 10 d_F10) 11 d_F11) 12 d_F12) 13 d_F13) 14 d_F14) 15 d_F15) 16 d_F16) 17 d_F17) 18 d_F18) 19 d_F19) 20 d_F20) 21 d_F21) := RBW_keep hBW rfl rfl rfl
  have hBM1 : RBM (upd (upd (upd (upd (upd (upd (upd (upd (upd (upd g 1 d_g1) 2 d_g2) 3 d_g3) 4 d_g4) 5 d_g5) 6 d_g6) 7 d_g7) 8 d_g8) 9 d_g9) 51 d_g51) (upF (upF (upF (upF (upF (upF (upF (upF (upF (upF (upF (upF F 10 d_F10) 11 d_F11) 12 d_F12) 13 d_F13) 14 d_F14) 15 d_F15) 16 d_F16) 17 d_F17) 18 d_F18) 19 d_F19) 20 d_F20) 21 d_F21) := rbm_reform hBM hmg9 n0 n1 n2 n3 n4 n5 rfl rfl rfl rfl rfl rfl
  have hBK1 : RBK (upd (upd (upd (upd (upd (upd (upd (upd (upd (upd g 1 d_g1) 2 d_g2) 3 d_g3) 4 d_g4) 5 d_g5) 6 d_g6) 7 d_g7) 8 d_g8) 9 d_g9) 51 d_g51) (upF (upF (upF (upF (upF (upF (upF (upF (upF (upF (upF (upF F 10 d_F10) 11 d_F11) 12 d_F12) 13 d_F13) 14 d_F14) 15 d_F15) 16 d_F16) 17 d_F17) 18 d_F18) 19 d_F19) 20 d_F20) 21 d_F21) la2 D1 x c_G c_P c_V c_O c_ln c_cnt := RBK_keep hBK hLB (fun q hq => (n4 q hq).2) (rb_le (g1 := (upd (upd (upd (upd (upd (upd (upd (upd (upd (upd g 1 d_g1) 2 d_g2) 3 d_g3) 4 d_g4) 5 d_g5) 6 d_g6) 7 d_g7) 8 d_g8) 9 d_g9) 51 d_g51)) (F1 := (upF (upF (upF (upF (upF (upF (upF (upF (upF (upF (upF (upF F 10 d_F10) 11 d_F11) 12 d_F12) 13 d_F13) 14 d_F14) 15 d_F15) 16 d_F16) 17 d_F17) 18 d_F18) 19 d_F19) 20 d_F20) 21 d_F21)) hmg9 n0 n1 n2 n3) (fun _ _ => rfl) (fun fl9 s9 => by have z1 := (CInv_FL hI :) fl9 s9; have z2 := (CInv_V3 hI :) fl9 s9; have z3 := clampI (x := V 3 fl9 s9) z2.1; have z4 := congrArg Int32.toInt hr203; have z5 := clampI (x := g 48) (by omega); omega) (fP 229 x hxc (fun q => absurd q (by decide))) (fun z hz => ⟨(fP 1 z hz (fun q => absurd q (by decide))), (fP 3 z hz (fun q => absurd q (by decide))), (fP 4 z hz (fun q => absurd q (by decide))), (fP 201 z hz (fun q => absurd q (by decide))), (fP 202 z hz (fun q => absurd q (by decide))), (fG 200 z hz (fun q => absurd q (by decide))), fln z hz⟩) (fun z hz hl3 => ⟨(fV 3 z hz (fun q => absurd q (by decide))), (fO 1 z hz (fun q => absurd q (by decide)))⟩) (fun z hz h1 h2 => by obtain ⟨k9, hk9⟩ := h1; obtain ⟨kD, hkD⟩ := b3; exact (by have h7 : (la z < 10 ∨ 10 < la z) ∧ (la z < 300 ∨ 300 < la z) ∧ (la z < 90 ∨ 90 + 8 < la z) ∧ (la z < 200 ∨ 200 + 3 < la z) ∧ (la z < D ∨ D + 5 < la z) := (by omega); exact ⟨(fG 203 z hz (fun q => h7)), (fV 0 z hz (fun q => h7)), (fV 1 z hz (fun q => h7))⟩)) hcc1 hag2 (fun z hz h => rb_ne k4 hLB hz b1 h hdr1)
  have hBO1 : RBO (upd (upd (upd (upd (upd (upd (upd (upd (upd (upd g 1 d_g1) 2 d_g2) 3 d_g3) 4 d_g4) 5 d_g5) 6 d_g6) 7 d_g7) 8 d_g8) 9 d_g9) 51 d_g51) (upF (upF (upF (upF (upF (upF (upF (upF (upF (upF (upF (upF F 10 d_F10) 11 d_F11) 12 d_F12) 13 d_F13) 14 d_F14) 15 d_F15) 16 d_F16) 17 d_F17) 18 d_F18) 19 d_F19) 20 d_F20) 21 d_F21) x c_G c_P c_V := RBO_keep hBO hLB (fP 230 x hxc (fun q => absurd q (by decide))) (fG 231 x hxc (fun q => absurd q (by decide))) (fun z hz h1 => by have hl9 : la z = 201 := (by have z9 := lk_230.mp (hLB.1 230 fl_230 x z h1).2.2; omega); exact (fV 4 z hz (fun q => absurd q (by decide)))) rfl rfl
  have hMX1 : RMX (upd (upd (upd (upd (upd (upd (upd (upd (upd (upd g 1 d_g1) 2 d_g2) 3 d_g3) 4 d_g4) 5 d_g5) 6 d_g6) 7 d_g7) 8 d_g8) 9 d_g9) 51 d_g51) (upF (upF (upF (upF (upF (upF (upF (upF (upF (upF (upF (upF F 10 d_F10) 11 d_F11) 12 d_F12) 13 d_F13) 14 d_F14) 15 d_F15) 16 d_F16) 17 d_F17) 18 d_F18) 19 d_F19) 20 d_F20) 21 d_F21) x c_G c_P c_V := RMX_keep hMX hLB (fP 236 x hxc (fun q => absurd q (by decide))) (fun z hz hl3 => ⟨(fP 42 z hz (fun q => absurd q (by decide))), (fG 43 z hz (fun q => absurd q (by decide))), (fV 9 z hz (fun q => absurd q (by decide)))⟩) rfl rfl
  have hRL : RLB (upd (upd (upd (upd (upd (upd (upd (upd (upd (upd g 1 d_g1) 2 d_g2) 3 d_g3) 4 d_g4) 5 d_g5) 6 d_g6) 7 d_g7) 8 d_g8) 9 d_g9) 51 d_g51) (upF (upF (upF (upF (upF (upF (upF (upF (upF (upF (upF (upF F 10 d_F10) 11 d_F11) 12 d_F12) 13 d_F13) 14 d_F14) 15 d_F15) 16 d_F16) 17 d_F17) 18 d_F18) 19 d_F19) 20 d_F20) 21 d_F21) x tp bk wd c_G c_P c_V c_O c_ln c_cnt := ⟨la2, D1, tb, wl, wz, hLB2, (by omega), ((hag2 x hxc).trans hlx), hdr1, hD1c, ((fP 140 tp ltp (fun q => absurd q (by decide))).trans h140), ((fP 0 bk lbk (fun q => absurd q (by decide))).trans h0w), ((fP 201 wd lwd (fun q => absurd q (by decide))).trans h201), ((fP 202 wd lwd (fun q => absurd q (by decide))).trans h202), ((fln wz lwz).trans hlz), ((congrArg Int32.toInt (fG 200 wd lwd (fun q => absurd q (by decide)))).trans h24), ((fG 203 wd lwd (fun q => show (la wd < 10 ∨ 10 < la wd) ∧ (la wd < 300 ∨ 300 < la wd) ∧ (la wd < 90 ∨ 90 + 8 < la wd) ∧ (la wd < 200 ∨ 200 + 3 < la wd) ∧ (la wd < D ∨ D + 5 < la wd) from by omega)).trans hr203), ((fV 0 tb ltb (fun q => show (la tb < 10 ∨ 10 < la tb) ∧ (la tb < 300 ∨ 300 < la tb) ∧ (la tb < 90 ∨ 90 + 8 < la tb) ∧ (la tb < 200 ∨ 200 + 3 < la tb) ∧ (la tb < D ∨ D + 5 < la tb) from by omega)).trans hr0), ((fV 0 wl lwl (fun q => show (la wl < 10 ∨ 10 < la wl) ∧ (la wl < 300 ∨ 300 < la wl) ∧ (la wl < 90 ∨ 90 + 8 < la wl) ∧ (la wl < 200 ∨ 200 + 3 < la wl) ∧ (la wl < D ∨ D + 5 < la wl) from by omega)).trans hr49), ((fV 1 wz lwz (fun q => show (la wz < 10 ∨ 10 < la wz) ∧ (la wz < 300 ∨ 300 < la wz) ∧ (la wz < 90 ∨ 90 + 8 < la wz) ∧ (la wz < 200 ∨ 200 + 3 < la wz) ∧ (la wz < D ∨ D + 5 < la wz) from by omega)).trans hr50), hRR1, hRW1, hTA1, hTB1, hTC1, hTD1, hBW1, hBM1, hBO1, hBK1, hMX1⟩
  have hC1 : CS kk w (ad x) (((c_G 141) tp).toInt) (s7 ((c_V 3) fl)) (upd (upd (upd (upd (upd (upd (upd (upd (upd (upd g 1 d_g1) 2 d_g2) 3 d_g3) 4 d_g4) 5 d_g5) 6 d_g6) 7 d_g7) 8 d_g8) 9 d_g9) 51 d_g51) (upF (upF (upF (upF (upF (upF (upF (upF (upF (upF (upF (upF F 10 d_F10) 11 d_F11) 12 d_F12) 13 d_F13) 14 d_F14) 15 d_F15) 16 d_F16) 17 d_F17) 18 d_F18) 19 d_F19) 20 d_F20) 21 d_F21) := ⟨nad, κ1, wd, c_G, c_P, c_U, c_V, c_X, c_O, c_kd, c_ln, c_cnt, x, tp, bk, fl, hxa, hW1, hT1, hI1, hkx2, (hkx1 x (by rw [hκ]; decide)).trans hκ, hf220, hf229, hf3, rfl, rfl, hRL⟩
  replace hP := va_Psw hP
  replace hD := va_Dsw hD
  have hFc := va_fr2 hD hS hA
  have hPc := va_Pr hP
  have hDc := va_Drr hD
  have hKm : va_K (dC, dI) vwCl (mT (kk 0) (kk 1) (kk 2)) s := hK.sub [0, 1, 2] rfl
  refine va_calli (va_runV (As := [.int y1]) (rest := []) ⟨hx, hb, hml, hown, hts⟩ (m_reform l dC dI adK adV H.size h0 (kk 0) (kk 1) (kk 2) q g F y1 r2 d_g1 d_g2 d_g3 d_g4 d_g5 d_g6 d_g7 d_g8 d_g9 d_g51 d_F10 d_F11 d_F12 d_F13 d_F14 d_F15 d_F16 d_F17 d_F18 d_F19 d_F20 d_F21 hr2) (cwV 1 hts gl_X12_reform rfl rfl rfl (by decide +kernel) ⟨Nat.le_of_ble_eq_true rfl, Nat.le_of_ble_eq_true rfl⟩) ⟨fun a U g mk q => by obtain ⟨q0, q1, qP, qK, qD, qS⟩ := q; exact ⟨q0, q1, qP, va_K.moved (u := U) (U := U.calling g mk a) (Vm.Alike.refl U.vm) qK, qD, qS.calling⟩, va_recv hKm hPc (ci := 12) (q0 := 0) rfl rfl, fun U hU hW => ⟨rfl, by rw [hU], by rw [hU]; exact hPc, va_K.moved hW.alike hKm, hDc.weaken (fun _ _ _ _ => trivial), (hSE.warm hS hU hW).narrow hFc⟩⟩ rfl rfl hl.1 rfl (lv_room (Nat.le_of_ble_eq_true rfl)) dL_law_250 ⟨by show _ ≤ (600000 : Nat); omega, by show _ ≤ (7302250 : Nat); omega⟩) hS (fun q _ h => hFc q h) hFc (fun rr2 u t H1 locs ht1 hvm hw hB hz1 hk1 hS => ?_)
  subst hw
  obtain ⟨hP1, hK1, hD1⟩ := hB
  rw [ht1] at hP1
  obtain ⟨hP, hD⟩ := va_join2 hP hD hk1 hFc hP1 hD1
  replace hP := va_Psw hP
  replace hD := va_Dsw hD
  refine lv_pop hx hb dL_law_253 rfl ?_
  refine lv_goto (tgt := 833) hx hb dL_law_254 (by decide) ?_
  exact kont w (upd (upd (upd (upd (upd (upd (upd (upd (upd (upd g 1 d_g1) 2 d_g2) 3 d_g3) 4 d_g4) 5 d_g5) 6 d_g6) 7 d_g7) 8 d_g8) 9 d_g9) 51 d_g51) (upF (upF (upF (upF (upF (upF (upF (upF (upF (upF (upF (upF F 10 d_F10) 11 d_F11) 12 d_F12) 13 d_F13) 14 d_F14) 15 d_F15) 16 d_F16) 17 d_F17) 18 d_F18) 19 d_F19) 20 d_F20) 21 d_F21) (((c_G 141) tp).toInt) (s7 ((c_V 3) fl)) _ _ _ _ hC1 hM1 (by omega) (by omega) hP hD hS
set_option maxHeartbeats 8000000 in
set_option maxRecDepth 100000 in
theorem law_3 {p : Program} {e : Env} {s : State} {m : MethodId} {below : List Frame} {meth : Method} {c : Code} (l : Launch) {b L : Nat} {xs : Nat → Int32} {A : Nat → Prop} {dC : Nat → ClassId} {dI : Nat → Nat → Nat} {kk : Nat → ClassId} {adK adV : Nat → Nat} (C0 : lw_At p s m meth c b L xs) (hL : L ≤ 3072) (hA : ∀ q : Nat, s.heap.size ≤ q → A q) (hbA : ¬ A b) (hE : EnvOK s) (hSE : SE adK adV A s) (hK : va_K (dC, dI) vwCl (cT kk) s) {i : Int32} (hi : 0 ≤ i.toInt ∧ i.toInt + 6 ≤ (L : Int)) {ws : va_W} {xa h0 : Nat} {q : Nat → Nat} {g : Nat → Int32} {F : Nat → Nat → Int32} {n σ B1 B2 : Int} {H : Heap} {locs : List Loc} {ls : Array Slot} {cells slots : Nat} (hC : CS kk ws xa n σ g F) (hM : MS g F n) (hB1 : (cells : Int) + 10 * n ≤ B1 + 3 * σ) (hB2 : (slots : Int) + 118 * n ≤ B2 + 2504 * σ) (hc1 : B1 ≤ 590000) (hc2 : B2 ≤ 5500000) (hP : va_P (dC, dI) vwCl ((mW h0 (kk 0) (kk 1) (kk 2) q g F) ++ ws) H) (hD : va_D A ((mW h0 (kk 0) (kk 1) (kk 2) q g F) ++ ws)) (hS : va_S A s.heap H locs) (hl : lv_has ls 4 [(3, .int i), (2, .ref h0), (1, .ref xa), (0, .ref b)]) (kont : ∀ (ws : va_W) (g : Nat → Int32) (F : Nat → Nat → Int32) (n σ : Int) (H : Heap) (locs : List Loc) (cells slots : Nat), CS kk ws xa n σ g F → MS g F n → (cells : Int) + 10 * n ≤ B1 + 228 + 3 * σ → (slots : Int) + 118 * n ≤ B2 + 6860 + 2504 * σ → va_P (dC, dI) vwCl ((mW h0 (kk 0) (kk 1) (kk 2) q g F) ++ ws) H → va_D A ((mW h0 (kk 0) (kk 1) (kk 2) q g F) ++ ws) → va_S A s.heap H locs → W p l e room_1 s m #[Value.ref b] below meth c H locs cells slots (lw_Z below #[Value.ref b] s) (F0 m 833 ls [])) : W p l e room_1 s m #[Value.ref b] below meth c H locs cells slots (lw_Z below #[Value.ref b] s) (F0 m 257 ls []) := by
  obtain ⟨hx, hb, hr9, hml, hown, hts0, hX, hbl, hlocks, hgv⟩ := C0
  have hts := fun w h => hts0 w (wL_tb w h)
  obtain ⟨ad, κ, wd, G, P, U, V, X, O, kd, ln, cnt, x, tp, bk, fl, rfl, hW, hT, hI, hkx, hκ, h220, h229, h3, hn, hσ, hR⟩ := hC
  have hk220 := (((CInv_P220 hI :) x).2 tp h220).1
  have hk229 := (((CInv_P229 hI :) x).2 bk h229).1
  have hs0 := s7_b (CInv_V3 hI :) fl
  have hn0 := (CInv_G141 hI :) tp
  have hj1 : (i + 1).toInt = i.toInt + 1 := z_addc (by decide +kernel) (by omega) (by omega)
  refine lv_aload_n hx hb dL_law_257 rfl (lv_at hl 2 rfl) ?_
  refine lv_aload_n hx hb dL_law_258 rfl (lv_at hl 3 rfl) ?_
  refine lv_iload_n hx hb dL_law_259 rfl (lv_at hl 0 rfl) ?_
  refine lv_iconst (v := 1) hx hb dL_law_260 (by decide +kernel) ?_
  refine lv_iadd hx hb dL_law_261 ?_
  refine va_sld hx hb hX hbl hbA hS (z_in (by omega) (by omega)) dL_law_262 ?_
  refine lv_topi (fun y1 ey1 => ?_)
  obtain ⟨r1, hr1, hq1⟩ := ok_X11_fault κ wd G P U V X O kd ln cnt x y1 (CInv_P225 hI :) (CInv_LN hI :) hκ
  have hI1 : CInv κ wd G P V O ln cnt := (CInv_i (CInv_G43 hI :) (CInv_G44 hI :) (CInv_G45 hI :) (CInv_G60 hI :) (CInv_G83 hI :) (CInv_G84 hI :) (CInv_G85 hI :) (CInv_G87 hI :) (CInv_G88 hI :) (CInv_G102 hI :) (CInv_G125 hI :) (CInv_G126 hI :) (CInv_G127 hI :) (CInv_G141 hI :) (CInv_G160 hI :) (CInv_G161 hI :) (CInv_G162 hI :) (CInv_G165 hI :) (CInv_G166 hI :) (CInv_G183 hI :) (CInv_G200 hI :) (CInv_G203 hI :) (CInv_G222 hI :) (CInv_G231 hI :) (CInv_G233 hI :) (CInv_P0 hI :) (CInv_P1 hI :) (CInv_P2 hI :) (CInv_P3 hI :) (CInv_P4 hI :) (CInv_P5 hI :) (CInv_P20 hI :) (CInv_P21 hI :) (CInv_P22 hI :) (CInv_P23 hI :) (CInv_P40 hI :) (CInv_P41 hI :) (CInv_P42 hI :) (CInv_P61 hI :) (CInv_P62 hI :) (CInv_P63 hI :) (CInv_P64 hI :) (CInv_P65 hI :) (CInv_P66 hI :) (CInv_P82 hI :) (CInv_P101 hI :) (CInv_P103 hI :) (CInv_P104 hI :) (CInv_P105 hI :) (CInv_P106 hI :) (CInv_P108 hI :) (CInv_P109 hI :) (CInv_P110 hI :) (CInv_P120 hI :) (CInv_P121 hI :) (CInv_P122 hI :) (CInv_P123 hI :) (CInv_P140 hI :) (CInv_P164 hI :) (CInv_P180 hI :) (CInv_P181 hI :) (CInv_P182 hI :) (CInv_P185 hI :) (CInv_P186 hI :) (CInv_P187 hI :) (CInv_P201 hI :) (CInv_P202 hI :) (CInv_P220 hI :) (CInv_P221 hI :) (CInv_P224 hI :) (CInv_P225 hI :) (CInv_P226 hI :) (CInv_P227 hI :) (CInv_P228 hI :) (CInv_P229 hI :) (CInv_P230 hI :) (CInv_P232 hI :) (CInv_P234 hI :) (CInv_P235 hI :) (CInv_P236 hI :) (CInv_V1 hI :) (CInv_V2 hI :) (CInv_V3 hI :) (CInv_V9 hI :) (CInv_O0 hI :) (CInv_O1 hI :) (CInv_O2 hI :) (CInv_RA hI :) (CInv_RB hI :) (CInv_RI hI :) (CInv_RM103 hI :) (CInv_RM104 hI :) (CInv_RM108 hI :) (CInv_LN hI :) (CInv_FL hI :) (CInv_W0 hI :) (CInv_KC hI :) (CInv_WK hI :))
  obtain ⟨la, D, tb, wl, wz, hLB, hxc, hlx, hdr, hD0, h140, h0w, h201, h202, hlz, h24, hr203, hr0, hr49, hr50, hRR, hRW, hTA, hTB, hTC, hTD, hBW, hBM, hBO, hBK, hMX⟩ := hR
  have ltp := (hLB.1 220 fl_220 x tp h220).2.1
  have lbp : la tp = 10 := lk_220.mp (hLB.1 220 fl_220 x tp h220).2.2
  have ltb := (hLB.1 140 fl_140 tp tb h140).2.1
  have lbb : la tb = la tp + 1 := lk_140.mp (hLB.1 140 fl_140 tp tb h140).2.2
  obtain ⟨_, lbk, _⟩ := hLB.1 229 fl_229 x bk h229
  have lwd := (hLB.1 0 fl_0 bk wd h0w).2.1
  have lbw : la wd = 20 := lk_0.mp (hLB.1 0 fl_0 bk wd h0w).2.2
  have lwl := (hLB.1 201 fl_201 wd wl h201).2.1
  have lbl : la wl = la wd + 0 := lk_201.mp (hLB.1 201 fl_201 wd wl h201).2.2
  have lwz := (hLB.1 202 fl_202 wd wz h202).2.1
  have lbz : la wz = la wd + 0 := lk_202.mp (hLB.1 202 fl_202 wd wz h202).2.2
  have hFc := va_fr2 hD hS hA
  have hPc := va_Pr hP
  have hDc := va_Drr hD
  obtain ⟨i0, hi0⟩ := hW.o11 hkx
  refine va_calli (va_runV (As := [.int y1]) (rest := []) ⟨hx, hb, hml, hown, hts⟩ (m_X11_fault l dC dI kk ad H.size ws G P U V X O kd ln cnt x y1 hkx hW hT r1 hr1) (cwV 1 hts gl_X11_fault rfl rfl rfl (by decide +kernel) ⟨Nat.le_of_ble_eq_true rfl, Nat.le_of_ble_eq_true rfl⟩) ⟨fun a U g mk q => by obtain ⟨q0, q1, qP, qK, qD⟩ := q; exact ⟨q0, q1, qP, va_K.moved (u := U) (U := U.calling g mk a) (Vm.Alike.refl U.vm) qK, qD⟩, va_recv hK hPc (ci := 11) (q0 := i0) rfl hi0, fun U hU hW => ⟨rfl, by rw [hU], by rw [hU]; exact hPc, va_K.moved hW.alike hK, hDc.weaken (fun _ _ _ _ => trivial)⟩⟩ rfl rfl hl.1 rfl (lv_room (Nat.le_of_ble_eq_true rfl)) dL_law_263 ⟨by show _ ≤ (600000 : Nat); omega, by show _ ≤ (7302250 : Nat); omega⟩) hS (fun q _ h => hFc q h) hFc (fun rr w t H1 locs ht1 hvm hw hB hz1 hk1 hS => ?_)
  obtain ⟨hw0, hW1, hT1⟩ := hw
  subst hw0
  obtain ⟨hP1, hK1, hD1⟩ := hB
  rw [ht1] at hP1
  obtain ⟨hP, hD⟩ := va_join2 hP hD hk1 hFc hP1 hD1
  clear hFc hPc hDc hk1 hz1 hvm ht1 hP1 hD1 hK1
  generalize H1 = H at hP hS ⊢
  refine lv_pop hx hb dL_law_266 rfl ?_
  refine lv_aload_n hx hb dL_law_267 rfl (lv_at hl 1 rfl) ?_
  refine lv_aload_n hx hb dL_law_268 rfl (lv_at hl 3 rfl) ?_
  refine lv_iload_n hx hb dL_law_269 rfl (lv_at hl 0 rfl) ?_
  refine lv_iconst (v := 1) hx hb dL_law_270 (by decide +kernel) ?_
  refine lv_iadd hx hb dL_law_271 ?_
  refine va_sld hx hb hX hbl hbA hS (z_in (by omega) (by omega)) dL_law_272 ?_
  refine lv_topi (fun z1 ez1 => ?_)
  obtain rfl : y1 = z1 := ey1.trans ez1.symm
  obtain ⟨hMI, hgn⟩ := hM
  refine MInv_e hMI (fun hmg1 hmg2 hmg3 hmg4 hmg5 hmg6 hmg7 hmg8 hmg9 hmg23 hmg27 hmg30 hmg34 hmg36 hmg39 hmg44 hmg47 hmg48 hmg51 hmg56 hmg59 hmg62 hmg65 hmg66 hmg70 hmF11 hmF12 hmF13 hmF15 hmF19 hmF21 hmF24 hmF25 hmF26 hmF33 hmF38 hmF41 hmF43 hmF45 hmF46 hmF50 hmF53 hmF54 hmLQ => ?_)
  obtain ⟨r2, hr2, hq2⟩ := ok_fault g F y1 hMI
  have hM1 : MS g F (((G 141) tp).toInt) := ⟨(MInv_i hmg1 hmg2 hmg3 hmg4 hmg5 hmg6 hmg7 hmg8 hmg9 hmg23 hmg27 hmg30 hmg34 hmg36 hmg39 hmg44 hmg47 hmg48 hmg51 hmg56 hmg59 hmg62 hmg65 hmg66 hmg70 hmF11 hmF12 hmF13 hmF15 hmF19 hmF21 hmF24 hmF25 hmF26 hmF33 hmF38 hmF41 hmF43 hmF45 hmF46 hmF50 hmF53 hmF54 hmLQ), by show (g 1).toInt = ((G 141) tp).toInt; omega⟩
  have hRR1 : RLR g F la D x G P V O ln cnt := RLR_keep hRR hLB hxc rfl rfl rfl (fun j j1 j2 => rfl) rfl rfl rfl rfl rfl (fun z hz hl3 => ⟨rfl, rfl⟩) (fun z hz => rfl) (fun z hz hl3 => ⟨rfl, rfl, rfl, rfl, rfl, rfl, rfl, rfl, rfl, rfl, rfl, rfl, rfl, rfl, rfl, rfl, rfl, rfl, rfl, rfl, rfl, rfl, rfl⟩) (Nat.le_refl _) (fun _ _ => rfl)
  have hRW1 : RLW g F := RLW_keep hRW rfl (fun j j1 j2 => rfl)
  have hTD1 : RTD g F x G P V ln := RTD_keep hTD hLB rfl rfl rfl rfl (fun z hz => ⟨rfl, rfl, rfl, rfl⟩) (fun z hz hl3 => ⟨rfl, rfl, rfl⟩)
  have hTA1 : RTA x G P ln := RTA_keep hTA hLB rfl (fun z hz => ⟨rfl, rfl, rfl, rfl, rfl, rfl⟩)
  have hTB1 : RTB g F x G P V O := fun q hq => RTB_one hTB hRR hLB hq (RVf_eq (fun j j1 j2 => rfl)) (fun z9 h1 => rfl) rfl (fun z hz => ⟨rfl, rfl, rfl, rfl, rfl⟩) (fun z hz h1 h2 => ⟨rfl, rfl, rfl, rfl⟩)
  have hTC1 : RTC la x G P ln := RTC_keep hTC hLB rfl (fun _ _ _ _ _ _ _ q3 => q3) (fun z hz => ⟨rfl, rfl, rfl, rfl, rfl, rfl, rfl, rfl, rfl, rfl, rfl⟩) (fun _ _ => rfl)
  have hBW1 : RBW g F := RBW_keep hBW rfl rfl rfl
  have hBM1 : RBM g F := RBM_keep hBM rfl rfl rfl (fun j j1 j2 => rfl) rfl rfl rfl rfl rfl
  have hBK1 : RBK g F la D x G P V O ln cnt := RBK_keep hBK hLB (fun q hq => RVf_eq (fun j j1 j2 => rfl)) (Nat.le_refl _) (fun _ _ => rfl) (fun fl9 s9 => by have z1 := (CInv_FL hI :) fl9 s9; have z2 := (CInv_V3 hI :) fl9 s9; have z3 := clampI (x := V 3 fl9 s9) z2.1; have z4 := congrArg Int32.toInt hr203; have z5 := clampI (x := g 48) (by omega); omega) rfl (fun z hz => ⟨rfl, rfl, rfl, rfl, rfl, rfl, rfl⟩) (fun z hz hl3 => ⟨rfl, rfl⟩) (fun z hz h1 h2 => by obtain ⟨k9, hk9⟩ := h1; exact ⟨rfl, rfl, rfl⟩) (Nat.le_refl _) (fun _ _ => rfl) (fun z hz h => h)
  have hBO1 : RBO g F x G P V := RBO_keep hBO hLB rfl rfl (fun z hz h1 => by have hl9 : la z = 201 := (by have z9 := lk_230.mp (hLB.1 230 fl_230 x z h1).2.2; omega); exact rfl) rfl rfl
  have hMX1 : RMX g F x G P V := RMX_keep hMX hLB rfl (fun z hz hl3 => ⟨rfl, rfl, rfl⟩) rfl rfl
  have hRL : RLB g F x tp bk wd G P V O ln cnt := ⟨la, D, tb, wl, wz, hLB, hxc, hlx, hdr, hD0, h140, h0w, h201, h202, hlz, h24, hr203, hr0, hr49, hr50, hRR1, hRW1, hTA1, hTB1, hTC1, hTD1, hBW1, hBM1, hBO1, hBK1, hMX1⟩
  have hC1 : CS kk w (ad x) (((G 141) tp).toInt) (s7 ((V 3) fl)) g F := ⟨ad, κ, wd, G, P, U, V, X, O, kd, ln, cnt, x, tp, bk, fl, rfl, hW1, hT1, hI1, hkx, hκ, h220, h229, h3, rfl, rfl, hRL⟩
  replace hP := va_Psw hP
  replace hD := va_Dsw hD
  have hFc := va_fr2 hD hS hA
  have hPc := va_Pr hP
  have hDc := va_Drr hD
  have hKm : va_K (dC, dI) vwCl (mT (kk 0) (kk 1) (kk 2)) s := hK.sub [0, 1, 2] rfl
  refine va_calli (va_runV (As := [.int y1]) (rest := []) ⟨hx, hb, hml, hown, hts⟩ (m_fault l dC dI H.size h0 (kk 0) (kk 1) (kk 2) q g F y1 r2 hr2) (cwV 1 hts gl_X12_fault rfl rfl rfl (by decide +kernel) ⟨Nat.le_of_ble_eq_true rfl, Nat.le_of_ble_eq_true rfl⟩) ⟨fun a U g mk q => by obtain ⟨q0, q1, qP, qK, qD⟩ := q; exact ⟨q0, q1, qP, va_K.moved (u := U) (U := U.calling g mk a) (Vm.Alike.refl U.vm) qK, qD⟩, va_recv hKm hPc (ci := 12) (q0 := 0) rfl rfl, fun U hU hW => ⟨rfl, by rw [hU], by rw [hU]; exact hPc, va_K.moved hW.alike hKm, hDc.weaken (fun _ _ _ _ => trivial)⟩⟩ rfl rfl hl.1 rfl (lv_room (Nat.le_of_ble_eq_true rfl)) dL_law_273 ⟨by show _ ≤ (600000 : Nat); omega, by show _ ≤ (7302250 : Nat); omega⟩) hS (fun q _ h => hFc q h) hFc (fun rr2 u t H1 locs ht1 hvm hw hB hz1 hk1 hS => ?_)
  subst hw
  obtain ⟨hP1, hK1, hD1⟩ := hB
  rw [ht1] at hP1
  obtain ⟨hP, hD⟩ := va_join2 hP hD hk1 hFc hP1 hD1
  replace hP := va_Psw hP
  replace hD := va_Dsw hD
  refine lv_pop hx hb dL_law_276 rfl ?_
  refine lv_goto (tgt := 833) hx hb dL_law_277 (by decide) ?_
  exact kont w g F (((G 141) tp).toInt) (s7 ((V 3) fl)) _ _ _ _ hC1 hM1 (by omega) (by omega) hP hD hS
set_option maxHeartbeats 8000000 in
set_option maxRecDepth 100000 in
theorem law_4 {p : Program} {e : Env} {s : State} {m : MethodId} {below : List Frame} {meth : Method} {c : Code} (l : Launch) {b L : Nat} {xs : Nat → Int32} {A : Nat → Prop} {dC : Nat → ClassId} {dI : Nat → Nat → Nat} {kk : Nat → ClassId} {adK adV : Nat → Nat} (C0 : lw_At p s m meth c b L xs) (hL : L ≤ 3072) (hA : ∀ q : Nat, s.heap.size ≤ q → A q) (hbA : ¬ A b) (hE : EnvOK s) (hSE : SE adK adV A s) (hK : va_K (dC, dI) vwCl (cT kk) s) {i : Int32} (hi : 0 ≤ i.toInt ∧ i.toInt + 6 ≤ (L : Int)) {ws : va_W} {xa h0 : Nat} {q : Nat → Nat} {g : Nat → Int32} {F : Nat → Nat → Int32} {n σ B1 B2 : Int} {H : Heap} {locs : List Loc} {ls : Array Slot} {cells slots : Nat} (hC : CS kk ws xa n σ g F) (hM : MS g F n) (hB1 : (cells : Int) + 10 * n ≤ B1 + 3 * σ) (hB2 : (slots : Int) + 118 * n ≤ B2 + 2504 * σ) (hc1 : B1 ≤ 590000) (hc2 : B2 ≤ 5500000) (hP : va_P (dC, dI) vwCl ((mW h0 (kk 0) (kk 1) (kk 2) q g F) ++ ws) H) (hD : va_D A ((mW h0 (kk 0) (kk 1) (kk 2) q g F) ++ ws)) (hS : va_S A s.heap H locs) (hl : lv_has ls 4 [(3, .int i), (2, .ref h0), (1, .ref xa), (0, .ref b)]) (kont : ∀ (ws : va_W) (g : Nat → Int32) (F : Nat → Nat → Int32) (n σ : Int) (H : Heap) (locs : List Loc) (cells slots : Nat), CS kk ws xa n σ g F → MS g F n → (cells : Int) + 10 * n ≤ B1 + 228 + 3 * σ → (slots : Int) + 118 * n ≤ B2 + 6860 + 2504 * σ → va_P (dC, dI) vwCl ((mW h0 (kk 0) (kk 1) (kk 2) q g F) ++ ws) H → va_D A ((mW h0 (kk 0) (kk 1) (kk 2) q g F) ++ ws) → va_S A s.heap H locs → W p l e room_1 s m #[Value.ref b] below meth c H locs cells slots (lw_Z below #[Value.ref b] s) (F0 m 833 ls [])) : W p l e room_1 s m #[Value.ref b] below meth c H locs cells slots (lw_Z below #[Value.ref b] s) (F0 m 280 ls []) := by
  obtain ⟨hx, hb, hr9, hml, hown, hts0, hX, hbl, hlocks, hgv⟩ := C0
  have hts := fun w h => hts0 w (wL_tb w h)
  obtain ⟨ad, κ, wd, G, P, U, V, X, O, kd, ln, cnt, x, tp, bk, fl, rfl, hW, hT, hI, hkx, hκ, h220, h229, h3, hn, hσ, hR⟩ := hC
  have hk220 := (((CInv_P220 hI :) x).2 tp h220).1
  have hk229 := (((CInv_P229 hI :) x).2 bk h229).1
  have hs0 := s7_b (CInv_V3 hI :) fl
  have hn0 := (CInv_G141 hI :) tp
  have hj1 : (i + 1).toInt = i.toInt + 1 := z_addc (by decide +kernel) (by omega) (by omega)
  have hj2 : (i + 2).toInt = i.toInt + 2 := z_addc (by decide +kernel) (by omega) (by omega)
  refine lv_aload_n hx hb dL_law_280 rfl (lv_at hl 2 rfl) ?_
  refine lv_aload_n hx hb dL_law_281 rfl (lv_at hl 3 rfl) ?_
  refine lv_iload_n hx hb dL_law_282 rfl (lv_at hl 0 rfl) ?_
  refine lv_iconst (v := 1) hx hb dL_law_283 (by decide +kernel) ?_
  refine lv_iadd hx hb dL_law_284 ?_
  refine va_sld hx hb hX hbl hbA hS (z_in (by omega) (by omega)) dL_law_285 ?_
  refine lv_topi (fun y1 ey1 => ?_)
  refine lv_aload_n hx hb dL_law_286 rfl (lv_at hl 3 rfl) ?_
  refine lv_iload_n hx hb dL_law_287 rfl (lv_at hl 0 rfl) ?_
  refine lv_iconst (v := 2) hx hb dL_law_288 (by decide +kernel) ?_
  refine lv_iadd hx hb dL_law_289 ?_
  refine va_sld hx hb hX hbl hbA hS (z_in (by omega) (by omega)) dL_law_290 ?_
  refine lv_topi (fun y2 ey2 => ?_)
  obtain ⟨r1, hr1, hq1⟩ := ok_X11_about κ wd G P U V X O kd ln cnt x y1 y2 (CInv_G102 hI :) (CInv_G200 hI :) (CInv_G203 hI :) (CInv_G222 hI :) (CInv_P103 hI :) (CInv_P104 hI :) (CInv_P201 hI :) (CInv_P202 hI :) (CInv_P221 hI :) (CInv_V1 hI :) (CInv_O2 hI :) (CInv_RA hI :) (CInv_RB hI :) (CInv_RI hI :) (CInv_RM103 hI :) (CInv_RM104 hI :) (CInv_LN hI :) hκ
  have hI1 : CInv κ wd G P V O ln cnt := (CInv_i (CInv_G43 hI :) (CInv_G44 hI :) (CInv_G45 hI :) (CInv_G60 hI :) (CInv_G83 hI :) (CInv_G84 hI :) (CInv_G85 hI :) (CInv_G87 hI :) (CInv_G88 hI :) (CInv_G102 hI :) (CInv_G125 hI :) (CInv_G126 hI :) (CInv_G127 hI :) (CInv_G141 hI :) (CInv_G160 hI :) (CInv_G161 hI :) (CInv_G162 hI :) (CInv_G165 hI :) (CInv_G166 hI :) (CInv_G183 hI :) (CInv_G200 hI :) (CInv_G203 hI :) (CInv_G222 hI :) (CInv_G231 hI :) (CInv_G233 hI :) (CInv_P0 hI :) (CInv_P1 hI :) (CInv_P2 hI :) (CInv_P3 hI :) (CInv_P4 hI :) (CInv_P5 hI :) (CInv_P20 hI :) (CInv_P21 hI :) (CInv_P22 hI :) (CInv_P23 hI :) (CInv_P40 hI :) (CInv_P41 hI :) (CInv_P42 hI :) (CInv_P61 hI :) (CInv_P62 hI :) (CInv_P63 hI :) (CInv_P64 hI :) (CInv_P65 hI :) (CInv_P66 hI :) (CInv_P82 hI :) (CInv_P101 hI :) (CInv_P103 hI :) (CInv_P104 hI :) (CInv_P105 hI :) (CInv_P106 hI :) (CInv_P108 hI :) (CInv_P109 hI :) (CInv_P110 hI :) (CInv_P120 hI :) (CInv_P121 hI :) (CInv_P122 hI :) (CInv_P123 hI :) (CInv_P140 hI :) (CInv_P164 hI :) (CInv_P180 hI :) (CInv_P181 hI :) (CInv_P182 hI :) (CInv_P185 hI :) (CInv_P186 hI :) (CInv_P187 hI :) (CInv_P201 hI :) (CInv_P202 hI :) (CInv_P220 hI :) (CInv_P221 hI :) (CInv_P224 hI :) (CInv_P225 hI :) (CInv_P226 hI :) (CInv_P227 hI :) (CInv_P228 hI :) (CInv_P229 hI :) (CInv_P230 hI :) (CInv_P232 hI :) (CInv_P234 hI :) (CInv_P235 hI :) (CInv_P236 hI :) (CInv_V1 hI :) (CInv_V2 hI :) (CInv_V3 hI :) (CInv_V9 hI :) (CInv_O0 hI :) (CInv_O1 hI :) (CInv_O2 hI :) (CInv_RA hI :) (CInv_RB hI :) (CInv_RI hI :) (CInv_RM103 hI :) (CInv_RM104 hI :) (CInv_RM108 hI :) (CInv_LN hI :) (CInv_FL hI :) (CInv_W0 hI :) (CInv_KC hI :) (CInv_WK hI :))
  obtain ⟨la, D, tb, wl, wz, hLB, hxc, hlx, hdr, hD0, h140, h0w, h201, h202, hlz, h24, hr203, hr0, hr49, hr50, hRR, hRW, hTA, hTB, hTC, hTD, hBW, hBM, hBO, hBK, hMX⟩ := hR
  have ltp := (hLB.1 220 fl_220 x tp h220).2.1
  have lbp : la tp = 10 := lk_220.mp (hLB.1 220 fl_220 x tp h220).2.2
  have ltb := (hLB.1 140 fl_140 tp tb h140).2.1
  have lbb : la tb = la tp + 1 := lk_140.mp (hLB.1 140 fl_140 tp tb h140).2.2
  obtain ⟨_, lbk, _⟩ := hLB.1 229 fl_229 x bk h229
  have lwd := (hLB.1 0 fl_0 bk wd h0w).2.1
  have lbw : la wd = 20 := lk_0.mp (hLB.1 0 fl_0 bk wd h0w).2.2
  have lwl := (hLB.1 201 fl_201 wd wl h201).2.1
  have lbl : la wl = la wd + 0 := lk_201.mp (hLB.1 201 fl_201 wd wl h201).2.2
  have lwz := (hLB.1 202 fl_202 wd wz h202).2.1
  have lbz : la wz = la wd + 0 := lk_202.mp (hLB.1 202 fl_202 wd wz h202).2.2
  have hFc := va_fr2 hD hS hA
  have hPc := va_Pr hP
  have hDc := va_Drr hD
  obtain ⟨i0, hi0⟩ := hW.o11 hkx
  refine va_calli (va_runV (As := [.int y1, .int y2]) (rest := []) ⟨hx, hb, hml, hown, hts⟩ (m_X11_about l dC dI kk ad H.size ws G P U V X O kd ln cnt x y1 y2 hkx hW hT r1 hr1) (cwV 2 hts gl_X11_about rfl rfl rfl (by decide +kernel) ⟨Nat.le_of_ble_eq_true rfl, Nat.le_of_ble_eq_true rfl⟩) ⟨fun a U g mk q => by obtain ⟨q0, q1, qP, qK, qD⟩ := q; exact ⟨q0, q1, qP, va_K.moved (u := U) (U := U.calling g mk a) (Vm.Alike.refl U.vm) qK, qD⟩, va_recv hK hPc (ci := 11) (q0 := i0) rfl hi0, fun U hU hW => ⟨rfl, by rw [hU], by rw [hU]; exact hPc, va_K.moved hW.alike hK, hDc.weaken (fun _ _ _ _ => trivial)⟩⟩ rfl rfl hl.1 rfl (lv_room (Nat.le_of_ble_eq_true rfl)) dL_law_291 ⟨by show _ ≤ (600000 : Nat); omega, by show _ ≤ (7302250 : Nat); omega⟩) hS (fun q _ h => hFc q h) hFc (fun rr w t H1 locs ht1 hvm hw hB hz1 hk1 hS => ?_)
  obtain ⟨hw0, hW1, hT1⟩ := hw
  subst hw0
  obtain ⟨hP1, hK1, hD1⟩ := hB
  rw [ht1] at hP1
  obtain ⟨hP, hD⟩ := va_join2 hP hD hk1 hFc hP1 hD1
  clear hFc hPc hDc hk1 hz1 hvm ht1 hP1 hD1 hK1
  generalize H1 = H at hP hS ⊢
  refine lv_pop hx hb dL_law_294 rfl ?_
  refine lv_aload_n hx hb dL_law_295 rfl (lv_at hl 1 rfl) ?_
  refine lv_aload_n hx hb dL_law_296 rfl (lv_at hl 3 rfl) ?_
  refine lv_iload_n hx hb dL_law_297 rfl (lv_at hl 0 rfl) ?_
  refine lv_iconst (v := 1) hx hb dL_law_298 (by decide +kernel) ?_
  refine lv_iadd hx hb dL_law_299 ?_
  refine va_sld hx hb hX hbl hbA hS (z_in (by omega) (by omega)) dL_law_300 ?_
  refine lv_topi (fun z1 ez1 => ?_)
  obtain rfl : y1 = z1 := ey1.trans ez1.symm
  refine lv_aload_n hx hb dL_law_301 rfl (lv_at hl 3 rfl) ?_
  refine lv_iload_n hx hb dL_law_302 rfl (lv_at hl 0 rfl) ?_
  refine lv_iconst (v := 2) hx hb dL_law_303 (by decide +kernel) ?_
  refine lv_iadd hx hb dL_law_304 ?_
  refine va_sld hx hb hX hbl hbA hS (z_in (by omega) (by omega)) dL_law_305 ?_
  refine lv_topi (fun z2 ez2 => ?_)
  obtain rfl : y2 = z2 := ey2.trans ez2.symm
  obtain ⟨hMI, hgn⟩ := hM
  refine MInv_e hMI (fun hmg1 hmg2 hmg3 hmg4 hmg5 hmg6 hmg7 hmg8 hmg9 hmg23 hmg27 hmg30 hmg34 hmg36 hmg39 hmg44 hmg47 hmg48 hmg51 hmg56 hmg59 hmg62 hmg65 hmg66 hmg70 hmF11 hmF12 hmF13 hmF15 hmF19 hmF21 hmF24 hmF25 hmF26 hmF33 hmF38 hmF41 hmF43 hmF45 hmF46 hmF50 hmF53 hmF54 hmLQ => ?_)
  obtain ⟨r2, hr2, hq2⟩ := ok_about g F y1 y2 hMI
  have hM1 : MS g F (((G 141) tp).toInt) := ⟨(MInv_i hmg1 hmg2 hmg3 hmg4 hmg5 hmg6 hmg7 hmg8 hmg9 hmg23 hmg27 hmg30 hmg34 hmg36 hmg39 hmg44 hmg47 hmg48 hmg51 hmg56 hmg59 hmg62 hmg65 hmg66 hmg70 hmF11 hmF12 hmF13 hmF15 hmF19 hmF21 hmF24 hmF25 hmF26 hmF33 hmF38 hmF41 hmF43 hmF45 hmF46 hmF50 hmF53 hmF54 hmLQ), by show (g 1).toInt = ((G 141) tp).toInt; omega⟩
  have hRR1 : RLR g F la D x G P V O ln cnt := RLR_keep hRR hLB hxc rfl rfl rfl (fun j j1 j2 => rfl) rfl rfl rfl rfl rfl (fun z hz hl3 => ⟨rfl, rfl⟩) (fun z hz => rfl) (fun z hz hl3 => ⟨rfl, rfl, rfl, rfl, rfl, rfl, rfl, rfl, rfl, rfl, rfl, rfl, rfl, rfl, rfl, rfl, rfl, rfl, rfl, rfl, rfl, rfl, rfl⟩) (Nat.le_refl _) (fun _ _ => rfl)
  have hRW1 : RLW g F := RLW_keep hRW rfl (fun j j1 j2 => rfl)
  have hTD1 : RTD g F x G P V ln := RTD_keep hTD hLB rfl rfl rfl rfl (fun z hz => ⟨rfl, rfl, rfl, rfl⟩) (fun z hz hl3 => ⟨rfl, rfl, rfl⟩)
  have hTA1 : RTA x G P ln := RTA_keep hTA hLB rfl (fun z hz => ⟨rfl, rfl, rfl, rfl, rfl, rfl⟩)
  have hTB1 : RTB g F x G P V O := fun q hq => RTB_one hTB hRR hLB hq (RVf_eq (fun j j1 j2 => rfl)) (fun z9 h1 => rfl) rfl (fun z hz => ⟨rfl, rfl, rfl, rfl, rfl⟩) (fun z hz h1 h2 => ⟨rfl, rfl, rfl, rfl⟩)
  have hTC1 : RTC la x G P ln := RTC_keep hTC hLB rfl (fun _ _ _ _ _ _ _ q3 => q3) (fun z hz => ⟨rfl, rfl, rfl, rfl, rfl, rfl, rfl, rfl, rfl, rfl, rfl⟩) (fun _ _ => rfl)
  have hBW1 : RBW g F := RBW_keep hBW rfl rfl rfl
  have hBM1 : RBM g F := RBM_keep hBM rfl rfl rfl (fun j j1 j2 => rfl) rfl rfl rfl rfl rfl
  have hBK1 : RBK g F la D x G P V O ln cnt := RBK_keep hBK hLB (fun q hq => RVf_eq (fun j j1 j2 => rfl)) (Nat.le_refl _) (fun _ _ => rfl) (fun fl9 s9 => by have z1 := (CInv_FL hI :) fl9 s9; have z2 := (CInv_V3 hI :) fl9 s9; have z3 := clampI (x := V 3 fl9 s9) z2.1; have z4 := congrArg Int32.toInt hr203; have z5 := clampI (x := g 48) (by omega); omega) rfl (fun z hz => ⟨rfl, rfl, rfl, rfl, rfl, rfl, rfl⟩) (fun z hz hl3 => ⟨rfl, rfl⟩) (fun z hz h1 h2 => by obtain ⟨k9, hk9⟩ := h1; exact ⟨rfl, rfl, rfl⟩) (Nat.le_refl _) (fun _ _ => rfl) (fun z hz h => h)
  have hBO1 : RBO g F x G P V := RBO_keep hBO hLB rfl rfl (fun z hz h1 => by have hl9 : la z = 201 := (by have z9 := lk_230.mp (hLB.1 230 fl_230 x z h1).2.2; omega); exact rfl) rfl rfl
  have hMX1 : RMX g F x G P V := RMX_keep hMX hLB rfl (fun z hz hl3 => ⟨rfl, rfl, rfl⟩) rfl rfl
  have hRL : RLB g F x tp bk wd G P V O ln cnt := ⟨la, D, tb, wl, wz, hLB, hxc, hlx, hdr, hD0, h140, h0w, h201, h202, hlz, h24, hr203, hr0, hr49, hr50, hRR1, hRW1, hTA1, hTB1, hTC1, hTD1, hBW1, hBM1, hBO1, hBK1, hMX1⟩
  have hC1 : CS kk w (ad x) (((G 141) tp).toInt) (s7 ((V 3) fl)) g F := ⟨ad, κ, wd, G, P, U, V, X, O, kd, ln, cnt, x, tp, bk, fl, rfl, hW1, hT1, hI1, hkx, hκ, h220, h229, h3, rfl, rfl, hRL⟩
  replace hP := va_Psw hP
  replace hD := va_Dsw hD
  have hFc := va_fr2 hD hS hA
  have hPc := va_Pr hP
  have hDc := va_Drr hD
  have hKm : va_K (dC, dI) vwCl (mT (kk 0) (kk 1) (kk 2)) s := hK.sub [0, 1, 2] rfl
  refine va_calli (va_runV (As := [.int y1, .int y2]) (rest := []) ⟨hx, hb, hml, hown, hts⟩ (m_about l dC dI H.size h0 (kk 0) (kk 1) (kk 2) q g F y1 y2 r2 hr2) (cwV 2 hts gl_X12_about rfl rfl rfl (by decide +kernel) ⟨Nat.le_of_ble_eq_true rfl, Nat.le_of_ble_eq_true rfl⟩) ⟨fun a U g mk q => by obtain ⟨q0, q1, qP, qK, qD⟩ := q; exact ⟨q0, q1, qP, va_K.moved (u := U) (U := U.calling g mk a) (Vm.Alike.refl U.vm) qK, qD⟩, va_recv hKm hPc (ci := 12) (q0 := 0) rfl rfl, fun U hU hW => ⟨rfl, by rw [hU], by rw [hU]; exact hPc, va_K.moved hW.alike hKm, hDc.weaken (fun _ _ _ _ => trivial)⟩⟩ rfl rfl hl.1 rfl (lv_room (Nat.le_of_ble_eq_true rfl)) dL_law_306 ⟨by show _ ≤ (600000 : Nat); omega, by show _ ≤ (7302250 : Nat); omega⟩) hS (fun q _ h => hFc q h) hFc (fun rr2 u t H1 locs ht1 hvm hw hB hz1 hk1 hS => ?_)
  subst hw
  obtain ⟨hP1, hK1, hD1⟩ := hB
  rw [ht1] at hP1
  obtain ⟨hP, hD⟩ := va_join2 hP hD hk1 hFc hP1 hD1
  replace hP := va_Psw hP
  replace hD := va_Dsw hD
  refine lv_pop hx hb dL_law_309 rfl ?_
  refine lv_goto (tgt := 833) hx hb dL_law_310 (by decide) ?_
  exact kont w g F (((G 141) tp).toInt) (s7 ((V 3) fl)) _ _ _ _ hC1 hM1 (by omega) (by omega) hP hD hS
