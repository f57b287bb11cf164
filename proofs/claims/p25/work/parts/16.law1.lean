set_option maxHeartbeats 8000000 in
set_option maxRecDepth 100000 in
theorem law_5 {p : Program} {e : Env} {s : State} {m : MethodId} {below : List Frame} {meth : Method} {c : Code} (l : Launch) {b L : Nat} {xs : Nat → Int32} {A : Nat → Prop} {dC : Nat → ClassId} {dI : Nat → Nat → Nat} {kk : Nat → ClassId} {adK adV : Nat → Nat} (C0 : lw_At p s m meth c b L xs) (hL : L ≤ 3072) (hA : ∀ q : Nat, s.heap.size ≤ q → A q) (hbA : ¬ A b) (hE : EnvOK s) (hSE : SE adK adV A s) (hK : va_K (dC, dI) vwCl (cT kk) s) {i : Int32} (hi : 0 ≤ i.toInt ∧ i.toInt + 6 ≤ (L : Int)) {ws : va_W} {xa h0 : Nat} {q : Nat → Nat} {g : Nat → Int32} {F : Nat → Nat → Int32} {n σ B1 B2 : Int} {H : Heap} {locs : List Loc} {ls : Array Slot} {cells slots : Nat} (hC : CS kk ws xa n σ g F) (hM : MS g F n) (hB1 : (cells : Int) + 10 * n ≤ B1 + 3 * σ) (hB2 : (slots : Int) + 118 * n ≤ B2 + 2504 * σ) (hc1 : B1 ≤ 590000) (hc2 : B2 ≤ 5500000) (hP : va_P (dC, dI) vwCl ((mW h0 (kk 0) (kk 1) (kk 2) q g F) ++ ws) H) (hD : va_D A ((mW h0 (kk 0) (kk 1) (kk 2) q g F) ++ ws)) (hS : va_S A s.heap H locs) (hl : lv_has ls 4 [(3, .int i), (2, .ref h0), (1, .ref xa), (0, .ref b)]) (kont : ∀ (ws : va_W) (g : Nat → Int32) (F : Nat → Nat → Int32) (n σ : Int) (H : Heap) (locs : List Loc) (cells slots : Nat), CS kk ws xa n σ g F → MS g F n → (cells : Int) + 10 * n ≤ B1 + 228 + 3 * σ → (slots : Int) + 118 * n ≤ B2 + 6860 + 2504 * σ → va_P (dC, dI) vwCl ((mW h0 (kk 0) (kk 1) (kk 2) q g F) ++ ws) H → va_D A ((mW h0 (kk 0) (kk 1) (kk 2) q g F) ++ ws) → va_S A s.heap H locs → W p l e room_1 s m #[Value.ref b] below meth c H locs cells slots (lw_Z below #[Value.ref b] s) (F0 m 833 ls [])) : W p l e room_1 s m #[Value.ref b] below meth c H locs cells slots (lw_Z below #[Value.ref b] s) (F0 m 313 ls []) := by
  obtain ⟨hx, hb, hr9, hml, hown, hts0, hX, hbl, hlocks, hgv⟩ := C0
  have hts := fun w h => hts0 w (wL_tb w h)
  obtain ⟨ad, κ, wd, G, P, U, V, X, O, kd, ln, cnt, x, tp, bk, fl, rfl, hW, hT, hI, hkx, hκ, h220, h229, h3, hn, hσ, hR⟩ := hC
  have hk220 := (((CInv_P220 hI :) x).2 tp h220).1
  have hk229 := (((CInv_P229 hI :) x).2 bk h229).1
  have hs0 := s7_b (CInv_V3 hI :) fl
  have hn0 := (CInv_G141 hI :) tp
  have hj1 : (i + 1).toInt = i.toInt + 1 := z_addc (by decide +kernel) (by omega) (by omega)
  refine lv_aload_n hx hb dL_law_313 rfl (lv_at hl 2 rfl) ?_
  refine lv_aload_n hx hb dL_law_314 rfl (lv_at hl 3 rfl) ?_
  refine lv_iload_n hx hb dL_law_315 rfl (lv_at hl 0 rfl) ?_
  refine lv_iconst (v := 1) hx hb dL_law_316 (by decide +kernel) ?_
  refine lv_iadd hx hb dL_law_317 ?_
  refine va_sld hx hb hX hbl hbA hS (z_in (by omega) (by omega)) dL_law_318 ?_
  refine lv_topi (fun y1 ey1 => ?_)
  obtain ⟨r1, hr1, hq1⟩ := ok_X11_stage κ wd G P U V X O kd ln cnt x y1 (CInv_G222 hI :) (CInv_P221 hI :) (CInv_O2 hI :) (CInv_LN hI :) hκ
  have hI1 : CInv κ wd G P V O ln cnt := (CInv_i (CInv_G43 hI :) (CInv_G44 hI :) (CInv_G45 hI :) (CInv_G60 hI :) (CInv_G83 hI :) (CInv_G84 hI :) (CInv_G85 hI :) (CInv_G87 hI :) (CInv_G88 hI :) (CInv_G102 hI :) (CInv_G125 hI :) (CInv_G126 hI :) (CInv_G127 hI :) (CInv_G141 hI :) (CInv_G160 hI :) (CInv_G161 hI :) (CInv_G162 hI :) (CInv_G165 hI :) (CInv_G166 hI :) (CInv_G183 hI :) (CInv_G200 hI :) (CInv_G203 hI :) (CInv_G222 hI :) (CInv_G231 hI :) (CInv_G233 hI :) (CInv_P0 hI :) (CInv_P1 hI :) (CInv_P2 hI :) (CInv_P3 hI :) (CInv_P4 hI :) (CInv_P5 hI :) (CInv_P20 hI :) (CInv_P21 hI :) (CInv_P22 hI :) (CInv_P23 hI :) (CInv_P40 hI :) (CInv_P41 hI :) (CInv_P42 hI :) (CInv_P61 hI :) (CInv_P62 hI :) (CInv_P63 hI :) (CInv_P64 hI :) (CInv_P65 hI :) (CInv_P66 hI :) (CInv_P82 hI :) (CInv_P101 hI :) (CInv_P103 hI :) (CInv_P104 hI :) (CInv_P105 hI :) (CInv_P106 hI :) (CInv_P108 hI :) (CInv_P109 hI :) (CInv_P110 hI :) (CInv_P120 hI :) (CInv_P121 hI :) (CInv_P122 hI :) (CInv_P123 hI :) (CInv_P140 hI :) (CInv_P164 hI :) (CInv_P180 hI :) (CInv_P181 hI :) (CInv_P182 hI :) (CInv_P185 hI :) (CInv_P186 hI :) (CInv_P187 hI :) (CInv_P201 hI :) (CInv_P202 hI :) (CInv_P220 hI :) (CInv_P221 hI :) (CInv_P224 hI :) (CInv_P225 hI :) (CInv_P226 hI :) (CInv_P227 hI :) (CInv_P228 hI :) (CInv_P229 hI :) (CInv_P230 hI :) (CInv_P232 hI :) (CInv_P234 hI :) (CInv_P235 hI :) (CInv_P236 hI :) (CInv_V1 hI :) (CInv_V2 hI :) (CInv_V3 hI :) (CInv_V9 hI :) (CInv_O0 hI :) (CInv_O1 hI :) (CInv_O2 hI :) (CInv_RA hI :) (CInv_RB hI :) (CInv_RI hI :) (CInv_RM103 hI :) (CInv_RM104 hI :) (CInv_RM108 hI :) (CInv_LN hI :) (CInv_FL hI :) (CInv_W0 hI :) (CInv_KC hI :) (CInv_WK hI :))
  obtain ⟨la, D, tb, wl, wz, hLB, hxc, hlx, hdr, hD0, h140, h0w, h201, h202, hlz, h24, hr203, hr0, hr49, hr50, hRR, hRW, hTA, hTB, hTC, hTD, hBW, hBM, hBO, hBK, hMX⟩ := hR
  have ltp := (hLB.1 220 fl_220 x tp h220).2.1
  have lbp : la tp = 10 := lk_220.mp (hLB.1 220 fl_220 x tp h220).2.2
  have ltb := (hLB.1 140 fl_140 tp tb h140).2.1
  have lbb : la tb = la tp + 1 := lk_140.mp (hLB.1 140 fl_140 tp tb h140).2.2
  obtain ⟨_, lbk, _⟩ := hLB.1 229 fl_229 x bk h229
  have lwd := (hLB.1 0 fl_0 bk wd h0w).2.1
  have lbw : la wd = 20 := lk_0.mp (hLB.1 0 fl_0 bk wd h0w).2.2
  have lwl := (hLB.1 201 fl_201 wd wl h201).2.1
  have lbl : la wl = la wd + 0 := lk_201.mp (hLB.1 201 fl_201 wd wl h201).2.2
  have lwz := (hLB.1 202 fl_202 wd wz h202).2.1
  have lbz : la wz = la wd + 0 := lk_202.mp (hLB.1 202 fl_202 wd wz h202).2.2
  have hFc := va_fr2 hD hS hA
  have hPc := va_Pr hP
  have hDc := va_Drr hD
  obtain ⟨i0, hi0⟩ := hW.o11 hkx
  refine va_calli (va_runV (As := [.int y1]) (rest := []) ⟨hx, hb, hml, hown, hts⟩ (m_X11_stage l dC dI kk ad H.size ws G P U V X O kd ln cnt x y1 hkx hW hT r1 hr1) (cwV 1 hts gl_X11_stage rfl rfl rfl (by decide +kernel) ⟨Nat.le_of_ble_eq_true rfl, Nat.le_of_ble_eq_true rfl⟩) ⟨fun a U g mk q => by obtain ⟨q0, q1, qP, qK, qD⟩ := q; exact ⟨q0, q1, qP, va_K.moved (u := U) (U := U.calling g mk a) (Vm.Alike.refl U.vm) qK, qD⟩, va_recv hK hPc (ci := 11) (q0 := i0) rfl hi0, fun U hU hW => ⟨rfl, by rw [hU], by rw [hU]; exact hPc, va_K.moved hW.alike hK, hDc.weaken (fun _ _ _ _ => trivial)⟩⟩ rfl rfl hl.1 rfl (lv_room (Nat.le_of_ble_eq_true rfl)) dL_law_319 ⟨by show _ ≤ (600000 : Nat); omega, by show _ ≤ (7302250 : Nat); omega⟩) hS (fun q _ h => hFc q h) hFc (fun rr w t H1 locs ht1 hvm hw hB hz1 hk1 hS => ?_)
  obtain ⟨hw0, hW1, hT1⟩ := hw
  subst hw0
  obtain ⟨hP1, hK1, hD1⟩ := hB
  rw [ht1] at hP1
  obtain ⟨hP, hD⟩ := va_join2 hP hD hk1 hFc hP1 hD1
  clear hFc hPc hDc hk1 hz1 hvm ht1 hP1 hD1 hK1
  generalize H1 = H at hP hS ⊢
  refine lv_pop hx hb dL_law_322 rfl ?_
  refine lv_aload_n hx hb dL_law_323 rfl (lv_at hl 1 rfl) ?_
  refine lv_aload_n hx hb dL_law_324 rfl (lv_at hl 3 rfl) ?_
  refine lv_iload_n hx hb dL_law_325 rfl (lv_at hl 0 rfl) ?_
  refine lv_iconst (v := 1) hx hb dL_law_326 (by decide +kernel) ?_
  refine lv_iadd hx hb dL_law_327 ?_
  refine va_sld hx hb hX hbl hbA hS (z_in (by omega) (by omega)) dL_law_328 ?_
  refine lv_topi (fun z1 ez1 => ?_)
  obtain rfl : y1 = z1 := ey1.trans ez1.symm
  obtain ⟨hMI, hgn⟩ := hM
  refine MInv_e hMI (fun hmg1 hmg2 hmg3 hmg4 hmg5 hmg6 hmg7 hmg8 hmg9 hmg23 hmg27 hmg30 hmg34 hmg36 hmg39 hmg44 hmg47 hmg48 hmg51 hmg56 hmg59 hmg62 hmg65 hmg66 hmg70 hmF11 hmF12 hmF13 hmF15 hmF19 hmF21 hmF24 hmF25 hmF26 hmF33 hmF38 hmF41 hmF43 hmF45 hmF46 hmF50 hmF53 hmF54 hmLQ => ?_)
  obtain ⟨r2, hr2, hq2⟩ := ok_stage g F y1 hMI
  have hM1 : MS g F (((G 141) tp).toInt) := ⟨(MInv_i hmg1 hmg2 hmg3 hmg4 hmg5 hmg6 hmg7 hmg8 hmg9 hmg23 hmg27 hmg30 hmg34 hmg36 hmg39 hmg44 hmg47 hmg48 hmg51 hmg56 hmg59 hmg62 hmg65 hmg66 hmg70 hmF11 hmF12 hmF13 hmF15 hmF19 hmF21 hmF24 hmF25 hmF26 hmF33 hmF38 hmF41 hmF43 hmF45 hmF46 hmF50 hmF53 hmF54 hmLQ), by show (g 1).toInt = ((G 141) tp).toInt; omega⟩
  have hRR1 : RLR g F la D x G P V O ln cnt := RLR_keep hRR hLB hxc rfl rfl rfl (fun j j1 j2 => rfl) rfl rfl rfl rfl rfl (fun z hz hl3 => ⟨rfl, rfl⟩) (fun z hz => rfl) (fun z hz hl3 => ⟨rfl, rfl, rfl, rfl, rfl, rfl, rfl, rfl, rfl, rfl, rfl, rfl, rfl, rfl, rfl, rfl, rfl, rfl, rfl, rfl, rfl, rfl, rfl⟩) (Nat.le_refl _) (fun _ _ => rfl)
  have hRW1 : RLW g F := RLW_keep hRW rfl (fun j j1 j2 => rfl)
  have hTD1 : RTD g F x G P V ln := RTD_keep hTD hLB rfl rfl rfl rfl (fun z hz => ⟨rfl, rfl, rfl, rfl⟩) (fun z hz hl3 => ⟨rfl, rfl, rfl⟩)
  have hTA1 : RTA x G P ln := RTA_keep hTA hLB rfl (fun z hz => ⟨rfl, rfl, rfl, rfl, rfl, rfl⟩)
  have hTB1 : RTB g F x G P V O := fun q hq => RTB_one hTB hRR hLB hq (RVf_eq (fun j j1 j2 => rfl)) (fun z9 h1 => rfl) rfl (fun z hz => ⟨rfl, rfl, rfl, rfl, rfl⟩) (fun z hz h1 h2 => ⟨rfl, rfl, rfl, rfl⟩)
  have hTC1 : RTC la x G P ln := RTC_keep hTC hLB rfl (fun _ _ _ _ _ _ _ q3 => q3) (fun z hz => ⟨rfl, rfl, rfl, rfl, rfl, rfl, rfl, rfl, rfl, rfl, rfl⟩) (fun _ _ => rfl)
  have hBW1 : RBW g F := RBW_keep hBW rfl rfl rfl
  have hBM1 : RBM g F := RBM_keep hBM rfl rfl rfl (fun j j1 j2 => rfl) rfl rfl rfl rfl rfl
  have hBK1 : RBK g F la D x G P V O ln cnt := RBK_keep hBK hLB (fun q hq => RVf_eq (fun j j1 j2 => rfl)) (Nat.le_refl _) (fun _ _ => rfl) (fun fl9 s9 => by have z1 := (CInv_FL hI :) fl9 s9; have z2 := (CInv_V3 hI :) fl9 s9; have z3 := clampI (x := V 3 fl9 s9) z2.1; have z4 := congrArg Int32.toInt hr203; have z5 := clampI (x := g 48) (by omega); omega) rfl (fun z hz => ⟨rfl, rfl, rfl, rfl, rfl, rfl, rfl⟩) (fun z hz hl3 => ⟨rfl, rfl⟩) (fun z hz h1 h2 => by obtain ⟨k9, hk9⟩ := h1; exact ⟨rfl, rfl, rfl⟩) (Nat.le_refl _) (fun _ _ => rfl) (fun z hz h => h)
  have hBO1 : RBO g F x G P V := RBO_keep hBO hLB rfl rfl (fun z hz h1 => by have hl9 : la z = 201 := (by have z9 := lk_230.mp (hLB.1 230 fl_230 x z h1).2.2; omega); exact rfl) rfl rfl
  have hMX1 : RMX g F x G P V := RMX_keep hMX hLB rfl (fun z hz hl3 => ⟨rfl, rfl, rfl⟩) rfl rfl
  have hRL : RLB g F x tp bk wd G P V O ln cnt := ⟨la, D, tb, wl, wz, hLB, hxc, hlx, hdr, hD0, h140, h0w, h201, h202, hlz, h24, hr203, hr0, hr49, hr50, hRR1, hRW1, hTA1, hTB1, hTC1, hTD1, hBW1, hBM1, hBO1, hBK1, hMX1⟩
  have hC1 : CS kk w (ad x) (((G 141) tp).toInt) (s7 ((V 3) fl)) g F := ⟨ad, κ, wd, G, P, U, V, X, O, kd, ln, cnt, x, tp, bk, fl, rfl, hW1, hT1, hI1, hkx, hκ, h220, h229, h3, rfl, rfl, hRL⟩
  replace hP := va_Psw hP
  replace hD := va_Dsw hD
  have hFc := va_fr2 hD hS hA
  have hPc := va_Pr hP
  have hDc := va_Drr hD
  have hKm : va_K (dC, dI) vwCl (mT (kk 0) (kk 1) (kk 2)) s := hK.sub [0, 1, 2] rfl
  refine va_calli (va_runV (As := [.int y1]) (rest := []) ⟨hx, hb, hml, hown, hts⟩ (m_stage l dC dI H.size h0 (kk 0) (kk 1) (kk 2) q g F y1 r2 hr2) (cwV 1 hts gl_X12_stage rfl rfl rfl (by decide +kernel) ⟨Nat.le_of_ble_eq_true rfl, Nat.le_of_ble_eq_true rfl⟩) ⟨fun a U g mk q => by obtain ⟨q0, q1, qP, qK, qD⟩ := q; exact ⟨q0, q1, qP, va_K.moved (u := U) (U := U.calling g mk a) (Vm.Alike.refl U.vm) qK, qD⟩, va_recv hKm hPc (ci := 12) (q0 := 0) rfl rfl, fun U hU hW => ⟨rfl, by rw [hU], by rw [hU]; exact hPc, va_K.moved hW.alike hKm, hDc.weaken (fun _ _ _ _ => trivial)⟩⟩ rfl rfl hl.1 rfl (lv_room (Nat.le_of_ble_eq_true rfl)) dL_law_329 ⟨by show _ ≤ (600000 : Nat); omega, by show _ ≤ (7302250 : Nat); omega⟩) hS (fun q _ h => hFc q h) hFc (fun rr2 u t H1 locs ht1 hvm hw hB hz1 hk1 hS => ?_)
  subst hw
  obtain ⟨hP1, hK1, hD1⟩ := hB
  rw [ht1] at hP1
  obtain ⟨hP, hD⟩ := va_join2 hP hD hk1 hFc hP1 hD1
  replace hP := va_Psw hP
  replace hD := va_Dsw hD
  refine lv_pop hx hb dL_law_332 rfl ?_
  refine lv_goto (tgt := 833) hx hb dL_law_333 (by decide) ?_
  exact kont w g F (((G 141) tp).toInt) (s7 ((V 3) fl)) _ _ _ _ hC1 hM1 (by omega) (by omega) hP hD hS
set_option maxHeartbeats 8000000 in
set_option maxRecDepth 100000 in
theorem law_6 {p : Program} {e : Env} {s : State} {m : MethodId} {below : List Frame} {meth : Method} {c : Code} (l : Launch) {b L : Nat} {xs : Nat → Int32} {A : Nat → Prop} {dC : Nat → ClassId} {dI : Nat → Nat → Nat} {kk : Nat → ClassId} {adK adV : Nat → Nat} (C0 : lw_At p s m meth c b L xs) (hL : L ≤ 3072) (hA : ∀ q : Nat, s.heap.size ≤ q → A q) (hbA : ¬ A b) (hE : EnvOK s) (hSE : SE adK adV A s) (hK : va_K (dC, dI) vwCl (cT kk) s) {i : Int32} (hi : 0 ≤ i.toInt ∧ i.toInt + 6 ≤ (L : Int)) {ws : va_W} {xa h0 : Nat} {q : Nat → Nat} {g : Nat → Int32} {F : Nat → Nat → Int32} {n σ B1 B2 : Int} {H : Heap} {locs : List Loc} {ls : Array Slot} {cells slots : Nat} (hC : CS kk ws xa n σ g F) (hM : MS g F n) (hB1 : (cells : Int) + 10 * n ≤ B1 + 3 * σ) (hB2 : (slots : Int) + 118 * n ≤ B2 + 2504 * σ) (hc1 : B1 ≤ 590000) (hc2 : B2 ≤ 5500000) (hP : va_P (dC, dI) vwCl ((mW h0 (kk 0) (kk 1) (kk 2) q g F) ++ ws) H) (hD : va_D A ((mW h0 (kk 0) (kk 1) (kk 2) q g F) ++ ws)) (hS : va_S A s.heap H locs) (hl : lv_has ls 4 [(3, .int i), (2, .ref h0), (1, .ref xa), (0, .ref b)]) (kont : ∀ (ws : va_W) (g : Nat → Int32) (F : Nat → Nat → Int32) (n σ : Int) (H : Heap) (locs : List Loc) (cells slots : Nat), CS kk ws xa n σ g F → MS g F n → (cells : Int) + 10 * n ≤ B1 + 228 + 3 * σ → (slots : Int) + 118 * n ≤ B2 + 6860 + 2504 * σ → va_P (dC, dI) vwCl ((mW h0 (kk 0) (kk 1) (kk 2) q g F) ++ ws) H → va_D A ((mW h0 (kk 0) (kk 1) (kk 2) q g F) ++ ws) → va_S A s.heap H locs → W p l e room_1 s m #[Value.ref b] below meth c H locs cells slots (lw_Z below #[Value.ref b] s) (F0 m 833 ls [])) : W p l e room_1 s m #[Value.ref b] below meth c H locs cells slots (lw_Z below #[Value.ref b] s) (F0 m 336 ls []) := by
  obtain ⟨hx, hb, hr9, hml, hown, hts0, hX, hbl, hlocks, hgv⟩ := C0
  have hts := fun w h => hts0 w (wL_tb w h)
  obtain ⟨ad, κ, wd, G, P, U, V, X, O, kd, ln, cnt, x, tp, bk, fl, rfl, hW, hT, hI, hkx, hκ, h220, h229, h3, hn, hσ, hR⟩ := hC
  have hk220 := (((CInv_P220 hI :) x).2 tp h220).1
  have hk229 := (((CInv_P229 hI :) x).2 bk h229).1
  have hs0 := s7_b (CInv_V3 hI :) fl
  have hn0 := (CInv_G141 hI :) tp
  have hj1 : (i + 1).toInt = i.toInt + 1 := z_addc (by decide +kernel) (by omega) (by omega)
  have hj2 : (i + 2).toInt = i.toInt + 2 := z_addc (by decide +kernel) (by omega) (by omega)
  refine lv_aload_n hx hb dL_law_336 rfl (lv_at hl 2 rfl) ?_
  refine lv_aload_n hx hb dL_law_337 rfl (lv_at hl 3 rfl) ?_
  refine lv_iload_n hx hb dL_law_338 rfl (lv_at hl 0 rfl) ?_
  refine lv_iconst (v := 1) hx hb dL_law_339 (by decide +kernel) ?_
  refine lv_iadd hx hb dL_law_340 ?_
  refine va_sld hx hb hX hbl hbA hS (z_in (by omega) (by omega)) dL_law_341 ?_
  refine lv_topi (fun y1 ey1 => ?_)
  refine lv_aload_n hx hb dL_law_342 rfl (lv_at hl 3 rfl) ?_
  refine lv_iload_n hx hb dL_law_343 rfl (lv_at hl 0 rfl) ?_
  refine lv_iconst (v := 2) hx hb dL_law_344 (by decide +kernel) ?_
  refine lv_iadd hx hb dL_law_345 ?_
  refine va_sld hx hb hX hbl hbA hS (z_in (by omega) (by omega)) dL_law_346 ?_
  refine lv_topi (fun y2 ey2 => ?_)
  obtain ⟨⟨r1, c_G60, c_G141, c_G183, c_G203, c_P66, c_P181, c_P182, c_P186, c_P187, c_U184, c_V0, c_V1, c_V2, c_V12⟩, hr1, hnG60, hnG141, hnG183, hnG203, hnP66, hnP181, hnP182, hnP186, hnP187, hnV1, hnV2, hnRB, hnFL, po0⟩ := ok_X11_turn κ wd G P U V X O kd ln cnt x y1 y2 (CInv_G60 hI :) (CInv_G102 hI :) (CInv_G141 hI :) (CInv_G183 hI :) (CInv_G200 hI :) (CInv_G203 hI :) (CInv_G222 hI :) (CInv_P20 hI :) (CInv_P21 hI :) (CInv_P22 hI :) (CInv_P23 hI :) (CInv_P61 hI :) (CInv_P62 hI :) (CInv_P63 hI :) (CInv_P64 hI :) (CInv_P65 hI :) (CInv_P66 hI :) (CInv_P101 hI :) (CInv_P103 hI :) (CInv_P104 hI :) (CInv_P105 hI :) (CInv_P106 hI :) (CInv_P108 hI :) (CInv_P109 hI :) (CInv_P110 hI :) (CInv_P140 hI :) (CInv_P180 hI :) (CInv_P181 hI :) (CInv_P182 hI :) (CInv_P185 hI :) (CInv_P186 hI :) (CInv_P187 hI :) (CInv_P201 hI :) (CInv_P202 hI :) (CInv_P220 hI :) (CInv_P221 hI :) (CInv_P226 hI :) (CInv_P227 hI :) (CInv_V1 hI :) (CInv_V2 hI :) (CInv_V3 hI :) (CInv_O0 hI :) (CInv_O2 hI :) (CInv_RA hI :) (CInv_RB hI :) (CInv_RI hI :) (CInv_RM103 hI :) (CInv_RM104 hI :) (CInv_RM108 hI :) (CInv_LN hI :) (CInv_FL hI :) hκ
  have hI1 : CInv κ wd (va_up (va_up (va_up (va_up G 60 c_G60) 141 c_G141) 183 c_G183) 203 c_G203) (va_up (va_up (va_up (va_up (va_up P 66 c_P66) 181 c_P181) 182 c_P182) 186 c_P186) 187 c_P187) (va_up (va_up (va_up (va_up V 0 c_V0) 1 c_V1) 2 c_V2) 12 c_V12) O ln cnt := (CInv_i (CInv_G43 hI :) (CInv_G44 hI :) (CInv_G45 hI :) hnG60 (CInv_G83 hI :) (CInv_G84 hI :) (CInv_G85 hI :) (CInv_G87 hI :) (CInv_G88 hI :) (CInv_G102 hI :) (CInv_G125 hI :) (CInv_G126 hI :) (CInv_G127 hI :) hnG141 (CInv_G160 hI :) (CInv_G161 hI :) (CInv_G162 hI :) (CInv_G165 hI :) (CInv_G166 hI :) hnG183 (CInv_G200 hI :) hnG203 (CInv_G222 hI :) (CInv_G231 hI :) (CInv_G233 hI :) (CInv_P0 hI :) (CInv_P1 hI :) (CInv_P2 hI :) (CInv_P3 hI :) (CInv_P4 hI :) (CInv_P5 hI :) (CInv_P20 hI :) (CInv_P21 hI :) (CInv_P22 hI :) (CInv_P23 hI :) (CInv_P40 hI :) (CInv_P41 hI :) (CInv_P42 hI :) (CInv_P61 hI :) (CInv_P62 hI :) (CInv_P63 hI :) (CInv_P64 hI :) (CInv_P65 hI :) hnP66 (CInv_P82 hI :) (CInv_P101 hI :) (CInv_P103 hI :) (CInv_P104 hI :) (CInv_P105 hI :) (CInv_P106 hI :) (CInv_P108 hI :) (CInv_P109 hI :) (CInv_P110 hI :) (CInv_P120 hI :) (CInv_P121 hI :) (CInv_P122 hI :) (CInv_P123 hI :) (CInv_P140 hI :) (CInv_P164 hI :) (CInv_P180 hI :) hnP181 hnP182 (CInv_P185 hI :) hnP186 hnP187 (CInv_P201 hI :) (CInv_P202 hI :) (CInv_P220 hI :) (CInv_P221 hI :) (CInv_P224 hI :) (CInv_P225 hI :) (CInv_P226 hI :) (CInv_P227 hI :) (CInv_P228 hI :) (CInv_P229 hI :) (CInv_P230 hI :) (CInv_P232 hI :) (CInv_P234 hI :) (CInv_P235 hI :) (CInv_P236 hI :) hnV1 hnV2 (CInv_V3 hI :) (CInv_V9 hI :) (CInv_O0 hI :) (CInv_O1 hI :) (CInv_O2 hI :) (CInv_RA hI :) hnRB (CInv_RI hI :) (CInv_RM103 hI :) (CInv_RM104 hI :) (CInv_RM108 hI :) (CInv_LN hI :) hnFL (CInv_W0 hI :) (CInv_KC hI :) (CInv_WK hI :))
  dsimp only at po0
  try dsimp only at hnG141
  have ht := po0 tp h220
  have hn1 := hnG141 tp
  obtain ⟨la, D, tb, wl, wz, hLB, hxc, hlx, hdr, hD0, h140, h0w, h201, h202, hlz, h24, hr203, hr0, hr49, hr50, hRR, hRW, hTA, hTB, hTC, hTD, hBW, hBM, hBO, hBK, hMX⟩ := hR
  have ltp := (hLB.1 220 fl_220 x tp h220).2.1
  have lbp : la tp = 10 := lk_220.mp (hLB.1 220 fl_220 x tp h220).2.2
  have ltb := (hLB.1 140 fl_140 tp tb h140).2.1
  have lbb : la tb = la tp + 1 := lk_140.mp (hLB.1 140 fl_140 tp tb h140).2.2
  obtain ⟨_, lbk, _⟩ := hLB.1 229 fl_229 x bk h229
  have lwd := (hLB.1 0 fl_0 bk wd h0w).2.1
  have lbw : la wd = 20 := lk_0.mp (hLB.1 0 fl_0 bk wd h0w).2.2
  have lwl := (hLB.1 201 fl_201 wd wl h201).2.1
  have lbl : la wl = la wd + 0 := lk_201.mp (hLB.1 201 fl_201 wd wl h201).2.2
  have lwz := (hLB.1 202 fl_202 wd wz h202).2.1
  have lbz : la wz = la wd + 0 := lk_202.mp (hLB.1 202 fl_202 wd wz h202).2.2
  obtain ⟨qf_G60, qf_G141, qf_G183, qf_G203, qf_P66, qf_P181, qf_P182, qf_P186, qf_P187, qf_U184, qf_V0, qf_V1, qf_V2, qf_V12, ql_P66, ql_P181, ql_P182, ql_P186, ql_P187⟩ : (∀ z, ((la z < 10 ∨ 10 < la z) ∧ (la z < 90 ∨ 90 + 8 < la z) ∧ (la z < 50 ∨ 50 < la z)) → c_G60 z = (G 60) z) ∧ (∀ z, ((la z < 10 ∨ 10 < la z) ∧ (la z < 90 ∨ 90 + 8 < la z) ∧ (la z < 50 ∨ 50 < la z)) → c_G141 z = (G 141) z) ∧ (∀ z, ((la z < 10 ∨ 10 < la z) ∧ (la z < 90 ∨ 90 + 8 < la z) ∧ (la z < 50 ∨ 50 < la z)) → c_G183 z = (G 183) z) ∧ (∀ z, ((la z < 10 ∨ 10 < la z) ∧ (la z < 90 ∨ 90 + 8 < la z) ∧ (la z < 50 ∨ 50 < la z)) → c_G203 z = (G 203) z) ∧ (∀ z, ((la z < 10 ∨ 10 < la z) ∧ (la z < 90 ∨ 90 + 8 < la z) ∧ (la z < 50 ∨ 50 < la z)) → c_P66 z = (P 66) z) ∧ (∀ z, ((la z < 10 ∨ 10 < la z) ∧ (la z < 90 ∨ 90 + 8 < la z) ∧ (la z < 50 ∨ 50 < la z)) → c_P181 z = (P 181) z) ∧ (∀ z, ((la z < 10 ∨ 10 < la z) ∧ (la z < 90 ∨ 90 + 8 < la z) ∧ (la z < 50 ∨ 50 < la z)) → c_P182 z = (P 182) z) ∧ (∀ z, ((la z < 10 ∨ 10 < la z) ∧ (la z < 90 ∨ 90 + 8 < la z) ∧ (la z < 50 ∨ 50 < la z)) → c_P186 z = (P 186) z) ∧ (∀ z, ((la z < 10 ∨ 10 < la z) ∧ (la z < 90 ∨ 90 + 8 < la z) ∧ (la z < 50 ∨ 50 < la z)) → c_P187 z = (P 187) z) ∧ (∀ z, ((la z < 10 ∨ 10 < la z) ∧ (la z < 90 ∨ 90 + 8 < la z) ∧ (la z < 50 ∨ 50 < la z)) → c_U184 z = (U 184) z) ∧ (∀ z, ((la z < 10 ∨ 10 < la z) ∧ (la z < 90 ∨ 90 + 8 < la z) ∧ (la z < 50 ∨ 50 < la z)) → c_V0 z = (V 0) z) ∧ (∀ z, ((la z < 10 ∨ 10 < la z) ∧ (la z < 90 ∨ 90 + 8 < la z) ∧ (la z < 50 ∨ 50 < la z)) → c_V1 z = (V 1) z) ∧ (∀ z, ((la z < 10 ∨ 10 < la z) ∧ (la z < 90 ∨ 90 + 8 < la z) ∧ (la z < 50 ∨ 50 < la z)) → c_V2 z = (V 2) z) ∧ (∀ z, ((la z < 10 ∨ 10 < la z) ∧ (la z < 90 ∨ 90 + 8 < la z) ∧ (la z < 50 ∨ 50 < la z)) → c_V12 z = (V 12) z) ∧ LC 66 la cnt c_P66 ∧ LC 181 la cnt c_P181 ∧ LC 182 la cnt c_P182 ∧ LC 186 la cnt c_P186 ∧ LC 187 la cnt c_P187 := fr_X11_turn la G P U V X O kd ln cnt x y1 y2 hLB hxc hlx _ hr1
  obtain ⟨rd, dr, ra, ⟨a1, a2, a3⟩, ⟨b1, b2, b3⟩, ⟨c1, c2, c3⟩, d1, d2, d3⟩ := id hRR
  obtain ⟨lf9, l9, s9, T9, ⟨f1, f2, f3⟩, ⟨f4, f5⟩, f6, f7⟩ := id hTD
  obtain ⟨tn9, nw9, nx9, wh9, pg9, fi9, pa9, pk9, sz9, cl9, ah9, bh9, lah9, sah9, lbh9, sbh9, ⟨v1, v2, v3, v4⟩, ⟨i1, i2, i3, i4, i5, i6, i7⟩, ⟨j1, j2⟩, ⟨l1, l2, l3, l4⟩, ⟨m1, m2, m3, m4⟩, hab9⟩ := RTC_ord hTC
  have hnn : Int32.toNatClampNeg (G 141 tp) = Int32.toNatClampNeg (g 1) := congrArg Int.toNat (hn.trans hM.2.symm)
  have hni : (G 141 tp).toInt = (g 1).toInt := hn.trans hM.2.symm
  have htn9 : la tn9 = 90 := lk_226.mp (hLB.1 226 fl_226 x tn9 v1).2.2
  have px : QF_X11_turn κ wd la G P U V X O kd ln cnt x y1 y2 (F 0) (Int32.toNatClampNeg (g 1)) tp tb ra tn9 nw9 nx9 wh9 pg9 fi9 pa9 pk9 sz9 cl9 ah9 bh9 lah9 sah9 lbh9 sbh9 lf9 l9 s9 (RVf F) (r1, c_G60, c_G141, c_G183, c_G203, c_P66, c_P181, c_P182, c_P186, c_P187, c_U184, c_V0, c_V1, c_V2, c_V12) := pwq (fn_X11_turn κ wd la G P U V X O kd ln cnt x y1 y2 (F 0) (Int32.toNatClampNeg (g 1)) tp tb ra tn9 nw9 nx9 wh9 pg9 fi9 pa9 pk9 sz9 cl9 ah9 bh9 lah9 sah9 lbh9 sbh9 lf9 l9 s9 (RVf F) (CInv_G60 hI :) (CInv_G102 hI :) (CInv_G141 hI :) (CInv_G183 hI :) (CInv_G200 hI :) (CInv_G203 hI :) (CInv_G222 hI :) (CInv_P20 hI :) (CInv_P21 hI :) (CInv_P22 hI :) (CInv_P23 hI :) (CInv_P61 hI :) (CInv_P62 hI :) (CInv_P63 hI :) (CInv_P64 hI :) (CInv_P65 hI :) (CInv_P66 hI :) (CInv_P101 hI :) (CInv_P103 hI :) (CInv_P104 hI :) (CInv_P105 hI :) (CInv_P106 hI :) (CInv_P108 hI :) (CInv_P109 hI :) (CInv_P110 hI :) (CInv_P140 hI :) (CInv_P180 hI :) (CInv_P181 hI :) (CInv_P182 hI :) (CInv_P185 hI :) (CInv_P186 hI :) (CInv_P187 hI :) (CInv_P201 hI :) (CInv_P202 hI :) (CInv_P220 hI :) (CInv_P221 hI :) (CInv_P226 hI :) (CInv_P227 hI :) (CInv_V1 hI :) (CInv_V2 hI :) (CInv_V3 hI :) (CInv_O0 hI :) (CInv_O2 hI :) (CInv_RA hI :) (CInv_RB hI :) (CInv_RI hI :) (CInv_RM103 hI :) (CInv_RM104 hI :) (CInv_RM108 hI :) (CInv_LN hI :) (CInv_FL hI :) hκ hLB hxc h220 h140 a3 hr0 hnn v1 v2 v3 v4 i1 i2 i3 i4 i5 i6 i7 htn9 j1 j2 l1 l2 l3 l4 m1 m2 m3 m4 hab9 f1 f2 f3 f4 f5 (Nat.le_antisymm (((CInv_P221 hI :) x).2 ra a3).2.2.1 (((CInv_P221 hI :) x).2 ra a3).2.1) (fun i => by rw [← hr0]; exact hT.2.2.1 tb i) (fun q hq => by rw [c1] at hq; obtain ⟨rf, k9, z1, z2, z3, z4, z5⟩ := d3 q hq; obtain ⟨ra2, rf2, u1, u2, u3⟩ := hTB q hq; have e1 : ra2 = ra := Option.some.inj (u1.symm.trans a3); rw [e1, z1] at u2; have e2 : rf = rf2 := Option.some.inj u2; rw [← e2] at u3; exact ⟨rf, z1, z2, by omega, ⟨_, z5⟩, u3, hRW q hq⟩)) hr1
  obtain ⟨k0, k1, _, _⟩ := px
  dsimp only at k0 k1
  rw [hni, c1] at k0 k1
  have hFc := va_fr2 hD hS hA
  have hPc := va_Pr hP
  have hDc := va_Drr hD
  obtain ⟨i0, hi0⟩ := hW.o11 hkx
  refine va_calli (va_runV (As := [.int y1, .int y2]) (rest := []) ⟨hx, hb, hml, hown, hts⟩ (m_X11_turn l dC dI kk ad H.size ws G P U V X O kd ln cnt x y1 y2 hkx hW hT r1 c_G60 c_G141 c_G183 c_G203 c_P66 c_P181 c_P182 c_P186 c_P187 c_U184 c_V0 c_V1 c_V2 c_V12 hr1) (cwV 2 hts gl_X11_turn rfl rfl rfl (by decide +kernel) ⟨Nat.le_of_ble_eq_true rfl, Nat.le_of_ble_eq_true rfl⟩) ⟨fun a U g mk q => by obtain ⟨q0, q1, qP, qK, qD⟩ := q; exact ⟨q0, q1, qP, va_K.moved (u := U) (U := U.calling g mk a) (Vm.Alike.refl U.vm) qK, qD⟩, va_recv hK hPc (ci := 11) (q0 := i0) rfl hi0, fun U hU hW => ⟨rfl, by rw [hU], by rw [hU]; exact hPc, va_K.moved hW.alike hK, hDc.weaken (fun _ _ _ _ => trivial)⟩⟩ rfl rfl hl.1 rfl (lv_room (Nat.le_of_ble_eq_true rfl)) dL_law_347 ⟨by show _ ≤ (600000 : Nat); omega, by show _ ≤ (7302250 : Nat); omega⟩) hS (fun q _ h => hFc q h) hFc (fun rr w t H1 locs ht1 hvm hw hB hz1 hk1 hS => ?_)
  obtain ⟨hw0, hW1, hT1⟩ := hw
  subst hw0
  obtain ⟨hP1, hK1, hD1⟩ := hB
  rw [ht1] at hP1
  obtain ⟨hP, hD⟩ := va_join2 hP hD hk1 hFc hP1 hD1
  clear hFc hPc hDc hk1 hz1 hvm ht1 hP1 hD1 hK1
  generalize H1 = H at hP hS ⊢
  refine lv_pop hx hb dL_law_350 rfl ?_
  refine lv_aload_n hx hb dL_law_351 rfl (lv_at hl 1 rfl) ?_
  refine lv_aload_n hx hb dL_law_352 rfl (lv_at hl 3 rfl) ?_
  refine lv_iload_n hx hb dL_law_353 rfl (lv_at hl 0 rfl) ?_
  refine lv_iconst (v := 1) hx hb dL_law_354 (by decide +kernel) ?_
  refine lv_iadd hx hb dL_law_355 ?_
  refine va_sld hx hb hX hbl hbA hS (z_in (by omega) (by omega)) dL_law_356 ?_
  refine lv_topi (fun z1 ez1 => ?_)
  obtain rfl : y1 = z1 := ey1.trans ez1.symm
  refine lv_aload_n hx hb dL_law_357 rfl (lv_at hl 3 rfl) ?_
  refine lv_iload_n hx hb dL_law_358 rfl (lv_at hl 0 rfl) ?_
  refine lv_iconst (v := 2) hx hb dL_law_359 (by decide +kernel) ?_
  refine lv_iadd hx hb dL_law_360 ?_
  refine va_sld hx hb hX hbl hbA hS (z_in (by omega) (by omega)) dL_law_361 ?_
  refine lv_topi (fun z2 ez2 => ?_)
  obtain rfl : y2 = z2 := ey2.trans ez2.symm
  obtain ⟨hMI, hgn⟩ := hM
  refine MInv_e hMI (fun hmg1 hmg2 hmg3 hmg4 hmg5 hmg6 hmg7 hmg8 hmg9 hmg23 hmg27 hmg30 hmg34 hmg36 hmg39 hmg44 hmg47 hmg48 hmg51 hmg56 hmg59 hmg62 hmg65 hmg66 hmg70 hmF11 hmF12 hmF13 hmF15 hmF19 hmF21 hmF24 hmF25 hmF26 hmF33 hmF38 hmF41 hmF43 hmF45 hmF46 hmF50 hmF53 hmF54 hmLQ => ?_)
  obtain ⟨⟨r2, d_g1, d_g23, d_g27, d_g30, d_g34, d_g36, d_g39, d_g44, d_F22, d_F24, d_F25, d_F26, d_F28, d_F29, d_F31, d_F32, d_F33, d_F37, d_F38, d_F40, d_F41, d_F42, d_F43⟩, hr2, hbg1, hbg23, hbg27, hbg30, hbg34, hbg36, hbg39, hbg44, hbF24, hbF25, hbF26, hbF33, hbF38, hbF41, hbF43, qo0⟩ := ok_turn g F y1 y2 hMI
  try dsimp only at qo0
  try dsimp only at hbg1
  try dsimp only at hbg23
  try dsimp only at hbg27
  try dsimp only at hbg30
  try dsimp only at hbg34
  try dsimp only at hbg36
  try dsimp only at hbg39
  try dsimp only at hbg44
  have hM1 : MS (upd (upd (upd (upd (upd (upd (upd (upd g 1 d_g1) 23 d_g23) 27 d_g27) 30 d_g30) 34 d_g34) 36 d_g36) 39 d_g39) 44 d_g44) (upF (upF (upF (upF (upF (upF (upF (upF (upF (upF (upF (upF (upF (upF (upF F 22 d_F22) 24 d_F24) 25 d_F25) 26 d_F26) 28 d_F28) 29 d_F29) 31 d_F31) 32 d_F32) 33 d_F33) 37 d_F37) 38 d_F38) 40 d_F40) 41 d_F41) 42 d_F42) 43 d_F43) ((c_G141 tp).toInt) := ⟨(MInv_i hbg1 hmg2 hmg3 hmg4 hmg5 hmg6 hmg7 hmg8 hmg9 hbg23 hbg27 hbg30 hbg34 hbg36 hbg39 hbg44 hmg47 hmg48 hmg51 hmg56 hmg59 hmg62 hmg65 hmg66 hmg70 hmF11 hmF12 hmF13 hmF15 hmF19 hmF21 hbF24 hbF25 hbF26 hbF33 hbF38 hbF41 hbF43 hmF45 hmF46 hmF50 hmF53 hmF54 hmLQ), by show d_g1.toInt = (c_G141 tp).toInt; omega⟩
  have hRR1 : RLR (upd (upd (upd (upd (upd (upd (upd (upd g 1 d_g1) 23 d_g23) 27 d_g27) 30 d_g30) 34 d_g34) 36 d_g36) 39 d_g39) 44 d_g44) (upF (upF (upF (upF (upF (upF (upF (upF (upF (upF (upF (upF (upF (upF (upF F 22 d_F22) 24 d_F24) 25 d_F25) 26 d_F26) 28 d_F28) 29 d_F29) 31 d_F31) 32 d_F32) 33 d_F33) 37 d_F37) 38 d_F38) 40 d_F40) 41 d_F41) 42 d_F42) 43 d_F43) la D x (va_up (va_up (va_up (va_up G 60 c_G60) 141 c_G141) 183 c_G183) 203 c_G203) (va_up (va_up (va_up (va_up (va_up P 66 c_P66) 181 c_P181) 182 c_P182) 186 c_P186) 187 c_P187) (va_up (va_up (va_up (va_up V 0 c_V0) 1 c_V1) 2 c_V2) 12 c_V12) O ln cnt := RLR_keep hRR hLB hxc rfl rfl rfl (fun j j1 j2 => (Eq.trans (upF_lo (k := 43) (by decide) j2) (Eq.trans (upF_lo (k := 42) (by decide) j2) (Eq.trans (upF_lo (k := 41) (by decide) j2) (Eq.trans (upF_lo (k := 40) (by decide) j2) (Eq.trans (upF_lo (k := 38) (by decide) j2) (Eq.trans (upF_lo (k := 37) (by decide) j2) (Eq.trans (upF_lo (k := 33) (by decide) j2) (Eq.trans (upF_lo (k := 32) (by decide) j2) (Eq.trans (upF_lo (k := 31) (by decide) j2) (Eq.trans (upF_lo (k := 29) (by decide) j2) (Eq.trans (upF_lo (k := 28) (by decide) j2) (Eq.trans (upF_lo (k := 26) (by decide) j2) (Eq.trans (upF_lo (k := 25) (by decide) j2) (Eq.trans (upF_lo (k := 24) (by decide) j2) (Eq.trans (upF_lo (k := 22) (by decide) j2) rfl)))))))))))))))) rfl rfl rfl rfl rfl (fun z hz hl3 => ⟨rfl, rfl⟩) (fun z hz => rfl) (fun z hz hl3 => by have h7 : (la z < 10 ∨ 10 < la z) ∧ (la z < 90 ∨ 90 + 8 < la z) ∧ (la z < 50 ∨ 50 < la z) := (by omega); exact ⟨rfl, rfl, rfl, rfl, (qf_G203 z (h7)), rfl, rfl, rfl, rfl, rfl, rfl, rfl, rfl, rfl, rfl, rfl, rfl, rfl, (qf_V0 z (h7)), (qf_V1 z (h7)), rfl, rfl, rfl⟩) (Nat.le_refl _) (fun _ _ => rfl)
  have hRW1 : RLW (upd (upd (upd (upd (upd (upd (upd (upd g 1 d_g1) 23 d_g23) 27 d_g27) 30 d_g30) 34 d_g34) 36 d_g36) 39 d_g39) 44 d_g44) (upF (upF (upF (upF (upF (upF (upF (upF (upF (upF (upF (upF (upF (upF (upF F 22 d_F22) 24 d_F24) 25 d_F25) 26 d_F26) 28 d_F28) 29 d_F29) 31 d_F31) 32 d_F32) 33 d_F33) 37 d_F37) 38 d_F38) 40 d_F40) 41 d_F41) 42 d_F42) 43 d_F43) := RLW_keep hRW rfl (fun j j1 j2 => (Eq.trans (upF_lo (k := 43) (by decide) j2) (Eq.trans (upF_lo (k := 42) (by decide) j2) (Eq.trans (upF_lo (k := 41) (by decide) j2) (Eq.trans (upF_lo (k := 40) (by decide) j2) (Eq.trans (upF_lo (k := 38) (by decide) j2) (Eq.trans (upF_lo (k := 37) (by decide) j2) (Eq.trans (upF_lo (k := 33) (by decide) j2) (Eq.trans (upF_lo (k := 32) (by decide) j2) (Eq.trans (upF_lo (k := 31) (by decide) j2) (Eq.trans (upF_lo (k := 29) (by decide) j2) (Eq.trans (upF_lo (k := 28) (by decide) j2) (Eq.trans (upF_lo (k := 26) (by decide) j2) (Eq.trans (upF_lo (k := 25) (by decide) j2) (Eq.trans (upF_lo (k := 24) (by decide) j2) (Eq.trans (upF_lo (k := 22) (by decide) j2) rfl))))))))))))))))
  have qx : QF_turn g F y1 y2 (RVf F) (r2, d_g1, d_g23, d_g27, d_g30, d_g34, d_g36, d_g39, d_g44, d_F22, d_F24, d_F25, d_F26, d_F28, d_F29, d_F31, d_F32, d_F33, d_F37, d_F38, d_F40, d_F41, d_F42, d_F43) := pwq (fn_turn g F y1 y2 (RVf F) hMI (fun q hq => ⟨rfl, hRW q hq⟩) (fun i => by rw [← hr0]; exact hT.2.2.1 tb i)) hr2
  obtain ⟨n0, n1⟩ := qx
  dsimp only at n0 n1
  obtain ⟨hsm, hTD1⟩ := RTD_turn (g1 := (upd (upd (upd (upd (upd (upd (upd (upd g 1 d_g1) 23 d_g23) 27 d_g27) 30 d_g30) 34 d_g34) 36 d_g36) 39 d_g39) 44 d_g44)) (F1 := (upF (upF (upF (upF (upF (upF (upF (upF (upF (upF (upF (upF (upF (upF (upF F 22 d_F22) 24 d_F24) 25 d_F25) 26 d_F26) 28 d_F28) 29 d_F29) 31 d_F31) 32 d_F32) 33 d_F33) 37 d_F37) 38 d_F38) 40 d_F40) 41 d_F41) 42 d_F42) 43 d_F43)) (G1 := (va_up (va_up (va_up (va_up G 60 c_G60) 141 c_G141) 183 c_G183) 203 c_G203)) (P1 := (va_up (va_up (va_up (va_up (va_up P 66 c_P66) 181 c_P181) 182 c_P182) 186 c_P186) 187 c_P187)) (V1 := (va_up (va_up (va_up (va_up V 0 c_V0) 1 c_V1) 2 c_V2) 12 c_V12)) f1 f2 f3 f4 f5 f6 f7 k0 k1 n0 n1 rfl rfl rfl rfl
  have hTA1 : RTA x (va_up (va_up (va_up (va_up G 60 c_G60) 141 c_G141) 183 c_G183) 203 c_G203) (va_up (va_up (va_up (va_up (va_up P 66 c_P66) 181 c_P181) 182 c_P182) 186 c_P186) 187 c_P187) ln := RTA_keep hTA hLB rfl (fun z hz => ⟨rfl, rfl, rfl, rfl, rfl, rfl⟩)
  have hTB1 : RTB (upd (upd (upd (upd (upd (upd (upd (upd g 1 d_g1) 23 d_g23) 27 d_g27) 30 d_g30) 34 d_g34) 36 d_g36) 39 d_g39) 44 d_g44) (upF (upF (upF (upF (upF (upF (upF (upF (upF (upF (upF (upF (upF (upF (upF F 22 d_F22) 24 d_F24) 25 d_F25) 26 d_F26) 28 d_F28) 29 d_F29) 31 d_F31) 32 d_F32) 33 d_F33) 37 d_F37) 38 d_F38) 40 d_F40) 41 d_F41) 42 d_F42) 43 d_F43) x (va_up (va_up (va_up (va_up G 60 c_G60) 141 c_G141) 183 c_G183) 203 c_G203) (va_up (va_up (va_up (va_up (va_up P 66 c_P66) 181 c_P181) 182 c_P182) 186 c_P186) 187 c_P187) (va_up (va_up (va_up (va_up V 0 c_V0) 1 c_V1) 2 c_V2) 12 c_V12) O := fun q hq => RTB_one hTB hRR hLB hq (RVf_eq (fun j j1 j2 => (Eq.trans (upF_lo (k := 43) (by decide) j2) (Eq.trans (upF_lo (k := 42) (by decide) j2) (Eq.trans (upF_lo (k := 41) (by decide) j2) (Eq.trans (upF_lo (k := 40) (by decide) j2) (Eq.trans (upF_lo (k := 38) (by decide) j2) (Eq.trans (upF_lo (k := 37) (by decide) j2) (Eq.trans (upF_lo (k := 33) (by decide) j2) (Eq.trans (upF_lo (k := 32) (by decide) j2) (Eq.trans (upF_lo (k := 31) (by decide) j2) (Eq.trans (upF_lo (k := 29) (by decide) j2) (Eq.trans (upF_lo (k := 28) (by decide) j2) (Eq.trans (upF_lo (k := 26) (by decide) j2) (Eq.trans (upF_lo (k := 25) (by decide) j2) (Eq.trans (upF_lo (k := 24) (by decide) j2) (Eq.trans (upF_lo (k := 22) (by decide) j2) rfl))))))))))))))))) (fun z9 h1 => rfl) rfl (fun z hz => ⟨rfl, rfl, rfl, rfl, rfl⟩) (fun z hz h1 h2 => (by have h7 : (la z < 10 ∨ 10 < la z) ∧ (la z < 90 ∨ 90 + 8 < la z) ∧ (la z < 50 ∨ 50 < la z) := (by omega); exact ⟨(qf_G203 z (h7)), (qf_V0 z (h7)), (qf_V1 z (h7)), rfl⟩))
  have hTC1 : RTC la x (va_up (va_up (va_up (va_up G 60 c_G60) 141 c_G141) 183 c_G183) 203 c_G203) (va_up (va_up (va_up (va_up (va_up P 66 c_P66) 181 c_P181) 182 c_P182) 186 c_P186) 187 c_P187) ln := RTC_keep hTC hLB rfl (fun t9 n9 x9 a9 b9 q1 q2 q3 => sw_X11_turn la G P U V X O kd ln cnt x y1 y2 hLB hxc hlx t9 n9 x9 a9 b9 q2 q3 _ hr1) (fun z hz => ⟨rfl, rfl, rfl, rfl, rfl, rfl, rfl, rfl, rfl, rfl, rfl⟩) (fun _ _ => rfl)
  have hBW1 : RBW (upd (upd (upd (upd (upd (upd (upd (upd g 1 d_g1) 23 d_g23) 27 d_g27) 30 d_g30) 34 d_g34) 36 d_g36) 39 d_g39) 44 d_g44) (upF (upF (upF (upF (upF (upF (upF (upF (upF (upF (upF (upF (upF (upF (upF F 22 d_F22) 24 d_F24) 25 d_F25) 26 d_F26) 28 d_F28) 29 d_F29) 31 d_F31) 32 d_F32) 33 d_F33) 37 d_F37) 38 d_F38) 40 d_F40) 41 d_F41) 42 d_F42) 43 d_F43) := RBW_keep hBW rfl rfl rfl
  have hBM1 : RBM (upd (upd (upd (upd (upd (upd (upd (upd g 1 d_g1) 23 d_g23) 27 d_g27) 30 d_g30) 34 d_g34) 36 d_g36) 39 d_g39) 44 d_g44) (upF (upF (upF (upF (upF (upF (upF (upF (upF (upF (upF (upF (upF (upF (upF F 22 d_F22) 24 d_F24) 25 d_F25) 26 d_F26) 28 d_F28) 29 d_F29) 31 d_F31) 32 d_F32) 33 d_F33) 37 d_F37) 38 d_F38) 40 d_F40) 41 d_F41) 42 d_F42) 43 d_F43) := RBM_keep hBM rfl rfl rfl (fun j j1 j2 => (Eq.trans (upF_lo (k := 43) (by decide) j2) (Eq.trans (upF_lo (k := 42) (by decide) j2) (Eq.trans (upF_lo (k := 41) (by decide) j2) (Eq.trans (upF_lo (k := 40) (by decide) j2) (Eq.trans (upF_lo (k := 38) (by decide) j2) (Eq.trans (upF_lo (k := 37) (by decide) j2) (Eq.trans (upF_lo (k := 33) (by decide) j2) (Eq.trans (upF_lo (k := 32) (by decide) j2) (Eq.trans (upF_lo (k := 31) (by decide) j2) (Eq.trans (upF_lo (k := 29) (by decide) j2) (Eq.trans (upF_lo (k := 28) (by decide) j2) (Eq.trans (upF_lo (k := 26) (by decide) j2) (Eq.trans (upF_lo (k := 25) (by decide) j2) (Eq.trans (upF_lo (k := 24) (by decide) j2) (Eq.trans (upF_lo (k := 22) (by decide) j2) rfl)))))))))))))))) rfl rfl rfl rfl rfl
  have hBK1 : RBK (upd (upd (upd (upd (upd (upd (upd (upd g 1 d_g1) 23 d_g23) 27 d_g27) 30 d_g30) 34 d_g34) 36 d_g36) 39 d_g39) 44 d_g44) (upF (upF (upF (upF (upF (upF (upF (upF (upF (upF (upF (upF (upF (upF (upF F 22 d_F22) 24 d_F24) 25 d_F25) 26 d_F26) 28 d_F28) 29 d_F29) 31 d_F31) 32 d_F32) 33 d_F33) 37 d_F37) 38 d_F38) 40 d_F40) 41 d_F41) 42 d_F42) 43 d_F43) la D x (va_up (va_up (va_up (va_up G 60 c_G60) 141 c_G141) 183 c_G183) 203 c_G203) (va_up (va_up (va_up (va_up (va_up P 66 c_P66) 181 c_P181) 182 c_P182) 186 c_P186) 187 c_P187) (va_up (va_up (va_up (va_up V 0 c_V0) 1 c_V1) 2 c_V2) 12 c_V12) O ln cnt := RBK_keep hBK hLB (fun q hq => RVf_eq (fun j j1 j2 => (Eq.trans (upF_lo (k := 43) (by decide) j2) (Eq.trans (upF_lo (k := 42) (by decide) j2) (Eq.trans (upF_lo (k := 41) (by decide) j2) (Eq.trans (upF_lo (k := 40) (by decide) j2) (Eq.trans (upF_lo (k := 38) (by decide) j2) (Eq.trans (upF_lo (k := 37) (by decide) j2) (Eq.trans (upF_lo (k := 33) (by decide) j2) (Eq.trans (upF_lo (k := 32) (by decide) j2) (Eq.trans (upF_lo (k := 31) (by decide) j2) (Eq.trans (upF_lo (k := 29) (by decide) j2) (Eq.trans (upF_lo (k := 28) (by decide) j2) (Eq.trans (upF_lo (k := 26) (by decide) j2) (Eq.trans (upF_lo (k := 25) (by decide) j2) (Eq.trans (upF_lo (k := 24) (by decide) j2) (Eq.trans (upF_lo (k := 22) (by decide) j2) rfl))))))))))))))))) (Nat.le_refl _) (fun _ _ => rfl) (fun fl9 s9 => by have z1 := (CInv_FL hI :) fl9 s9; have z2 := (CInv_V3 hI :) fl9 s9; have z3 := clampI (x := V 3 fl9 s9) z2.1; have z4 := congrArg Int32.toInt hr203; have z5 := clampI (x := g 48) (by omega); omega) rfl (fun z hz => ⟨rfl, rfl, rfl, rfl, rfl, rfl, rfl⟩) (fun z hz hl3 => ⟨rfl, rfl⟩) (fun z hz h1 h2 => by obtain ⟨k9, hk9⟩ := h1; exact (by have h7 : (la z < 10 ∨ 10 < la z) ∧ (la z < 90 ∨ 90 + 8 < la z) ∧ (la z < 50 ∨ 50 < la z) := (by omega); exact ⟨(qf_G203 z (h7)), (qf_V0 z (h7)), (qf_V1 z (h7))⟩)) (Nat.le_refl _) (fun _ _ => rfl) (fun z hz h => h)
  have hBO1 : RBO (upd (upd (upd (upd (upd (upd (upd (upd g 1 d_g1) 23 d_g23) 27 d_g27) 30 d_g30) 34 d_g34) 36 d_g36) 39 d_g39) 44 d_g44) (upF (upF (upF (upF (upF (upF (upF (upF (upF (upF (upF (upF (upF (upF (upF F 22 d_F22) 24 d_F24) 25 d_F25) 26 d_F26) 28 d_F28) 29 d_F29) 31 d_F31) 32 d_F32) 33 d_F33) 37 d_F37) 38 d_F38) 40 d_F40) 41 d_F41) 42 d_F42) 43 d_F43) x (va_up (va_up (va_up (va_up G 60 c_G60) 141 c_G141) 183 c_G183) 203 c_G203) (va_up (va_up (va_up (va_up (va_up P 66 c_P66) 181 c_P181) 182 c_P182) 186 c_P186) 187 c_P187) (va_up (va_up (va_up (va_up V 0 c_V0) 1 c_V1) 2 c_V2) 12 c_V12) := RBO_keep hBO hLB rfl rfl (fun z hz h1 => by have hl9 : la z = 201 := (by have z9 := lk_230.mp (hLB.1 230 fl_230 x z h1).2.2; omega); exact rfl) rfl rfl
  have hMX1 : RMX (upd (upd (upd (upd (upd (upd (upd (upd g 1 d_g1) 23 d_g23) 27 d_g27) 30 d_g30) 34 d_g34) 36 d_g36) 39 d_g39) 44 d_g44) (upF (upF (upF (upF (upF (upF (upF (upF (upF (upF (upF (upF (upF (upF (upF F 22 d_F22) 24 d_F24) 25 d_F25) 26 d_F26) 28 d_F28) 29 d_F29) 31 d_F31) 32 d_F32) 33 d_F33) 37 d_F37) 38 d_F38) 40 d_F40) 41 d_F41) 42 d_F42) 43 d_F43) x (va_up (va_up (va_up (va_up G 60 c_G60) 141 c_G141) 183 c_G183) 203 c_G203) (va_up (va_up (va_up (va_up (va_up P 66 c_P66) 181 c_P181) 182 c_P182) 186 c_P186) 187 c_P187) (va_up (va_up (va_up (va_up V 0 c_V0) 1 c_V1) 2 c_V2) 12 c_V12) := RMX_keep hMX hLB rfl (fun z hz hl3 => ⟨rfl, rfl, rfl⟩) rfl rfl
  have hRL : RLB (upd (upd (upd (upd (upd (upd (upd (upd g 1 d_g1) 23 d_g23) 27 d_g27) 30 d_g30) 34 d_g34) 36 d_g36) 39 d_g39) 44 d_g44) (upF (upF (upF (upF (upF (upF (upF (upF (upF (upF (upF (upF (upF (upF (upF F 22 d_F22) 24 d_F24) 25 d_F25) 26 d_F26) 28 d_F28) 29 d_F29) 31 d_F31) 32 d_F32) 33 d_F33) 37 d_F37) 38 d_F38) 40 d_F40) 41 d_F41) 42 d_F42) 43 d_F43) x tp bk wd (va_up (va_up (va_up (va_up G 60 c_G60) 141 c_G141) 183 c_G183) 203 c_G203) (va_up (va_up (va_up (va_up (va_up P 66 c_P66) 181 c_P181) 182 c_P182) 186 c_P186) 187 c_P187) (va_up (va_up (va_up (va_up V 0 c_V0) 1 c_V1) 2 c_V2) 12 c_V12) O ln cnt := ⟨la, D, tb, wl, wz, (LB_set (LB_set (LB_set (LB_set (LB_set hLB ql_P66) ql_P181) ql_P182) ql_P186) ql_P187), hxc, hlx, hdr, hD0, h140, h0w, h201, h202, hlz, h24, ((qf_G203 wd (show (la wd < 10 ∨ 10 < la wd) ∧ (la wd < 90 ∨ 90 + 8 < la wd) ∧ (la wd < 50 ∨ 50 < la wd) from by omega)).trans hr203), ((qf_V0 tb (show (la tb < 10 ∨ 10 < la tb) ∧ (la tb < 90 ∨ 90 + 8 < la tb) ∧ (la tb < 50 ∨ 50 < la tb) from by omega)).trans hr0), ((qf_V0 wl (show (la wl < 10 ∨ 10 < la wl) ∧ (la wl < 90 ∨ 90 + 8 < la wl) ∧ (la wl < 50 ∨ 50 < la wl) from by omega)).trans hr49), ((qf_V1 wz (show (la wz < 10 ∨ 10 < la wz) ∧ (la wz < 90 ∨ 90 + 8 < la wz) ∧ (la wz < 50 ∨ 50 < la wz) from by omega)).trans hr50), hRR1, hRW1, hTA1, hTB1, hTC1, hTD1, hBW1, hBM1, hBO1, hBK1, hMX1⟩
  have hC1 : CS kk w (ad x) ((c_G141 tp).toInt) (s7 ((V 3) fl)) (upd (upd (upd (upd (upd (upd (upd (upd g 1 d_g1) 23 d_g23) 27 d_g27) 30 d_g30) 34 d_g34) 36 d_g36) 39 d_g39) 44 d_g44) (upF (upF (upF (upF (upF (upF (upF (upF (upF (upF (upF (upF (upF (upF (upF F 22 d_F22) 24 d_F24) 25 d_F25) 26 d_F26) 28 d_F28) 29 d_F29) 31 d_F31) 32 d_F32) 33 d_F33) 37 d_F37) 38 d_F38) 40 d_F40) 41 d_F41) 42 d_F42) 43 d_F43) := ⟨ad, κ, wd, (va_up (va_up (va_up (va_up G 60 c_G60) 141 c_G141) 183 c_G183) 203 c_G203), (va_up (va_up (va_up (va_up (va_up P 66 c_P66) 181 c_P181) 182 c_P182) 186 c_P186) 187 c_P187), (va_up U 184 c_U184), (va_up (va_up (va_up (va_up V 0 c_V0) 1 c_V1) 2 c_V2) 12 c_V12), X, O, kd, ln, cnt, x, tp, bk, fl, rfl, hW1, hT1, hI1, hkx, hκ, h220, h229, h3, rfl, rfl, hRL⟩
  replace hP := va_Psw hP
  replace hD := va_Dsw hD
  have hFc := va_fr2 hD hS hA
  have hPc := va_Pr hP
  have hDc := va_Drr hD
  have hKm : va_K (dC, dI) vwCl (mT (kk 0) (kk 1) (kk 2)) s := hK.sub [0, 1, 2] rfl
  refine va_calli (va_runV (As := [.int y1, .int y2]) (rest := []) ⟨hx, hb, hml, hown, hts⟩ (m_turn l dC dI H.size h0 (kk 0) (kk 1) (kk 2) q g F y1 y2 r2 d_g1 d_g23 d_g27 d_g30 d_g34 d_g36 d_g39 d_g44 d_F22 d_F24 d_F25 d_F26 d_F28 d_F29 d_F31 d_F32 d_F33 d_F37 d_F38 d_F40 d_F41 d_F42 d_F43 hr2) (cwV 2 hts gl_X12_turn rfl rfl rfl (by decide +kernel) ⟨Nat.le_of_ble_eq_true rfl, Nat.le_of_ble_eq_true rfl⟩) ⟨fun a U g mk q => by obtain ⟨q0, q1, qP, qK, qD⟩ := q; exact ⟨q0, q1, qP, va_K.moved (u := U) (U := U.calling g mk a) (Vm.Alike.refl U.vm) qK, qD⟩, va_recv hKm hPc (ci := 12) (q0 := 0) rfl rfl, fun U hU hW => ⟨rfl, by rw [hU], by rw [hU]; exact hPc, va_K.moved hW.alike hKm, hDc.weaken (fun _ _ _ _ => trivial)⟩⟩ rfl rfl hl.1 rfl (lv_room (Nat.le_of_ble_eq_true rfl)) dL_law_362 ⟨by show _ ≤ (600000 : Nat); omega, by show _ ≤ (7302250 : Nat); omega⟩) hS (fun q _ h => hFc q h) hFc (fun rr2 u t H1 locs ht1 hvm hw hB hz1 hk1 hS => ?_)
  subst hw
  obtain ⟨hP1, hK1, hD1⟩ := hB
  rw [ht1] at hP1
  obtain ⟨hP, hD⟩ := va_join2 hP hD hk1 hFc hP1 hD1
  replace hP := va_Psw hP
  replace hD := va_Dsw hD
  refine lv_pop hx hb dL_law_365 rfl ?_
  refine lv_goto (tgt := 833) hx hb dL_law_366 (by decide) ?_
  exact kont w (upd (upd (upd (upd (upd (upd (upd (upd g 1 d_g1) 23 d_g23) 27 d_g27) 30 d_g30) 34 d_g34) 36 d_g36) 39 d_g39) 44 d_g44) (upF (upF (upF (upF (upF (upF (upF (upF (upF (upF (upF (upF (upF (upF (upF F 22 d_F22) 24 d_F24) 25 d_F25) 26 d_F26) 28 d_F28) 29 d_F29) 31 d_F31) 32 d_F32) 33 d_F33) 37 d_F37) 38 d_F38) 40 d_F40) 41 d_F41) 42 d_F42) 43 d_F43) ((c_G141 tp).toInt) (s7 ((V 3) fl)) _ _ _ _ hC1 hM1 (by omega) (by omega) hP hD hS
set_option maxHeartbeats 8000000 in
set_option maxRecDepth 100000 in
theorem law_7 {p : Program} {e : Env} {s : State} {m : MethodId} {below : List Frame} {meth : Method} {c : Code} (l : Launch) {b L : Nat} {xs : Nat → Int32} {A : Nat → Prop} {dC : Nat → ClassId} {dI : Nat → Nat → Nat} {kk : Nat → ClassId} {adK adV : Nat → Nat} (C0 : lw_At p s m meth c b L xs) (hL : L ≤ 3072) (hA : ∀ q : Nat, s.heap.size ≤ q → A q) (hbA : ¬ A b) (hE : EnvOK s) (hSE : SE adK adV A s) (hK : va_K (dC, dI) vwCl (cT kk) s) {i : Int32} (hi : 0 ≤ i.toInt ∧ i.toInt + 6 ≤ (L : Int)) {ws : va_W} {xa h0 : Nat} {q : Nat → Nat} {g : Nat → Int32} {F : Nat → Nat → Int32} {n σ B1 B2 : Int} {H : Heap} {locs : List Loc} {ls : Array Slot} {cells slots : Nat} (hC : CS kk ws xa n σ g F) (hM : MS g F n) (hB1 : (cells : Int) + 10 * n ≤ B1 + 3 * σ) (hB2 : (slots : Int) + 118 * n ≤ B2 + 2504 * σ) (hc1 : B1 ≤ 590000) (hc2 : B2 ≤ 5500000) (hP : va_P (dC, dI) vwCl ((mW h0 (kk 0) (kk 1) (kk 2) q g F) ++ ws) H) (hD : va_D A ((mW h0 (kk 0) (kk 1) (kk 2) q g F) ++ ws)) (hS : va_S A s.heap H locs) (hl : lv_has ls 4 [(3, .int i), (2, .ref h0), (1, .ref xa), (0, .ref b)]) (kont : ∀ (ws : va_W) (g : Nat → Int32) (F : Nat → Nat → Int32) (n σ : Int) (H : Heap) (locs : List Loc) (cells slots : Nat), CS kk ws xa n σ g F → MS g F n → (cells : Int) + 10 * n ≤ B1 + 228 + 3 * σ → (slots : Int) + 118 * n ≤ B2 + 6860 + 2504 * σ → va_P (dC, dI) vwCl ((mW h0 (kk 0) (kk 1) (kk 2) q g F) ++ ws) H → va_D A ((mW h0 (kk 0) (kk 1) (kk 2) q g F) ++ ws) → va_S A s.heap H locs → W p l e room_1 s m #[Value.ref b] below meth c H locs cells slots (lw_Z below #[Value.ref b] s) (F0 m 833 ls [])) : W p l e room_1 s m #[Value.ref b] below meth c H locs cells slots (lw_Z below #[Value.ref b] s) (F0 m 369 ls []) := by
  obtain ⟨hx, hb, hr9, hml, hown, hts0, hX, hbl, hlocks, hgv⟩ := C0
  have hts := fun w h => hts0 w (wL_tb w h)
  obtain ⟨ad, κ, wd, G, P, U, V, X, O, kd, ln, cnt, x, tp, bk, fl, rfl, hW, hT, hI, hkx, hκ, h220, h229, h3, hn, hσ, hR⟩ := hC
  have hk220 := (((CInv_P220 hI :) x).2 tp h220).1
  have hk229 := (((CInv_P229 hI :) x).2 bk h229).1
  have hs0 := s7_b (CInv_V3 hI :) fl
  have hn0 := (CInv_G141 hI :) tp
  have hj1 : (i + 1).toInt = i.toInt + 1 := z_addc (by decide +kernel) (by omega) (by omega)
  have hj2 : (i + 2).toInt = i.toInt + 2 := z_addc (by decide +kernel) (by omega) (by omega)
  refine lv_aload_n hx hb dL_law_369 rfl (lv_at hl 2 rfl) ?_
  refine lv_aload_n hx hb dL_law_370 rfl (lv_at hl 3 rfl) ?_
  refine lv_iload_n hx hb dL_law_371 rfl (lv_at hl 0 rfl) ?_
  refine lv_iconst (v := 1) hx hb dL_law_372 (by decide +kernel) ?_
  refine lv_iadd hx hb dL_law_373 ?_
  refine va_sld hx hb hX hbl hbA hS (z_in (by omega) (by omega)) dL_law_374 ?_
  refine lv_topi (fun y1 ey1 => ?_)
  refine lv_aload_n hx hb dL_law_375 rfl (lv_at hl 3 rfl) ?_
  refine lv_iload_n hx hb dL_law_376 rfl (lv_at hl 0 rfl) ?_
  refine lv_iconst (v := 2) hx hb dL_law_377 (by decide +kernel) ?_
  refine lv_iadd hx hb dL_law_378 ?_
  refine va_sld hx hb hX hbl hbA hS (z_in (by omega) (by omega)) dL_law_379 ?_
  refine lv_topi (fun y2 ey2 => ?_)
  obtain ⟨r1, hr1, hq1⟩ := ok_X11_form κ wd G P U V X O kd ln cnt x y1 y2 (CInv_G200 hI :) (CInv_G203 hI :) (CInv_P201 hI :) (CInv_P202 hI :) (CInv_P227 hI :) (CInv_V1 hI :) (CInv_RA hI :) (CInv_RB hI :) (CInv_RI hI :) (CInv_LN hI :) hκ
  have hI1 : CInv κ wd G P V O ln cnt := (CInv_i (CInv_G43 hI :) (CInv_G44 hI :) (CInv_G45 hI :) (CInv_G60 hI :) (CInv_G83 hI :) (CInv_G84 hI :) (CInv_G85 hI :) (CInv_G87 hI :) (CInv_G88 hI :) (CInv_G102 hI :) (CInv_G125 hI :) (CInv_G126 hI :) (CInv_G127 hI :) (CInv_G141 hI :) (CInv_G160 hI :) (CInv_G161 hI :) (CInv_G162 hI :) (CInv_G165 hI :) (CInv_G166 hI :) (CInv_G183 hI :) (CInv_G200 hI :) (CInv_G203 hI :) (CInv_G222 hI :) (CInv_G231 hI :) (CInv_G233 hI :) (CInv_P0 hI :) (CInv_P1 hI :) (CInv_P2 hI :) (CInv_P3 hI :) (CInv_P4 hI :) (CInv_P5 hI :) (CInv_P20 hI :) (CInv_P21 hI :) (CInv_P22 hI :) (CInv_P23 hI :) (CInv_P40 hI :) (CInv_P41 hI :) (CInv_P42 hI :) (CInv_P61 hI :) (CInv_P62 hI :) (CInv_P63 hI :) (CInv_P64 hI :) (CInv_P65 hI :) (CInv_P66 hI :) (CInv_P82 hI :) (CInv_P101 hI :) (CInv_P103 hI :) (CInv_P104 hI :) (CInv_P105 hI :) (CInv_P106 hI :) (CInv_P108 hI :) (CInv_P109 hI :) (CInv_P110 hI :) (CInv_P120 hI :) (CInv_P121 hI :) (CInv_P122 hI :) (CInv_P123 hI :) (CInv_P140 hI :) (CInv_P164 hI :) (CInv_P180 hI :) (CInv_P181 hI :) (CInv_P182 hI :) (CInv_P185 hI :) (CInv_P186 hI :) (CInv_P187 hI :) (CInv_P201 hI :) (CInv_P202 hI :) (CInv_P220 hI :) (CInv_P221 hI :) (CInv_P224 hI :) (CInv_P225 hI :) (CInv_P226 hI :) (CInv_P227 hI :) (CInv_P228 hI :) (CInv_P229 hI :) (CInv_P230 hI :) (CInv_P232 hI :) (CInv_P234 hI :) (CInv_P235 hI :) (CInv_P236 hI :) (CInv_V1 hI :) (CInv_V2 hI :) (CInv_V3 hI :) (CInv_V9 hI :) (CInv_O0 hI :) (CInv_O1 hI :) (CInv_O2 hI :) (CInv_RA hI :) (CInv_RB hI :) (CInv_RI hI :) (CInv_RM103 hI :) (CInv_RM104 hI :) (CInv_RM108 hI :) (CInv_LN hI :) (CInv_FL hI :) (CInv_W0 hI :) (CInv_KC hI :) (CInv_WK hI :))
  obtain ⟨la, D, tb, wl, wz, hLB, hxc, hlx, hdr, hD0, h140, h0w, h201, h202, hlz, h24, hr203, hr0, hr49, hr50, hRR, hRW, hTA, hTB, hTC, hTD, hBW, hBM, hBO, hBK, hMX⟩ := hR
  have ltp := (hLB.1 220 fl_220 x tp h220).2.1
  have lbp : la tp = 10 := lk_220.mp (hLB.1 220 fl_220 x tp h220).2.2
  have ltb := (hLB.1 140 fl_140 tp tb h140).2.1
  have lbb : la tb = la tp + 1 := lk_140.mp (hLB.1 140 fl_140 tp tb h140).2.2
  obtain ⟨_, lbk, _⟩ := hLB.1 229 fl_229 x bk h229
  have lwd := (hLB.1 0 fl_0 bk wd h0w).2.1
  have lbw : la wd = 20 := lk_0.mp (hLB.1 0 fl_0 bk wd h0w).2.2
  have lwl := (hLB.1 201 fl_201 wd wl h201).2.1
  have lbl : la wl = la wd + 0 := lk_201.mp (hLB.1 201 fl_201 wd wl h201).2.2
  have lwz := (hLB.1 202 fl_202 wd wz h202).2.1
  have lbz : la wz = la wd + 0 := lk_202.mp (hLB.1 202 fl_202 wd wz h202).2.2
  have hFc := va_fr2 hD hS hA
  have hPc := va_Pr hP
  have hDc := va_Drr hD
  obtain ⟨i0, hi0⟩ := hW.o11 hkx
  refine va_calli (va_runV (As := [.int y1, .int y2]) (rest := []) ⟨hx, hb, hml, hown, hts⟩ (m_X11_form l dC dI kk ad H.size ws G P U V X O kd ln cnt x y1 y2 hkx hW hT r1 hr1) (cwV 2 hts gl_X11_form rfl rfl rfl (by decide +kernel) ⟨Nat.le_of_ble_eq_true rfl, Nat.le_of_ble_eq_true rfl⟩) ⟨fun a U g mk q => by obtain ⟨q0, q1, qP, qK, qD⟩ := q; exact ⟨q0, q1, qP, va_K.moved (u := U) (U := U.calling g mk a) (Vm.Alike.refl U.vm) qK, qD⟩, va_recv hK hPc (ci := 11) (q0 := i0) rfl hi0, fun U hU hW => ⟨rfl, by rw [hU], by rw [hU]; exact hPc, va_K.moved hW.alike hK, hDc.weaken (fun _ _ _ _ => trivial)⟩⟩ rfl rfl hl.1 rfl (lv_room (Nat.le_of_ble_eq_true rfl)) dL_law_380 ⟨by show _ ≤ (600000 : Nat); omega, by show _ ≤ (7302250 : Nat); omega⟩) hS (fun q _ h => hFc q h) hFc (fun rr w t H1 locs ht1 hvm hw hB hz1 hk1 hS => ?_)
  obtain ⟨hw0, hW1, hT1⟩ := hw
  subst hw0
  obtain ⟨hP1, hK1, hD1⟩ := hB
  rw [ht1] at hP1
  obtain ⟨hP, hD⟩ := va_join2 hP hD hk1 hFc hP1 hD1
  clear hFc hPc hDc hk1 hz1 hvm ht1 hP1 hD1 hK1
  generalize H1 = H at hP hS ⊢
  refine lv_pop hx hb dL_law_383 rfl ?_
  refine lv_aload_n hx hb dL_law_384 rfl (lv_at hl 1 rfl) ?_
  refine lv_aload_n hx hb dL_law_385 rfl (lv_at hl 3 rfl) ?_
  refine lv_iload_n hx hb dL_law_386 rfl (lv_at hl 0 rfl) ?_
  refine lv_iconst (v := 1) hx hb dL_law_387 (by decide +kernel) ?_
  refine lv_iadd hx hb dL_law_388 ?_
  refine va_sld hx hb hX hbl hbA hS (z_in (by omega) (by omega)) dL_law_389 ?_
  refine lv_topi (fun z1 ez1 => ?_)
  obtain rfl : y1 = z1 := ey1.trans ez1.symm
  refine lv_aload_n hx hb dL_law_390 rfl (lv_at hl 3 rfl) ?_
  refine lv_iload_n hx hb dL_law_391 rfl (lv_at hl 0 rfl) ?_
  refine lv_iconst (v := 2) hx hb dL_law_392 (by decide +kernel) ?_
  refine lv_iadd hx hb dL_law_393 ?_
  refine va_sld hx hb hX hbl hbA hS (z_in (by omega) (by omega)) dL_law_394 ?_
  refine lv_topi (fun z2 ez2 => ?_)
  obtain rfl : y2 = z2 := ey2.trans ez2.symm
  obtain ⟨hMI, hgn⟩ := hM
  refine MInv_e hMI (fun hmg1 hmg2 hmg3 hmg4 hmg5 hmg6 hmg7 hmg8 hmg9 hmg23 hmg27 hmg30 hmg34 hmg36 hmg39 hmg44 hmg47 hmg48 hmg51 hmg56 hmg59 hmg62 hmg65 hmg66 hmg70 hmF11 hmF12 hmF13 hmF15 hmF19 hmF21 hmF24 hmF25 hmF26 hmF33 hmF38 hmF41 hmF43 hmF45 hmF46 hmF50 hmF53 hmF54 hmLQ => ?_)
  obtain ⟨r2, hr2, hq2⟩ := ok_form g F y1 y2 hMI
  have hM1 : MS g F (((G 141) tp).toInt) := ⟨(MInv_i hmg1 hmg2 hmg3 hmg4 hmg5 hmg6 hmg7 hmg8 hmg9 hmg23 hmg27 hmg30 hmg34 hmg36 hmg39 hmg44 hmg47 hmg48 hmg51 hmg56 hmg59 hmg62 hmg65 hmg66 hmg70 hmF11 hmF12 hmF13 hmF15 hmF19 hmF21 hmF24 hmF25 hmF26 hmF33 hmF38 hmF41 hmF43 hmF45 hmF46 hmF50 hmF53 hmF54 hmLQ), by show (g 1).toInt = ((G 141) tp).toInt; omega⟩
  have hRR1 : RLR g F la D x G P V O ln cnt := RLR_keep hRR hLB hxc rfl rfl rfl (fun j j1 j2 => rfl) rfl rfl rfl rfl rfl (fun z hz hl3 => ⟨rfl, rfl⟩) (fun z hz => rfl) (fun z hz hl3 => ⟨rfl, rfl, rfl, rfl, rfl, rfl, rfl, rfl, rfl, rfl, rfl, rfl, rfl, rfl, rfl, rfl, rfl, rfl, rfl, rfl, rfl, rfl, rfl⟩) (Nat.le_refl _) (fun _ _ => rfl)
  have hRW1 : RLW g F := RLW_keep hRW rfl (fun j j1 j2 => rfl)
  have hTD1 : RTD g F x G P V ln := RTD_keep hTD hLB rfl rfl rfl rfl (fun z hz => ⟨rfl, rfl, rfl, rfl⟩) (fun z hz hl3 => ⟨rfl, rfl, rfl⟩)
  have hTA1 : RTA x G P ln := RTA_keep hTA hLB rfl (fun z hz => ⟨rfl, rfl, rfl, rfl, rfl, rfl⟩)
  have hTB1 : RTB g F x G P V O := fun q hq => RTB_one hTB hRR hLB hq (RVf_eq (fun j j1 j2 => rfl)) (fun z9 h1 => rfl) rfl (fun z hz => ⟨rfl, rfl, rfl, rfl, rfl⟩) (fun z hz h1 h2 => ⟨rfl, rfl, rfl, rfl⟩)
  have hTC1 : RTC la x G P ln := RTC_keep hTC hLB rfl (fun _ _ _ _ _ _ _ q3 => q3) (fun z hz => ⟨rfl, rfl, rfl, rfl, rfl, rfl, rfl, rfl, rfl, rfl, rfl⟩) (fun _ _ => rfl)
  have hBW1 : RBW g F := RBW_keep hBW rfl rfl rfl
  have hBM1 : RBM g F := RBM_keep hBM rfl rfl rfl (fun j j1 j2 => rfl) rfl rfl rfl rfl rfl
  have hBK1 : RBK g F la D x G P V O ln cnt := RBK_keep hBK hLB (fun q hq => RVf_eq (fun j j1 j2 => rfl)) (Nat.le_refl _) (fun _ _ => rfl) (fun fl9 s9 => by have z1 := (CInv_FL hI :) fl9 s9; have z2 := (CInv_V3 hI :) fl9 s9; have z3 := clampI (x := V 3 fl9 s9) z2.1; have z4 := congrArg Int32.toInt hr203; have z5 := clampI (x := g 48) (by omega); omega) rfl (fun z hz => ⟨rfl, rfl, rfl, rfl, rfl, rfl, rfl⟩) (fun z hz hl3 => ⟨rfl, rfl⟩) (fun z hz h1 h2 => by obtain ⟨k9, hk9⟩ := h1; exact ⟨rfl, rfl, rfl⟩) (Nat.le_refl _) (fun _ _ => rfl) (fun z hz h => h)
  have hBO1 : RBO g F x G P V := RBO_keep hBO hLB rfl rfl (fun z hz h1 => by have hl9 : la z = 201 := (by have z9 := lk_230.mp (hLB.1 230 fl_230 x z h1).2.2; omega); exact rfl) rfl rfl
  have hMX1 : RMX g F x G P V := RMX_keep hMX hLB rfl (fun z hz hl3 => ⟨rfl, rfl, rfl⟩) rfl rfl
  have hRL : RLB g F x tp bk wd G P V O ln cnt := ⟨la, D, tb, wl, wz, hLB, hxc, hlx, hdr, hD0, h140, h0w, h201, h202, hlz, h24, hr203, hr0, hr49, hr50, hRR1, hRW1, hTA1, hTB1, hTC1, hTD1, hBW1, hBM1, hBO1, hBK1, hMX1⟩
  have hC1 : CS kk w (ad x) (((G 141) tp).toInt) (s7 ((V 3) fl)) g F := ⟨ad, κ, wd, G, P, U, V, X, O, kd, ln, cnt, x, tp, bk, fl, rfl, hW1, hT1, hI1, hkx, hκ, h220, h229, h3, rfl, rfl, hRL⟩
  replace hP := va_Psw hP
  replace hD := va_Dsw hD
  have hFc := va_fr2 hD hS hA
  have hPc := va_Pr hP
  have hDc := va_Drr hD
  have hKm : va_K (dC, dI) vwCl (mT (kk 0) (kk 1) (kk 2)) s := hK.sub [0, 1, 2] rfl
  refine va_calli (va_runV (As := [.int y1, .int y2]) (rest := []) ⟨hx, hb, hml, hown, hts⟩ (m_form l dC dI H.size h0 (kk 0) (kk 1) (kk 2) q g F y1 y2 r2 hr2) (cwV 2 hts gl_X12_form rfl rfl rfl (by decide +kernel) ⟨Nat.le_of_ble_eq_true rfl, Nat.le_of_ble_eq_true rfl⟩) ⟨fun a U g mk q => by obtain ⟨q0, q1, qP, qK, qD⟩ := q; exact ⟨q0, q1, qP, va_K.moved (u := U) (U := U.calling g mk a) (Vm.Alike.refl U.vm) qK, qD⟩, va_recv hKm hPc (ci := 12) (q0 := 0) rfl rfl, fun U hU hW => ⟨rfl, by rw [hU], by rw [hU]; exact hPc, va_K.moved hW.alike hKm, hDc.weaken (fun _ _ _ _ => trivial)⟩⟩ rfl rfl hl.1 rfl (lv_room (Nat.le_of_ble_eq_true rfl)) dL_law_395 ⟨by show _ ≤ (600000 : Nat); omega, by show _ ≤ (7302250 : Nat); omega⟩) hS (fun q _ h => hFc q h) hFc (fun rr2 u t H1 locs ht1 hvm hw hB hz1 hk1 hS => ?_)
  subst hw
  obtain ⟨hP1, hK1, hD1⟩ := hB
  rw [ht1] at hP1
  obtain ⟨hP, hD⟩ := va_join2 hP hD hk1 hFc hP1 hD1
  replace hP := va_Psw hP
  replace hD := va_Dsw hD
  refine lv_pop hx hb dL_law_398 rfl ?_
  refine lv_goto (tgt := 833) hx hb dL_law_399 (by decide) ?_
  exact kont w g F (((G 141) tp).toInt) (s7 ((V 3) fl)) _ _ _ _ hC1 hM1 (by omega) (by omega) hP hD hS
set_option maxHeartbeats 8000000 in
set_option maxRecDepth 100000 in
theorem law_8 {p : Program} {e : Env} {s : State} {m : MethodId} {below : List Frame} {meth : Method} {c : Code} (l : Launch) {b L : Nat} {xs : Nat → Int32} {A : Nat → Prop} {dC : Nat → ClassId} {dI : Nat → Nat → Nat} {kk : Nat → ClassId} {adK adV : Nat → Nat} (C0 : lw_At p s m meth c b L xs) (hL : L ≤ 3072) (hA : ∀ q : Nat, s.heap.size ≤ q → A q) (hbA : ¬ A b) (hE : EnvOK s) (hSE : SE adK adV A s) (hK : va_K (dC, dI) vwCl (cT kk) s) {i : Int32} (hi : 0 ≤ i.toInt ∧ i.toInt + 6 ≤ (L : Int)) {ws : va_W} {xa h0 : Nat} {q : Nat → Nat} {g : Nat → Int32} {F : Nat → Nat → Int32} {n σ B1 B2 : Int} {H : Heap} {locs : List Loc} {ls : Array Slot} {cells slots : Nat} (hC : CS kk ws xa n σ g F) (hM : MS g F n) (hB1 : (cells : Int) + 10 * n ≤ B1 + 3 * σ) (hB2 : (slots : Int) + 118 * n ≤ B2 + 2504 * σ) (hc1 : B1 ≤ 590000) (hc2 : B2 ≤ 5500000) (hP : va_P (dC, dI) vwCl ((mW h0 (kk 0) (kk 1) (kk 2) q g F) ++ ws) H) (hD : va_D A ((mW h0 (kk 0) (kk 1) (kk 2) q g F) ++ ws)) (hS : va_S A s.heap H locs) (hl : lv_has ls 4 [(3, .int i), (2, .ref h0), (1, .ref xa), (0, .ref b)]) (kont : ∀ (ws : va_W) (g : Nat → Int32) (F : Nat → Nat → Int32) (n σ : Int) (H : Heap) (locs : List Loc) (cells slots : Nat), CS kk ws xa n σ g F → MS g F n → (cells : Int) + 10 * n ≤ B1 + 228 + 3 * σ → (slots : Int) + 118 * n ≤ B2 + 6860 + 2504 * σ → va_P (dC, dI) vwCl ((mW h0 (kk 0) (kk 1) (kk 2) q g F) ++ ws) H → va_D A ((mW h0 (kk 0) (kk 1) (kk 2) q g F) ++ ws) → va_S A s.heap H locs → W p l e room_1 s m #[Value.ref b] below meth c H locs cells slots (lw_Z below #[Value.ref b] s) (F0 m 833 ls [])) : W p l e room_1 s m #[Value.ref b] below meth c H locs cells slots (lw_Z below #[Value.ref b] s) (F0 m 402 ls []) := by
  obtain ⟨hx, hb, hr9, hml, hown, hts0, hX, hbl, hlocks, hgv⟩ := C0
  have hts := fun w h => hts0 w (wL_tb w h)
  obtain ⟨ad, κ, wd, G, P, U, V, X, O, kd, ln, cnt, x, tp, bk, fl, rfl, hW, hT, hI, hkx, hκ, h220, h229, h3, hn, hσ, hR⟩ := hC
  have hk220 := (((CInv_P220 hI :) x).2 tp h220).1
  have hk229 := (((CInv_P229 hI :) x).2 bk h229).1
  have hs0 := s7_b (CInv_V3 hI :) fl
  have hn0 := (CInv_G141 hI :) tp
  have hj1 : (i + 1).toInt = i.toInt + 1 := z_addc (by decide +kernel) (by omega) (by omega)
  refine lv_aload_n hx hb dL_law_402 rfl (lv_at hl 2 rfl) ?_
  refine lv_aload_n hx hb dL_law_403 rfl (lv_at hl 3 rfl) ?_
  refine lv_iload_n hx hb dL_law_404 rfl (lv_at hl 0 rfl) ?_
  refine lv_iconst (v := 1) hx hb dL_law_405 (by decide +kernel) ?_
  refine lv_iadd hx hb dL_law_406 ?_
  refine va_sld hx hb hX hbl hbA hS (z_in (by omega) (by omega)) dL_law_407 ?_
  refine lv_topi (fun y1 ey1 => ?_)
  obtain ⟨⟨r1, c_G60, c_G141, c_P66, c_V0, c_V2, c_V12⟩, hr1, hnG60, hnG141, hnP66, hnV2, po0⟩ := ok_X11_partings κ wd G P U V X O kd ln cnt x y1 (CInv_G60 hI :) (CInv_G141 hI :) (CInv_G200 hI :) (CInv_G203 hI :) (CInv_G222 hI :) (CInv_P61 hI :) (CInv_P62 hI :) (CInv_P63 hI :) (CInv_P64 hI :) (CInv_P65 hI :) (CInv_P66 hI :) (CInv_P103 hI :) (CInv_P104 hI :) (CInv_P106 hI :) (CInv_P140 hI :) (CInv_P201 hI :) (CInv_P202 hI :) (CInv_P220 hI :) (CInv_P221 hI :) (CInv_P228 hI :) (CInv_V1 hI :) (CInv_V2 hI :) (CInv_O2 hI :) (CInv_RA hI :) (CInv_RB hI :) (CInv_RI hI :) (CInv_RM103 hI :) (CInv_RM104 hI :) (CInv_LN hI :) hκ
  have hI1 : CInv κ wd (va_up (va_up G 60 c_G60) 141 c_G141) (va_up P 66 c_P66) (va_up (va_up (va_up V 0 c_V0) 2 c_V2) 12 c_V12) O ln cnt := (CInv_i (CInv_G43 hI :) (CInv_G44 hI :) (CInv_G45 hI :) hnG60 (CInv_G83 hI :) (CInv_G84 hI :) (CInv_G85 hI :) (CInv_G87 hI :) (CInv_G88 hI :) (CInv_G102 hI :) (CInv_G125 hI :) (CInv_G126 hI :) (CInv_G127 hI :) hnG141 (CInv_G160 hI :) (CInv_G161 hI :) (CInv_G162 hI :) (CInv_G165 hI :) (CInv_G166 hI :) (CInv_G183 hI :) (CInv_G200 hI :) (CInv_G203 hI :) (CInv_G222 hI :) (CInv_G231 hI :) (CInv_G233 hI :) (CInv_P0 hI :) (CInv_P1 hI :) (CInv_P2 hI :) (CInv_P3 hI :) (CInv_P4 hI :) (CInv_P5 hI :) (CInv_P20 hI :) (CInv_P21 hI :) (CInv_P22 hI :) (CInv_P23 hI :) (CInv_P40 hI :) (CInv_P41 hI :) (CInv_P42 hI :) (CInv_P61 hI :) (CInv_P62 hI :) (CInv_P63 hI :) (CInv_P64 hI :) (CInv_P65 hI :) hnP66 (CInv_P82 hI :) (CInv_P101 hI :) (CInv_P103 hI :) (CInv_P104 hI :) (CInv_P105 hI :) (CInv_P106 hI :) (CInv_P108 hI :) (CInv_P109 hI :) (CInv_P110 hI :) (CInv_P120 hI :) (CInv_P121 hI :) (CInv_P122 hI :) (CInv_P123 hI :) (CInv_P140 hI :) (CInv_P164 hI :) (CInv_P180 hI :) (CInv_P181 hI :) (CInv_P182 hI :) (CInv_P185 hI :) (CInv_P186 hI :) (CInv_P187 hI :) (CInv_P201 hI :) (CInv_P202 hI :) (CInv_P220 hI :) (CInv_P221 hI :) (CInv_P224 hI :) (CInv_P225 hI :) (CInv_P226 hI :) (CInv_P227 hI :) (CInv_P228 hI :) (CInv_P229 hI :) (CInv_P230 hI :) (CInv_P232 hI :) (CInv_P234 hI :) (CInv_P235 hI :) (CInv_P236 hI :) (CInv_V1 hI :) hnV2 (CInv_V3 hI :) (CInv_V9 hI :) (CInv_O0 hI :) (CInv_O1 hI :) (CInv_O2 hI :) (CInv_RA hI :) (CInv_RB hI :) (CInv_RI hI :) (CInv_RM103 hI :) (CInv_RM104 hI :) (CInv_RM108 hI :) (CInv_LN hI :) (CInv_FL hI :) (CInv_W0 hI :) (CInv_KC hI :) (CInv_WK hI :))
  dsimp only at po0
  try dsimp only at hnG141
  have ht := po0 tp h220
  have hn1 := hnG141 tp
  obtain ⟨la, D, tb, wl, wz, hLB, hxc, hlx, hdr, hD0, h140, h0w, h201, h202, hlz, h24, hr203, hr0, hr49, hr50, hRR, hRW, hTA, hTB, hTC, hTD, hBW, hBM, hBO, hBK, hMX⟩ := hR
  have ltp := (hLB.1 220 fl_220 x tp h220).2.1
  have lbp : la tp = 10 := lk_220.mp (hLB.1 220 fl_220 x tp h220).2.2
  have ltb := (hLB.1 140 fl_140 tp tb h140).2.1
  have lbb : la tb = la tp + 1 := lk_140.mp (hLB.1 140 fl_140 tp tb h140).2.2
  obtain ⟨_, lbk, _⟩ := hLB.1 229 fl_229 x bk h229
  have lwd := (hLB.1 0 fl_0 bk wd h0w).2.1
  have lbw : la wd = 20 := lk_0.mp (hLB.1 0 fl_0 bk wd h0w).2.2
  have lwl := (hLB.1 201 fl_201 wd wl h201).2.1
  have lbl : la wl = la wd + 0 := lk_201.mp (hLB.1 201 fl_201 wd wl h201).2.2
  have lwz := (hLB.1 202 fl_202 wd wz h202).2.1
  have lbz : la wz = la wd + 0 := lk_202.mp (hLB.1 202 fl_202 wd wz h202).2.2
  obtain ⟨qf_G60, qf_G141, qf_P66, qf_V0, qf_V2, qf_V12, ql_P66⟩ : (∀ z, ((la z < 10 ∨ 10 < la z) ∧ (la z < 60 ∨ 60 + 2 < la z)) → c_G60 z = (G 60) z) ∧ (∀ z, ((la z < 10 ∨ 10 < la z) ∧ (la z < 60 ∨ 60 + 2 < la z)) → c_G141 z = (G 141) z) ∧ (∀ z, ((la z < 10 ∨ 10 < la z) ∧ (la z < 60 ∨ 60 + 2 < la z)) → c_P66 z = (P 66) z) ∧ (∀ z, ((la z < 10 ∨ 10 < la z) ∧ (la z < 60 ∨ 60 + 2 < la z)) → c_V0 z = (V 0) z) ∧ (∀ z, ((la z < 10 ∨ 10 < la z) ∧ (la z < 60 ∨ 60 + 2 < la z)) → c_V2 z = (V 2) z) ∧ (∀ z, ((la z < 10 ∨ 10 < la z) ∧ (la z < 60 ∨ 60 + 2 < la z)) → c_V12 z = (V 12) z) ∧ LC 66 la cnt c_P66 := fr_X11_partings la G P U V X O kd ln cnt x y1 hLB hxc hlx _ hr1
  have hFc := va_fr2 hD hS hA
  have hPc := va_Pr hP
  have hDc := va_Drr hD
  obtain ⟨i0, hi0⟩ := hW.o11 hkx
  refine va_calli (va_runV (As := [.int y1]) (rest := []) ⟨hx, hb, hml, hown, hts⟩ (m_X11_partings l dC dI kk ad H.size ws G P U V X O kd ln cnt x y1 hkx hW hT r1 c_G60 c_G141 c_P66 c_V0 c_V2 c_V12 hr1) (cwV 1 hts gl_X11_partings rfl rfl rfl (by decide +kernel) ⟨Nat.le_of_ble_eq_true rfl, Nat.le_of_ble_eq_true rfl⟩) ⟨fun a U g mk q => by obtain ⟨q0, q1, qP, qK, qD⟩ := q; exact ⟨q0, q1, qP, va_K.moved (u := U) (U := U.calling g mk a) (Vm.Alike.refl U.vm) qK, qD⟩, va_recv hK hPc (ci := 11) (q0 := i0) rfl hi0, fun U hU hW => ⟨rfl, by rw [hU], by rw [hU]; exact hPc, va_K.moved hW.alike hK, hDc.weaken (fun _ _ _ _ => trivial)⟩⟩ rfl rfl hl.1 rfl (lv_room (Nat.le_of_ble_eq_true rfl)) dL_law_408 ⟨by show _ ≤ (600000 : Nat); omega, by show _ ≤ (7302250 : Nat); omega⟩) hS (fun q _ h => hFc q h) hFc (fun rr w t H1 locs ht1 hvm hw hB hz1 hk1 hS => ?_)
  obtain ⟨hw0, hW1, hT1⟩ := hw
  subst hw0
  obtain ⟨hP1, hK1, hD1⟩ := hB
  rw [ht1] at hP1
  obtain ⟨hP, hD⟩ := va_join2 hP hD hk1 hFc hP1 hD1
  clear hFc hPc hDc hk1 hz1 hvm ht1 hP1 hD1 hK1
  generalize H1 = H at hP hS ⊢
  refine lv_pop hx hb dL_law_411 rfl ?_
  refine lv_aload_n hx hb dL_law_412 rfl (lv_at hl 1 rfl) ?_
  refine lv_aload_n hx hb dL_law_413 rfl (lv_at hl 3 rfl) ?_
  refine lv_iload_n hx hb dL_law_414 rfl (lv_at hl 0 rfl) ?_
  refine lv_iconst (v := 1) hx hb dL_law_415 (by decide +kernel) ?_
  refine lv_iadd hx hb dL_law_416 ?_
  refine va_sld hx hb hX hbl hbA hS (z_in (by omega) (by omega)) dL_law_417 ?_
  refine lv_topi (fun z1 ez1 => ?_)
  obtain rfl : y1 = z1 := ey1.trans ez1.symm
  obtain ⟨hMI, hgn⟩ := hM
  refine MInv_e hMI (fun hmg1 hmg2 hmg3 hmg4 hmg5 hmg6 hmg7 hmg8 hmg9 hmg23 hmg27 hmg30 hmg34 hmg36 hmg39 hmg44 hmg47 hmg48 hmg51 hmg56 hmg59 hmg62 hmg65 hmg66 hmg70 hmF11 hmF12 hmF13 hmF15 hmF19 hmF21 hmF24 hmF25 hmF26 hmF33 hmF38 hmF41 hmF43 hmF45 hmF46 hmF50 hmF53 hmF54 hmLQ => ?_)
  obtain ⟨⟨r2, d_g1, d_g23, d_g27, d_g47, d_F22, d_F24, d_F25, d_F26, d_F28, d_F45, d_F46⟩, hr2, hbg1, hbg23, hbg27, hbg47, hbF24, hbF25, hbF26, hbF45, hbF46, qo0⟩ := ok_partings g F y1 hMI
  try dsimp only at qo0
  try dsimp only at hbg1
  try dsimp only at hbg23
  try dsimp only at hbg27
  try dsimp only at hbg47
  have hM1 : MS (upd (upd (upd (upd g 1 d_g1) 23 d_g23) 27 d_g27) 47 d_g47) (upF (upF (upF (upF (upF (upF (upF F 22 d_F22) 24 d_F24) 25 d_F25) 26 d_F26) 28 d_F28) 45 d_F45) 46 d_F46) ((c_G141 tp).toInt) := ⟨(MInv_i hbg1 hmg2 hmg3 hmg4 hmg5 hmg6 hmg7 hmg8 hmg9 hbg23 hbg27 hmg30 hmg34 hmg36 hmg39 hmg44 hbg47 hmg48 hmg51 hmg56 hmg59 hmg62 hmg65 hmg66 hmg70 hmF11 hmF12 hmF13 hmF15 hmF19 hmF21 hbF24 hbF25 hbF26 hmF33 hmF38 hmF41 hmF43 hbF45 hbF46 hmF50 hmF53 hmF54 hmLQ), by show d_g1.toInt = (c_G141 tp).toInt; omega⟩
  have hRR1 : RLR (upd (upd (upd (upd g 1 d_g1) 23 d_g23) 27 d_g27) 47 d_g47) (upF (upF (upF (upF (upF (upF (upF F 22 d_F22) 24 d_F24) 25 d_F25) 26 d_F26) 28 d_F28) 45 d_F45) 46 d_F46) la D x (va_up (va_up G 60 c_G60) 141 c_G141) (va_up P 66 c_P66) (va_up (va_up (va_up V 0 c_V0) 2 c_V2) 12 c_V12) O ln cnt := RLR_keep hRR hLB hxc rfl rfl rfl (fun j j1 j2 => (Eq.trans (upF_lo (k := 46) (by decide) j2) (Eq.trans (upF_lo (k := 45) (by decide) j2) (Eq.trans (upF_lo (k := 28) (by decide) j2) (Eq.trans (upF_lo (k := 26) (by decide) j2) (Eq.trans (upF_lo (k := 25) (by decide) j2) (Eq.trans (upF_lo (k := 24) (by decide) j2) (Eq.trans (upF_lo (k := 22) (by decide) j2) rfl)))))))) rfl rfl rfl rfl rfl (fun z hz hl3 => ⟨rfl, rfl⟩) (fun z hz => rfl) (fun z hz hl3 => by have h7 : (la z < 10 ∨ 10 < la z) ∧ (la z < 60 ∨ 60 + 2 < la z) := (by omega); exact ⟨rfl, rfl, rfl, rfl, rfl, rfl, rfl, rfl, rfl, rfl, rfl, rfl, rfl, rfl, rfl, rfl, rfl, rfl, (qf_V0 z (h7)), rfl, rfl, rfl, rfl⟩) (Nat.le_refl _) (fun _ _ => rfl)
  have hRW1 : RLW (upd (upd (upd (upd g 1 d_g1) 23 d_g23) 27 d_g27) 47 d_g47) (upF (upF (upF (upF (upF (upF (upF F 22 d_F22) 24 d_F24) 25 d_F25) 26 d_F26) 28 d_F28) 45 d_F45) 46 d_F46) := RLW_keep hRW rfl (fun j j1 j2 => (Eq.trans (upF_lo (k := 46) (by decide) j2) (Eq.trans (upF_lo (k := 45) (by decide) j2) (Eq.trans (upF_lo (k := 28) (by decide) j2) (Eq.trans (upF_lo (k := 26) (by decide) j2) (Eq.trans (upF_lo (k := 25) (by decide) j2) (Eq.trans (upF_lo (k := 24) (by decide) j2) (Eq.trans (upF_lo (k := 22) (by decide) j2) rfl))))))))
  have hTD1 : RTD (upd (upd (upd (upd g 1 d_g1) 23 d_g23) 27 d_g27) 47 d_g47) (upF (upF (upF (upF (upF (upF (upF F 22 d_F22) 24 d_F24) 25 d_F25) 26 d_F26) 28 d_F28) 45 d_F45) 46 d_F46) x (va_up (va_up G 60 c_G60) 141 c_G141) (va_up P 66 c_P66) (va_up (va_up (va_up V 0 c_V0) 2 c_V2) 12 c_V12) ln := RTD_keep hTD hLB rfl rfl rfl rfl (fun z hz => ⟨rfl, rfl, rfl, rfl⟩) (fun z hz hl3 => (by have h7 : (la z < 10 ∨ 10 < la z) ∧ (la z < 60 ∨ 60 + 2 < la z) := (by omega); exact ⟨rfl, (qf_V0 z (h7)), rfl⟩))
  have hTA1 : RTA x (va_up (va_up G 60 c_G60) 141 c_G141) (va_up P 66 c_P66) ln := RTA_keep hTA hLB rfl (fun z hz => ⟨rfl, rfl, rfl, rfl, rfl, rfl⟩)
  have hTB1 : RTB (upd (upd (upd (upd g 1 d_g1) 23 d_g23) 27 d_g27) 47 d_g47) (upF (upF (upF (upF (upF (upF (upF F 22 d_F22) 24 d_F24) 25 d_F25) 26 d_F26) 28 d_F28) 45 d_F45) 46 d_F46) x (va_up (va_up G 60 c_G60) 141 c_G141) (va_up P 66 c_P66) (va_up (va_up (va_up V 0 c_V0) 2 c_V2) 12 c_V12) O := fun q hq => RTB_one hTB hRR hLB hq (RVf_eq (fun j j1 j2 => (Eq.trans (upF_lo (k := 46) (by decide) j2) (Eq.trans (upF_lo (k := 45) (by decide) j2) (Eq.trans (upF_lo (k := 28) (by decide) j2) (Eq.trans (upF_lo (k := 26) (by decide) j2) (Eq.trans (upF_lo (k := 25) (by decide) j2) (Eq.trans (upF_lo (k := 24) (by decide) j2) (Eq.trans (upF_lo (k := 22) (by decide) j2) rfl))))))))) (fun z9 h1 => rfl) rfl (fun z hz => ⟨rfl, rfl, rfl, rfl, rfl⟩) (fun z hz h1 h2 => (by have h7 : (la z < 10 ∨ 10 < la z) ∧ (la z < 60 ∨ 60 + 2 < la z) := (by omega); exact ⟨rfl, (qf_V0 z (h7)), rfl, rfl⟩))
  have hTC1 : RTC la x (va_up (va_up G 60 c_G60) 141 c_G141) (va_up P 66 c_P66) ln := RTC_keep hTC hLB rfl (fun _ _ _ _ _ _ _ q3 => q3) (fun z hz => ⟨rfl, rfl, rfl, rfl, rfl, rfl, rfl, rfl, rfl, rfl, rfl⟩) (fun _ _ => rfl)
  have hBW1 : RBW (upd (upd (upd (upd g 1 d_g1) 23 d_g23) 27 d_g27) 47 d_g47) (upF (upF (upF (upF (upF (upF (upF F 22 d_F22) 24 d_F24) 25 d_F25) 26 d_F26) 28 d_F28) 45 d_F45) 46 d_F46) := RBW_keep hBW rfl rfl rfl
  have hBM1 : RBM (upd (upd (upd (upd g 1 d_g1) 23 d_g23) 27 d_g27) 47 d_g47) (upF (upF (upF (upF (upF (upF (upF F 22 d_F22) 24 d_F24) 25 d_F25) 26 d_F26) 28 d_F28) 45 d_F45) 46 d_F46) := RBM_keep hBM rfl rfl rfl (fun j j1 j2 => (Eq.trans (upF_lo (k := 46) (by decide) j2) (Eq.trans (upF_lo (k := 45) (by decide) j2) (Eq.trans (upF_lo (k := 28) (by decide) j2) (Eq.trans (upF_lo (k := 26) (by decide) j2) (Eq.trans (upF_lo (k := 25) (by decide) j2) (Eq.trans (upF_lo (k := 24) (by decide) j2) (Eq.trans (upF_lo (k := 22) (by decide) j2) rfl)))))))) rfl rfl rfl rfl rfl
  have hBK1 : RBK (upd (upd (upd (upd g 1 d_g1) 23 d_g23) 27 d_g27) 47 d_g47) (upF (upF (upF (upF (upF (upF (upF F 22 d_F22) 24 d_F24) 25 d_F25) 26 d_F26) 28 d_F28) 45 d_F45) 46 d_F46) la D x (va_up (va_up G 60 c_G60) 141 c_G141) (va_up P 66 c_P66) (va_up (va_up (va_up V 0 c_V0) 2 c_V2) 12 c_V12) O ln cnt := RBK_keep hBK hLB (fun q hq => RVf_eq (fun j j1 j2 => (Eq.trans (upF_lo (k := 46) (by decide) j2) (Eq.trans (upF_lo (k := 45) (by decide) j2) (Eq.trans (upF_lo (k := 28) (by decide) j2) (Eq.trans (upF_lo (k := 26) (by decide) j2) (Eq.trans (upF_lo (k := 25) (by decide) j2) (Eq.trans (upF_lo (k := 24) (by decide) j2) (Eq.trans (upF_lo (k := 22) (by decide) j2) rfl))))))))) (Nat.le_refl _) (fun _ _ => rfl) (fun fl9 s9 => by have z1 := (CInv_FL hI :) fl9 s9; have z2 := (CInv_V3 hI :) fl9 s9; have z3 := clampI (x := V 3 fl9 s9) z2.1; have z4 := congrArg Int32.toInt hr203; have z5 := clampI (x := g 48) (by omega); omega) rfl (fun z hz => ⟨rfl, rfl, rfl, rfl, rfl, rfl, rfl⟩) (fun z hz hl3 => ⟨rfl, rfl⟩) (fun z hz h1 h2 => by obtain ⟨k9, hk9⟩ := h1; exact (by have h7 : (la z < 10 ∨ 10 < la z) ∧ (la z < 60 ∨ 60 + 2 < la z) := (by omega); exact ⟨rfl, (qf_V0 z (h7)), rfl⟩)) (Nat.le_refl _) (fun _ _ => rfl) (fun z hz h => h)
  have hBO1 : RBO (upd (upd (upd (upd g 1 d_g1) 23 d_g23) 27 d_g27) 47 d_g47) (upF (upF (upF (upF (upF (upF (upF F 22 d_F22) 24 d_F24) 25 d_F25) 26 d_F26) 28 d_F28) 45 d_F45) 46 d_F46) x (va_up (va_up G 60 c_G60) 141 c_G141) (va_up P 66 c_P66) (va_up (va_up (va_up V 0 c_V0) 2 c_V2) 12 c_V12) := RBO_keep hBO hLB rfl rfl (fun z hz h1 => by have hl9 : la z = 201 := (by have z9 := lk_230.mp (hLB.1 230 fl_230 x z h1).2.2; omega); exact rfl) rfl rfl
  have hMX1 : RMX (upd (upd (upd (upd g 1 d_g1) 23 d_g23) 27 d_g27) 47 d_g47) (upF (upF (upF (upF (upF (upF (upF F 22 d_F22) 24 d_F24) 25 d_F25) 26 d_F26) 28 d_F28) 45 d_F45) 46 d_F46) x (va_up (va_up G 60 c_G60) 141 c_G141) (va_up P 66 c_P66) (va_up (va_up (va_up V 0 c_V0) 2 c_V2) 12 c_V12) := RMX_keep hMX hLB rfl (fun z hz hl3 => ⟨rfl, rfl, rfl⟩) rfl rfl
  have hRL : RLB (upd (upd (upd (upd g 1 d_g1) 23 d_g23) 27 d_g27) 47 d_g47) (upF (upF (upF (upF (upF (upF (upF F 22 d_F22) 24 d_F24) 25 d_F25) 26 d_F26) 28 d_F28) 45 d_F45) 46 d_F46) x tp bk wd (va_up (va_up G 60 c_G60) 141 c_G141) (va_up P 66 c_P66) (va_up (va_up (va_up V 0 c_V0) 2 c_V2) 12 c_V12) O ln cnt := ⟨la, D, tb, wl, wz, (LB_set hLB ql_P66), hxc, hlx, hdr, hD0, h140, h0w, h201, h202, hlz, h24, hr203, ((qf_V0 tb (show (la tb < 10 ∨ 10 < la tb) ∧ (la tb < 60 ∨ 60 + 2 < la tb) from by omega)).trans hr0), ((qf_V0 wl (show (la wl < 10 ∨ 10 < la wl) ∧ (la wl < 60 ∨ 60 + 2 < la wl) from by omega)).trans hr49), hr50, hRR1, hRW1, hTA1, hTB1, hTC1, hTD1, hBW1, hBM1, hBO1, hBK1, hMX1⟩
  have hC1 : CS kk w (ad x) ((c_G141 tp).toInt) (s7 ((V 3) fl)) (upd (upd (upd (upd g 1 d_g1) 23 d_g23) 27 d_g27) 47 d_g47) (upF (upF (upF (upF (upF (upF (upF F 22 d_F22) 24 d_F24) 25 d_F25) 26 d_F26) 28 d_F28) 45 d_F45) 46 d_F46) := ⟨ad, κ, wd, (va_up (va_up G 60 c_G60) 141 c_G141), (va_up P 66 c_P66), U, (va_up (va_up (va_up V 0 c_V0) 2 c_V2) 12 c_V12), X, O, kd, ln, cnt, x, tp, bk, fl, rfl, hW1, hT1, hI1, hkx, hκ, h220, h229, h3, rfl, rfl, hRL⟩
  replace hP := va_Psw hP
  replace hD := va_Dsw hD
  have hFc := va_fr2 hD hS hA
  have hPc := va_Pr hP
  have hDc := va_Drr hD
  have hKm : va_K (dC, dI) vwCl (mT (kk 0) (kk 1) (kk 2)) s := hK.sub [0, 1, 2] rfl
  refine va_calli (va_runV (As := [.int y1]) (rest := []) ⟨hx, hb, hml, hown, hts⟩ (m_partings l dC dI H.size h0 (kk 0) (kk 1) (kk 2) q g F y1 r2 d_g1 d_g23 d_g27 d_g47 d_F22 d_F24 d_F25 d_F26 d_F28 d_F45 d_F46 hr2) (cwV 1 hts gl_X12_partings rfl rfl rfl (by decide +kernel) ⟨Nat.le_of_ble_eq_true rfl, Nat.le_of_ble_eq_true rfl⟩) ⟨fun a U g mk q => by obtain ⟨q0, q1, qP, qK, qD⟩ := q; exact ⟨q0, q1, qP, va_K.moved (u := U) (U := U.calling g mk a) (Vm.Alike.refl U.vm) qK, qD⟩, va_recv hKm hPc (ci := 12) (q0 := 0) rfl rfl, fun U hU hW => ⟨rfl, by rw [hU], by rw [hU]; exact hPc, va_K.moved hW.alike hKm, hDc.weaken (fun _ _ _ _ => trivial)⟩⟩ rfl rfl hl.1 rfl (lv_room (Nat.le_of_ble_eq_true rfl)) dL_law_418 ⟨by show _ ≤ (600000 : Nat); omega, by show _ ≤ (7302250 : Nat); omega⟩) hS (fun q _ h => hFc q h) hFc (fun rr2 u t H1 locs ht1 hvm hw hB hz1 hk1 hS => ?_)
  subst hw
  obtain ⟨hP1, hK1, hD1⟩ := hB
  rw [ht1] at hP1
  obtain ⟨hP, hD⟩ := va_join2 hP hD hk1 hFc hP1 hD1
  replace hP := va_Psw hP
  replace hD := va_Dsw hD
  refine lv_pop hx hb dL_law_421 rfl ?_
  refine lv_goto (tgt := 833) hx hb dL_law_422 (by decide) ?_
  exact kont w (upd (upd (upd (upd g 1 d_g1) 23 d_g23) 27 d_g27) 47 d_g47) (upF (upF (upF (upF (upF (upF (upF F 22 d_F22) 24 d_F24) 25 d_F25) 26 d_F26) 28 d_F28) 45 d_F45) 46 d_F46) ((c_G141 tp).toInt) (s7 ((V 3) fl)) _ _ _ _ hC1 hM1 (by omega) (by omega) hP hD hS
set_option maxHeartbeats 8000000 in
set_option maxRecDepth 100000 in
theorem law_9 {p : Program} {e : Env} {s : State} {m : MethodId} {below : List Frame} {meth : Method} {c : Code} (l : Launch) {b L : Nat} {xs : Nat → Int32} {A : Nat → Prop} {dC : Nat → ClassId} {dI : Nat → Nat → Nat} {kk : Nat → ClassId} {adK adV : Nat → Nat} (C0 : lw_At p s m meth c b L xs) (hL : L ≤ 3072) (hA : ∀ q : Nat, s.heap.size ≤ q → A q) (hbA : ¬ A b) (hE : EnvOK s) (hSE : SE adK adV A s) (hK : va_K (dC, dI) vwCl (cT kk) s) {i : Int32} (hi : 0 ≤ i.toInt ∧ i.toInt + 6 ≤ (L : Int)) {ws : va_W} {xa h0 : Nat} {q : Nat → Nat} {g : Nat → Int32} {F : Nat → Nat → Int32} {n σ B1 B2 : Int} {H : Heap} {locs : List Loc} {ls : Array Slot} {cells slots : Nat} (hC : CS kk ws xa n σ g F) (hM : MS g F n) (hB1 : (cells : Int) + 10 * n ≤ B1 + 3 * σ) (hB2 : (slots : Int) + 118 * n ≤ B2 + 2504 * σ) (hc1 : B1 ≤ 590000) (hc2 : B2 ≤ 5500000) (hP : va_P (dC, dI) vwCl ((mW h0 (kk 0) (kk 1) (kk 2) q g F) ++ ws) H) (hD : va_D A ((mW h0 (kk 0) (kk 1) (kk 2) q g F) ++ ws)) (hS : va_S A s.heap H locs) (hl : lv_has ls 4 [(3, .int i), (2, .ref h0), (1, .ref xa), (0, .ref b)]) (kont : ∀ (ws : va_W) (g : Nat → Int32) (F : Nat → Nat → Int32) (n σ : Int) (H : Heap) (locs : List Loc) (cells slots : Nat), CS kk ws xa n σ g F → MS g F n → (cells : Int) + 10 * n ≤ B1 + 228 + 3 * σ → (slots : Int) + 118 * n ≤ B2 + 6860 + 2504 * σ → va_P (dC, dI) vwCl ((mW h0 (kk 0) (kk 1) (kk 2) q g F) ++ ws) H → va_D A ((mW h0 (kk 0) (kk 1) (kk 2) q g F) ++ ws) → va_S A s.heap H locs → W p l e room_1 s m #[Value.ref b] below meth c H locs cells slots (lw_Z below #[Value.ref b] s) (F0 m 833 ls [])) : W p l e room_1 s m #[Value.ref b] below meth c H locs cells slots (lw_Z below #[Value.ref b] s) (F0 m 425 ls []) := by
  obtain ⟨hx, hb, hr9, hml, hown, hts0, hX, hbl, hlocks, hgv⟩ := C0
  have hts := fun w h => hts0 w (wL_tb w h)
  obtain ⟨ad, κ, wd, G, P, U, V, X, O, kd, ln, cnt, x, tp, bk, fl, rfl, hW, hT, hI, hkx, hκ, h220, h229, h3, hn, hσ, hR⟩ := hC
  have hk220 := (((CInv_P220 hI :) x).2 tp h220).1
  have hk229 := (((CInv_P229 hI :) x).2 bk h229).1
  have hs0 := s7_b (CInv_V3 hI :) fl
  have hn0 := (CInv_G141 hI :) tp
  have hj1 : (i + 1).toInt = i.toInt + 1 := z_addc (by decide +kernel) (by omega) (by omega)
  have hj2 : (i + 2).toInt = i.toInt + 2 := z_addc (by decide +kernel) (by omega) (by omega)
  refine lv_aload_n hx hb dL_law_425 rfl (lv_at hl 2 rfl) ?_
  refine lv_aload_n hx hb dL_law_426 rfl (lv_at hl 3 rfl) ?_
  refine lv_iload_n hx hb dL_law_427 rfl (lv_at hl 0 rfl) ?_
  refine lv_iconst (v := 1) hx hb dL_law_428 (by decide +kernel) ?_
  refine lv_iadd hx hb dL_law_429 ?_
  refine va_sld hx hb hX hbl hbA hS (z_in (by omega) (by omega)) dL_law_430 ?_
  refine lv_topi (fun y1 ey1 => ?_)
  refine lv_aload_n hx hb dL_law_431 rfl (lv_at hl 3 rfl) ?_
  refine lv_iload_n hx hb dL_law_432 rfl (lv_at hl 0 rfl) ?_
  refine lv_iconst (v := 2) hx hb dL_law_433 (by decide +kernel) ?_
  refine lv_iadd hx hb dL_law_434 ?_
  refine va_sld hx hb hX hbl hbA hS (z_in (by omega) (by omega)) dL_law_435 ?_
  refine lv_topi (fun y2 ey2 => ?_)
  obtain ⟨r1, hr1, hq1⟩ := ok_X11_parting κ wd G P U V X O kd ln cnt x y1 y2 (CInv_G60 hI :) (CInv_G200 hI :) (CInv_G203 hI :) (CInv_P61 hI :) (CInv_P62 hI :) (CInv_P66 hI :) (CInv_P201 hI :) (CInv_P202 hI :) (CInv_P228 hI :) (CInv_V1 hI :) (CInv_V2 hI :) (CInv_RA hI :) (CInv_RB hI :) (CInv_RI hI :) (CInv_LN hI :) hκ
  have hI1 : CInv κ wd G P V O ln cnt := (CInv_i (CInv_G43 hI :) (CInv_G44 hI :) (CInv_G45 hI :) (CInv_G60 hI :) (CInv_G83 hI :) (CInv_G84 hI :) (CInv_G85 hI :) (CInv_G87 hI :) (CInv_G88 hI :) (CInv_G102 hI :) (CInv_G125 hI :) (CInv_G126 hI :) (CInv_G127 hI :) (CInv_G141 hI :) (CInv_G160 hI :) (CInv_G161 hI :) (CInv_G162 hI :) (CInv_G165 hI :) (CInv_G166 hI :) (CInv_G183 hI :) (CInv_G200 hI :) (CInv_G203 hI :) (CInv_G222 hI :) (CInv_G231 hI :) (CInv_G233 hI :) (CInv_P0 hI :) (CInv_P1 hI :) (CInv_P2 hI :) (CInv_P3 hI :) (CInv_P4 hI :) (CInv_P5 hI :) (CInv_P20 hI :) (CInv_P21 hI :) (CInv_P22 hI :) (CInv_P23 hI :) (CInv_P40 hI :) (CInv_P41 hI :) (CInv_P42 hI :) (CInv_P61 hI :) (CInv_P62 hI :) (CInv_P63 hI :) (CInv_P64 hI :) (CInv_P65 hI :) (CInv_P66 hI :) (CInv_P82 hI :) (CInv_P101 hI :) (CInv_P103 hI :) (CInv_P104 hI :) (CInv_P105 hI :) (CInv_P106 hI :) (CInv_P108 hI :) (CInv_P109 hI :) (CInv_P110 hI :) (CInv_P120 hI :) (CInv_P121 hI :) (CInv_P122 hI :) (CInv_P123 hI :) (CInv_P140 hI :) (CInv_P164 hI :) (CInv_P180 hI :) (CInv_P181 hI :) (CInv_P182 hI :) (CInv_P185 hI :) (CInv_P186 hI :) (CInv_P187 hI :) (CInv_P201 hI :) (CInv_P202 hI :) (CInv_P220 hI :) (CInv_P221 hI :) (CInv_P224 hI :) (CInv_P225 hI :) (CInv_P226 hI :) (CInv_P227 hI :) (CInv_P228 hI :) (CInv_P229 hI :) (CInv_P230 hI :) (CInv_P232 hI :) (CInv_P234 hI :) (CInv_P235 hI :) (CInv_P236 hI :) (CInv_V1 hI :) (CInv_V2 hI :) (CInv_V3 hI :) (CInv_V9 hI :) (CInv_O0 hI :) (CInv_O1 hI :) (CInv_O2 hI :) (CInv_RA hI :) (CInv_RB hI :) (CInv_RI hI :) (CInv_RM103 hI :) (CInv_RM104 hI :) (CInv_RM108 hI :) (CInv_LN hI :) (CInv_FL hI :) (CInv_W0 hI :) (CInv_KC hI :) (CInv_WK hI :))
  obtain ⟨la, D, tb, wl, wz, hLB, hxc, hlx, hdr, hD0, h140, h0w, h201, h202, hlz, h24, hr203, hr0, hr49, hr50, hRR, hRW, hTA, hTB, hTC, hTD, hBW, hBM, hBO, hBK, hMX⟩ := hR
  have ltp := (hLB.1 220 fl_220 x tp h220).2.1
  have lbp : la tp = 10 := lk_220.mp (hLB.1 220 fl_220 x tp h220).2.2
  have ltb := (hLB.1 140 fl_140 tp tb h140).2.1
  have lbb : la tb = la tp + 1 := lk_140.mp (hLB.1 140 fl_140 tp tb h140).2.2
  obtain ⟨_, lbk, _⟩ := hLB.1 229 fl_229 x bk h229
  have lwd := (hLB.1 0 fl_0 bk wd h0w).2.1
  have lbw : la wd = 20 := lk_0.mp (hLB.1 0 fl_0 bk wd h0w).2.2
  have lwl := (hLB.1 201 fl_201 wd wl h201).2.1
  have lbl : la wl = la wd + 0 := lk_201.mp (hLB.1 201 fl_201 wd wl h201).2.2
  have lwz := (hLB.1 202 fl_202 wd wz h202).2.1
  have lbz : la wz = la wd + 0 := lk_202.mp (hLB.1 202 fl_202 wd wz h202).2.2
  have hFc := va_fr2 hD hS hA
  have hPc := va_Pr hP
  have hDc := va_Drr hD
  obtain ⟨i0, hi0⟩ := hW.o11 hkx
  refine va_calli (va_runV (As := [.int y1, .int y2]) (rest := []) ⟨hx, hb, hml, hown, hts⟩ (m_X11_parting l dC dI kk ad H.size ws G P U V X O kd ln cnt x y1 y2 hkx hW hT r1 hr1) (cwV 2 hts gl_X11_parting rfl rfl rfl (by decide +kernel) ⟨Nat.le_of_ble_eq_true rfl, Nat.le_of_ble_eq_true rfl⟩) ⟨fun a U g mk q => by obtain ⟨q0, q1, qP, qK, qD⟩ := q; exact ⟨q0, q1, qP, va_K.moved (u := U) (U := U.calling g mk a) (Vm.Alike.refl U.vm) qK, qD⟩, va_recv hK hPc (ci := 11) (q0 := i0) rfl hi0, fun U hU hW => ⟨rfl, by rw [hU], by rw [hU]; exact hPc, va_K.moved hW.alike hK, hDc.weaken (fun _ _ _ _ => trivial)⟩⟩ rfl rfl hl.1 rfl (lv_room (Nat.le_of_ble_eq_true rfl)) dL_law_436 ⟨by show _ ≤ (600000 : Nat); omega, by show _ ≤ (7302250 : Nat); omega⟩) hS (fun q _ h => hFc q h) hFc (fun rr w t H1 locs ht1 hvm hw hB hz1 hk1 hS => ?_)
  obtain ⟨hw0, hW1, hT1⟩ := hw
  subst hw0
  obtain ⟨hP1, hK1, hD1⟩ := hB
  rw [ht1] at hP1
  obtain ⟨hP, hD⟩ := va_join2 hP hD hk1 hFc hP1 hD1
  clear hFc hPc hDc hk1 hz1 hvm ht1 hP1 hD1 hK1
  generalize H1 = H at hP hS ⊢
  refine lv_pop hx hb dL_law_439 rfl ?_
  refine lv_aload_n hx hb dL_law_440 rfl (lv_at hl 1 rfl) ?_
  refine lv_aload_n hx hb dL_law_441 rfl (lv_at hl 3 rfl) ?_
  refine lv_iload_n hx hb dL_law_442 rfl (lv_at hl 0 rfl) ?_
  refine lv_iconst (v := 1) hx hb dL_law_443 (by decide +kernel) ?_
  refine lv_iadd hx hb dL_law_444 ?_
  refine va_sld hx hb hX hbl hbA hS (z_in (by omega) (by omega)) dL_law_445 ?_
  refine lv_topi (fun z1 ez1 => ?_)
  obtain rfl : y1 = z1 := ey1.trans ez1.symm
  refine lv_aload_n hx hb dL_law_446 rfl (lv_at hl 3 rfl) ?_
  refine lv_iload_n hx hb dL_law_447 rfl (lv_at hl 0 rfl) ?_
  refine lv_iconst (v := 2) hx hb dL_law_448 (by decide +kernel) ?_
  refine lv_iadd hx hb dL_law_449 ?_
  refine va_sld hx hb hX hbl hbA hS (z_in (by omega) (by omega)) dL_law_450 ?_
  refine lv_topi (fun z2 ez2 => ?_)
  obtain rfl : y2 = z2 := ey2.trans ez2.symm
  obtain ⟨hMI, hgn⟩ := hM
  refine MInv_e hMI (fun hmg1 hmg2 hmg3 hmg4 hmg5 hmg6 hmg7 hmg8 hmg9 hmg23 hmg27 hmg30 hmg34 hmg36 hmg39 hmg44 hmg47 hmg48 hmg51 hmg56 hmg59 hmg62 hmg65 hmg66 hmg70 hmF11 hmF12 hmF13 hmF15 hmF19 hmF21 hmF24 hmF25 hmF26 hmF33 hmF38 hmF41 hmF43 hmF45 hmF46 hmF50 hmF53 hmF54 hmLQ => ?_)
  obtain ⟨r2, hr2, hq2⟩ := ok_parting g F y1 y2 hMI
  have hM1 : MS g F (((G 141) tp).toInt) := ⟨(MInv_i hmg1 hmg2 hmg3 hmg4 hmg5 hmg6 hmg7 hmg8 hmg9 hmg23 hmg27 hmg30 hmg34 hmg36 hmg39 hmg44 hmg47 hmg48 hmg51 hmg56 hmg59 hmg62 hmg65 hmg66 hmg70 hmF11 hmF12 hmF13 hmF15 hmF19 hmF21 hmF24 hmF25 hmF26 hmF33 hmF38 hmF41 hmF43 hmF45 hmF46 hmF50 hmF53 hmF54 hmLQ), by show (g 1).toInt = ((G 141) tp).toInt; omega⟩
  have hRR1 : RLR g F la D x G P V O ln cnt := RLR_keep hRR hLB hxc rfl rfl rfl (fun j j1 j2 => rfl) rfl rfl rfl rfl rfl (fun z hz hl3 => ⟨rfl, rfl⟩) (fun z hz => rfl) (fun z hz hl3 => ⟨rfl, rfl, rfl, rfl, rfl, rfl, rfl, rfl, rfl, rfl, rfl, rfl, rfl, rfl, rfl, rfl, rfl, rfl, rfl, rfl, rfl, rfl, rfl⟩) (Nat.le_refl _) (fun _ _ => rfl)
  have hRW1 : RLW g F := RLW_keep hRW rfl (fun j j1 j2 => rfl)
  have hTD1 : RTD g F x G P V ln := RTD_keep hTD hLB rfl rfl rfl rfl (fun z hz => ⟨rfl, rfl, rfl, rfl⟩) (fun z hz hl3 => ⟨rfl, rfl, rfl⟩)
  have hTA1 : RTA x G P ln := RTA_keep hTA hLB rfl (fun z hz => ⟨rfl, rfl, rfl, rfl, rfl, rfl⟩)
  have hTB1 : RTB g F x G P V O := fun q hq => RTB_one hTB hRR hLB hq (RVf_eq (fun j j1 j2 => rfl)) (fun z9 h1 => rfl) rfl (fun z hz => ⟨rfl, rfl, rfl, rfl, rfl⟩) (fun z hz h1 h2 => ⟨rfl, rfl, rfl, rfl⟩)
  have hTC1 : RTC la x G P ln := RTC_keep hTC hLB rfl (fun _ _ _ _ _ _ _ q3 => q3) (fun z hz => ⟨rfl, rfl, rfl, rfl, rfl, rfl, rfl, rfl, rfl, rfl, rfl⟩) (fun _ _ => rfl)
  have hBW1 : RBW g F := RBW_keep hBW rfl rfl rfl
  have hBM1 : RBM g F := RBM_keep hBM rfl rfl rfl (fun j j1 j2 => rfl) rfl rfl rfl rfl rfl
  have hBK1 : RBK g F la D x G P V O ln cnt := RBK_keep hBK hLB (fun q hq => RVf_eq (fun j j1 j2 => rfl)) (Nat.le_refl _) (fun _ _ => rfl) (fun fl9 s9 => by have z1 := (CInv_FL hI :) fl9 s9; have z2 := (CInv_V3 hI :) fl9 s9; have z3 := clampI (x := V 3 fl9 s9) z2.1; have z4 := congrArg Int32.toInt hr203; have z5 := clampI (x := g 48) (by omega); omega) rfl (fun z hz => ⟨rfl, rfl, rfl, rfl, rfl, rfl, rfl⟩) (fun z hz hl3 => ⟨rfl, rfl⟩) (fun z hz h1 h2 => by obtain ⟨k9, hk9⟩ := h1; exact ⟨rfl, rfl, rfl⟩) (Nat.le_refl _) (fun _ _ => rfl) (fun z hz h => h)
  have hBO1 : RBO g F x G P V := RBO_keep hBO hLB rfl rfl (fun z hz h1 => by have hl9 : la z = 201 := (by have z9 := lk_230.mp (hLB.1 230 fl_230 x z h1).2.2; omega); exact rfl) rfl rfl
  have hMX1 : RMX g F x G P V := RMX_keep hMX hLB rfl (fun z hz hl3 => ⟨rfl, rfl, rfl⟩) rfl rfl
  have hRL : RLB g F x tp bk wd G P V O ln cnt := ⟨la, D, tb, wl, wz, hLB, hxc, hlx, hdr, hD0, h140, h0w, h201, h202, hlz, h24, hr203, hr0, hr49, hr50, hRR1, hRW1, hTA1, hTB1, hTC1, hTD1, hBW1, hBM1, hBO1, hBK1, hMX1⟩
  have hC1 : CS kk w (ad x) (((G 141) tp).toInt) (s7 ((V 3) fl)) g F := ⟨ad, κ, wd, G, P, U, V, X, O, kd, ln, cnt, x, tp, bk, fl, rfl, hW1, hT1, hI1, hkx, hκ, h220, h229, h3, rfl, rfl, hRL⟩
  replace hP := va_Psw hP
  replace hD := va_Dsw hD
  have hFc := va_fr2 hD hS hA
  have hPc := va_Pr hP
  have hDc := va_Drr hD
  have hKm : va_K (dC, dI) vwCl (mT (kk 0) (kk 1) (kk 2)) s := hK.sub [0, 1, 2] rfl
  refine va_calli (va_runV (As := [.int y1, .int y2]) (rest := []) ⟨hx, hb, hml, hown, hts⟩ (m_parting l dC dI H.size h0 (kk 0) (kk 1) (kk 2) q g F y1 y2 r2 hr2) (cwV 2 hts gl_X12_parting rfl rfl rfl (by decide +kernel) ⟨Nat.le_of_ble_eq_true rfl, Nat.le_of_ble_eq_true rfl⟩) ⟨fun a U g mk q => by obtain ⟨q0, q1, qP, qK, qD⟩ := q; exact ⟨q0, q1, qP, va_K.moved (u := U) (U := U.calling g mk a) (Vm.Alike.refl U.vm) qK, qD⟩, va_recv hKm hPc (ci := 12) (q0 := 0) rfl rfl, fun U hU hW => ⟨rfl, by rw [hU], by rw [hU]; exact hPc, va_K.moved hW.alike hKm, hDc.weaken (fun _ _ _ _ => trivial)⟩⟩ rfl rfl hl.1 rfl (lv_room (Nat.le_of_ble_eq_true rfl)) dL_law_451 ⟨by show _ ≤ (600000 : Nat); omega, by show _ ≤ (7302250 : Nat); omega⟩) hS (fun q _ h => hFc q h) hFc (fun rr2 u t H1 locs ht1 hvm hw hB hz1 hk1 hS => ?_)
  subst hw
  obtain ⟨hP1, hK1, hD1⟩ := hB
  rw [ht1] at hP1
  obtain ⟨hP, hD⟩ := va_join2 hP hD hk1 hFc hP1 hD1
  replace hP := va_Psw hP
  replace hD := va_Dsw hD
  refine lv_pop hx hb dL_law_454 rfl ?_
  refine lv_goto (tgt := 833) hx hb dL_law_455 (by decide) ?_
  exact kont w g F (((G 141) tp).toInt) (s7 ((V 3) fl)) _ _ _ _ hC1 hM1 (by omega) (by omega) hP hD hS
