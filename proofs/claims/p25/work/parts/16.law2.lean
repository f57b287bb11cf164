set_option maxHeartbeats 8000000 in
set_option maxRecDepth 100000 in
theorem law_10 {p : Program} {e : Env} {s : State} {m : MethodId} {below : List Frame} {meth : Method} {c : Code} (l : Launch) {b L : Nat} {xs : Nat → Int32} {A : Nat → Prop} {dC : Nat → ClassId} {dI : Nat → Nat → Nat} {kk : Nat → ClassId} {adK adV : Nat → Nat} (C0 : lw_At p s m meth c b L xs) (hL : L ≤ 3072) (hA : ∀ q : Nat, s.heap.size ≤ q → A q) (hbA : ¬ A b) (hE : EnvOK s) (hSE : SE adK adV A s) (hK : va_K (dC, dI) vwCl (cT kk) s) {i : Int32} (hi : 0 ≤ i.toInt ∧ i.toInt + 6 ≤ (L : Int)) {ws : va_W} {xa h0 : Nat} {q : Nat → Nat} {g : Nat → Int32} {F : Nat → Nat → Int32} {n σ B1 B2 : Int} {H : Heap} {locs : List Loc} {ls : Array Slot} {cells slots : Nat} (hC : CS kk ws xa n σ g F) (hM : MS g F n) (hB1 : (cells : Int) + 10 * n ≤ B1 + 3 * σ) (hB2 : (slots : Int) + 118 * n ≤ B2 + 2504 * σ) (hc1 : B1 ≤ 590000) (hc2 : B2 ≤ 5500000) (hP : va_P (dC, dI) vwCl ((mW h0 (kk 0) (kk 1) (kk 2) q g F) ++ ws) H) (hD : va_D A ((mW h0 (kk 0) (kk 1) (kk 2) q g F) ++ ws)) (hS : va_S A s.heap H locs) (hl : lv_has ls 4 [(3, .int i), (2, .ref h0), (1, .ref xa), (0, .ref b)]) (kont : ∀ (ws : va_W) (g : Nat → Int32) (F : Nat → Nat → Int32) (n σ : Int) (H : Heap) (locs : List Loc) (cells slots : Nat), CS kk ws xa n σ g F → MS g F n → (cells : Int) + 10 * n ≤ B1 + 228 + 3 * σ → (slots : Int) + 118 * n ≤ B2 + 6860 + 2504 * σ → va_P (dC, dI) vwCl ((mW h0 (kk 0) (kk 1) (kk 2) q g F) ++ ws) H → va_D A ((mW h0 (kk 0) (kk 1) (kk 2) q g F) ++ ws) → va_S A s.heap H locs → W p l e room_1 s m #[Value.ref b] below meth c H locs cells slots (lw_Z below #[Value.ref b] s) (F0 m 833 ls [])) : W p l e room_1 s m #[Value.ref b] below meth c H locs cells slots (lw_Z below #[Value.ref b] s) (F0 m 458 ls []) := by
  obtain ⟨hx, hb, hr9, hml, hown, hts0, hX, hbl, hlocks, hgv⟩ := C0
  have hts := fun w h => hts0 w (wL_tb w h)
  obtain ⟨ad, κ, wd, G, P, U, V, X, O, kd, ln, cnt, x, tp, bk, fl, rfl, hW, hT, hI, hkx, hκ, h220, h229, h3, hn, hσ, hR⟩ := hC
  have hk220 := (((CInv_P220 hI :) x).2 tp h220).1
  have hk229 := (((CInv_P229 hI :) x).2 bk h229).1
  have hs0 := s7_b (CInv_V3 hI :) fl
  have hn0 := (CInv_G141 hI :) tp
  refine lv_aload_n hx hb dL_law_458 rfl (lv_at hl 2 rfl) ?_
  obtain ⟨⟨r1, c_G141, c_G203, c_V0, c_V1⟩, hr1, hnG141, hnG203, hnV1, hnRB, hnFL, po0⟩ := ok_X11_learn κ wd G P U V X O kd ln cnt x (CInv_G141 hI :) (CInv_G200 hI :) (CInv_G203 hI :) (CInv_P0 hI :) (CInv_P140 hI :) (CInv_P201 hI :) (CInv_P202 hI :) (CInv_P220 hI :) (CInv_P229 hI :) (CInv_V1 hI :) (CInv_V3 hI :) (CInv_RA hI :) (CInv_RB hI :) (CInv_RI hI :) (CInv_LN hI :) (CInv_FL hI :) (CInv_W0 hI :) hκ
  have hI1 : CInv κ wd (va_up (va_up G 141 c_G141) 203 c_G203) P (va_up (va_up V 0 c_V0) 1 c_V1) O ln cnt := (CInv_i (CInv_G43 hI :) (CInv_G44 hI :) (CInv_G45 hI :) (CInv_G60 hI :) (CInv_G83 hI :) (CInv_G84 hI :) (CInv_G85 hI :) (CInv_G87 hI :) (CInv_G88 hI :) (CInv_G102 hI :) (CInv_G125 hI :) (CInv_G126 hI :) (CInv_G127 hI :) hnG141 (CInv_G160 hI :) (CInv_G161 hI :) (CInv_G162 hI :) (CInv_G165 hI :) (CInv_G166 hI :) (CInv_G183 hI :) (CInv_G200 hI :) hnG203 (CInv_G222 hI :) (CInv_G231 hI :) (CInv_G233 hI :) (CInv_P0 hI :) (CInv_P1 hI :) (CInv_P2 hI :) (CInv_P3 hI :) (CInv_P4 hI :) (CInv_P5 hI :) (CInv_P20 hI :) (CInv_P21 hI :) (CInv_P22 hI :) (CInv_P23 hI :) (CInv_P40 hI :) (CInv_P41 hI :) (CInv_P42 hI :) (CInv_P61 hI :) (CInv_P62 hI :) (CInv_P63 hI :) (CInv_P64 hI :) (CInv_P65 hI :) (CInv_P66 hI :) (CInv_P82 hI :) (CInv_P101 hI :) (CInv_P103 hI :) (CInv_P104 hI :) (CInv_P105 hI :) (CInv_P106 hI :) (CInv_P108 hI :) (CInv_P109 hI :) (CInv_P110 hI :) (CInv_P120 hI :) (CInv_P121 hI :) (CInv_P122 hI :) (CInv_P123 hI :) (CInv_P140 hI :) (CInv_P164 hI :) (CInv_P180 hI :) (CInv_P181 hI :) (CInv_P182 hI :) (CInv_P185 hI :) (CInv_P186 hI :) (CInv_P187 hI :) (CInv_P201 hI :) (CInv_P202 hI :) (CInv_P220 hI :) (CInv_P221 hI :) (CInv_P224 hI :) (CInv_P225 hI :) (CInv_P226 hI :) (CInv_P227 hI :) (CInv_P228 hI :) (CInv_P229 hI :) (CInv_P230 hI :) (CInv_P232 hI :) (CInv_P234 hI :) (CInv_P235 hI :) (CInv_P236 hI :) hnV1 (CInv_V2 hI :) (CInv_V3 hI :) (CInv_V9 hI :) (CInv_O0 hI :) (CInv_O1 hI :) (CInv_O2 hI :) (CInv_RA hI :) hnRB (CInv_RI hI :) (CInv_RM103 hI :) (CInv_RM104 hI :) (CInv_RM108 hI :) (CInv_LN hI :) hnFL (CInv_W0 hI :) (CInv_KC hI :) (CInv_WK hI :))
  dsimp only at po0
  try dsimp only at hnG141
  have ht := po0 tp h220
  have hn1 := hnG141 tp
  obtain ⟨la, D, tb, wl, wz, hLB, hxc, hlx, hdr, hD0, h140, h0w, h201, h202, hlz, h24, hr203, hr0, hr49, hr50, hRR, hRW, hTA, hTB, hTC, hTD, hBW, hBM, hBO, hBK, hMX⟩ := hR
  have ltp := (hLB.1 220 fl_220 x tp h220).2.1
  have lbp : la tp = 10 := lk_220.mp (hLB.1 220 fl_220 x tp h220).2.2
  have ltb := (hLB.1 140 fl_140 tp tb h140).2.1
  have lbb : la tb = la tp + 1 := lk_140.mp (hLB.1 140 fl_140 tp tb h140).2.2
  obtain ⟨_, lbk, _⟩ := hLB.1 229 fl_229 x bk h229
  have lwd := (hLB.1 0 fl_0 bk wd h0w).2.1
  have lbw : la wd = 20 := lk_0.mp (hLB.1 0 fl_0 bk wd h0w).2.2
  have lwl := (hLB.1 201 fl_201 wd wl h201).2.1
  have lbl : la wl = la wd + 0 := lk_201.mp (hLB.1 201 fl_201 wd wl h201).2.2
  have lwz := (hLB.1 202 fl_202 wd wz h202).2.1
  have lbz : la wz = la wd + 0 := lk_202.mp (hLB.1 202 fl_202 wd wz h202).2.2
  obtain ⟨qf_G141, qf_G203, qf_V0, qf_V1⟩ : (∀ z, ((la z < 10 ∨ 10 < la z) ∧ (la z < 20 ∨ 20 < la z)) → c_G141 z = (G 141) z) ∧ (∀ z, ((la z < 10 ∨ 10 < la z) ∧ (la z < 20 ∨ 20 < la z)) → c_G203 z = (G 203) z) ∧ (∀ z, ((la z < 10 ∨ 10 < la z) ∧ (la z < 20 ∨ 20 < la z)) → c_V0 z = (V 0) z) ∧ (∀ z, ((la z < 10 ∨ 10 < la z) ∧ (la z < 20 ∨ 20 < la z)) → c_V1 z = (V 1) z) := fr_X11_learn la G P U V X O kd ln cnt x hLB hlx _ hr1
  have hpx := wp_at (fx_X11_learn κ wd G P U V X O kd ln cnt x (CInv_G141 hI :) (CInv_G200 hI :) (CInv_G203 hI :) (CInv_P0 hI :) (CInv_P140 hI :) (CInv_P201 hI :) (CInv_P202 hI :) (CInv_P220 hI :) (CInv_P229 hI :) (CInv_V1 hI :) (CInv_V3 hI :) (CInv_RA hI :) (CInv_RB hI :) (CInv_RI hI :) (CInv_LN hI :) (CInv_FL hI :) (CInv_W0 hI :) hκ) hr1
  obtain ⟨_, _, _, _, _, _, px⟩ := hpx
  try dsimp only at px
  have px := px tp tb wl wz h220 h140 h201 h202 h24 hlz
  rw [hr0, hr49, hr50, hr203] at px
  have hFc := va_fr2 hD hS hA
  have hPc := va_Pr hP
  have hDc := va_Drr hD
  obtain ⟨i0, hi0⟩ := hW.o11 hkx
  refine va_calli (va_runV (As := []) (rest := []) ⟨hx, hb, hml, hown, hts⟩ (m_X11_learn l dC dI kk ad H.size ws G P U V X O kd ln cnt x hkx hW hT r1 c_G141 c_G203 c_V0 c_V1 hr1) (cwV 0 hts gl_X11_learn rfl rfl rfl (by decide +kernel) ⟨Nat.le_of_ble_eq_true rfl, Nat.le_of_ble_eq_true rfl⟩) ⟨fun a U g mk q => by obtain ⟨q0, q1, qP, qK, qD⟩ := q; exact ⟨q0, q1, qP, va_K.moved (u := U) (U := U.calling g mk a) (Vm.Alike.refl U.vm) qK, qD⟩, va_recv hK hPc (ci := 11) (q0 := i0) rfl hi0, fun U hU hW => ⟨rfl, by rw [hU], by rw [hU]; exact hPc, va_K.moved hW.alike hK, hDc.weaken (fun _ _ _ _ => trivial)⟩⟩ rfl rfl hl.1 rfl (lv_room (Nat.le_of_ble_eq_true rfl)) dL_law_459 ⟨by show _ ≤ (600000 : Nat); omega, by show _ ≤ (7302250 : Nat); omega⟩) hS (fun q _ h => hFc q h) hFc (fun rr w t H1 locs ht1 hvm hw hB hz1 hk1 hS => ?_)
  obtain ⟨hw0, hW1, hT1⟩ := hw
  subst hw0
  obtain ⟨hP1, hK1, hD1⟩ := hB
  rw [ht1] at hP1
  obtain ⟨hP, hD⟩ := va_join2 hP hD hk1 hFc hP1 hD1
  clear hFc hPc hDc hk1 hz1 hvm ht1 hP1 hD1 hK1
  generalize H1 = H at hP hS ⊢
  refine lv_pop hx hb dL_law_462 rfl ?_
  refine lv_aload_n hx hb dL_law_463 rfl (lv_at hl 1 rfl) ?_
  obtain ⟨hMI, hgn⟩ := hM
  refine MInv_e hMI (fun hmg1 hmg2 hmg3 hmg4 hmg5 hmg6 hmg7 hmg8 hmg9 hmg23 hmg27 hmg30 hmg34 hmg36 hmg39 hmg44 hmg47 hmg48 hmg51 hmg56 hmg59 hmg62 hmg65 hmg66 hmg70 hmF11 hmF12 hmF13 hmF15 hmF19 hmF21 hmF24 hmF25 hmF26 hmF33 hmF38 hmF41 hmF43 hmF45 hmF46 hmF50 hmF53 hmF54 hmLQ => ?_)
  obtain ⟨⟨r2, d_g1, d_g23, d_g48, d_g51, d_F22, d_F49, d_F50⟩, hr2, hbg1, hbg23, hbg48, hbg51, hbF50, qo0⟩ := ok_learn g F hMI
  try dsimp only at qo0
  try dsimp only at hbg1
  try dsimp only at hbg23
  try dsimp only at hbg48
  try dsimp only at hbg51
  have hM1 : MS (upd (upd (upd (upd g 1 d_g1) 23 d_g23) 48 d_g48) 51 d_g51) (upF (upF (upF F 22 d_F22) 49 d_F49) 50 d_F50) ((c_G141 tp).toInt) := ⟨(MInv_i hbg1 hmg2 hmg3 hmg4 hmg5 hmg6 hmg7 hmg8 hmg9 hbg23 hmg27 hmg30 hmg34 hmg36 hmg39 hmg44 hmg47 hbg48 hbg51 hmg56 hmg59 hmg62 hmg65 hmg66 hmg70 hmF11 hmF12 hmF13 hmF15 hmF19 hmF21 hmF24 hmF25 hmF26 hmF33 hmF38 hmF41 hmF43 hmF45 hmF46 hbF50 hmF53 hmF54 hmLQ), by show d_g1.toInt = (c_G141 tp).toInt; omega⟩
  have hqx := wp_at (fx_learn g F hMI (fun i => by rw [← hr0]; exact fit_id (hT.2.2.1 tb i))) hr2
  obtain ⟨_, _, _, _, _, _, qx⟩ := hqx
  try dsimp only at qx
  have hnn : (G 141 tp).toInt = (g 1).toInt := by omega
  rw [hnn] at px
  have hdet := LRN_det px qx
  have hRR1 : RLR (upd (upd (upd (upd g 1 d_g1) 23 d_g23) 48 d_g48) 51 d_g51) (upF (upF (upF F 22 d_F22) 49 d_F49) 50 d_F50) la D x (va_up (va_up G 141 c_G141) 203 c_G203) P (va_up (va_up V 0 c_V0) 1 c_V1) O ln cnt := RLR_keep hRR hLB hxc rfl rfl rfl (fun j j1 j2 => (Eq.trans (upF_lo (k := 50) (by decide) j2) (Eq.trans (upF_lo (k := 49) (by decide) j2) (Eq.trans (upF_lo (k := 22) (by decide) j2) rfl)))) rfl rfl rfl rfl rfl (fun z hz hl3 => ⟨rfl, rfl⟩) (fun z hz => rfl) (fun z hz hl3 => by have h7 : (la z < 10 ∨ 10 < la z) ∧ (la z < 20 ∨ 20 < la z) := (by omega); exact ⟨rfl, rfl, rfl, rfl, (qf_G203 z (h7)), rfl, rfl, rfl, rfl, rfl, rfl, rfl, rfl, rfl, rfl, rfl, rfl, rfl, (qf_V0 z (h7)), (qf_V1 z (h7)), rfl, rfl, rfl⟩) (Nat.le_refl _) (fun _ _ => rfl)
  have hRW1 : RLW (upd (upd (upd (upd g 1 d_g1) 23 d_g23) 48 d_g48) 51 d_g51) (upF (upF (upF F 22 d_F22) 49 d_F49) 50 d_F50) := RLW_keep hRW rfl (fun j j1 j2 => (Eq.trans (upF_lo (k := 50) (by decide) j2) (Eq.trans (upF_lo (k := 49) (by decide) j2) (Eq.trans (upF_lo (k := 22) (by decide) j2) rfl))))
  have hTD1 : RTD (upd (upd (upd (upd g 1 d_g1) 23 d_g23) 48 d_g48) 51 d_g51) (upF (upF (upF F 22 d_F22) 49 d_F49) 50 d_F50) x (va_up (va_up G 141 c_G141) 203 c_G203) P (va_up (va_up V 0 c_V0) 1 c_V1) ln := RTD_keep hTD hLB rfl rfl rfl rfl (fun z hz => ⟨rfl, rfl, rfl, rfl⟩) (fun z hz hl3 => (by have h7 : (la z < 10 ∨ 10 < la z) ∧ (la z < 20 ∨ 20 < la z) := (by omega); exact ⟨(qf_G203 z (h7)), (qf_V0 z (h7)), (qf_V1 z (h7))⟩))
  have hTA1 : RTA x (va_up (va_up G 141 c_G141) 203 c_G203) P ln := RTA_keep hTA hLB rfl (fun z hz => ⟨rfl, rfl, rfl, rfl, rfl, rfl⟩)
  have hTB1 : RTB (upd (upd (upd (upd g 1 d_g1) 23 d_g23) 48 d_g48) 51 d_g51) (upF (upF (upF F 22 d_F22) 49 d_F49) 50 d_F50) x (va_up (va_up G 141 c_G141) 203 c_G203) P (va_up (va_up V 0 c_V0) 1 c_V1) O := fun q hq => RTB_one hTB hRR hLB hq (RVf_eq (fun j j1 j2 => (Eq.trans (upF_lo (k := 50) (by decide) j2) (Eq.trans (upF_lo (k := 49) (by decide) j2) (Eq.trans (upF_lo (k := 22) (by decide) j2) rfl))))) (fun z9 h1 => rfl) rfl (fun z hz => ⟨rfl, rfl, rfl, rfl, rfl⟩) (fun z hz h1 h2 => (by have h7 : (la z < 10 ∨ 10 < la z) ∧ (la z < 20 ∨ 20 < la z) := (by omega); exact ⟨(qf_G203 z (h7)), (qf_V0 z (h7)), (qf_V1 z (h7)), rfl⟩))
  have hTC1 : RTC la x (va_up (va_up G 141 c_G141) 203 c_G203) P ln := RTC_keep hTC hLB rfl (fun _ _ _ _ _ _ _ q3 => q3) (fun z hz => ⟨rfl, rfl, rfl, rfl, rfl, rfl, rfl, rfl, rfl, rfl, rfl⟩) (fun _ _ => rfl)
  have qx2 : QF_learn g F (wsR g F) (r2, d_g1, d_g23, d_g48, d_g51, d_F22, d_F49, d_F50) := pwq (fn_learn g F (wsR g F) hMI rfl hBW (fun i => by rw [← hr0]; exact hT.2.2.1 tb i)) hr2
  have qx3 := qx2
  obtain ⟨hBW1, hBM1, hWq⟩ := rb_learn (g1 := (upd (upd (upd (upd g 1 d_g1) 23 d_g23) 48 d_g48) 51 d_g51)) (F1 := (upF (upF (upF F 22 d_F22) 49 d_F49) 50 d_F50)) hBW hBM qx3 rfl (fun j j1 j2 => (Eq.trans (upF_lo (k := 50) (by decide) j2) (Eq.trans (upF_lo (k := 49) (by decide) j2) (Eq.trans (upF_lo (k := 22) (by decide) j2) rfl)))) rfl rfl rfl
  have hBK1 : RBK (upd (upd (upd (upd g 1 d_g1) 23 d_g23) 48 d_g48) 51 d_g51) (upF (upF (upF F 22 d_F22) 49 d_F49) 50 d_F50) la D x (va_up (va_up G 141 c_G141) 203 c_G203) P (va_up (va_up V 0 c_V0) 1 c_V1) O ln cnt := RBK_keep hBK hLB (fun q hq => RVf_eq (fun j j1 j2 => (Eq.trans (upF_lo (k := 50) (by decide) j2) (Eq.trans (upF_lo (k := 49) (by decide) j2) (Eq.trans (upF_lo (k := 22) (by decide) j2) rfl))))) (Nat.le_refl _) hWq (fun fl9 s9 => by have z1 := (CInv_FL hI :) fl9 s9; have z2 := (CInv_V3 hI :) fl9 s9; have z3 := clampI (x := V 3 fl9 s9) z2.1; have z4 := congrArg Int32.toInt hr203; have z5 := clampI (x := g 48) (by omega); omega) rfl (fun z hz => ⟨rfl, rfl, rfl, rfl, rfl, rfl, rfl⟩) (fun z hz hl3 => ⟨rfl, rfl⟩) (fun z hz h1 h2 => by obtain ⟨k9, hk9⟩ := h1; exact (by have h7 : (la z < 10 ∨ 10 < la z) ∧ (la z < 20 ∨ 20 < la z) := (by omega); exact ⟨(qf_G203 z (h7)), (qf_V0 z (h7)), (qf_V1 z (h7))⟩)) (Nat.le_refl _) (fun _ _ => rfl) (fun z hz h => h)
  have hBO1 : RBO (upd (upd (upd (upd g 1 d_g1) 23 d_g23) 48 d_g48) 51 d_g51) (upF (upF (upF F 22 d_F22) 49 d_F49) 50 d_F50) x (va_up (va_up G 141 c_G141) 203 c_G203) P (va_up (va_up V 0 c_V0) 1 c_V1) := RBO_keep hBO hLB rfl rfl (fun z hz h1 => by have hl9 : la z = 201 := (by have z9 := lk_230.mp (hLB.1 230 fl_230 x z h1).2.2; omega); exact rfl) rfl rfl
  have hMX1 : RMX (upd (upd (upd (upd g 1 d_g1) 23 d_g23) 48 d_g48) 51 d_g51) (upF (upF (upF F 22 d_F22) 49 d_F49) 50 d_F50) x (va_up (va_up G 141 c_G141) 203 c_G203) P (va_up (va_up V 0 c_V0) 1 c_V1) := RMX_keep hMX hLB rfl (fun z hz hl3 => ⟨rfl, rfl, rfl⟩) rfl rfl
  have hRL : RLB (upd (upd (upd (upd g 1 d_g1) 23 d_g23) 48 d_g48) 51 d_g51) (upF (upF (upF F 22 d_F22) 49 d_F49) 50 d_F50) x tp bk wd (va_up (va_up G 141 c_G141) 203 c_G203) P (va_up (va_up V 0 c_V0) 1 c_V1) O ln cnt := ⟨la, D, tb, wl, wz, hLB, hxc, hlx, hdr, hD0, h140, h0w, h201, h202, hlz, h24, hdet.2.2.2, ((qf_V0 tb (show (la tb < 10 ∨ 10 < la tb) ∧ (la tb < 20 ∨ 20 < la tb) from by omega)).trans hr0), hdet.2.1, hdet.2.2.1, hRR1, hRW1, hTA1, hTB1, hTC1, hTD1, hBW1, hBM1, hBO1, hBK1, hMX1⟩
  have hC1 : CS kk w (ad x) ((c_G141 tp).toInt) (s7 ((V 3) fl)) (upd (upd (upd (upd g 1 d_g1) 23 d_g23) 48 d_g48) 51 d_g51) (upF (upF (upF F 22 d_F22) 49 d_F49) 50 d_F50) := ⟨ad, κ, wd, (va_up (va_up G 141 c_G141) 203 c_G203), P, U, (va_up (va_up V 0 c_V0) 1 c_V1), X, O, kd, ln, cnt, x, tp, bk, fl, rfl, hW1, hT1, hI1, hkx, hκ, h220, h229, h3, rfl, rfl, hRL⟩
  replace hP := va_Psw hP
  replace hD := va_Dsw hD
  have hFc := va_fr2 hD hS hA
  have hPc := va_Pr hP
  have hDc := va_Drr hD
  have hKm : va_K (dC, dI) vwCl (mT (kk 0) (kk 1) (kk 2)) s := hK.sub [0, 1, 2] rfl
  refine va_calli (va_runV (As := []) (rest := []) ⟨hx, hb, hml, hown, hts⟩ (m_learn l dC dI H.size h0 (kk 0) (kk 1) (kk 2) q g F r2 d_g1 d_g23 d_g48 d_g51 d_F22 d_F49 d_F50 hr2) (cwV 0 hts gl_X12_learn rfl rfl rfl (by decide +kernel) ⟨Nat.le_of_ble_eq_true rfl, Nat.le_of_ble_eq_true rfl⟩) ⟨fun a U g mk q => by obtain ⟨q0, q1, qP, qK, qD⟩ := q; exact ⟨q0, q1, qP, va_K.moved (u := U) (U := U.calling g mk a) (Vm.Alike.refl U.vm) qK, qD⟩, va_recv hKm hPc (ci := 12) (q0 := 0) rfl rfl, fun U hU hW => ⟨rfl, by rw [hU], by rw [hU]; exact hPc, va_K.moved hW.alike hKm, hDc.weaken (fun _ _ _ _ => trivial)⟩⟩ rfl rfl hl.1 rfl (lv_room (Nat.le_of_ble_eq_true rfl)) dL_law_464 ⟨by show _ ≤ (600000 : Nat); omega, by show _ ≤ (7302250 : Nat); omega⟩) hS (fun q _ h => hFc q h) hFc (fun rr2 u t H1 locs ht1 hvm hw hB hz1 hk1 hS => ?_)
  subst hw
  obtain ⟨hP1, hK1, hD1⟩ := hB
  rw [ht1] at hP1
  obtain ⟨hP, hD⟩ := va_join2 hP hD hk1 hFc hP1 hD1
  replace hP := va_Psw hP
  replace hD := va_Dsw hD
  refine lv_pop hx hb dL_law_467 rfl ?_
  refine lv_goto (tgt := 833) hx hb dL_law_468 (by decide) ?_
  exact kont w (upd (upd (upd (upd g 1 d_g1) 23 d_g23) 48 d_g48) 51 d_g51) (upF (upF (upF F 22 d_F22) 49 d_F49) 50 d_F50) ((c_G141 tp).toInt) (s7 ((V 3) fl)) _ _ _ _ hC1 hM1 (by omega) (by omega) hP hD hS
set_option maxHeartbeats 8000000 in
set_option maxRecDepth 100000 in
theorem law_11 {p : Program} {e : Env} {s : State} {m : MethodId} {below : List Frame} {meth : Method} {c : Code} (l : Launch) {b L : Nat} {xs : Nat → Int32} {A : Nat → Prop} {dC : Nat → ClassId} {dI : Nat → Nat → Nat} {kk : Nat → ClassId} {adK adV : Nat → Nat} (C0 : lw_At p s m meth c b L xs) (hL : L ≤ 3072) (hA : ∀ q : Nat, s.heap.size ≤ q → A q) (hbA : ¬ A b) (hE : EnvOK s) (hSE : SE adK adV A s) (hK : va_K (dC, dI) vwCl (cT kk) s) {i : Int32} (hi : 0 ≤ i.toInt ∧ i.toInt + 6 ≤ (L : Int)) {ws : va_W} {xa h0 : Nat} {q : Nat → Nat} {g : Nat → Int32} {F : Nat → Nat → Int32} {n σ B1 B2 : Int} {H : Heap} {locs : List Loc} {ls : Array Slot} {cells slots : Nat} (hC : CS kk ws xa n σ g F) (hM : MS g F n) (hB1 : (cells : Int) + 10 * n ≤ B1 + 3 * σ) (hB2 : (slots : Int) + 118 * n ≤ B2 + 2504 * σ) (hc1 : B1 ≤ 590000) (hc2 : B2 ≤ 5500000) (hP : va_P (dC, dI) vwCl ((mW h0 (kk 0) (kk 1) (kk 2) q g F) ++ ws) H) (hD : va_D A ((mW h0 (kk 0) (kk 1) (kk 2) q g F) ++ ws)) (hS : va_S A s.heap H locs) (hl : lv_has ls 4 [(3, .int i), (2, .ref h0), (1, .ref xa), (0, .ref b)]) (kont : ∀ (ws : va_W) (g : Nat → Int32) (F : Nat → Nat → Int32) (n σ : Int) (H : Heap) (locs : List Loc) (cells slots : Nat), CS kk ws xa n σ g F → MS g F n → (cells : Int) + 10 * n ≤ B1 + 228 + 3 * σ → (slots : Int) + 118 * n ≤ B2 + 6860 + 2504 * σ → va_P (dC, dI) vwCl ((mW h0 (kk 0) (kk 1) (kk 2) q g F) ++ ws) H → va_D A ((mW h0 (kk 0) (kk 1) (kk 2) q g F) ++ ws) → va_S A s.heap H locs → W p l e room_1 s m #[Value.ref b] below meth c H locs cells slots (lw_Z below #[Value.ref b] s) (F0 m 833 ls [])) : W p l e room_1 s m #[Value.ref b] below meth c H locs cells slots (lw_Z below #[Value.ref b] s) (F0 m 471 ls []) := by
  obtain ⟨hx, hb, hr9, hml, hown, hts0, hX, hbl, hlocks, hgv⟩ := C0
  have hts := fun w h => hts0 w (wL_tb w h)
  obtain ⟨ad, κ, wd, G, P, U, V, X, O, kd, ln, cnt, x, tp, bk, fl, rfl, hW, hT, hI, hkx, hκ, h220, h229, h3, hn, hσ, hR⟩ := hC
  have hk220 := (((CInv_P220 hI :) x).2 tp h220).1
  have hk229 := (((CInv_P229 hI :) x).2 bk h229).1
  have hs0 := s7_b (CInv_V3 hI :) fl
  have hn0 := (CInv_G141 hI :) tp
  have hj1 : (i + 1).toInt = i.toInt + 1 := z_addc (by decide +kernel) (by omega) (by omega)
  have hj2 : (i + 2).toInt = i.toInt + 2 := z_addc (by decide +kernel) (by omega) (by omega)
  refine lv_aload_n hx hb dL_law_471 rfl (lv_at hl 2 rfl) ?_
  refine lv_aload_n hx hb dL_law_472 rfl (lv_at hl 3 rfl) ?_
  refine lv_iload_n hx hb dL_law_473 rfl (lv_at hl 0 rfl) ?_
  refine lv_iconst (v := 1) hx hb dL_law_474 (by decide +kernel) ?_
  refine lv_iadd hx hb dL_law_475 ?_
  refine va_sld hx hb hX hbl hbA hS (z_in (by omega) (by omega)) dL_law_476 ?_
  refine lv_topi (fun y1 ey1 => ?_)
  refine lv_aload_n hx hb dL_law_477 rfl (lv_at hl 3 rfl) ?_
  refine lv_iload_n hx hb dL_law_478 rfl (lv_at hl 0 rfl) ?_
  refine lv_iconst (v := 2) hx hb dL_law_479 (by decide +kernel) ?_
  refine lv_iadd hx hb dL_law_480 ?_
  refine va_sld hx hb hX hbl hbA hS (z_in (by omega) (by omega)) dL_law_481 ?_
  refine lv_topi (fun y2 ey2 => ?_)
  obtain ⟨r1, hr1, hq1⟩ := ok_X11_word κ wd G P U V X O kd ln cnt x y1 y2 (CInv_G200 hI :) (CInv_G203 hI :) (CInv_P0 hI :) (CInv_P201 hI :) (CInv_P202 hI :) (CInv_P229 hI :) (CInv_V1 hI :) (CInv_RA hI :) (CInv_RB hI :) (CInv_RI hI :) (CInv_LN hI :) (CInv_W0 hI :) hκ
  have hI1 : CInv κ wd G P V O ln cnt := (CInv_i (CInv_G43 hI :) (CInv_G44 hI :) (CInv_G45 hI :) (CInv_G60 hI :) (CInv_G83 hI :) (CInv_G84 hI :) (CInv_G85 hI :) (CInv_G87 hI :) (CInv_G88 hI :) (CInv_G102 hI :) (CInv_G125 hI :) (CInv_G126 hI :) (CInv_G127 hI :) (CInv_G141 hI :) (CInv_G160 hI :) (CInv_G161 hI :) (CInv_G162 hI :) (CInv_G165 hI :) (CInv_G166 hI :) (CInv_G183 hI :) (CInv_G200 hI :) (CInv_G203 hI :) (CInv_G222 hI :) (CInv_G231 hI :) (CInv_G233 hI :) (CInv_P0 hI :) (CInv_P1 hI :) (CInv_P2 hI :) (CInv_P3 hI :) (CInv_P4 hI :) (CInv_P5 hI :) (CInv_P20 hI :) (CInv_P21 hI :) (CInv_P22 hI :) (CInv_P23 hI :) (CInv_P40 hI :) (CInv_P41 hI :) (CInv_P42 hI :) (CInv_P61 hI :) (CInv_P62 hI :) (CInv_P63 hI :) (CInv_P64 hI :) (CInv_P65 hI :) (CInv_P66 hI :) (CInv_P82 hI :) (CInv_P101 hI :) (CInv_P103 hI :) (CInv_P104 hI :) (CInv_P105 hI :) (CInv_P106 hI :) (CInv_P108 hI :) (CInv_P109 hI :) (CInv_P110 hI :) (CInv_P120 hI :) (CInv_P121 hI :) (CInv_P122 hI :) (CInv_P123 hI :) (CInv_P140 hI :) (CInv_P164 hI :) (CInv_P180 hI :) (CInv_P181 hI :) (CInv_P182 hI :) (CInv_P185 hI :) (CInv_P186 hI :) (CInv_P187 hI :) (CInv_P201 hI :) (CInv_P202 hI :) (CInv_P220 hI :) (CInv_P221 hI :) (CInv_P224 hI :) (CInv_P225 hI :) (CInv_P226 hI :) (CInv_P227 hI :) (CInv_P228 hI :) (CInv_P229 hI :) (CInv_P230 hI :) (CInv_P232 hI :) (CInv_P234 hI :) (CInv_P235 hI :) (CInv_P236 hI :) (CInv_V1 hI :) (CInv_V2 hI :) (CInv_V3 hI :) (CInv_V9 hI :) (CInv_O0 hI :) (CInv_O1 hI :) (CInv_O2 hI :) (CInv_RA hI :) (CInv_RB hI :) (CInv_RI hI :) (CInv_RM103 hI :) (CInv_RM104 hI :) (CInv_RM108 hI :) (CInv_LN hI :) (CInv_FL hI :) (CInv_W0 hI :) (CInv_KC hI :) (CInv_WK hI :))
  obtain ⟨la, D, tb, wl, wz, hLB, hxc, hlx, hdr, hD0, h140, h0w, h201, h202, hlz, h24, hr203, hr0, hr49, hr50, hRR, hRW, hTA, hTB, hTC, hTD, hBW, hBM, hBO, hBK, hMX⟩ := hR
  have ltp := (hLB.1 220 fl_220 x tp h220).2.1
  have lbp : la tp = 10 := lk_220.mp (hLB.1 220 fl_220 x tp h220).2.2
  have ltb := (hLB.1 140 fl_140 tp tb h140).2.1
  have lbb : la tb = la tp + 1 := lk_140.mp (hLB.1 140 fl_140 tp tb h140).2.2
  obtain ⟨_, lbk, _⟩ := hLB.1 229 fl_229 x bk h229
  have lwd := (hLB.1 0 fl_0 bk wd h0w).2.1
  have lbw : la wd = 20 := lk_0.mp (hLB.1 0 fl_0 bk wd h0w).2.2
  have lwl := (hLB.1 201 fl_201 wd wl h201).2.1
  have lbl : la wl = la wd + 0 := lk_201.mp (hLB.1 201 fl_201 wd wl h201).2.2
  have lwz := (hLB.1 202 fl_202 wd wz h202).2.1
  have lbz : la wz = la wd + 0 := lk_202.mp (hLB.1 202 fl_202 wd wz h202).2.2
  have hpx := wp_at (fx_X11_word κ wd G P U V X O kd ln cnt x y1 y2 (CInv_G200 hI :) (CInv_G203 hI :) (CInv_P0 hI :) (CInv_P201 hI :) (CInv_P202 hI :) (CInv_P229 hI :) (CInv_V1 hI :) (CInv_RA hI :) (CInv_RB hI :) (CInv_RI hI :) (CInv_LN hI :) (CInv_W0 hI :) hκ) hr1
  have px := hpx
  try dsimp only at px
  have px := px wl wz h201 h202 h24
  rw [hr49, hr50, hr203] at px
  have hFc := va_fr2 hD hS hA
  have hPc := va_Pr hP
  have hDc := va_Drr hD
  obtain ⟨i0, hi0⟩ := hW.o11 hkx
  refine va_calli (va_runV (As := [.int y1, .int y2]) (rest := []) ⟨hx, hb, hml, hown, hts⟩ (m_X11_word l dC dI kk ad H.size ws G P U V X O kd ln cnt x y1 y2 hkx hW hT r1 hr1) (cwV 2 hts gl_X11_word rfl rfl rfl (by decide +kernel) ⟨Nat.le_of_ble_eq_true rfl, Nat.le_of_ble_eq_true rfl⟩) ⟨fun a U g mk q => by obtain ⟨q0, q1, qP, qK, qD⟩ := q; exact ⟨q0, q1, qP, va_K.moved (u := U) (U := U.calling g mk a) (Vm.Alike.refl U.vm) qK, qD⟩, va_recv hK hPc (ci := 11) (q0 := i0) rfl hi0, fun U hU hW => ⟨rfl, by rw [hU], by rw [hU]; exact hPc, va_K.moved hW.alike hK, hDc.weaken (fun _ _ _ _ => trivial)⟩⟩ rfl rfl hl.1 rfl (lv_room (Nat.le_of_ble_eq_true rfl)) dL_law_482 ⟨by show _ ≤ (600000 : Nat); omega, by show _ ≤ (7302250 : Nat); omega⟩) hS (fun q _ h => hFc q h) hFc (fun rr w t H1 locs ht1 hvm hw hB hz1 hk1 hS => ?_)
  obtain ⟨hw0, hW1, hT1⟩ := hw
  subst hw0
  obtain ⟨hP1, hK1, hD1⟩ := hB
  rw [ht1] at hP1
  obtain ⟨hP, hD⟩ := va_join2 hP hD hk1 hFc hP1 hD1
  clear hFc hPc hDc hk1 hz1 hvm ht1 hP1 hD1 hK1
  generalize H1 = H at hP hS ⊢
  refine lv_pop hx hb dL_law_485 rfl ?_
  refine lv_aload_n hx hb dL_law_486 rfl (lv_at hl 1 rfl) ?_
  refine lv_aload_n hx hb dL_law_487 rfl (lv_at hl 3 rfl) ?_
  refine lv_iload_n hx hb dL_law_488 rfl (lv_at hl 0 rfl) ?_
  refine lv_iconst (v := 1) hx hb dL_law_489 (by decide +kernel) ?_
  refine lv_iadd hx hb dL_law_490 ?_
  refine va_sld hx hb hX hbl hbA hS (z_in (by omega) (by omega)) dL_law_491 ?_
  refine lv_topi (fun z1 ez1 => ?_)
  obtain rfl : y1 = z1 := ey1.trans ez1.symm
  refine lv_aload_n hx hb dL_law_492 rfl (lv_at hl 3 rfl) ?_
  refine lv_iload_n hx hb dL_law_493 rfl (lv_at hl 0 rfl) ?_
  refine lv_iconst (v := 2) hx hb dL_law_494 (by decide +kernel) ?_
  refine lv_iadd hx hb dL_law_495 ?_
  refine va_sld hx hb hX hbl hbA hS (z_in (by omega) (by omega)) dL_law_496 ?_
  refine lv_topi (fun z2 ez2 => ?_)
  obtain rfl : y2 = z2 := ey2.trans ez2.symm
  obtain ⟨hMI, hgn⟩ := hM
  refine MInv_e hMI (fun hmg1 hmg2 hmg3 hmg4 hmg5 hmg6 hmg7 hmg8 hmg9 hmg23 hmg27 hmg30 hmg34 hmg36 hmg39 hmg44 hmg47 hmg48 hmg51 hmg56 hmg59 hmg62 hmg65 hmg66 hmg70 hmF11 hmF12 hmF13 hmF15 hmF19 hmF21 hmF24 hmF25 hmF26 hmF33 hmF38 hmF41 hmF43 hmF45 hmF46 hmF50 hmF53 hmF54 hmLQ => ?_)
  obtain ⟨r2, hr2, hq2⟩ := ok_word g F y1 y2 hMI
  have hM1 : MS g F (((G 141) tp).toInt) := ⟨(MInv_i hmg1 hmg2 hmg3 hmg4 hmg5 hmg6 hmg7 hmg8 hmg9 hmg23 hmg27 hmg30 hmg34 hmg36 hmg39 hmg44 hmg47 hmg48 hmg51 hmg56 hmg59 hmg62 hmg65 hmg66 hmg70 hmF11 hmF12 hmF13 hmF15 hmF19 hmF21 hmF24 hmF25 hmF26 hmF33 hmF38 hmF41 hmF43 hmF45 hmF46 hmF50 hmF53 hmF54 hmLQ), by show (g 1).toInt = ((G 141) tp).toInt; omega⟩
  have hqx := wp_at (fx_word g F y1 y2 hMI) hr2
  have qx := hqx
  try dsimp only at qx
  have hRR1 : RLR g F la D x G P V O ln cnt := RLR_keep hRR hLB hxc rfl rfl rfl (fun j j1 j2 => rfl) rfl rfl rfl rfl rfl (fun z hz hl3 => ⟨rfl, rfl⟩) (fun z hz => rfl) (fun z hz hl3 => ⟨rfl, rfl, rfl, rfl, rfl, rfl, rfl, rfl, rfl, rfl, rfl, rfl, rfl, rfl, rfl, rfl, rfl, rfl, rfl, rfl, rfl, rfl, rfl⟩) (Nat.le_refl _) (fun _ _ => rfl)
  have hRW1 : RLW g F := RLW_keep hRW rfl (fun j j1 j2 => rfl)
  have hTD1 : RTD g F x G P V ln := RTD_keep hTD hLB rfl rfl rfl rfl (fun z hz => ⟨rfl, rfl, rfl, rfl⟩) (fun z hz hl3 => ⟨rfl, rfl, rfl⟩)
  have hTA1 : RTA x G P ln := RTA_keep hTA hLB rfl (fun z hz => ⟨rfl, rfl, rfl, rfl, rfl, rfl⟩)
  have hTB1 : RTB g F x G P V O := fun q hq => RTB_one hTB hRR hLB hq (RVf_eq (fun j j1 j2 => rfl)) (fun z9 h1 => rfl) rfl (fun z hz => ⟨rfl, rfl, rfl, rfl, rfl⟩) (fun z hz h1 h2 => ⟨rfl, rfl, rfl, rfl⟩)
  have hTC1 : RTC la x G P ln := RTC_keep hTC hLB rfl (fun _ _ _ _ _ _ _ q3 => q3) (fun z hz => ⟨rfl, rfl, rfl, rfl, rfl, rfl, rfl, rfl, rfl, rfl, rfl⟩) (fun _ _ => rfl)
  have hBW1 : RBW g F := RBW_keep hBW rfl rfl rfl
  have hBM1 : RBM g F := RBM_keep hBM rfl rfl rfl (fun j j1 j2 => rfl) rfl rfl rfl rfl rfl
  have hBK1 : RBK g F la D x G P V O ln cnt := RBK_keep hBK hLB (fun q hq => RVf_eq (fun j j1 j2 => rfl)) (Nat.le_refl _) (fun _ _ => rfl) (fun fl9 s9 => by have z1 := (CInv_FL hI :) fl9 s9; have z2 := (CInv_V3 hI :) fl9 s9; have z3 := clampI (x := V 3 fl9 s9) z2.1; have z4 := congrArg Int32.toInt hr203; have z5 := clampI (x := g 48) (by omega); omega) rfl (fun z hz => ⟨rfl, rfl, rfl, rfl, rfl, rfl, rfl⟩) (fun z hz hl3 => ⟨rfl, rfl⟩) (fun z hz h1 h2 => by obtain ⟨k9, hk9⟩ := h1; exact ⟨rfl, rfl, rfl⟩) (Nat.le_refl _) (fun _ _ => rfl) (fun z hz h => h)
  have hBO1 : RBO g F x G P V := RBO_keep hBO hLB rfl rfl (fun z hz h1 => by have hl9 : la z = 201 := (by have z9 := lk_230.mp (hLB.1 230 fl_230 x z h1).2.2; omega); exact rfl) rfl rfl
  have hMX1 : RMX g F x G P V := RMX_keep hMX hLB rfl (fun z hz hl3 => ⟨rfl, rfl, rfl⟩) rfl rfl
  have hRL : RLB g F x tp bk wd G P V O ln cnt := ⟨la, D, tb, wl, wz, hLB, hxc, hlx, hdr, hD0, h140, h0w, h201, h202, hlz, h24, hr203, hr0, hr49, hr50, hRR1, hRW1, hTA1, hTB1, hTC1, hTD1, hBW1, hBM1, hBO1, hBK1, hMX1⟩
  have hC1 : CS kk w (ad x) (((G 141) tp).toInt) (s7 ((V 3) fl)) g F := ⟨ad, κ, wd, G, P, U, V, X, O, kd, ln, cnt, x, tp, bk, fl, rfl, hW1, hT1, hI1, hkx, hκ, h220, h229, h3, rfl, rfl, hRL⟩
  replace hP := va_Psw hP
  replace hD := va_Dsw hD
  have hFc := va_fr2 hD hS hA
  have hPc := va_Pr hP
  have hDc := va_Drr hD
  have hKm : va_K (dC, dI) vwCl (mT (kk 0) (kk 1) (kk 2)) s := hK.sub [0, 1, 2] rfl
  refine va_calli (va_runV (As := [.int y1, .int y2]) (rest := []) ⟨hx, hb, hml, hown, hts⟩ (m_word l dC dI H.size h0 (kk 0) (kk 1) (kk 2) q g F y1 y2 r2 hr2) (cwV 2 hts gl_X12_word rfl rfl rfl (by decide +kernel) ⟨Nat.le_of_ble_eq_true rfl, Nat.le_of_ble_eq_true rfl⟩) ⟨fun a U g mk q => by obtain ⟨q0, q1, qP, qK, qD⟩ := q; exact ⟨q0, q1, qP, va_K.moved (u := U) (U := U.calling g mk a) (Vm.Alike.refl U.vm) qK, qD⟩, va_recv hKm hPc (ci := 12) (q0 := 0) rfl rfl, fun U hU hW => ⟨rfl, by rw [hU], by rw [hU]; exact hPc, va_K.moved hW.alike hKm, hDc.weaken (fun _ _ _ _ => trivial)⟩⟩ rfl rfl hl.1 rfl (lv_room (Nat.le_of_ble_eq_true rfl)) dL_law_497 ⟨by show _ ≤ (600000 : Nat); omega, by show _ ≤ (7302250 : Nat); omega⟩) hS (fun q _ h => hFc q h) hFc (fun rr2 u t H1 locs ht1 hvm hw hB hz1 hk1 hS => ?_)
  subst hw
  obtain ⟨hP1, hK1, hD1⟩ := hB
  rw [ht1] at hP1
  obtain ⟨hP, hD⟩ := va_join2 hP hD hk1 hFc hP1 hD1
  replace hP := va_Psw hP
  replace hD := va_Dsw hD
  refine lv_pop hx hb dL_law_500 rfl ?_
  refine lv_goto (tgt := 833) hx hb dL_law_501 (by decide) ?_
  exact kont w g F (((G 141) tp).toInt) (s7 ((V 3) fl)) _ _ _ _ hC1 hM1 (by omega) (by omega) hP hD hS
set_option maxHeartbeats 8000000 in
set_option maxRecDepth 100000 in
theorem law_12 {p : Program} {e : Env} {s : State} {m : MethodId} {below : List Frame} {meth : Method} {c : Code} (l : Launch) {b L : Nat} {xs : Nat → Int32} {A : Nat → Prop} {dC : Nat → ClassId} {dI : Nat → Nat → Nat} {kk : Nat → ClassId} {adK adV : Nat → Nat} (C0 : lw_At p s m meth c b L xs) (hL : L ≤ 3072) (hA : ∀ q : Nat, s.heap.size ≤ q → A q) (hbA : ¬ A b) (hE : EnvOK s) (hSE : SE adK adV A s) (hK : va_K (dC, dI) vwCl (cT kk) s) {i : Int32} (hi : 0 ≤ i.toInt ∧ i.toInt + 6 ≤ (L : Int)) {ws : va_W} {xa h0 : Nat} {q : Nat → Nat} {g : Nat → Int32} {F : Nat → Nat → Int32} {n σ B1 B2 : Int} {H : Heap} {locs : List Loc} {ls : Array Slot} {cells slots : Nat} (hC : CS kk ws xa n σ g F) (hM : MS g F n) (hB1 : (cells : Int) + 10 * n ≤ B1 + 3 * σ) (hB2 : (slots : Int) + 118 * n ≤ B2 + 2504 * σ) (hc1 : B1 ≤ 590000) (hc2 : B2 ≤ 5500000) (hP : va_P (dC, dI) vwCl ((mW h0 (kk 0) (kk 1) (kk 2) q g F) ++ ws) H) (hD : va_D A ((mW h0 (kk 0) (kk 1) (kk 2) q g F) ++ ws)) (hS : va_S A s.heap H locs) (hl : lv_has ls 4 [(3, .int i), (2, .ref h0), (1, .ref xa), (0, .ref b)]) (kont : ∀ (ws : va_W) (g : Nat → Int32) (F : Nat → Nat → Int32) (n σ : Int) (H : Heap) (locs : List Loc) (cells slots : Nat), CS kk ws xa n σ g F → MS g F n → (cells : Int) + 10 * n ≤ B1 + 228 + 3 * σ → (slots : Int) + 118 * n ≤ B2 + 6860 + 2504 * σ → va_P (dC, dI) vwCl ((mW h0 (kk 0) (kk 1) (kk 2) q g F) ++ ws) H → va_D A ((mW h0 (kk 0) (kk 1) (kk 2) q g F) ++ ws) → va_S A s.heap H locs → W p l e room_1 s m #[Value.ref b] below meth c H locs cells slots (lw_Z below #[Value.ref b] s) (F0 m 833 ls [])) : W p l e room_1 s m #[Value.ref b] below meth c H locs cells slots (lw_Z below #[Value.ref b] s) (F0 m 504 ls []) := by
  obtain ⟨hx, hb, hr9, hml, hown, hts0, hX, hbl, hlocks, hgv⟩ := C0
  have hts := fun w h => hts0 w (wL_tb w h)
  obtain ⟨ad, κ, wd, G, P, U, V, X, O, kd, ln, cnt, x, tp, bk, fl, rfl, hW, hT, hI, hkx, hκ, h220, h229, h3, hn, hσ, hR⟩ := hC
  have hk220 := (((CInv_P220 hI :) x).2 tp h220).1
  have hk229 := (((CInv_P229 hI :) x).2 bk h229).1
  have hs0 := s7_b (CInv_V3 hI :) fl
  have hn0 := (CInv_G141 hI :) tp
  have hj1 : (i + 1).toInt = i.toInt + 1 := z_addc (by decide +kernel) (by omega) (by omega)
  refine lv_aload_n hx hb dL_law_504 rfl (lv_at hl 2 rfl) ?_
  refine lv_aload_n hx hb dL_law_505 rfl (lv_at hl 3 rfl) ?_
  refine lv_iload_n hx hb dL_law_506 rfl (lv_at hl 0 rfl) ?_
  refine lv_iconst (v := 1) hx hb dL_law_507 (by decide +kernel) ?_
  refine lv_iadd hx hb dL_law_508 ?_
  refine va_sld hx hb hX hbl hbA hS (z_in (by omega) (by omega)) dL_law_509 ?_
  refine lv_topi (fun y1 ey1 => ?_)
  obtain ⟨⟨⟨r1, c_G, c_P, c_U, c_V, c_X, c_O, c_kd, c_ln, c_cnt⟩, uc, us⟩, hr1, κ1, hI1, hkx1, hcc, hf_P220, hf_P229, hf_P3, hf_G83, hf_P82, hf_P0, hf_G160, hf_ln, po0, po1⟩ := ok_X11_back κ wd G P U V X O kd ln cnt x y1 hI hκ
  dsimp only at po0
  dsimp only at po1
  have hf220 := (hf_P220 x (by rw [hκ]; decide)).trans h220
  have hf229 := (hf_P229 x (by rw [hκ]; decide)).trans h229
  have hf3 := (hf_P3 bk (by rw [hk229]; decide)).trans h3
  have hcost := po0 bk fl h229 h3
  have ht := po1 tp h220
  have hs1 := s7_b (show rng2 0 100 (c_V 3) from by obtain ⟨hwG43, hwG44, hwG45, hwG60, hwG83, hwG84, hwG85, hwG87, hwG88, hwG102, hwG125, hwG126, hwG127, hwG141, hwG160, hwG161, hwG162, hwG165, hwG166, hwG183, hwG200, hwG203, hwG222, hwG231, hwG233, hwP0, hwP1, hwP2, hwP3, hwP4, hwP5, hwP20, hwP21, hwP22, hwP23, hwP40, hwP41, hwP42, hwP61, hwP62, hwP63, hwP64, hwP65, hwP66, hwP82, hwP101, hwP103, hwP104, hwP105, hwP106, hwP108, hwP109, hwP110, hwP120, hwP121, hwP122, hwP123, hwP140, hwP164, hwP180, hwP181, hwP182, hwP185, hwP186, hwP187, hwP201, hwP202, hwP220, hwP221, hwP224, hwP225, hwP226, hwP227, hwP228, hwP229, hwP230, hwP232, hwP234, hwP235, hwP236, hwV1, hwV2, hwV3, hwV9, hwO0, hwO1, hwO2, hwRA, hwRB, hwRI, hwRM103, hwRM104, hwRM108, hwLN, hwFL, hwW0, hwKC, hwWK⟩ := hI1; exact hwV3) fl
  have hn1 := (show rng 0 2000 (c_G 141) from by obtain ⟨hwG43, hwG44, hwG45, hwG60, hwG83, hwG84, hwG85, hwG87, hwG88, hwG102, hwG125, hwG126, hwG127, hwG141, hwG160, hwG161, hwG162, hwG165, hwG166, hwG183, hwG200, hwG203, hwG222, hwG231, hwG233, hwP0, hwP1, hwP2, hwP3, hwP4, hwP5, hwP20, hwP21, hwP22, hwP23, hwP40, hwP41, hwP42, hwP61, hwP62, hwP63, hwP64, hwP65, hwP66, hwP82, hwP101, hwP103, hwP104, hwP105, hwP106, hwP108, hwP109, hwP110, hwP120, hwP121, hwP122, hwP123, hwP140, hwP164, hwP180, hwP181, hwP182, hwP185, hwP186, hwP187, hwP201, hwP202, hwP220, hwP221, hwP224, hwP225, hwP226, hwP227, hwP228, hwP229, hwP230, hwP232, hwP234, hwP235, hwP236, hwV1, hwV2, hwV3, hwV9, hwO0, hwO1, hwO2, hwRA, hwRB, hwRI, hwRM103, hwRM104, hwRM108, hwLN, hwFL, hwW0, hwKC, hwWK⟩ := hI1; exact hwG141) tp
  obtain ⟨la, D, tb, wl, wz, hLB, hxc, hlx, hdr, hD0, h140, h0w, h201, h202, hlz, h24, hr203, hr0, hr49, hr50, hRR, hRW, hTA, hTB, hTC, hTD, hBW, hBM, hBO, hBK, hMX⟩ := hR
  have ltp := (hLB.1 220 fl_220 x tp h220).2.1
  have lbp : la tp = 10 := lk_220.mp (hLB.1 220 fl_220 x tp h220).2.2
  have ltb := (hLB.1 140 fl_140 tp tb h140).2.1
  have lbb : la tb = la tp + 1 := lk_140.mp (hLB.1 140 fl_140 tp tb h140).2.2
  obtain ⟨_, lbk, _⟩ := hLB.1 229 fl_229 x bk h229
  have lwd := (hLB.1 0 fl_0 bk wd h0w).2.1
  have lbw : la wd = 20 := lk_0.mp (hLB.1 0 fl_0 bk wd h0w).2.2
  have lwl := (hLB.1 201 fl_201 wd wl h201).2.1
  have lbl : la wl = la wd + 0 := lk_201.mp (hLB.1 201 fl_201 wd wl h201).2.2
  have lwz := (hLB.1 202 fl_202 wd wz h202).2.1
  have lbz : la wz = la wd + 0 := lk_202.mp (hLB.1 202 fl_202 wd wz h202).2.2
  obtain ⟨la1, hag, hLB1, hcc1, fG, fP, fU, fV, fX, fO, fln⟩ : ∃ la9 : Nat → Nat, (∀ z, z < cnt → la9 z = la z) ∧ LB la9 c_cnt c_P ∧ cnt ≤ c_cnt ∧ FRM cnt [60, 141, 183, 203, 231] (fun z => (la z < 10 ∨ 10 < la z) ∧ (la z < 70 ∨ 70 + 2 < la z) ∧ (la z < 90 ∨ 90 + 8 < la z) ∧ (la z < 200 ∨ 200 + 3 < la z)) G c_G ∧ FRM cnt [66, 181, 182] (fun z => (la z < 10 ∨ 10 < la z) ∧ (la z < 70 ∨ 70 + 2 < la z) ∧ (la z < 90 ∨ 90 + 8 < la z) ∧ (la z < 200 ∨ 200 + 3 < la z)) P c_P ∧ FRM cnt [184] (fun z => (la z < 10 ∨ 10 < la z) ∧ (la z < 70 ∨ 70 + 2 < la z) ∧ (la z < 90 ∨ 90 + 8 < la z) ∧ (la z < 200 ∨ 200 + 3 < la z)) U c_U ∧ FRM cnt [0, 1, 2, 3, 4, 12] (fun z => (la z < 10 ∨ 10 < la z) ∧ (la z < 70 ∨ 70 + 2 < la z) ∧ (la z < 90 ∨ 90 + 8 < la z) ∧ (la z < 200 ∨ 200 + 3 < la z)) V c_V ∧ FRM cnt [1] (fun z => (la z < 10 ∨ 10 < la z) ∧ (la z < 70 ∨ 70 + 2 < la z) ∧ (la z < 90 ∨ 90 + 8 < la z) ∧ (la z < 200 ∨ 200 + 3 < la z)) X c_X ∧ FRM cnt [1] (fun z => (la z < 10 ∨ 10 < la z) ∧ (la z < 70 ∨ 70 + 2 < la z) ∧ (la z < 90 ∨ 90 + 8 < la z) ∧ (la z < 200 ∨ 200 + 3 < la z)) O c_O ∧ (∀ z, z < cnt → c_ln z = ln z) := fr_X11_back la G P U V X O kd ln cnt x y1 hLB hxc hlx _ hr1
  obtain ⟨rd, dr, ra, ⟨a1, a2, a3⟩, ⟨b1, b2, b3⟩, ⟨c1, c2, c3⟩, d1, d2, d3⟩ := id hRR
  obtain ⟨tn9, nw9, nx9, wh9, pg9, fi9, pa9, pk9, sz9, cl9, ah9, bh9, lah9, sah9, lbh9, sbh9, ⟨v1, v2, v3, v4⟩, ⟨i1, i2, i3, i4, i5, i6, i7⟩, _⟩ := RTC_ord hTC
  have htn9 : la tn9 = 90 := lk_226.mp (hLB.1 226 fl_226 x tn9 v1).2.2
  obtain ⟨bk9, fa9, fl9, sp9, lsp9, ssp9, ⟨q1, q2, q3, q4, q5, q6⟩, ⟨q7, q8⟩, q9, q10⟩ := id hBK
  have ebk : bk9 = bk := Option.some.inj (q1.symm.trans h229)
  rw [ebk] at q2 q3 q4
  have hWs9 : rwW (G 203 wd) (V 0 wl) (V 1 wz) 24 = wsR g F := by rw [hr203, hr49, hr50]
  have hDc9 : D < 100000 + 10 * cnt := by have z1 := hdr dr a2; have z2 := hLB.2 dr z1.1; omega
  obtain ⟨ow9, L9, o1, o2, o3⟩ := id hBO
  have hnn : Int32.toNatClampNeg (G 141 tp) = Int32.toNatClampNeg (g 1) := congrArg Int.toNat (hn.trans hM.2.symm)
  have hni : (G 141 tp).toInt = (g 1).toInt := hn.trans hM.2.symm
  have px : QF_X11_back κ wd la G P U V X O kd ln cnt x y1 (F 0) (Int32.toNatClampNeg (g 1)) tp tb ra tn9 bk ow9 nw9 nx9 wh9 pg9 fi9 pa9 pk9 sz9 cl9 fa9 fl9 sp9 lsp9 ssp9 wl wz D (RVf F) (wsR g F) (r1, c_G, c_P, c_U, c_V, c_X, c_O, c_kd, c_ln, c_cnt) := (fn_X11_back κ wd la G P U V X O kd ln cnt x y1 (F 0) (Int32.toNatClampNeg (g 1)) tp tb ra tn9 bk ow9 nw9 nx9 wh9 pg9 fi9 pa9 pk9 sz9 cl9 fa9 fl9 sp9 lsp9 ssp9 wl wz D (RVf F) (wsR g F) hI hκ hLB hxc hlx h220 h140 a3 hr0 hnn v1 h229 o1 v2 v3 v4 i1 i2 i3 i4 i5 i6 i7 htn9 q2 q3 q4 q5 q6 q7 q8 h201 h202 h24 hWs9 hBW q9 hDc9 h0w ⟨(Nat.le_antisymm (((CInv_P3 hI :) bk).2 fl9 q3).2.2.1 (((CInv_P3 hI :) bk).2 fl9 q3).2.1), (Nat.le_antisymm (((CInv_P1 hI :) bk).2 fa9 q2).2.2.1 (((CInv_P1 hI :) bk).2 fa9 q2).2.1)⟩ (Nat.le_antisymm (((CInv_P221 hI :) x).2 ra a3).2.2.1 (((CInv_P221 hI :) x).2 ra a3).2.1) (fun i => by rw [← hr0]; exact hT.2.2.1 tb i) (fun q hq => by rw [c1] at hq; obtain ⟨rf, k9, z1, z2, z3, z4, z5⟩ := d3 q hq; obtain ⟨ra2, rf2, u1, u2, u3⟩ := hTB q hq; have e1 : ra2 = ra := Option.some.inj (u1.symm.trans a3); rw [e1, z1] at u2; have e2 : rf = rf2 := Option.some.inj u2; rw [← e2] at u3; exact ⟨rf, z1, z2, by omega, ⟨_, z5⟩, u3, hRW q hq⟩)) _ hr1
  obtain ⟨la2, hag2, hLB2, k0, k1, k2, k3⟩ := px
  dsimp only at hLB2 k0 k1 k2 k3
  rw [hni, c1] at k0 k1
  have hag := hag2
  have hLB1 := hLB2
  have hdr1 : ∀ b, c_P 224 x = some b → b < c_cnt ∧ la2 b = D := fun b hb => by rw [(fP 224 x hxc (fun q => absurd q (by decide)))] at hb; obtain ⟨h1, h2⟩ := hdr b hb; exact ⟨by omega, (hag b h1).trans h2⟩
  have hFc := va_fr2 hD hS hA
  have hPc := va_Pr hP
  have hDc := va_Drr hD
  obtain ⟨i0, hi0⟩ := hW.o11 hkx
  refine va_calli (va_runV (As := [.int y1]) (rest := []) ⟨hx, hb, hml, hown, hts⟩ (m_X11_back l dC dI kk ad H.size ws G P U V X O kd ln cnt x y1 hkx hW hT r1 c_G c_P c_U c_V c_X c_O c_kd c_ln c_cnt uc us hr1) (cwV 1 hts gl_X11_back rfl rfl rfl (by decide +kernel) ⟨Nat.le_of_ble_eq_true rfl, Nat.le_of_ble_eq_true rfl⟩) ⟨fun a U g mk q => by obtain ⟨q0, q1, qP, qK, qD⟩ := q; exact ⟨q0, q1, qP, va_K.moved (u := U) (U := U.calling g mk a) (Vm.Alike.refl U.vm) qK, qD⟩, va_recv hK hPc (ci := 11) (q0 := i0) rfl hi0, fun U hU hW => ⟨rfl, by rw [hU], by rw [hU]; exact hPc, va_K.moved hW.alike hK, hDc.weaken (fun _ _ _ _ => trivial)⟩⟩ rfl rfl hl.1 rfl (lv_room (Nat.le_of_ble_eq_true rfl)) dL_law_510 ⟨by show _ ≤ (600000 : Nat); omega, by show _ ≤ (7302250 : Nat); omega⟩) hS (fun q _ h => hFc q h) hFc (fun rr w t H1 locs ht1 hvm hw hB hz1 hk1 hS => ?_)
  obtain ⟨w, nad⟩ := w
  dsimp only at hw hB
  obtain ⟨hw0, hW1, hT1, hE2⟩ := hw
  subst hw0
  obtain ⟨hP1, hK1, hD1⟩ := hB
  rw [ht1] at hP1
  obtain ⟨hP, hD⟩ := va_join2 hP hD hk1 hFc hP1 hD1
  clear hFc hPc hDc hk1 hz1 hvm ht1 hP1 hD1 hK1
  generalize H1 = H at hP hS ⊢
  have hxa : ad x = nad x := (hE2.1 x (by rw [hkx]; decide)).symm
  have hkx2 := (hE2.2 x (by rw [hkx]; decide)).trans hkx
  refine lv_pop hx hb dL_law_513 rfl ?_
  refine lv_aload_n hx hb dL_law_514 rfl (lv_at hl 1 rfl) ?_
  refine lv_aload_n hx hb dL_law_515 rfl (lv_at hl 3 rfl) ?_
  refine lv_iload_n hx hb dL_law_516 rfl (lv_at hl 0 rfl) ?_
  refine lv_iconst (v := 1) hx hb dL_law_517 (by decide +kernel) ?_
  refine lv_iadd hx hb dL_law_518 ?_
  refine va_sld hx hb hX hbl hbA hS (z_in (by omega) (by omega)) dL_law_519 ?_
  refine lv_topi (fun z1 ez1 => ?_)
  obtain rfl : y1 = z1 := ey1.trans ez1.symm
  obtain ⟨hMI, hgn⟩ := hM
  refine MInv_e hMI (fun hmg1 hmg2 hmg3 hmg4 hmg5 hmg6 hmg7 hmg8 hmg9 hmg23 hmg27 hmg30 hmg34 hmg36 hmg39 hmg44 hmg47 hmg48 hmg51 hmg56 hmg59 hmg62 hmg65 hmg66 hmg70 hmF11 hmF12 hmF13 hmF15 hmF19 hmF21 hmF24 hmF25 hmF26 hmF33 hmF38 hmF41 hmF43 hmF45 hmF46 hmF50 hmF53 hmF54 hmLQ => ?_)
  obtain ⟨⟨r2, d_g1, d_g23, d_g27, d_g30, d_g34, d_g36, d_g39, d_g51, d_g56, d_F22, d_F24, d_F25, d_F26, d_F28, d_F29, d_F31, d_F32, d_F33, d_F37, d_F38, d_F40, d_F41, d_F52, d_F53, d_F54, d_F55, d_F57⟩, hr2, hbg1, hbg23, hbg27, hbg30, hbg34, hbg36, hbg39, hbg51, hbg56, hbF24, hbF25, hbF26, hbF33, hbF38, hbF41, hbF53, hbF54, qo0⟩ := ok_back g F y1 hMI
  try dsimp only at qo0
  try dsimp only at hbg1
  try dsimp only at hbg23
  try dsimp only at hbg27
  try dsimp only at hbg30
  try dsimp only at hbg34
  try dsimp only at hbg36
  try dsimp only at hbg39
  try dsimp only at hbg51
  try dsimp only at hbg56
  have hM1 : MS (upd (upd (upd (upd (upd (upd (upd (upd (upd g 1 d_g1) 23 d_g23) 27 d_g27) 30 d_g30) 34 d_g34) 36 d_g36) 39 d_g39) 51 d_g51) 56 d_g56) (upF (upF (upF (upF (upF (upF (upF (upF (upF (upF (upF (upF (upF (upF (upF (upF (upF (upF F 22 d_F22) 24 d_F24) 25 d_F25) 26 d_F26) 28 d_F28) 29 d_F29) 31 d_F31) 32 d_F32) 33 d_F33) 37 d_F37) 38 d_F38) 40 d_F40) 41 d_F41) 52 d_F52) 53 d_F53) 54 d_F54) 55 d_F55) 57 d_F57) (((c_G 141) tp).toInt) := ⟨(MInv_i hbg1 hmg2 hmg3 hmg4 hmg5 hmg6 hmg7 hmg8 hmg9 hbg23 hbg27 hbg30 hbg34 hbg36 hbg39 hmg44 hmg47 hmg48 hbg51 hbg56 hmg59 hmg62 hmg65 hmg66 hmg70 hmF11 hmF12 hmF13 hmF15 hmF19 hmF21 hbF24 hbF25 hbF26 hbF33 hbF38 hbF41 hmF43 hmF45 hmF46 hmF50 hbF53 hbF54 hmLQ), by show d_g1.toInt = ((c_G 141) tp).toInt; omega⟩
  have hRR1 : RLR (upd (upd (upd (upd (upd (upd (upd (upd (upd g 1 d_g1) 23 d_g23) 27 d_g27) 30 d_g30) 34 d_g34) 36 d_g36) 39 d_g39) 51 d_g51) 56 d_g56) (upF (upF (upF (upF (upF (upF (upF (upF (upF (upF (upF (upF (upF (upF (upF (upF (upF (upF F 22 d_F22) 24 d_F24) 25 d_F25) 26 d_F26) 28 d_F28) 29 d_F29) 31 d_F31) 32 d_F32) 33 d_F33) 37 d_F37) 38 d_F38) 40 d_F40) 41 d_F41) 52 d_F52) 53 d_F53) 54 d_F54) 55 d_F55) 57 d_F57) la2 D x c_G c_P c_V c_O c_ln c_cnt := RLR_keep hRR hLB hxc rfl rfl rfl (fun j j1 j2 => (Eq.trans (upF_lo (k := 57) (by decide) j2) (Eq.trans (upF_lo (k := 55) (by decide) j2) (Eq.trans (upF_lo (k := 54) (by decide) j2) (Eq.trans (upF_lo (k := 53) (by decide) j2) (Eq.trans (upF_lo (k := 52) (by decide) j2) (Eq.trans (upF_lo (k := 41) (by decide) j2) (Eq.trans (upF_lo (k := 40) (by decide) j2) (Eq.trans (upF_lo (k := 38) (by decide) j2) (Eq.trans (upF_lo (k := 37) (by decide) j2) (Eq.trans (upF_lo (k := 33) (by decide) j2) (Eq.trans (upF_lo (k := 32) (by decide) j2) (Eq.trans (upF_lo (k := 31) (by decide) j2) (Eq.trans (upF_lo (k := 29) (by decide) j2) (Eq.trans (upF_lo (k := 28) (by decide) j2) (Eq.trans (upF_lo (k := 26) (by decide) j2) (Eq.trans (upF_lo (k := 25) (by decide) j2) (Eq.trans (upF_lo (k := 24) (by decide) j2) (Eq.trans (upF_lo (k := 22) (by decide) j2) rfl))))))))))))))))))) (fP 225 x hxc (fun q => absurd q (by decide))) (fP 224 x hxc (fun q => absurd q (by decide))) (fP 221 x hxc (fun q => absurd q (by decide))) (fG 222 x hxc (fun q => absurd q (by decide))) (fG 223 x hxc (fun q => absurd q (by decide))) (fun z hz hl3 => ⟨(fG 80 z hz (fun q => absurd q (by decide))), (fG 81 z hz (fun q => absurd q (by decide)))⟩) (fun z hz => (fO 2 z hz (fun q => absurd q (by decide)))) (fun z hz hl3 => by have h7 : (la z < 10 ∨ 10 < la z) ∧ (la z < 70 ∨ 70 + 2 < la z) ∧ (la z < 90 ∨ 90 + 8 < la z) ∧ (la z < 200 ∨ 200 + 3 < la z) := (by omega); exact ⟨(fG 100 z hz (fun q => absurd q (by decide))), (fG 102 z hz (fun q => absurd q (by decide))), (fG 107 z hz (fun q => absurd q (by decide))), (fG 200 z hz (fun q => absurd q (by decide))), (fG 203 z hz (fun q => h7)), (fG 24 z hz (fun q => absurd q (by decide))), (fG 25 z hz (fun q => absurd q (by decide))), (fP 101 z hz (fun q => absurd q (by decide))), (fP 103 z hz (fun q => absurd q (by decide))), (fP 104 z hz (fun q => absurd q (by decide))), (fP 105 z hz (fun q => absurd q (by decide))), (fP 106 z hz (fun q => absurd q (by decide))), (fP 201 z hz (fun q => absurd q (by decide))), (fP 202 z hz (fun q => absurd q (by decide))), (fP 20 z hz (fun q => absurd q (by decide))), (fP 21 z hz (fun q => absurd q (by decide))), (fP 22 z hz (fun q => absurd q (by decide))), (fP 23 z hz (fun q => absurd q (by decide))), (fV 0 z hz (fun q => h7)), (fV 1 z hz (fun q => h7)), (fV 10 z hz (fun q => absurd q (by decide))), (fO 0 z hz (fun q => absurd q (by decide))), fln z hz⟩) hcc1 hag
  have hRW1 : RLW (upd (upd (upd (upd (upd (upd (upd (upd (upd g 1 d_g1) 23 d_g23) 27 d_g27) 30 d_g30) 34 d_g34) 36 d_g36) 39 d_g39) 51 d_g51) 56 d_g56) (upF (upF (upF (upF (upF (upF (upF (upF (upF (upF (upF (upF (upF (upF (upF (upF (upF (upF F 22 d_F22) 24 d_F24) 25 d_F25) 26 d_F26) 28 d_F28) 29 d_F29) 31 d_F31) 32 d_F32) 33 d_F33) 37 d_F37) 38 d_F38) 40 d_F40) 41 d_F41) 52 d_F52) 53 d_F53) 54 d_F54) 55 d_F55) 57 d_F57) := RLW_keep hRW rfl (fun j j1 j2 => (Eq.trans (upF_lo (k := 57) (by decide) j2) (Eq.trans (upF_lo (k := 55) (by decide) j2) (Eq.trans (upF_lo (k := 54) (by decide) j2) (Eq.trans (upF_lo (k := 53) (by decide) j2) (Eq.trans (upF_lo (k := 52) (by decide) j2) (Eq.trans (upF_lo (k := 41) (by decide) j2) (Eq.trans (upF_lo (k := 40) (by decide) j2) (Eq.trans (upF_lo (k := 38) (by decide) j2) (Eq.trans (upF_lo (k := 37) (by decide) j2) (Eq.trans (upF_lo (k := 33) (by decide) j2) (Eq.trans (upF_lo (k := 32) (by decide) j2) (Eq.trans (upF_lo (k := 31) (by decide) j2) (Eq.trans (upF_lo (k := 29) (by decide) j2) (Eq.trans (upF_lo (k := 28) (by decide) j2) (Eq.trans (upF_lo (k := 26) (by decide) j2) (Eq.trans (upF_lo (k := 25) (by decide) j2) (Eq.trans (upF_lo (k := 24) (by decide) j2) (Eq.trans (upF_lo (k := 22) (by decide) j2) rfl)))))))))))))))))))
  have hTD1 : RTD (upd (upd (upd (upd (upd (upd (upd (upd (upd g 1 d_g1) 23 d_g23) 27 d_g27) 30 d_g30) 34 d_g34) 36 d_g36) 39 d_g39) 51 d_g51) 56 d_g56) (upF (upF (upF (upF (upF (upF (upF (upF (upF (upF (upF (upF (upF (upF (upF (upF (upF (upF F 22 d_F22) 24 d_F24) 25 d_F25) 26 d_F26) 28 d_F28) 29 d_F29) 31 d_F31) 32 d_F32) 33 d_F33) 37 d_F37) 38 d_F38) 40 d_F40) 41 d_F41) 52 d_F52) 53 d_F53) 54 d_F54) 55 d_F55) 57 d_F57) x c_G c_P c_V c_ln := RTD_keep hTD hLB (fP 227 x hxc (fun q => absurd q (by decide))) rfl rfl rfl (fun z hz => ⟨(fP 201 z hz (fun q => absurd q (by decide))), (fP 202 z hz (fun q => absurd q (by decide))), (fG 200 z hz (fun q => absurd q (by decide))), fln z hz⟩) (fun z hz hl3 => (by have h7 : (la z < 10 ∨ 10 < la z) ∧ (la z < 70 ∨ 70 + 2 < la z) ∧ (la z < 90 ∨ 90 + 8 < la z) ∧ (la z < 200 ∨ 200 + 3 < la z) := (by omega); exact ⟨(fG 203 z hz (fun q => h7)), (fV 0 z hz (fun q => h7)), (fV 1 z hz (fun q => h7))⟩))
  have hTA1 : RTA x c_G c_P c_ln := RTA_keep hTA hLB (fP 224 x hxc (fun q => absurd q (by decide))) (fun z hz => ⟨(fP 108 z hz (fun q => absurd q (by decide))), (fP 109 z hz (fun q => absurd q (by decide))), (fP 201 z hz (fun q => absurd q (by decide))), (fP 202 z hz (fun q => absurd q (by decide))), (fG 200 z hz (fun q => absurd q (by decide))), fln z hz⟩)
  have hTB1 : RTB (upd (upd (upd (upd (upd (upd (upd (upd (upd g 1 d_g1) 23 d_g23) 27 d_g27) 30 d_g30) 34 d_g34) 36 d_g36) 39 d_g39) 51 d_g51) 56 d_g56) (upF (upF (upF (upF (upF (upF (upF (upF (upF (upF (upF (upF (upF (upF (upF (upF (upF (upF F 22 d_F22) 24 d_F24) 25 d_F25) 26 d_F26) 28 d_F28) 29 d_F29) 31 d_F31) 32 d_F32) 33 d_F33) 37 d_F37) 38 d_F38) 40 d_F40) 41 d_F41) 52 d_F52) 53 d_F53) 54 d_F54) 55 d_F55) 57 d_F57) x c_G c_P c_V c_O := fun q hq => RTB_one hTB hRR hLB hq (RVf_eq (fun j j1 j2 => (Eq.trans (upF_lo (k := 57) (by decide) j2) (Eq.trans (upF_lo (k := 55) (by decide) j2) (Eq.trans (upF_lo (k := 54) (by decide) j2) (Eq.trans (upF_lo (k := 53) (by decide) j2) (Eq.trans (upF_lo (k := 52) (by decide) j2) (Eq.trans (upF_lo (k := 41) (by decide) j2) (Eq.trans (upF_lo (k := 40) (by decide) j2) (Eq.trans (upF_lo (k := 38) (by decide) j2) (Eq.trans (upF_lo (k := 37) (by decide) j2) (Eq.trans (upF_lo (k := 33) (by decide) j2) (Eq.trans (upF_lo (k := 32) (by decide) j2) (Eq.trans (upF_lo (k := 31) (by decide) j2) (Eq.trans (upF_lo (k := 29) (by decide) j2) (Eq.trans (upF_lo (k := 28) (by decide) j2) (Eq.trans (upF_lo (k := 26) (by decide) j2) (Eq.trans (upF_lo (k := 25) (by decide) j2) (Eq.trans (upF_lo (k := 24) (by decide) j2) (Eq.trans (upF_lo (k := 22) (by decide) j2) rfl)))))))))))))))))))) (fun z9 h1 => (by have hz9 := (hLB.1 221 fl_221 x z9 h1).2.1; exact congrFun (fO 2 z9 hz9 (fun q => absurd q (by decide))) q)) (fP 221 x hxc (fun q => absurd q (by decide))) (fun z hz => ⟨(fP 108 z hz (fun q => absurd q (by decide))), (fP 109 z hz (fun q => absurd q (by decide))), (fP 201 z hz (fun q => absurd q (by decide))), (fP 202 z hz (fun q => absurd q (by decide))), (fG 200 z hz (fun q => absurd q (by decide)))⟩) (fun z hz h1 h2 => (by have h7 : (la z < 10 ∨ 10 < la z) ∧ (la z < 70 ∨ 70 + 2 < la z) ∧ (la z < 90 ∨ 90 + 8 < la z) ∧ (la z < 200 ∨ 200 + 3 < la z) := (by omega); exact ⟨(fG 203 z hz (fun q => h7)), (fV 0 z hz (fun q => h7)), (fV 1 z hz (fun q => h7)), (fV 11 z hz (fun q => absurd q (by decide)))⟩))
  have hTC1 : RTC la2 x c_G c_P c_ln := RTC_keep hTC hLB (fP 226 x hxc (fun q => absurd q (by decide))) (fun t9 n9 x9 a9 b9 q1 q2 q3 => sw_X11_back la G P U V X O kd ln cnt x y1 hLB hxc hlx t9 n9 x9 a9 b9 q2 q3 _ hr1) (fun z hz => ⟨(fP 185 z hz (fun q => absurd q (by decide))), (fP 180 z hz (fun q => absurd q (by decide))), (fP 63 z hz (fun q => absurd q (by decide))), (fP 65 z hz (fun q => absurd q (by decide))), (fP 62 z hz (fun q => absurd q (by decide))), (fP 61 z hz (fun q => absurd q (by decide))), (fP 64 z hz (fun q => absurd q (by decide))), (fP 201 z hz (fun q => absurd q (by decide))), (fP 202 z hz (fun q => absurd q (by decide))), (fG 200 z hz (fun q => absurd q (by decide))), fln z hz⟩) hag
  have qx : QF_back g F y1 (RVf F) (wsR g F) (r2, d_g1, d_g23, d_g27, d_g30, d_g34, d_g36, d_g39, d_g51, d_g56, d_F22, d_F24, d_F25, d_F26, d_F28, d_F29, d_F31, d_F32, d_F33, d_F37, d_F38, d_F40, d_F41, d_F52, d_F53, d_F54, d_F55, d_F57) := pwq (fn_back g F y1 (RVf F) (wsR g F) hMI (fun q hq => ⟨rfl, hRW q hq⟩) (fun i => by rw [← hr0]; exact hT.2.2.1 tb i) rfl hBW hBM) hr2
  obtain ⟨n0, n1, n2⟩ := qx
  try dsimp only at n0 n1 n2
  have hBW1 : RBW (upd (upd (upd (upd (upd (upd (upd (upd (upd g 1 d_g1) 23 d_g23) 27 d_g27) 30 d_g30) 34 d_g34) 36 d_g36) 39 d_g39) 51 d_g51) 56 d_g56) (upF (upF (upF (upF (upF (upF (upF (upF (upF (upF (upF (upF (upF (upF (upF (upF (upF (upF F 22 d_F22) 24 d_F24) 25 d_F25) 26 d_F26) 28 d_F28) 29 d_F29) 31 d_F31) 32 d_F32) 33 d_F33) 37 d_F37) 38 d_F38) 40 d_F40) 41 d_F41) 52 d_F52) 53 d_F53) 54 d_F54) 55 d_F55) 57 d_F57) := RBW_keep hBW rfl rfl rfl
  have hBM1 : RBM (upd (upd (upd (upd (upd (upd (upd (upd (upd g 1 d_g1) 23 d_g23) 27 d_g27) 30 d_g30) 34 d_g34) 36 d_g36) 39 d_g39) 51 d_g51) 56 d_g56) (upF (upF (upF (upF (upF (upF (upF (upF (upF (upF (upF (upF (upF (upF (upF (upF (upF (upF F 22 d_F22) 24 d_F24) 25 d_F25) 26 d_F26) 28 d_F28) 29 d_F29) 31 d_F31) 32 d_F32) 33 d_F33) 37 d_F37) 38 d_F38) 40 d_F40) 41 d_F41) 52 d_F52) 53 d_F53) 54 d_F54) 55 d_F55) 57 d_F57) := RBM_new n2 rfl rfl (fun j j1 j2 => (Eq.trans (upF_lo (k := 57) (by decide) j2) (Eq.trans (upF_lo (k := 55) (by decide) j2) (Eq.trans (upF_lo (k := 54) (by decide) j2) (Eq.trans (upF_lo (k := 53) (by decide) j2) (Eq.trans (upF_lo (k := 52) (by decide) j2) (Eq.trans (upF_lo (k := 41) (by decide) j2) (Eq.trans (upF_lo (k := 40) (by decide) j2) (Eq.trans (upF_lo (k := 38) (by decide) j2) (Eq.trans (upF_lo (k := 37) (by decide) j2) (Eq.trans (upF_lo (k := 33) (by decide) j2) (Eq.trans (upF_lo (k := 32) (by decide) j2) (Eq.trans (upF_lo (k := 31) (by decide) j2) (Eq.trans (upF_lo (k := 29) (by decide) j2) (Eq.trans (upF_lo (k := 28) (by decide) j2) (Eq.trans (upF_lo (k := 26) (by decide) j2) (Eq.trans (upF_lo (k := 25) (by decide) j2) (Eq.trans (upF_lo (k := 24) (by decide) j2) (Eq.trans (upF_lo (k := 22) (by decide) j2) rfl))))))))))))))))))) rfl rfl
  have hBK1 : RBK (upd (upd (upd (upd (upd (upd (upd (upd (upd g 1 d_g1) 23 d_g23) 27 d_g27) 30 d_g30) 34 d_g34) 36 d_g36) 39 d_g39) 51 d_g51) 56 d_g56) (upF (upF (upF (upF (upF (upF (upF (upF (upF (upF (upF (upF (upF (upF (upF (upF (upF (upF F 22 d_F22) 24 d_F24) 25 d_F25) 26 d_F26) 28 d_F28) 29 d_F29) 31 d_F31) 32 d_F32) 33 d_F33) 37 d_F37) 38 d_F38) 40 d_F40) 41 d_F41) 52 d_F52) 53 d_F53) 54 d_F54) 55 d_F55) 57 d_F57) la2 D x c_G c_P c_V c_O c_ln c_cnt := RBK_fill (c := G 222 x) hLB h229 q2 q3 q4 q5 q6 q7 q8 q10 k2 k3 c1 rfl hmg9.1 (fun j j1 j2 => (Eq.trans (upF_lo (k := 57) (by decide) j2) (Eq.trans (upF_lo (k := 55) (by decide) j2) (Eq.trans (upF_lo (k := 54) (by decide) j2) (Eq.trans (upF_lo (k := 53) (by decide) j2) (Eq.trans (upF_lo (k := 52) (by decide) j2) (Eq.trans (upF_lo (k := 41) (by decide) j2) (Eq.trans (upF_lo (k := 40) (by decide) j2) (Eq.trans (upF_lo (k := 38) (by decide) j2) (Eq.trans (upF_lo (k := 37) (by decide) j2) (Eq.trans (upF_lo (k := 33) (by decide) j2) (Eq.trans (upF_lo (k := 32) (by decide) j2) (Eq.trans (upF_lo (k := 31) (by decide) j2) (Eq.trans (upF_lo (k := 29) (by decide) j2) (Eq.trans (upF_lo (k := 28) (by decide) j2) (Eq.trans (upF_lo (k := 26) (by decide) j2) (Eq.trans (upF_lo (k := 25) (by decide) j2) (Eq.trans (upF_lo (k := 24) (by decide) j2) (Eq.trans (upF_lo (k := 22) (by decide) j2) rfl))))))))))))))))))) rfl (fP 229 x hxc (fun q => absurd q (by decide))) (fun z hz => ⟨(fP 1 z hz (fun q => absurd q (by decide))), (fP 3 z hz (fun q => absurd q (by decide))), (fP 4 z hz (fun q => absurd q (by decide))), (fP 201 z hz (fun q => absurd q (by decide))), (fP 202 z hz (fun q => absurd q (by decide))), (fG 200 z hz (fun q => absurd q (by decide))), fln z hz⟩)
  obtain ⟨hsm, hBO1⟩ := RBO_back (g1 := (upd (upd (upd (upd (upd (upd (upd (upd (upd g 1 d_g1) 23 d_g23) 27 d_g27) 30 d_g30) 34 d_g34) 36 d_g36) 39 d_g39) 51 d_g51) 56 d_g56)) (F1 := (upF (upF (upF (upF (upF (upF (upF (upF (upF (upF (upF (upF (upF (upF (upF (upF (upF (upF F 22 d_F22) 24 d_F24) 25 d_F25) 26 d_F26) 28 d_F28) 29 d_F29) 31 d_F31) 32 d_F32) 33 d_F33) 37 d_F37) 38 d_F38) 40 d_F40) 41 d_F41) 52 d_F52) 53 d_F53) 54 d_F54) 55 d_F55) 57 d_F57)) (G1 := c_G) (P1 := c_P) (V1 := c_V) o1 o2 o3 (fP 230 x hxc (fun q => absurd q (by decide))) k0 k1 n0 n1
  have hMX1 : RMX (upd (upd (upd (upd (upd (upd (upd (upd (upd g 1 d_g1) 23 d_g23) 27 d_g27) 30 d_g30) 34 d_g34) 36 d_g36) 39 d_g39) 51 d_g51) 56 d_g56) (upF (upF (upF (upF (upF (upF (upF (upF (upF (upF (upF (upF (upF (upF (upF (upF (upF (upF F 22 d_F22) 24 d_F24) 25 d_F25) 26 d_F26) 28 d_F28) 29 d_F29) 31 d_F31) 32 d_F32) 33 d_F33) 37 d_F37) 38 d_F38) 40 d_F40) 41 d_F41) 52 d_F52) 53 d_F53) 54 d_F54) 55 d_F55) 57 d_F57) x c_G c_P c_V := RMX_keep hMX hLB (fP 236 x hxc (fun q => absurd q (by decide))) (fun z hz hl3 => ⟨(fP 42 z hz (fun q => absurd q (by decide))), (fG 43 z hz (fun q => absurd q (by decide))), (fV 9 z hz (fun q => absurd q (by decide)))⟩) rfl rfl
  have hRL : RLB (upd (upd (upd (upd (upd (upd (upd (upd (upd g 1 d_g1) 23 d_g23) 27 d_g27) 30 d_g30) 34 d_g34) 36 d_g36) 39 d_g39) 51 d_g51) 56 d_g56) (upF (upF (upF (upF (upF (upF (upF (upF (upF (upF (upF (upF (upF (upF (upF (upF (upF (upF F 22 d_F22) 24 d_F24) 25 d_F25) 26 d_F26) 28 d_F28) 29 d_F29) 31 d_F31) 32 d_F32) 33 d_F33) 37 d_F37) 38 d_F38) 40 d_F40) 41 d_F41) 52 d_F52) 53 d_F53) 54 d_F54) 55 d_F55) 57 d_F57) x tp bk wd c_G c_P c_V c_O c_ln c_cnt := ⟨la2, D, tb, wl, wz, hLB1, (by omega), ((hag x hxc).trans hlx), hdr1, hD0, ((fP 140 tp ltp (fun q => absurd q (by decide))).trans h140), ((fP 0 bk lbk (fun q => absurd q (by decide))).trans h0w), ((fP 201 wd lwd (fun q => absurd q (by decide))).trans h201), ((fP 202 wd lwd (fun q => absurd q (by decide))).trans h202), ((fln wz lwz).trans hlz), ((congrArg Int32.toInt (fG 200 wd lwd (fun q => absurd q (by decide)))).trans h24), ((fG 203 wd lwd (fun q => show (la wd < 10 ∨ 10 < la wd) ∧ (la wd < 70 ∨ 70 + 2 < la wd) ∧ (la wd < 90 ∨ 90 + 8 < la wd) ∧ (la wd < 200 ∨ 200 + 3 < la wd) from by omega)).trans hr203), ((fV 0 tb ltb (fun q => show (la tb < 10 ∨ 10 < la tb) ∧ (la tb < 70 ∨ 70 + 2 < la tb) ∧ (la tb < 90 ∨ 90 + 8 < la tb) ∧ (la tb < 200 ∨ 200 + 3 < la tb) from by omega)).trans hr0), ((fV 0 wl lwl (fun q => show (la wl < 10 ∨ 10 < la wl) ∧ (la wl < 70 ∨ 70 + 2 < la wl) ∧ (la wl < 90 ∨ 90 + 8 < la wl) ∧ (la wl < 200 ∨ 200 + 3 < la wl) from by omega)).trans hr49), ((fV 1 wz lwz (fun q => show (la wz < 10 ∨ 10 < la wz) ∧ (la wz < 70 ∨ 70 + 2 < la wz) ∧ (la wz < 90 ∨ 90 + 8 < la wz) ∧ (la wz < 200 ∨ 200 + 3 < la wz) from by omega)).trans hr50), hRR1, hRW1, hTA1, hTB1, hTC1, hTD1, hBW1, hBM1, hBO1, hBK1, hMX1⟩
  have hC1 : CS kk w (ad x) (((c_G 141) tp).toInt) (s7 ((c_V 3) fl)) (upd (upd (upd (upd (upd (upd (upd (upd (upd g 1 d_g1) 23 d_g23) 27 d_g27) 30 d_g30) 34 d_g34) 36 d_g36) 39 d_g39) 51 d_g51) 56 d_g56) (upF (upF (upF (upF (upF (upF (upF (upF (upF (upF (upF (upF (upF (upF (upF (upF (upF (upF F 22 d_F22) 24 d_F24) 25 d_F25) 26 d_F26) 28 d_F28) 29 d_F29) 31 d_F31) 32 d_F32) 33 d_F33) 37 d_F37) 38 d_F38) 40 d_F40) 41 d_F41) 52 d_F52) 53 d_F53) 54 d_F54) 55 d_F55) 57 d_F57) := ⟨nad, κ1, wd, c_G, c_P, c_U, c_V, c_X, c_O, c_kd, c_ln, c_cnt, x, tp, bk, fl, hxa, hW1, hT1, hI1, hkx2, (hkx1 x (by rw [hκ]; decide)).trans hκ, hf220, hf229, hf3, rfl, rfl, hRL⟩
  replace hP := va_Psw hP
  replace hD := va_Dsw hD
  have hFc := va_fr2 hD hS hA
  have hPc := va_Pr hP
  have hDc := va_Drr hD
  have hKm : va_K (dC, dI) vwCl (mT (kk 0) (kk 1) (kk 2)) s := hK.sub [0, 1, 2] rfl
  refine va_calli (va_runV (As := [.int y1]) (rest := []) ⟨hx, hb, hml, hown, hts⟩ (m_back l dC dI H.size h0 (kk 0) (kk 1) (kk 2) q g F y1 r2 d_g1 d_g23 d_g27 d_g30 d_g34 d_g36 d_g39 d_g51 d_g56 d_F22 d_F24 d_F25 d_F26 d_F28 d_F29 d_F31 d_F32 d_F33 d_F37 d_F38 d_F40 d_F41 d_F52 d_F53 d_F54 d_F55 d_F57 hr2) (cwV 1 hts gl_X12_back rfl rfl rfl (by decide +kernel) ⟨Nat.le_of_ble_eq_true rfl, Nat.le_of_ble_eq_true rfl⟩) ⟨fun a U g mk q => by obtain ⟨q0, q1, qP, qK, qD⟩ := q; exact ⟨q0, q1, qP, va_K.moved (u := U) (U := U.calling g mk a) (Vm.Alike.refl U.vm) qK, qD⟩, va_recv hKm hPc (ci := 12) (q0 := 0) rfl rfl, fun U hU hW => ⟨rfl, by rw [hU], by rw [hU]; exact hPc, va_K.moved hW.alike hKm, hDc.weaken (fun _ _ _ _ => trivial)⟩⟩ rfl rfl hl.1 rfl (lv_room (Nat.le_of_ble_eq_true rfl)) dL_law_520 ⟨by show _ ≤ (600000 : Nat); omega, by show _ ≤ (7302250 : Nat); omega⟩) hS (fun q _ h => hFc q h) hFc (fun rr2 u t H1 locs ht1 hvm hw hB hz1 hk1 hS => ?_)
  subst hw
  obtain ⟨hP1, hK1, hD1⟩ := hB
  rw [ht1] at hP1
  obtain ⟨hP, hD⟩ := va_join2 hP hD hk1 hFc hP1 hD1
  replace hP := va_Psw hP
  replace hD := va_Dsw hD
  refine lv_pop hx hb dL_law_523 rfl ?_
  refine lv_goto (tgt := 833) hx hb dL_law_524 (by decide) ?_
  exact kont w (upd (upd (upd (upd (upd (upd (upd (upd (upd g 1 d_g1) 23 d_g23) 27 d_g27) 30 d_g30) 34 d_g34) 36 d_g36) 39 d_g39) 51 d_g51) 56 d_g56) (upF (upF (upF (upF (upF (upF (upF (upF (upF (upF (upF (upF (upF (upF (upF (upF (upF (upF F 22 d_F22) 24 d_F24) 25 d_F25) 26 d_F26) 28 d_F28) 29 d_F29) 31 d_F31) 32 d_F32) 33 d_F33) 37 d_F37) 38 d_F38) 40 d_F40) 41 d_F41) 52 d_F52) 53 d_F53) 54 d_F54) 55 d_F55) 57 d_F57) (((c_G 141) tp).toInt) (s7 ((c_V 3) fl)) _ _ _ _ hC1 hM1 (by omega) (by omega) hP hD hS
set_option maxHeartbeats 8000000 in
set_option maxRecDepth 100000 in
theorem law_13 {p : Program} {e : Env} {s : State} {m : MethodId} {below : List Frame} {meth : Method} {c : Code} (l : Launch) {b L : Nat} {xs : Nat → Int32} {A : Nat → Prop} {dC : Nat → ClassId} {dI : Nat → Nat → Nat} {kk : Nat → ClassId} {adK adV : Nat → Nat} (C0 : lw_At p s m meth c b L xs) (hL : L ≤ 3072) (hA : ∀ q : Nat, s.heap.size ≤ q → A q) (hbA : ¬ A b) (hE : EnvOK s) (hSE : SE adK adV A s) (hK : va_K (dC, dI) vwCl (cT kk) s) {i : Int32} (hi : 0 ≤ i.toInt ∧ i.toInt + 6 ≤ (L : Int)) {ws : va_W} {xa h0 : Nat} {q : Nat → Nat} {g : Nat → Int32} {F : Nat → Nat → Int32} {n σ B1 B2 : Int} {H : Heap} {locs : List Loc} {ls : Array Slot} {cells slots : Nat} (hC : CS kk ws xa n σ g F) (hM : MS g F n) (hB1 : (cells : Int) + 10 * n ≤ B1 + 3 * σ) (hB2 : (slots : Int) + 118 * n ≤ B2 + 2504 * σ) (hc1 : B1 ≤ 590000) (hc2 : B2 ≤ 5500000) (hP : va_P (dC, dI) vwCl ((mW h0 (kk 0) (kk 1) (kk 2) q g F) ++ ws) H) (hD : va_D A ((mW h0 (kk 0) (kk 1) (kk 2) q g F) ++ ws)) (hS : va_S A s.heap H locs) (hl : lv_has ls 4 [(3, .int i), (2, .ref h0), (1, .ref xa), (0, .ref b)]) (kont : ∀ (ws : va_W) (g : Nat → Int32) (F : Nat → Nat → Int32) (n σ : Int) (H : Heap) (locs : List Loc) (cells slots : Nat), CS kk ws xa n σ g F → MS g F n → (cells : Int) + 10 * n ≤ B1 + 228 + 3 * σ → (slots : Int) + 118 * n ≤ B2 + 6860 + 2504 * σ → va_P (dC, dI) vwCl ((mW h0 (kk 0) (kk 1) (kk 2) q g F) ++ ws) H → va_D A ((mW h0 (kk 0) (kk 1) (kk 2) q g F) ++ ws) → va_S A s.heap H locs → W p l e room_1 s m #[Value.ref b] below meth c H locs cells slots (lw_Z below #[Value.ref b] s) (F0 m 833 ls [])) : W p l e room_1 s m #[Value.ref b] below meth c H locs cells slots (lw_Z below #[Value.ref b] s) (F0 m 527 ls []) := by
  obtain ⟨hx, hb, hr9, hml, hown, hts0, hX, hbl, hlocks, hgv⟩ := C0
  have hts := fun w h => hts0 w (wL_tb w h)
  obtain ⟨ad, κ, wd, G, P, U, V, X, O, kd, ln, cnt, x, tp, bk, fl, rfl, hW, hT, hI, hkx, hκ, h220, h229, h3, hn, hσ, hR⟩ := hC
  have hk220 := (((CInv_P220 hI :) x).2 tp h220).1
  have hk229 := (((CInv_P229 hI :) x).2 bk h229).1
  have hs0 := s7_b (CInv_V3 hI :) fl
  have hn0 := (CInv_G141 hI :) tp
  have hj1 : (i + 1).toInt = i.toInt + 1 := z_addc (by decide +kernel) (by omega) (by omega)
  refine lv_aload_n hx hb dL_law_527 rfl (lv_at hl 2 rfl) ?_
  refine lv_aload_n hx hb dL_law_528 rfl (lv_at hl 3 rfl) ?_
  refine lv_iload_n hx hb dL_law_529 rfl (lv_at hl 0 rfl) ?_
  refine lv_iconst (v := 1) hx hb dL_law_530 (by decide +kernel) ?_
  refine lv_iadd hx hb dL_law_531 ?_
  refine va_sld hx hb hX hbl hbA hS (z_in (by omega) (by omega)) dL_law_532 ?_
  refine lv_topi (fun y1 ey1 => ?_)
  obtain ⟨r1, hr1, hq1⟩ := ok_X11_old κ wd G P U V X O kd ln cnt x y1 (CInv_G231 hI :) (CInv_P230 hI :) (CInv_LN hI :) hκ
  have hI1 : CInv κ wd G P V O ln cnt := (CInv_i (CInv_G43 hI :) (CInv_G44 hI :) (CInv_G45 hI :) (CInv_G60 hI :) (CInv_G83 hI :) (CInv_G84 hI :) (CInv_G85 hI :) (CInv_G87 hI :) (CInv_G88 hI :) (CInv_G102 hI :) (CInv_G125 hI :) (CInv_G126 hI :) (CInv_G127 hI :) (CInv_G141 hI :) (CInv_G160 hI :) (CInv_G161 hI :) (CInv_G162 hI :) (CInv_G165 hI :) (CInv_G166 hI :) (CInv_G183 hI :) (CInv_G200 hI :) (CInv_G203 hI :) (CInv_G222 hI :) (CInv_G231 hI :) (CInv_G233 hI :) (CInv_P0 hI :) (CInv_P1 hI :) (CInv_P2 hI :) (CInv_P3 hI :) (CInv_P4 hI :) (CInv_P5 hI :) (CInv_P20 hI :) (CInv_P21 hI :) (CInv_P22 hI :) (CInv_P23 hI :) (CInv_P40 hI :) (CInv_P41 hI :) (CInv_P42 hI :) (CInv_P61 hI :) (CInv_P62 hI :) (CInv_P63 hI :) (CInv_P64 hI :) (CInv_P65 hI :) (CInv_P66 hI :) (CInv_P82 hI :) (CInv_P101 hI :) (CInv_P103 hI :) (CInv_P104 hI :) (CInv_P105 hI :) (CInv_P106 hI :) (CInv_P108 hI :) (CInv_P109 hI :) (CInv_P110 hI :) (CInv_P120 hI :) (CInv_P121 hI :) (CInv_P122 hI :) (CInv_P123 hI :) (CInv_P140 hI :) (CInv_P164 hI :) (CInv_P180 hI :) (CInv_P181 hI :) (CInv_P182 hI :) (CInv_P185 hI :) (CInv_P186 hI :) (CInv_P187 hI :) (CInv_P201 hI :) (CInv_P202 hI :) (CInv_P220 hI :) (CInv_P221 hI :) (CInv_P224 hI :) (CInv_P225 hI :) (CInv_P226 hI :) (CInv_P227 hI :) (CInv_P228 hI :) (CInv_P229 hI :) (CInv_P230 hI :) (CInv_P232 hI :) (CInv_P234 hI :) (CInv_P235 hI :) (CInv_P236 hI :) (CInv_V1 hI :) (CInv_V2 hI :) (CInv_V3 hI :) (CInv_V9 hI :) (CInv_O0 hI :) (CInv_O1 hI :) (CInv_O2 hI :) (CInv_RA hI :) (CInv_RB hI :) (CInv_RI hI :) (CInv_RM103 hI :) (CInv_RM104 hI :) (CInv_RM108 hI :) (CInv_LN hI :) (CInv_FL hI :) (CInv_W0 hI :) (CInv_KC hI :) (CInv_WK hI :))
  obtain ⟨la, D, tb, wl, wz, hLB, hxc, hlx, hdr, hD0, h140, h0w, h201, h202, hlz, h24, hr203, hr0, hr49, hr50, hRR, hRW, hTA, hTB, hTC, hTD, hBW, hBM, hBO, hBK, hMX⟩ := hR
  have ltp := (hLB.1 220 fl_220 x tp h220).2.1
  have lbp : la tp = 10 := lk_220.mp (hLB.1 220 fl_220 x tp h220).2.2
  have ltb := (hLB.1 140 fl_140 tp tb h140).2.1
  have lbb : la tb = la tp + 1 := lk_140.mp (hLB.1 140 fl_140 tp tb h140).2.2
  obtain ⟨_, lbk, _⟩ := hLB.1 229 fl_229 x bk h229
  have lwd := (hLB.1 0 fl_0 bk wd h0w).2.1
  have lbw : la wd = 20 := lk_0.mp (hLB.1 0 fl_0 bk wd h0w).2.2
  have lwl := (hLB.1 201 fl_201 wd wl h201).2.1
  have lbl : la wl = la wd + 0 := lk_201.mp (hLB.1 201 fl_201 wd wl h201).2.2
  have lwz := (hLB.1 202 fl_202 wd wz h202).2.1
  have lbz : la wz = la wd + 0 := lk_202.mp (hLB.1 202 fl_202 wd wz h202).2.2
  have hFc := va_fr2 hD hS hA
  have hPc := va_Pr hP
  have hDc := va_Drr hD
  obtain ⟨i0, hi0⟩ := hW.o11 hkx
  refine va_calli (va_runV (As := [.int y1]) (rest := []) ⟨hx, hb, hml, hown, hts⟩ (m_X11_old l dC dI kk ad H.size ws G P U V X O kd ln cnt x y1 hkx hW hT r1 hr1) (cwV 1 hts gl_X11_old rfl rfl rfl (by decide +kernel) ⟨Nat.le_of_ble_eq_true rfl, Nat.le_of_ble_eq_true rfl⟩) ⟨fun a U g mk q => by obtain ⟨q0, q1, qP, qK, qD⟩ := q; exact ⟨q0, q1, qP, va_K.moved (u := U) (U := U.calling g mk a) (Vm.Alike.refl U.vm) qK, qD⟩, va_recv hK hPc (ci := 11) (q0 := i0) rfl hi0, fun U hU hW => ⟨rfl, by rw [hU], by rw [hU]; exact hPc, va_K.moved hW.alike hK, hDc.weaken (fun _ _ _ _ => trivial)⟩⟩ rfl rfl hl.1 rfl (lv_room (Nat.le_of_ble_eq_true rfl)) dL_law_533 ⟨by show _ ≤ (600000 : Nat); omega, by show _ ≤ (7302250 : Nat); omega⟩) hS (fun q _ h => hFc q h) hFc (fun rr w t H1 locs ht1 hvm hw hB hz1 hk1 hS => ?_)
  obtain ⟨hw0, hW1, hT1⟩ := hw
  subst hw0
  obtain ⟨hP1, hK1, hD1⟩ := hB
  rw [ht1] at hP1
  obtain ⟨hP, hD⟩ := va_join2 hP hD hk1 hFc hP1 hD1
  clear hFc hPc hDc hk1 hz1 hvm ht1 hP1 hD1 hK1
  generalize H1 = H at hP hS ⊢
  refine lv_pop hx hb dL_law_536 rfl ?_
  refine lv_aload_n hx hb dL_law_537 rfl (lv_at hl 1 rfl) ?_
  refine lv_aload_n hx hb dL_law_538 rfl (lv_at hl 3 rfl) ?_
  refine lv_iload_n hx hb dL_law_539 rfl (lv_at hl 0 rfl) ?_
  refine lv_iconst (v := 1) hx hb dL_law_540 (by decide +kernel) ?_
  refine lv_iadd hx hb dL_law_541 ?_
  refine va_sld hx hb hX hbl hbA hS (z_in (by omega) (by omega)) dL_law_542 ?_
  refine lv_topi (fun z1 ez1 => ?_)
  obtain rfl : y1 = z1 := ey1.trans ez1.symm
  obtain ⟨hMI, hgn⟩ := hM
  refine MInv_e hMI (fun hmg1 hmg2 hmg3 hmg4 hmg5 hmg6 hmg7 hmg8 hmg9 hmg23 hmg27 hmg30 hmg34 hmg36 hmg39 hmg44 hmg47 hmg48 hmg51 hmg56 hmg59 hmg62 hmg65 hmg66 hmg70 hmF11 hmF12 hmF13 hmF15 hmF19 hmF21 hmF24 hmF25 hmF26 hmF33 hmF38 hmF41 hmF43 hmF45 hmF46 hmF50 hmF53 hmF54 hmLQ => ?_)
  obtain ⟨r2, hr2, hq2⟩ := ok_old g F y1 hMI
  have hM1 : MS g F (((G 141) tp).toInt) := ⟨(MInv_i hmg1 hmg2 hmg3 hmg4 hmg5 hmg6 hmg7 hmg8 hmg9 hmg23 hmg27 hmg30 hmg34 hmg36 hmg39 hmg44 hmg47 hmg48 hmg51 hmg56 hmg59 hmg62 hmg65 hmg66 hmg70 hmF11 hmF12 hmF13 hmF15 hmF19 hmF21 hmF24 hmF25 hmF26 hmF33 hmF38 hmF41 hmF43 hmF45 hmF46 hmF50 hmF53 hmF54 hmLQ), by show (g 1).toInt = ((G 141) tp).toInt; omega⟩
  have hRR1 : RLR g F la D x G P V O ln cnt := RLR_keep hRR hLB hxc rfl rfl rfl (fun j j1 j2 => rfl) rfl rfl rfl rfl rfl (fun z hz hl3 => ⟨rfl, rfl⟩) (fun z hz => rfl) (fun z hz hl3 => ⟨rfl, rfl, rfl, rfl, rfl, rfl, rfl, rfl, rfl, rfl, rfl, rfl, rfl, rfl, rfl, rfl, rfl, rfl, rfl, rfl, rfl, rfl, rfl⟩) (Nat.le_refl _) (fun _ _ => rfl)
  have hRW1 : RLW g F := RLW_keep hRW rfl (fun j j1 j2 => rfl)
  have hTD1 : RTD g F x G P V ln := RTD_keep hTD hLB rfl rfl rfl rfl (fun z hz => ⟨rfl, rfl, rfl, rfl⟩) (fun z hz hl3 => ⟨rfl, rfl, rfl⟩)
  have hTA1 : RTA x G P ln := RTA_keep hTA hLB rfl (fun z hz => ⟨rfl, rfl, rfl, rfl, rfl, rfl⟩)
  have hTB1 : RTB g F x G P V O := fun q hq => RTB_one hTB hRR hLB hq (RVf_eq (fun j j1 j2 => rfl)) (fun z9 h1 => rfl) rfl (fun z hz => ⟨rfl, rfl, rfl, rfl, rfl⟩) (fun z hz h1 h2 => ⟨rfl, rfl, rfl, rfl⟩)
  have hTC1 : RTC la x G P ln := RTC_keep hTC hLB rfl (fun _ _ _ _ _ _ _ q3 => q3) (fun z hz => ⟨rfl, rfl, rfl, rfl, rfl, rfl, rfl, rfl, rfl, rfl, rfl⟩) (fun _ _ => rfl)
  have hBW1 : RBW g F := RBW_keep hBW rfl rfl rfl
  have hBM1 : RBM g F := RBM_keep hBM rfl rfl rfl (fun j j1 j2 => rfl) rfl rfl rfl rfl rfl
  have hBK1 : RBK g F la D x G P V O ln cnt := RBK_keep hBK hLB (fun q hq => RVf_eq (fun j j1 j2 => rfl)) (Nat.le_refl _) (fun _ _ => rfl) (fun fl9 s9 => by have z1 := (CInv_FL hI :) fl9 s9; have z2 := (CInv_V3 hI :) fl9 s9; have z3 := clampI (x := V 3 fl9 s9) z2.1; have z4 := congrArg Int32.toInt hr203; have z5 := clampI (x := g 48) (by omega); omega) rfl (fun z hz => ⟨rfl, rfl, rfl, rfl, rfl, rfl, rfl⟩) (fun z hz hl3 => ⟨rfl, rfl⟩) (fun z hz h1 h2 => by obtain ⟨k9, hk9⟩ := h1; exact ⟨rfl, rfl, rfl⟩) (Nat.le_refl _) (fun _ _ => rfl) (fun z hz h => h)
  have hBO1 : RBO g F x G P V := RBO_keep hBO hLB rfl rfl (fun z hz h1 => by have hl9 : la z = 201 := (by have z9 := lk_230.mp (hLB.1 230 fl_230 x z h1).2.2; omega); exact rfl) rfl rfl
  have hMX1 : RMX g F x G P V := RMX_keep hMX hLB rfl (fun z hz hl3 => ⟨rfl, rfl, rfl⟩) rfl rfl
  have hRL : RLB g F x tp bk wd G P V O ln cnt := ⟨la, D, tb, wl, wz, hLB, hxc, hlx, hdr, hD0, h140, h0w, h201, h202, hlz, h24, hr203, hr0, hr49, hr50, hRR1, hRW1, hTA1, hTB1, hTC1, hTD1, hBW1, hBM1, hBO1, hBK1, hMX1⟩
  have hC1 : CS kk w (ad x) (((G 141) tp).toInt) (s7 ((V 3) fl)) g F := ⟨ad, κ, wd, G, P, U, V, X, O, kd, ln, cnt, x, tp, bk, fl, rfl, hW1, hT1, hI1, hkx, hκ, h220, h229, h3, rfl, rfl, hRL⟩
  replace hP := va_Psw hP
  replace hD := va_Dsw hD
  have hFc := va_fr2 hD hS hA
  have hPc := va_Pr hP
  have hDc := va_Drr hD
  have hKm : va_K (dC, dI) vwCl (mT (kk 0) (kk 1) (kk 2)) s := hK.sub [0, 1, 2] rfl
  refine va_calli (va_runV (As := [.int y1]) (rest := []) ⟨hx, hb, hml, hown, hts⟩ (m_old l dC dI H.size h0 (kk 0) (kk 1) (kk 2) q g F y1 r2 hr2) (cwV 1 hts gl_X12_old rfl rfl rfl (by decide +kernel) ⟨Nat.le_of_ble_eq_true rfl, Nat.le_of_ble_eq_true rfl⟩) ⟨fun a U g mk q => by obtain ⟨q0, q1, qP, qK, qD⟩ := q; exact ⟨q0, q1, qP, va_K.moved (u := U) (U := U.calling g mk a) (Vm.Alike.refl U.vm) qK, qD⟩, va_recv hKm hPc (ci := 12) (q0 := 0) rfl rfl, fun U hU hW => ⟨rfl, by rw [hU], by rw [hU]; exact hPc, va_K.moved hW.alike hKm, hDc.weaken (fun _ _ _ _ => trivial)⟩⟩ rfl rfl hl.1 rfl (lv_room (Nat.le_of_ble_eq_true rfl)) dL_law_543 ⟨by show _ ≤ (600000 : Nat); omega, by show _ ≤ (7302250 : Nat); omega⟩) hS (fun q _ h => hFc q h) hFc (fun rr2 u t H1 locs ht1 hvm hw hB hz1 hk1 hS => ?_)
  subst hw
  obtain ⟨hP1, hK1, hD1⟩ := hB
  rw [ht1] at hP1
  obtain ⟨hP, hD⟩ := va_join2 hP hD hk1 hFc hP1 hD1
  replace hP := va_Psw hP
  replace hD := va_Dsw hD
  refine lv_pop hx hb dL_law_546 rfl ?_
  refine lv_goto (tgt := 833) hx hb dL_law_547 (by decide) ?_
  exact kont w g F (((G 141) tp).toInt) (s7 ((V 3) fl)) _ _ _ _ hC1 hM1 (by omega) (by omega) hP hD hS
set_option maxHeartbeats 8000000 in
set_option maxRecDepth 100000 in
theorem law_14 {p : Program} {e : Env} {s : State} {m : MethodId} {below : List Frame} {meth : Method} {c : Code} (l : Launch) {b L : Nat} {xs : Nat → Int32} {A : Nat → Prop} {dC : Nat → ClassId} {dI : Nat → Nat → Nat} {kk : Nat → ClassId} {adK adV : Nat → Nat} (C0 : lw_At p s m meth c b L xs) (hL : L ≤ 3072) (hA : ∀ q : Nat, s.heap.size ≤ q → A q) (hbA : ¬ A b) (hE : EnvOK s) (hSE : SE adK adV A s) (hK : va_K (dC, dI) vwCl (cT kk) s) {i : Int32} (hi : 0 ≤ i.toInt ∧ i.toInt + 6 ≤ (L : Int)) {ws : va_W} {xa h0 : Nat} {q : Nat → Nat} {g : Nat → Int32} {F : Nat → Nat → Int32} {n σ B1 B2 : Int} {H : Heap} {locs : List Loc} {ls : Array Slot} {cells slots : Nat} (hC : CS kk ws xa n σ g F) (hM : MS g F n) (hB1 : (cells : Int) + 10 * n ≤ B1 + 3 * σ) (hB2 : (slots : Int) + 118 * n ≤ B2 + 2504 * σ) (hc1 : B1 ≤ 590000) (hc2 : B2 ≤ 5500000) (hP : va_P (dC, dI) vwCl ((mW h0 (kk 0) (kk 1) (kk 2) q g F) ++ ws) H) (hD : va_D A ((mW h0 (kk 0) (kk 1) (kk 2) q g F) ++ ws)) (hS : va_S A s.heap H locs) (hl : lv_has ls 4 [(3, .int i), (2, .ref h0), (1, .ref xa), (0, .ref b)]) (kont : ∀ (ws : va_W) (g : Nat → Int32) (F : Nat → Nat → Int32) (n σ : Int) (H : Heap) (locs : List Loc) (cells slots : Nat), CS kk ws xa n σ g F → MS g F n → (cells : Int) + 10 * n ≤ B1 + 228 + 3 * σ → (slots : Int) + 118 * n ≤ B2 + 6860 + 2504 * σ → va_P (dC, dI) vwCl ((mW h0 (kk 0) (kk 1) (kk 2) q g F) ++ ws) H → va_D A ((mW h0 (kk 0) (kk 1) (kk 2) q g F) ++ ws) → va_S A s.heap H locs → W p l e room_1 s m #[Value.ref b] below meth c H locs cells slots (lw_Z below #[Value.ref b] s) (F0 m 833 ls [])) : W p l e room_1 s m #[Value.ref b] below meth c H locs cells slots (lw_Z below #[Value.ref b] s) (F0 m 550 ls []) := by
  obtain ⟨hx, hb, hr9, hml, hown, hts0, hX, hbl, hlocks, hgv⟩ := C0
  have hts := fun w h => hts0 w (wL_tb w h)
  obtain ⟨ad, κ, wd, G, P, U, V, X, O, kd, ln, cnt, x, tp, bk, fl, rfl, hW, hT, hI, hkx, hκ, h220, h229, h3, hn, hσ, hR⟩ := hC
  have hk220 := (((CInv_P220 hI :) x).2 tp h220).1
  have hk229 := (((CInv_P229 hI :) x).2 bk h229).1
  have hs0 := s7_b (CInv_V3 hI :) fl
  have hn0 := (CInv_G141 hI :) tp
  have hj1 : (i + 1).toInt = i.toInt + 1 := z_addc (by decide +kernel) (by omega) (by omega)
  refine lv_aload_n hx hb dL_law_550 rfl (lv_at hl 2 rfl) ?_
  refine lv_aload_n hx hb dL_law_551 rfl (lv_at hl 3 rfl) ?_
  refine lv_iload_n hx hb dL_law_552 rfl (lv_at hl 0 rfl) ?_
  refine lv_iconst (v := 1) hx hb dL_law_553 (by decide +kernel) ?_
  refine lv_iadd hx hb dL_law_554 ?_
  refine va_sld hx hb hX hbl hbA hS (z_in (by omega) (by omega)) dL_law_555 ?_
  refine lv_topi (fun y1 ey1 => ?_)
  obtain ⟨⟨⟨r1, c_G, c_P, c_U, c_V, c_X, c_O, c_kd, c_ln, c_cnt⟩, uc, us⟩, hr1, κ1, hI1, hkx1, hcc, hf_P220, hf_P229, hf_P3, hf_G141, hf_G83, hf_P82, hf_P0, hf_G160, hf_ln, po0⟩ := ok_X11_collisions κ wd G P U V X O kd ln cnt x y1 hI hκ
  dsimp only at po0
  have hf220 := (hf_P220 x (by rw [hκ]; decide)).trans h220
  have hf229 := (hf_P229 x (by rw [hκ]; decide)).trans h229
  have hf3 := (hf_P3 bk (by rw [hk229]; decide)).trans h3
  have ht : (c_G 141 tp).toInt = (G 141 tp).toInt := congrArg Int32.toInt (hf_G141 tp (by rw [hk220]; decide))
  have hcost := po0 bk fl h229 h3
  have hs1 := s7_b (show rng2 0 100 (c_V 3) from by obtain ⟨hwG43, hwG44, hwG45, hwG60, hwG83, hwG84, hwG85, hwG87, hwG88, hwG102, hwG125, hwG126, hwG127, hwG141, hwG160, hwG161, hwG162, hwG165, hwG166, hwG183, hwG200, hwG203, hwG222, hwG231, hwG233, hwP0, hwP1, hwP2, hwP3, hwP4, hwP5, hwP20, hwP21, hwP22, hwP23, hwP40, hwP41, hwP42, hwP61, hwP62, hwP63, hwP64, hwP65, hwP66, hwP82, hwP101, hwP103, hwP104, hwP105, hwP106, hwP108, hwP109, hwP110, hwP120, hwP121, hwP122, hwP123, hwP140, hwP164, hwP180, hwP181, hwP182, hwP185, hwP186, hwP187, hwP201, hwP202, hwP220, hwP221, hwP224, hwP225, hwP226, hwP227, hwP228, hwP229, hwP230, hwP232, hwP234, hwP235, hwP236, hwV1, hwV2, hwV3, hwV9, hwO0, hwO1, hwO2, hwRA, hwRB, hwRI, hwRM103, hwRM104, hwRM108, hwLN, hwFL, hwW0, hwKC, hwWK⟩ := hI1; exact hwV3) fl
  have hn1 := (show rng 0 2000 (c_G 141) from by obtain ⟨hwG43, hwG44, hwG45, hwG60, hwG83, hwG84, hwG85, hwG87, hwG88, hwG102, hwG125, hwG126, hwG127, hwG141, hwG160, hwG161, hwG162, hwG165, hwG166, hwG183, hwG200, hwG203, hwG222, hwG231, hwG233, hwP0, hwP1, hwP2, hwP3, hwP4, hwP5, hwP20, hwP21, hwP22, hwP23, hwP40, hwP41, hwP42, hwP61, hwP62, hwP63, hwP64, hwP65, hwP66, hwP82, hwP101, hwP103, hwP104, hwP105, hwP106, hwP108, hwP109, hwP110, hwP120, hwP121, hwP122, hwP123, hwP140, hwP164, hwP180, hwP181, hwP182, hwP185, hwP186, hwP187, hwP201, hwP202, hwP220, hwP221, hwP224, hwP225, hwP226, hwP227, hwP228, hwP229, hwP230, hwP232, hwP234, hwP235, hwP236, hwV1, hwV2, hwV3, hwV9, hwO0, hwO1, hwO2, hwRA, hwRB, hwRI, hwRM103, hwRM104, hwRM108, hwLN, hwFL, hwW0, hwKC, hwWK⟩ := hI1; exact hwG141) tp
  obtain ⟨la, D, tb, wl, wz, hLB, hxc, hlx, hdr, hD0, h140, h0w, h201, h202, hlz, h24, hr203, hr0, hr49, hr50, hRR, hRW, hTA, hTB, hTC, hTD, hBW, hBM, hBO, hBK, hMX⟩ := hR
  have ltp := (hLB.1 220 fl_220 x tp h220).2.1
  have lbp : la tp = 10 := lk_220.mp (hLB.1 220 fl_220 x tp h220).2.2
  have ltb := (hLB.1 140 fl_140 tp tb h140).2.1
  have lbb : la tb = la tp + 1 := lk_140.mp (hLB.1 140 fl_140 tp tb h140).2.2
  obtain ⟨_, lbk, _⟩ := hLB.1 229 fl_229 x bk h229
  have lwd := (hLB.1 0 fl_0 bk wd h0w).2.1
  have lbw : la wd = 20 := lk_0.mp (hLB.1 0 fl_0 bk wd h0w).2.2
  have lwl := (hLB.1 201 fl_201 wd wl h201).2.1
  have lbl : la wl = la wd + 0 := lk_201.mp (hLB.1 201 fl_201 wd wl h201).2.2
  have lwz := (hLB.1 202 fl_202 wd wz h202).2.1
  have lbz : la wz = la wd + 0 := lk_202.mp (hLB.1 202 fl_202 wd wz h202).2.2
  obtain ⟨la1, hag, hLB1, hcc1, fG, fP, fU, fV, fX, fO, fln⟩ : ∃ la9 : Nat → Nat, (∀ z, z < cnt → la9 z = la z) ∧ LB la9 c_cnt c_P ∧ cnt ≤ c_cnt ∧ FRM cnt [60, 183, 203, 233] (fun z => (la z < 70 ∨ 70 + 2 < la z) ∧ (la z < 90 ∨ 90 + 8 < la z) ∧ (la z < 200 ∨ 200 + 3 < la z)) G c_G ∧ FRM cnt [66, 181, 182] (fun z => (la z < 70 ∨ 70 + 2 < la z) ∧ (la z < 90 ∨ 90 + 8 < la z) ∧ (la z < 200 ∨ 200 + 3 < la z)) P c_P ∧ FRM cnt [184] (fun z => (la z < 70 ∨ 70 + 2 < la z) ∧ (la z < 90 ∨ 90 + 8 < la z) ∧ (la z < 200 ∨ 200 + 3 < la z)) U c_U ∧ FRM cnt [0, 1, 2, 3, 5, 12] (fun z => (la z < 70 ∨ 70 + 2 < la z) ∧ (la z < 90 ∨ 90 + 8 < la z) ∧ (la z < 200 ∨ 200 + 3 < la z)) V c_V ∧ FRM cnt [1] (fun z => (la z < 70 ∨ 70 + 2 < la z) ∧ (la z < 90 ∨ 90 + 8 < la z) ∧ (la z < 200 ∨ 200 + 3 < la z)) X c_X ∧ FRM cnt [1] (fun z => (la z < 70 ∨ 70 + 2 < la z) ∧ (la z < 90 ∨ 90 + 8 < la z) ∧ (la z < 200 ∨ 200 + 3 < la z)) O c_O ∧ (∀ z, z < cnt → c_ln z = ln z) := fr_X11_collisions la G P U V X O kd ln cnt x y1 hLB hxc hlx _ hr1
  obtain ⟨rd, dr, ra, ⟨a1, a2, a3⟩, ⟨b1, b2, b3⟩, ⟨c1, c2, c3⟩, d1, d2, d3⟩ := id hRR
  obtain ⟨tn9, nw9, nx9, wh9, pg9, fi9, pa9, pk9, sz9, cl9, ah9, bh9, lah9, sah9, lbh9, sbh9, ⟨v1, v2, v3, v4⟩, ⟨i1, i2, i3, i4, i5, i6, i7⟩, _⟩ := RTC_ord hTC
  have htn9 : la tn9 = 90 := lk_226.mp (hLB.1 226 fl_226 x tn9 v1).2.2
  obtain ⟨bk9, fa9, fl9, sp9, lsp9, ssp9, ⟨q1, q2, q3, q4, q5, q6⟩, ⟨q7, q8⟩, q9, q10⟩ := id hBK
  have ebk : bk9 = bk := Option.some.inj (q1.symm.trans h229)
  rw [ebk] at q2 q3 q4
  have hWs9 : rwW (G 203 wd) (V 0 wl) (V 1 wz) 24 = wsR g F := by rw [hr203, hr49, hr50]
  have hDc9 : D < 100000 + 10 * cnt := by have z1 := hdr dr a2; have z2 := hLB.2 dr z1.1; omega
  have px : QF_X11_collisions κ wd la G P U V X O kd ln cnt x y1 ra tn9 bk nw9 nx9 wh9 pg9 fi9 pa9 pk9 sz9 cl9 fa9 fl9 sp9 lsp9 ssp9 wl wz D (RVf F) (wsR g F) (r1, c_G, c_P, c_U, c_V, c_X, c_O, c_kd, c_ln, c_cnt) := (fn_X11_collisions κ wd la G P U V X O kd ln cnt x y1 ra tn9 bk nw9 nx9 wh9 pg9 fi9 pa9 pk9 sz9 cl9 fa9 fl9 sp9 lsp9 ssp9 wl wz D (RVf F) (wsR g F) hI hκ hLB hxc hlx a3 v1 h229 v2 v3 v4 i1 i2 i3 i4 i5 i6 i7 htn9 q2 q3 q4 q5 q6 q7 q8 h201 h202 h24 hWs9 hBW q9 hDc9 h0w ⟨(Nat.le_antisymm (((CInv_P3 hI :) bk).2 fl9 q3).2.2.1 (((CInv_P3 hI :) bk).2 fl9 q3).2.1), (Nat.le_antisymm (((CInv_P1 hI :) bk).2 fa9 q2).2.2.1 (((CInv_P1 hI :) bk).2 fa9 q2).2.1)⟩ (Nat.le_antisymm (((CInv_P221 hI :) x).2 ra a3).2.2.1 (((CInv_P221 hI :) x).2 ra a3).2.1) (fun q hq => by rw [c1] at hq; obtain ⟨rf, k9, z1, z2, z3, z4, z5⟩ := d3 q hq; obtain ⟨ra2, rf2, u1, u2, u3⟩ := hTB q hq; have e1 : ra2 = ra := Option.some.inj (u1.symm.trans a3); rw [e1, z1] at u2; have e2 : rf = rf2 := Option.some.inj u2; rw [← e2] at u3; exact ⟨rf, z1, z2, by omega, ⟨_, z5⟩, u3, hRW q hq⟩)) _ hr1
  obtain ⟨la2, hag2, hLB2, k0, k1, k2, k3⟩ := px
  dsimp only at hLB2 k0 k1 k2 k3
  rw [c1] at k0 k1
  have hag := hag2
  have hLB1 := hLB2
  have hdr1 : ∀ b, c_P 224 x = some b → b < c_cnt ∧ la2 b = D := fun b hb => by rw [(fP 224 x hxc (fun q => absurd q (by decide)))] at hb; obtain ⟨h1, h2⟩ := hdr b hb; exact ⟨by omega, (hag b h1).trans h2⟩
  have hFc := va_fr2 hD hS hA
  have hPc := va_Pr hP
  have hDc := va_Drr hD
  obtain ⟨i0, hi0⟩ := hW.o11 hkx
  refine va_calli (va_runV (As := [.int y1]) (rest := []) ⟨hx, hb, hml, hown, hts⟩ (m_X11_collisions l dC dI kk ad H.size ws G P U V X O kd ln cnt x y1 hkx hW hT r1 c_G c_P c_U c_V c_X c_O c_kd c_ln c_cnt uc us hr1) (cwV 1 hts gl_X11_collisions rfl rfl rfl (by decide +kernel) ⟨Nat.le_of_ble_eq_true rfl, Nat.le_of_ble_eq_true rfl⟩) ⟨fun a U g mk q => by obtain ⟨q0, q1, qP, qK, qD⟩ := q; exact ⟨q0, q1, qP, va_K.moved (u := U) (U := U.calling g mk a) (Vm.Alike.refl U.vm) qK, qD⟩, va_recv hK hPc (ci := 11) (q0 := i0) rfl hi0, fun U hU hW => ⟨rfl, by rw [hU], by rw [hU]; exact hPc, va_K.moved hW.alike hK, hDc.weaken (fun _ _ _ _ => trivial)⟩⟩ rfl rfl hl.1 rfl (lv_room (Nat.le_of_ble_eq_true rfl)) dL_law_556 ⟨by show _ ≤ (600000 : Nat); omega, by show _ ≤ (7302250 : Nat); omega⟩) hS (fun q _ h => hFc q h) hFc (fun rr w t H1 locs ht1 hvm hw hB hz1 hk1 hS => ?_)
  obtain ⟨w, nad⟩ := w
  dsimp only at hw hB
  obtain ⟨hw0, hW1, hT1, hE2⟩ := hw
  subst hw0
  obtain ⟨hP1, hK1, hD1⟩ := hB
  rw [ht1] at hP1
  obtain ⟨hP, hD⟩ := va_join2 hP hD hk1 hFc hP1 hD1
  clear hFc hPc hDc hk1 hz1 hvm ht1 hP1 hD1 hK1
  generalize H1 = H at hP hS ⊢
  have hxa : ad x = nad x := (hE2.1 x (by rw [hkx]; decide)).symm
  have hkx2 := (hE2.2 x (by rw [hkx]; decide)).trans hkx
  refine lv_pop hx hb dL_law_559 rfl ?_
  refine lv_aload_n hx hb dL_law_560 rfl (lv_at hl 1 rfl) ?_
  refine lv_aload_n hx hb dL_law_561 rfl (lv_at hl 3 rfl) ?_
  refine lv_iload_n hx hb dL_law_562 rfl (lv_at hl 0 rfl) ?_
  refine lv_iconst (v := 1) hx hb dL_law_563 (by decide +kernel) ?_
  refine lv_iadd hx hb dL_law_564 ?_
  refine va_sld hx hb hX hbl hbA hS (z_in (by omega) (by omega)) dL_law_565 ?_
  refine lv_topi (fun z1 ez1 => ?_)
  obtain rfl : y1 = z1 := ey1.trans ez1.symm
  obtain ⟨hMI, hgn⟩ := hM
  refine MInv_e hMI (fun hmg1 hmg2 hmg3 hmg4 hmg5 hmg6 hmg7 hmg8 hmg9 hmg23 hmg27 hmg30 hmg34 hmg36 hmg39 hmg44 hmg47 hmg48 hmg51 hmg56 hmg59 hmg62 hmg65 hmg66 hmg70 hmF11 hmF12 hmF13 hmF15 hmF19 hmF21 hmF24 hmF25 hmF26 hmF33 hmF38 hmF41 hmF43 hmF45 hmF46 hmF50 hmF53 hmF54 hmLQ => ?_)
  obtain ⟨⟨r2, d_g23, d_g27, d_g30, d_g34, d_g36, d_g39, d_g51, d_g59, d_F22, d_F24, d_F25, d_F26, d_F28, d_F29, d_F31, d_F32, d_F33, d_F37, d_F38, d_F40, d_F41, d_F52, d_F53, d_F54, d_F58⟩, hr2, hbg23, hbg27, hbg30, hbg34, hbg36, hbg39, hbg51, hbg59, hbF24, hbF25, hbF26, hbF33, hbF38, hbF41, hbF53, hbF54⟩ := ok_collisions g F y1 hMI
  try dsimp only at hbg23
  try dsimp only at hbg27
  try dsimp only at hbg30
  try dsimp only at hbg34
  try dsimp only at hbg36
  try dsimp only at hbg39
  try dsimp only at hbg51
  try dsimp only at hbg59
  have hM1 : MS (upd (upd (upd (upd (upd (upd (upd (upd g 23 d_g23) 27 d_g27) 30 d_g30) 34 d_g34) 36 d_g36) 39 d_g39) 51 d_g51) 59 d_g59) (upF (upF (upF (upF (upF (upF (upF (upF (upF (upF (upF (upF (upF (upF (upF (upF (upF F 22 d_F22) 24 d_F24) 25 d_F25) 26 d_F26) 28 d_F28) 29 d_F29) 31 d_F31) 32 d_F32) 33 d_F33) 37 d_F37) 38 d_F38) 40 d_F40) 41 d_F41) 52 d_F52) 53 d_F53) 54 d_F54) 58 d_F58) (((c_G 141) tp).toInt) := ⟨(MInv_i hmg1 hmg2 hmg3 hmg4 hmg5 hmg6 hmg7 hmg8 hmg9 hbg23 hbg27 hbg30 hbg34 hbg36 hbg39 hmg44 hmg47 hmg48 hbg51 hmg56 hbg59 hmg62 hmg65 hmg66 hmg70 hmF11 hmF12 hmF13 hmF15 hmF19 hmF21 hbF24 hbF25 hbF26 hbF33 hbF38 hbF41 hmF43 hmF45 hmF46 hmF50 hbF53 hbF54 hmLQ), by show (g 1).toInt = ((c_G 141) tp).toInt; omega⟩
  have hRR1 : RLR (upd (upd (upd (upd (upd (upd (upd (upd g 23 d_g23) 27 d_g27) 30 d_g30) 34 d_g34) 36 d_g36) 39 d_g39) 51 d_g51) 59 d_g59) (upF (upF (upF (upF (upF (upF (upF (upF (upF (upF (upF (upF (upF (upF (upF (upF (upF F 22 d_F22) 24 d_F24) 25 d_F25) 26 d_F26) 28 d_F28) 29 d_F29) 31 d_F31) 32 d_F32) 33 d_F33) 37 d_F37) 38 d_F38) 40 d_F40) 41 d_F41) 52 d_F52) 53 d_F53) 54 d_F54) 58 d_F58) la2 D x c_G c_P c_V c_O c_ln c_cnt := RLR_keep hRR hLB hxc rfl rfl rfl (fun j j1 j2 => (Eq.trans (upF_lo (k := 58) (by decide) j2) (Eq.trans (upF_lo (k := 54) (by decide) j2) (Eq.trans (upF_lo (k := 53) (by decide) j2) (Eq.trans (upF_lo (k := 52) (by decide) j2) (Eq.trans (upF_lo (k := 41) (by decide) j2) (Eq.trans (upF_lo (k := 40) (by decide) j2) (Eq.trans (upF_lo (k := 38) (by decide) j2) (Eq.trans (upF_lo (k := 37) (by decide) j2) (Eq.trans (upF_lo (k := 33) (by decide) j2) (Eq.trans (upF_lo (k := 32) (by decide) j2) (Eq.trans (upF_lo (k := 31) (by decide) j2) (Eq.trans (upF_lo (k := 29) (by decide) j2) (Eq.trans (upF_lo (k := 28) (by decide) j2) (Eq.trans (upF_lo (k := 26) (by decide) j2) (Eq.trans (upF_lo (k := 25) (by decide) j2) (Eq.trans (upF_lo (k := 24) (by decide) j2) (Eq.trans (upF_lo (k := 22) (by decide) j2) rfl)))))))))))))))))) (fP 225 x hxc (fun q => absurd q (by decide))) (fP 224 x hxc (fun q => absurd q (by decide))) (fP 221 x hxc (fun q => absurd q (by decide))) (fG 222 x hxc (fun q => absurd q (by decide))) (fG 223 x hxc (fun q => absurd q (by decide))) (fun z hz hl3 => ⟨(fG 80 z hz (fun q => absurd q (by decide))), (fG 81 z hz (fun q => absurd q (by decide)))⟩) (fun z hz => (fO 2 z hz (fun q => absurd q (by decide)))) (fun z hz hl3 => by have h7 : (la z < 70 ∨ 70 + 2 < la z) ∧ (la z < 90 ∨ 90 + 8 < la z) ∧ (la z < 200 ∨ 200 + 3 < la z) := (by omega); exact ⟨(fG 100 z hz (fun q => absurd q (by decide))), (fG 102 z hz (fun q => absurd q (by decide))), (fG 107 z hz (fun q => absurd q (by decide))), (fG 200 z hz (fun q => absurd q (by decide))), (fG 203 z hz (fun q => h7)), (fG 24 z hz (fun q => absurd q (by decide))), (fG 25 z hz (fun q => absurd q (by decide))), (fP 101 z hz (fun q => absurd q (by decide))), (fP 103 z hz (fun q => absurd q (by decide))), (fP 104 z hz (fun q => absurd q (by decide))), (fP 105 z hz (fun q => absurd q (by decide))), (fP 106 z hz (fun q => absurd q (by decide))), (fP 201 z hz (fun q => absurd q (by decide))), (fP 202 z hz (fun q => absurd q (by decide))), (fP 20 z hz (fun q => absurd q (by decide))), (fP 21 z hz (fun q => absurd q (by decide))), (fP 22 z hz (fun q => absurd q (by decide))), (fP 23 z hz (fun q => absurd q (by decide))), (fV 0 z hz (fun q => h7)), (fV 1 z hz (fun q => h7)), (fV 10 z hz (fun q => absurd q (by decide))), (fO 0 z hz (fun q => absurd q (by decide))), fln z hz⟩) hcc1 hag
  have hRW1 : RLW (upd (upd (upd (upd (upd (upd (upd (upd g 23 d_g23) 27 d_g27) 30 d_g30) 34 d_g34) 36 d_g36) 39 d_g39) 51 d_g51) 59 d_g59) (upF (upF (upF (upF (upF (upF (upF (upF (upF (upF (upF (upF (upF (upF (upF (upF (upF F 22 d_F22) 24 d_F24) 25 d_F25) 26 d_F26) 28 d_F28) 29 d_F29) 31 d_F31) 32 d_F32) 33 d_F33) 37 d_F37) 38 d_F38) 40 d_F40) 41 d_F41) 52 d_F52) 53 d_F53) 54 d_F54) 58 d_F58) := RLW_keep hRW rfl (fun j j1 j2 => (Eq.trans (upF_lo (k := 58) (by decide) j2) (Eq.trans (upF_lo (k := 54) (by decide) j2) (Eq.trans (upF_lo (k := 53) (by decide) j2) (Eq.trans (upF_lo (k := 52) (by decide) j2) (Eq.trans (upF_lo (k := 41) (by decide) j2) (Eq.trans (upF_lo (k := 40) (by decide) j2) (Eq.trans (upF_lo (k := 38) (by decide) j2) (Eq.trans (upF_lo (k := 37) (by decide) j2) (Eq.trans (upF_lo (k := 33) (by decide) j2) (Eq.trans (upF_lo (k := 32) (by decide) j2) (Eq.trans (upF_lo (k := 31) (by decide) j2) (Eq.trans (upF_lo (k := 29) (by decide) j2) (Eq.trans (upF_lo (k := 28) (by decide) j2) (Eq.trans (upF_lo (k := 26) (by decide) j2) (Eq.trans (upF_lo (k := 25) (by decide) j2) (Eq.trans (upF_lo (k := 24) (by decide) j2) (Eq.trans (upF_lo (k := 22) (by decide) j2) rfl))))))))))))))))))
  have hTD1 : RTD (upd (upd (upd (upd (upd (upd (upd (upd g 23 d_g23) 27 d_g27) 30 d_g30) 34 d_g34) 36 d_g36) 39 d_g39) 51 d_g51) 59 d_g59) (upF (upF (upF (upF (upF (upF (upF (upF (upF (upF (upF (upF (upF (upF (upF (upF (upF F 22 d_F22) 24 d_F24) 25 d_F25) 26 d_F26) 28 d_F28) 29 d_F29) 31 d_F31) 32 d_F32) 33 d_F33) 37 d_F37) 38 d_F38) 40 d_F40) 41 d_F41) 52 d_F52) 53 d_F53) 54 d_F54) 58 d_F58) x c_G c_P c_V c_ln := RTD_keep hTD hLB (fP 227 x hxc (fun q => absurd q (by decide))) rfl rfl rfl (fun z hz => ⟨(fP 201 z hz (fun q => absurd q (by decide))), (fP 202 z hz (fun q => absurd q (by decide))), (fG 200 z hz (fun q => absurd q (by decide))), fln z hz⟩) (fun z hz hl3 => (by have h7 : (la z < 70 ∨ 70 + 2 < la z) ∧ (la z < 90 ∨ 90 + 8 < la z) ∧ (la z < 200 ∨ 200 + 3 < la z) := (by omega); exact ⟨(fG 203 z hz (fun q => h7)), (fV 0 z hz (fun q => h7)), (fV 1 z hz (fun q => h7))⟩))
  have hTA1 : RTA x c_G c_P c_ln := RTA_keep hTA hLB (fP 224 x hxc (fun q => absurd q (by decide))) (fun z hz => ⟨(fP 108 z hz (fun q => absurd q (by decide))), (fP 109 z hz (fun q => absurd q (by decide))), (fP 201 z hz (fun q => absurd q (by decide))), (fP 202 z hz (fun q => absurd q (by decide))), (fG 200 z hz (fun q => absurd q (by decide))), fln z hz⟩)
  have hTB1 : RTB (upd (upd (upd (upd (upd (upd (upd (upd g 23 d_g23) 27 d_g27) 30 d_g30) 34 d_g34) 36 d_g36) 39 d_g39) 51 d_g51) 59 d_g59) (upF (upF (upF (upF (upF (upF (upF (upF (upF (upF (upF (upF (upF (upF (upF (upF (upF F 22 d_F22) 24 d_F24) 25 d_F25) 26 d_F26) 28 d_F28) 29 d_F29) 31 d_F31) 32 d_F32) 33 d_F33) 37 d_F37) 38 d_F38) 40 d_F40) 41 d_F41) 52 d_F52) 53 d_F53) 54 d_F54) 58 d_F58) x c_G c_P c_V c_O := fun q hq => RTB_one hTB hRR hLB hq (RVf_eq (fun j j1 j2 => (Eq.trans (upF_lo (k := 58) (by decide) j2) (Eq.trans (upF_lo (k := 54) (by decide) j2) (Eq.trans (upF_lo (k := 53) (by decide) j2) (Eq.trans (upF_lo (k := 52) (by decide) j2) (Eq.trans (upF_lo (k := 41) (by decide) j2) (Eq.trans (upF_lo (k := 40) (by decide) j2) (Eq.trans (upF_lo (k := 38) (by decide) j2) (Eq.trans (upF_lo (k := 37) (by decide) j2) (Eq.trans (upF_lo (k := 33) (by decide) j2) (Eq.trans (upF_lo (k := 32) (by decide) j2) (Eq.trans (upF_lo (k := 31) (by decide) j2) (Eq.trans (upF_lo (k := 29) (by decide) j2) (Eq.trans (upF_lo (k := 28) (by decide) j2) (Eq.trans (upF_lo (k := 26) (by decide) j2) (Eq.trans (upF_lo (k := 25) (by decide) j2) (Eq.trans (upF_lo (k := 24) (by decide) j2) (Eq.trans (upF_lo (k := 22) (by decide) j2) rfl))))))))))))))))))) (fun z9 h1 => (by have hz9 := (hLB.1 221 fl_221 x z9 h1).2.1; exact congrFun (fO 2 z9 hz9 (fun q => absurd q (by decide))) q)) (fP 221 x hxc (fun q => absurd q (by decide))) (fun z hz => ⟨(fP 108 z hz (fun q => absurd q (by decide))), (fP 109 z hz (fun q => absurd q (by decide))), (fP 201 z hz (fun q => absurd q (by decide))), (fP 202 z hz (fun q => absurd q (by decide))), (fG 200 z hz (fun q => absurd q (by decide)))⟩) (fun z hz h1 h2 => (by have h7 : (la z < 70 ∨ 70 + 2 < la z) ∧ (la z < 90 ∨ 90 + 8 < la z) ∧ (la z < 200 ∨ 200 + 3 < la z) := (by omega); exact ⟨(fG 203 z hz (fun q => h7)), (fV 0 z hz (fun q => h7)), (fV 1 z hz (fun q => h7)), (fV 11 z hz (fun q => absurd q (by decide)))⟩))
  have hTC1 : RTC la2 x c_G c_P c_ln := RTC_keep hTC hLB (fP 226 x hxc (fun q => absurd q (by decide))) (fun t9 n9 x9 a9 b9 q1 q2 q3 => sw_X11_collisions la G P U V X O kd ln cnt x y1 hLB hxc hlx t9 n9 x9 a9 b9 q2 q3 _ hr1) (fun z hz => ⟨(fP 185 z hz (fun q => absurd q (by decide))), (fP 180 z hz (fun q => absurd q (by decide))), (fP 63 z hz (fun q => absurd q (by decide))), (fP 65 z hz (fun q => absurd q (by decide))), (fP 62 z hz (fun q => absurd q (by decide))), (fP 61 z hz (fun q => absurd q (by decide))), (fP 64 z hz (fun q => absurd q (by decide))), (fP 201 z hz (fun q => absurd q (by decide))), (fP 202 z hz (fun q => absurd q (by decide))), (fG 200 z hz (fun q => absurd q (by decide))), fln z hz⟩) hag
  have qx : QF_collisions g F y1 (RVf F) (wsR g F) (r2, d_g23, d_g27, d_g30, d_g34, d_g36, d_g39, d_g51, d_g59, d_F22, d_F24, d_F25, d_F26, d_F28, d_F29, d_F31, d_F32, d_F33, d_F37, d_F38, d_F40, d_F41, d_F52, d_F53, d_F54, d_F58) := pwq (fn_collisions g F y1 (RVf F) (wsR g F) hMI (fun q hq => ⟨rfl, hRW q hq⟩) rfl hBW hBM) hr2
  obtain ⟨n0, n1, n2⟩ := qx
  try dsimp only at n0 n1 n2
  have hBW1 : RBW (upd (upd (upd (upd (upd (upd (upd (upd g 23 d_g23) 27 d_g27) 30 d_g30) 34 d_g34) 36 d_g36) 39 d_g39) 51 d_g51) 59 d_g59) (upF (upF (upF (upF (upF (upF (upF (upF (upF (upF (upF (upF (upF (upF (upF (upF (upF F 22 d_F22) 24 d_F24) 25 d_F25) 26 d_F26) 28 d_F28) 29 d_F29) 31 d_F31) 32 d_F32) 33 d_F33) 37 d_F37) 38 d_F38) 40 d_F40) 41 d_F41) 52 d_F52) 53 d_F53) 54 d_F54) 58 d_F58) := RBW_keep hBW rfl rfl rfl
  have hBM1 : RBM (upd (upd (upd (upd (upd (upd (upd (upd g 23 d_g23) 27 d_g27) 30 d_g30) 34 d_g34) 36 d_g36) 39 d_g39) 51 d_g51) 59 d_g59) (upF (upF (upF (upF (upF (upF (upF (upF (upF (upF (upF (upF (upF (upF (upF (upF (upF F 22 d_F22) 24 d_F24) 25 d_F25) 26 d_F26) 28 d_F28) 29 d_F29) 31 d_F31) 32 d_F32) 33 d_F33) 37 d_F37) 38 d_F38) 40 d_F40) 41 d_F41) 52 d_F52) 53 d_F53) 54 d_F54) 58 d_F58) := RBM_new n2 rfl rfl (fun j j1 j2 => (Eq.trans (upF_lo (k := 58) (by decide) j2) (Eq.trans (upF_lo (k := 54) (by decide) j2) (Eq.trans (upF_lo (k := 53) (by decide) j2) (Eq.trans (upF_lo (k := 52) (by decide) j2) (Eq.trans (upF_lo (k := 41) (by decide) j2) (Eq.trans (upF_lo (k := 40) (by decide) j2) (Eq.trans (upF_lo (k := 38) (by decide) j2) (Eq.trans (upF_lo (k := 37) (by decide) j2) (Eq.trans (upF_lo (k := 33) (by decide) j2) (Eq.trans (upF_lo (k := 32) (by decide) j2) (Eq.trans (upF_lo (k := 31) (by decide) j2) (Eq.trans (upF_lo (k := 29) (by decide) j2) (Eq.trans (upF_lo (k := 28) (by decide) j2) (Eq.trans (upF_lo (k := 26) (by decide) j2) (Eq.trans (upF_lo (k := 25) (by decide) j2) (Eq.trans (upF_lo (k := 24) (by decide) j2) (Eq.trans (upF_lo (k := 22) (by decide) j2) rfl)))))))))))))))))) rfl rfl
  have hBK1 : RBK (upd (upd (upd (upd (upd (upd (upd (upd g 23 d_g23) 27 d_g27) 30 d_g30) 34 d_g34) 36 d_g36) 39 d_g39) 51 d_g51) 59 d_g59) (upF (upF (upF (upF (upF (upF (upF (upF (upF (upF (upF (upF (upF (upF (upF (upF (upF F 22 d_F22) 24 d_F24) 25 d_F25) 26 d_F26) 28 d_F28) 29 d_F29) 31 d_F31) 32 d_F32) 33 d_F33) 37 d_F37) 38 d_F38) 40 d_F40) 41 d_F41) 52 d_F52) 53 d_F53) 54 d_F54) 58 d_F58) la2 D x c_G c_P c_V c_O c_ln c_cnt := RBK_fill (c := G 222 x) hLB h229 q2 q3 q4 q5 q6 q7 q8 q10 k2 k3 c1 rfl hmg9.1 (fun j j1 j2 => (Eq.trans (upF_lo (k := 58) (by decide) j2) (Eq.trans (upF_lo (k := 54) (by decide) j2) (Eq.trans (upF_lo (k := 53) (by decide) j2) (Eq.trans (upF_lo (k := 52) (by decide) j2) (Eq.trans (upF_lo (k := 41) (by decide) j2) (Eq.trans (upF_lo (k := 40) (by decide) j2) (Eq.trans (upF_lo (k := 38) (by decide) j2) (Eq.trans (upF_lo (k := 37) (by decide) j2) (Eq.trans (upF_lo (k := 33) (by decide) j2) (Eq.trans (upF_lo (k := 32) (by decide) j2) (Eq.trans (upF_lo (k := 31) (by decide) j2) (Eq.trans (upF_lo (k := 29) (by decide) j2) (Eq.trans (upF_lo (k := 28) (by decide) j2) (Eq.trans (upF_lo (k := 26) (by decide) j2) (Eq.trans (upF_lo (k := 25) (by decide) j2) (Eq.trans (upF_lo (k := 24) (by decide) j2) (Eq.trans (upF_lo (k := 22) (by decide) j2) rfl)))))))))))))))))) rfl (fP 229 x hxc (fun q => absurd q (by decide))) (fun z hz => ⟨(fP 1 z hz (fun q => absurd q (by decide))), (fP 3 z hz (fun q => absurd q (by decide))), (fP 4 z hz (fun q => absurd q (by decide))), (fP 201 z hz (fun q => absurd q (by decide))), (fP 202 z hz (fun q => absurd q (by decide))), (fG 200 z hz (fun q => absurd q (by decide))), fln z hz⟩)
  have hBO1 : RBO (upd (upd (upd (upd (upd (upd (upd (upd g 23 d_g23) 27 d_g27) 30 d_g30) 34 d_g34) 36 d_g36) 39 d_g39) 51 d_g51) 59 d_g59) (upF (upF (upF (upF (upF (upF (upF (upF (upF (upF (upF (upF (upF (upF (upF (upF (upF F 22 d_F22) 24 d_F24) 25 d_F25) 26 d_F26) 28 d_F28) 29 d_F29) 31 d_F31) 32 d_F32) 33 d_F33) 37 d_F37) 38 d_F38) 40 d_F40) 41 d_F41) 52 d_F52) 53 d_F53) 54 d_F54) 58 d_F58) x c_G c_P c_V := RBO_keep hBO hLB (fP 230 x hxc (fun q => absurd q (by decide))) (fG 231 x hxc (fun q => absurd q (by decide))) (fun z hz h1 => by have hl9 : la z = 201 := (by have z9 := lk_230.mp (hLB.1 230 fl_230 x z h1).2.2; omega); exact (fV 4 z hz (fun q => absurd q (by decide)))) rfl rfl
  have hMX1 : RMX (upd (upd (upd (upd (upd (upd (upd (upd g 23 d_g23) 27 d_g27) 30 d_g30) 34 d_g34) 36 d_g36) 39 d_g39) 51 d_g51) 59 d_g59) (upF (upF (upF (upF (upF (upF (upF (upF (upF (upF (upF (upF (upF (upF (upF (upF (upF F 22 d_F22) 24 d_F24) 25 d_F25) 26 d_F26) 28 d_F28) 29 d_F29) 31 d_F31) 32 d_F32) 33 d_F33) 37 d_F37) 38 d_F38) 40 d_F40) 41 d_F41) 52 d_F52) 53 d_F53) 54 d_F54) 58 d_F58) x c_G c_P c_V := RMX_keep hMX hLB (fP 236 x hxc (fun q => absurd q (by decide))) (fun z hz hl3 => ⟨(fP 42 z hz (fun q => absurd q (by decide))), (fG 43 z hz (fun q => absurd q (by decide))), (fV 9 z hz (fun q => absurd q (by decide)))⟩) rfl rfl
  have hRL : RLB (upd (upd (upd (upd (upd (upd (upd (upd g 23 d_g23) 27 d_g27) 30 d_g30) 34 d_g34) 36 d_g36) 39 d_g39) 51 d_g51) 59 d_g59) (upF (upF (upF (upF (upF (upF (upF (upF (upF (upF (upF (upF (upF (upF (upF (upF (upF F 22 d_F22) 24 d_F24) 25 d_F25) 26 d_F26) 28 d_F28) 29 d_F29) 31 d_F31) 32 d_F32) 33 d_F33) 37 d_F37) 38 d_F38) 40 d_F40) 41 d_F41) 52 d_F52) 53 d_F53) 54 d_F54) 58 d_F58) x tp bk wd c_G c_P c_V c_O c_ln c_cnt := ⟨la2, D, tb, wl, wz, hLB1, (by omega), ((hag x hxc).trans hlx), hdr1, hD0, ((fP 140 tp ltp (fun q => absurd q (by decide))).trans h140), ((fP 0 bk lbk (fun q => absurd q (by decide))).trans h0w), ((fP 201 wd lwd (fun q => absurd q (by decide))).trans h201), ((fP 202 wd lwd (fun q => absurd q (by decide))).trans h202), ((fln wz lwz).trans hlz), ((congrArg Int32.toInt (fG 200 wd lwd (fun q => absurd q (by decide)))).trans h24), ((fG 203 wd lwd (fun q => show (la wd < 70 ∨ 70 + 2 < la wd) ∧ (la wd < 90 ∨ 90 + 8 < la wd) ∧ (la wd < 200 ∨ 200 + 3 < la wd) from by omega)).trans hr203), ((fV 0 tb ltb (fun q => show (la tb < 70 ∨ 70 + 2 < la tb) ∧ (la tb < 90 ∨ 90 + 8 < la tb) ∧ (la tb < 200 ∨ 200 + 3 < la tb) from by omega)).trans hr0), ((fV 0 wl lwl (fun q => show (la wl < 70 ∨ 70 + 2 < la wl) ∧ (la wl < 90 ∨ 90 + 8 < la wl) ∧ (la wl < 200 ∨ 200 + 3 < la wl) from by omega)).trans hr49), ((fV 1 wz lwz (fun q => show (la wz < 70 ∨ 70 + 2 < la wz) ∧ (la wz < 90 ∨ 90 + 8 < la wz) ∧ (la wz < 200 ∨ 200 + 3 < la wz) from by omega)).trans hr50), hRR1, hRW1, hTA1, hTB1, hTC1, hTD1, hBW1, hBM1, hBO1, hBK1, hMX1⟩
  have hC1 : CS kk w (ad x) (((c_G 141) tp).toInt) (s7 ((c_V 3) fl)) (upd (upd (upd (upd (upd (upd (upd (upd g 23 d_g23) 27 d_g27) 30 d_g30) 34 d_g34) 36 d_g36) 39 d_g39) 51 d_g51) 59 d_g59) (upF (upF (upF (upF (upF (upF (upF (upF (upF (upF (upF (upF (upF (upF (upF (upF (upF F 22 d_F22) 24 d_F24) 25 d_F25) 26 d_F26) 28 d_F28) 29 d_F29) 31 d_F31) 32 d_F32) 33 d_F33) 37 d_F37) 38 d_F38) 40 d_F40) 41 d_F41) 52 d_F52) 53 d_F53) 54 d_F54) 58 d_F58) := ⟨nad, κ1, wd, c_G, c_P, c_U, c_V, c_X, c_O, c_kd, c_ln, c_cnt, x, tp, bk, fl, hxa, hW1, hT1, hI1, hkx2, (hkx1 x (by rw [hκ]; decide)).trans hκ, hf220, hf229, hf3, rfl, rfl, hRL⟩
  replace hP := va_Psw hP
  replace hD := va_Dsw hD
  have hFc := va_fr2 hD hS hA
  have hPc := va_Pr hP
  have hDc := va_Drr hD
  have hKm : va_K (dC, dI) vwCl (mT (kk 0) (kk 1) (kk 2)) s := hK.sub [0, 1, 2] rfl
  refine va_calli (va_runV (As := [.int y1]) (rest := []) ⟨hx, hb, hml, hown, hts⟩ (m_collisions l dC dI H.size h0 (kk 0) (kk 1) (kk 2) q g F y1 r2 d_g23 d_g27 d_g30 d_g34 d_g36 d_g39 d_g51 d_g59 d_F22 d_F24 d_F25 d_F26 d_F28 d_F29 d_F31 d_F32 d_F33 d_F37 d_F38 d_F40 d_F41 d_F52 d_F53 d_F54 d_F58 hr2) (cwV 1 hts gl_X12_collisions rfl rfl rfl (by decide +kernel) ⟨Nat.le_of_ble_eq_true rfl, Nat.le_of_ble_eq_true rfl⟩) ⟨fun a U g mk q => by obtain ⟨q0, q1, qP, qK, qD⟩ := q; exact ⟨q0, q1, qP, va_K.moved (u := U) (U := U.calling g mk a) (Vm.Alike.refl U.vm) qK, qD⟩, va_recv hKm hPc (ci := 12) (q0 := 0) rfl rfl, fun U hU hW => ⟨rfl, by rw [hU], by rw [hU]; exact hPc, va_K.moved hW.alike hKm, hDc.weaken (fun _ _ _ _ => trivial)⟩⟩ rfl rfl hl.1 rfl (lv_room (Nat.le_of_ble_eq_true rfl)) dL_law_566 ⟨by show _ ≤ (600000 : Nat); omega, by show _ ≤ (7302250 : Nat); omega⟩) hS (fun q _ h => hFc q h) hFc (fun rr2 u t H1 locs ht1 hvm hw hB hz1 hk1 hS => ?_)
  subst hw
  obtain ⟨hP1, hK1, hD1⟩ := hB
  rw [ht1] at hP1
  obtain ⟨hP, hD⟩ := va_join2 hP hD hk1 hFc hP1 hD1
  replace hP := va_Psw hP
  replace hD := va_Dsw hD
  refine lv_pop hx hb dL_law_569 rfl ?_
  refine lv_goto (tgt := 833) hx hb dL_law_570 (by decide) ?_
  exact kont w (upd (upd (upd (upd (upd (upd (upd (upd g 23 d_g23) 27 d_g27) 30 d_g30) 34 d_g34) 36 d_g36) 39 d_g39) 51 d_g51) 59 d_g59) (upF (upF (upF (upF (upF (upF (upF (upF (upF (upF (upF (upF (upF (upF (upF (upF (upF F 22 d_F22) 24 d_F24) 25 d_F25) 26 d_F26) 28 d_F28) 29 d_F29) 31 d_F31) 32 d_F32) 33 d_F33) 37 d_F37) 38 d_F38) 40 d_F40) 41 d_F41) 52 d_F52) 53 d_F53) 54 d_F54) 58 d_F58) (((c_G 141) tp).toInt) (s7 ((c_V 3) fl)) _ _ _ _ hC1 hM1 (by omega) (by omega) hP hD hS
