abbrev QF_X0_hasForm (κ : Nat → Nat) (wd : Nat) (la : Nat → Nat) (G : Nat → Nat → Int32) (P : Nat → Nat → Option Nat) (U : Nat → Nat → Int64) (V : Nat → Nat → Nat → Int32) (X : Nat → Nat → Nat → Int64) (O : Nat → Nat → Nat → Option Nat) (kd : Nat → Nat) (ln : Nat → Nat) (cnt : Nat) (this : Nat) (p0 : Int32) (p1 : Nat) (p2 : Int32) (p3 : Int32) (fa : Nat) (D : Nat) (N : Nat) (T : Nat → List Wd) (W : Wd) : (Int32) → Prop := (fun t => ((t.toInt ≠ 0 → knT T N W = true)) ∧ ((t.toInt = 0 → knT T N W = false)))
set_option maxHeartbeats 4000000 in
set_option maxRecDepth 100000 in
theorem fn_X0_hasForm (κ : Nat → Nat) (wd : Nat) (la : Nat → Nat) (G : Nat → Nat → Int32) (P : Nat → Nat → Option Nat) (U : Nat → Nat → Int64) (V : Nat → Nat → Nat → Int32) (X : Nat → Nat → Nat → Int64) (O : Nat → Nat → Nat → Option Nat) (kd : Nat → Nat) (ln : Nat → Nat) (cnt : Nat) (this : Nat) (p0 : Int32) (p1 : Nat) (p2 : Int32) (p3 : Int32) (fa : Nat) (D : Nat) (N : Nat) (T : Nat → List Wd) (W : Wd) (hzG200 : rng (0) 24 (G 200)) (hzG203 : rng (0) 100 (G 203)) (hzP0 : PB κ ln wd 1 11 0 2500 0 (P 0)) (hzP1 : PB κ ln wd 1 301 700 700 0 (P 1)) (hzP5 : PB κ ln wd 1 11 0 2500 0 (P 5)) (hzP201 : PB κ ln wd 11 100 0 2400 0 (P 201)) (hzP202 : PB κ ln wd 11 101 0 100 0 (P 202)) (hzV1 : rng2 (0) 24 (V 1)) (hzO1 : OB κ 11 (O 1)) (hzRA : RA κ ln (G 200) (P 201) (P 202)) (hzRB : RB κ ln (G 200) (G 203) (P 202) (V 1)) (hzRI : RI (P 202)) (hzLN : LN κ ln) (hzW0 : W0 wd (P 0)) (hk_this : κ this = 1) (hk_p1 : κ p1 = 100) (hp0 : (0 ≤ p0.toInt ∧ p0.toInt ≤ 6)) (hB : LB la cnt P) (hlt_this : this < cnt) (hlt_p1 : p1 < cnt) (h1 : (P 1) this = some fa) (h0 : (P 0) this = some wd) (hN : Int32.toNatClampNeg ((G 203) wd) = N) (hrw : ∀ w, w < N → ROWF G P V la cnt D ((O 1) fa (100 * Int32.toNatClampNeg p0 + w)) (T w)) (hW : wdl ((V 0) p1) (Int32.toNatClampNeg p2) (Int32.toNatClampNeg p3) = W) (hbd : 0 ≤ p2.toInt ∧ 0 ≤ p3.toInt ∧ p2.toInt + p3.toInt ≤ ((ln p1 : Nat) : Int)) : pw (f_X0_hasForm G P U V X O kd ln cnt this p0 p1 p2 p3) (QF_X0_hasForm κ wd la G P U V X O kd ln cnt this p0 p1 p2 p3 fa D N T W) := by
  unfold f_X0_hasForm
  have zkm1 : (-1 : Int32).toInt = -1 := by decide +kernel
  have zk0 : (0 : Int32).toInt = 0 := by decide +kernel
  have zk1 : (1 : Int32).toInt = 1 := by decide +kernel
  have r_p0 := i32r p0
  have r_p2 := i32r p2
  have r_p3 := i32r p3
  have hn1 : (P 1) this = some fa := h1
  have lt_fa2 := ((hB.1 1 fl_1) this fa hn1).2.1
  have lb_fa2 : la fa = la this + 0 := lk_1.mp ((hB.1 1 fl_1) this fa hn1).2.2
  have hk_fa := ((hzP1 this).2 fa hn1).1
  have hl1_fa := ((hzP1 this).2 fa hn1).2.1
  have hl2_fa := ((hzP1 this).2 fa hn1).2.2.1
  have hw_fa := ((hzP1 this).2 fa hn1).2.2.2
  have hz_fa : (Int32.ofNat (ln fa)).toInt = ((ln fa : Nat) : Int) := ofN_eq (by first | exact Nat.le_trans hl2_fa (by decide) | omega)
  have hn3 : (P 0) this = some wd := h0
  have lt_wd4 := ((hB.1 0 fl_0) this wd hn3).2.1
  have lb_wd4 : la wd = 20 := lk_0.mp ((hB.1 0 fl_0) this wd hn3).2.2
  have hk_wd := ((hzP0 this).2 wd hn3).1
  have hl1_wd := ((hzP0 this).2 wd hn3).2.1
  have hl2_wd := ((hzP0 this).2 wd hn3).2.2.1
  have hw_wd := ((hzP0 this).2 wd hn3).2.2.2
  have cp0 := clampI (x := p0) (by omega)
  have hbw := hzG203 wd
  have cbw := clampI (x := (G 203) wd) (by omega)
  have lp3 : ∀ (n3 : Nat) (y3_5 : Int32), (0 ≤ y3_5.toInt ∧ y3_5.toInt ≤ 100) → y3_5.toInt ≤ ((G 203) wd).toInt → (∀ w, w < Int32.toNatClampNeg y3_5 → W ∉ T w) → pw (L_X0_hasForm_3 G P U V X O kd ln cnt this p0 p1 p2 p3 n3 y3_5) (QF_X0_hasForm κ wd la G P U V X O kd ln cnt this p0 p1 p2 p3 fa D N T W) := by
    intro n3
    induction n3 with
    | zero => intros; exact pw_none
    | succ n3 ih3 =>
      intro y3_5 f5 f6 in3
      show pw (B_X0_hasForm_3 G P U V X O kd ln cnt this p0 p1 p2 p3 (L_X0_hasForm_3 G P U V X O kd ln cnt this p0 p1 p2 p3 n3) y3_5) _
      unfold B_X0_hasForm_3
      refine pw_nne hn3 ?_
      have b7 := hzG203 wd
      refine pw_ite (fun c12 => ?_) (fun c12 => ?_)
      · have c12 := (z_le _ _).mp c12
        have qq0 : ((0 : Int32).toInt ≠ 0 → knT T N W = true) := by intro h; exfalso; omega
        have qq1 : ((0 : Int32).toInt = 0 → knT T N W = false) := by intro _; have k5 := clampI (x := y3_5) (by omega); exact knT_f (fun w hw => in3 w (by omega))
        exact pw_some ⟨qq0, qq1⟩
      · have c12 := z_nle c12
        have k5 := clampI (x := y3_5) (by omega)
        have hpr19_0 : (0 ≤ p0.toInt ∧ p0.toInt ≤ 6) := by first | assumption | omega
        have hpr19_1 : (0 ≤ y3_5.toInt ∧ y3_5.toInt < 100) := by first | assumption | omega
        refine pw_b1 (fun r19 hc19 => ?_)
        have hq19 := wp_at (ok_X0_formsAt κ wd G P U V X O kd ln cnt this p0 y3_5 hzP1 hzP5 hzO1 hzLN hk_this hpr19_0 hpr19_1) hc19
        have hk8 : κ r19 = 11 := hq19
        clear hq19
        have h819_h1 : (P 1) this = some fa := by exact h1
        have hx19 := pwq (fn_X0_formsAt κ wd la G P U V X O kd ln cnt this p0 y3_5 (fa) hzP1 hzP5 hzO1 hzLN hk_this hpr19_0 hpr19_1 hB hlt_this h819_h1) hc19
        have p19_0 : (∀ b, (O 1) fa (Int32.toNatClampNeg (p0 * 100 + y3_5)) = some b → r19 = b) := hx19
        clear hx19
        have f100 : (p0 * 100).toInt = p0.toInt * 100 := z_mulc (by decide +kernel) (by omega) (by omega)
        have f101 : ((p0 * 100) + y3_5).toInt = (p0 * 100).toInt + y3_5.toInt := z_add (by omega) (by omega)
        have kq := clampI (x := (p0 * 100) + y3_5) (by omega)
        obtain ⟨row, lr, sr, e1, ⟨e2, _, _⟩, ⟨e5, e6, e7⟩, e8⟩ := hrw (Int32.toNatClampNeg y3_5) (by omega)
        have er : r19 = row := p19_0 row (by rw [← e1]; exact congrArg ((O 1) fa) (by omega))
        have e5r : (P 201) r19 = some lr := by rw [er]; exact e5
        have e6r : (P 202) r19 = some sr := by rw [er]; exact e6
        have hn9 : (P 201) r19 = some lr := e5r
        have lt_lr10 := ((hB.1 201 fl_201) r19 lr hn9).2.1
        have lb_lr10 : la lr = la r19 + 0 := lk_201.mp ((hB.1 201 fl_201) r19 lr hn9).2.2
        have hk_lr := ((hzP201 r19).2 lr hn9).1
        have hl1_lr := ((hzP201 r19).2 lr hn9).2.1
        have hl2_lr := ((hzP201 r19).2 lr hn9).2.2.1
        have hw_lr := ((hzP201 r19).2 lr hn9).2.2.2
        have hz_lr : (Int32.ofNat (ln lr)).toInt = ((ln lr : Nat) : Int) := ofN_eq (by first | exact Nat.le_trans hl2_lr (by decide) | omega)
        have hn11 : (P 202) r19 = some sr := e6r
        have lt_sr12 := ((hB.1 202 fl_202) r19 sr hn11).2.1
        have lb_sr12 : la sr = la r19 + 0 := lk_202.mp ((hB.1 202 fl_202) r19 sr hn11).2.2
        have hk_sr := ((hzP202 r19).2 sr hn11).1
        have hl1_sr := ((hzP202 r19).2 sr hn11).2.1
        have hl2_sr := ((hzP202 r19).2 sr hn11).2.2.1
        have hw_sr := ((hzP202 r19).2 sr hn11).2.2.2
        have hz_sr : (Int32.ofNat (ln sr)).toInt = ((ln sr : Nat) : Int) := ofN_eq (by first | exact Nat.le_trans hl2_sr (by decide) | omega)
        have rb13 := (hzRB r19 sr hk8 hn11).1
        have ra14 := hzRA r19 lr sr hk8 hn9 hn11
        have bw15 := hzG200 r19
        refine pw_b1 (fun r26 hc26 => ?_)
        have hq26 := wp_at (ok_X10_find κ wd G P U V X O kd ln cnt r19 p1 p2 p3 hzG200 hzG203 hzP201 hzP202 hzV1 hzRA hzRB hzRI hzLN hk8 hk_p1) hc26
        obtain ⟨f16, f17⟩ : (((-1) ≤ r26.toInt ∧ r26.toInt < 100)) ∧ ((r26.toInt = -1 ∨ r26.toInt < ((G 203) r19).toInt)) := hq26
        have h826_hl : (P 201) r19 = some (lr) := by exact e5r
        have h826_hs : (P 202) r19 = some (sr) := by exact e6r
        have h826_hw : ((G 200) r19).toInt = ((24) : Int) := by rw [er]; exact e7
        have h826_hws : rwW ((G 203) r19) ((V 0) (lr)) ((V 1) (sr)) (24) = (T (Int32.toNatClampNeg y3_5)) := by rw [er]; exact e8
        have h826_hst : 0 ≤ p2.toInt := by omega
        have h826_hm : 0 ≤ p3.toInt := by omega
        have h826_hlf : p2.toInt + p3.toInt ≤ ((ln p1 : Nat) : Int) := by omega
        have hx26 := pwq (fn_X10_find κ wd la G P U V X O kd ln cnt r19 p1 p2 p3 (lr) (sr) (24) (T (Int32.toNatClampNeg y3_5)) hzG200 hzG203 hzP201 hzP202 hzV1 hzRA hzRB hzRI hzLN hk8 hk_p1 hB (by omega) hlt_p1 h826_hl h826_hs h826_hw h826_hws h826_hst h826_hm h826_hlf) hc26
        have p26_0 : FIX (T (Int32.toNatClampNeg y3_5)) (wdl ((V 0) p1) (Int32.toNatClampNeg p2) (Int32.toNatClampNeg p3)) r26.toInt := hx26
        clear hx26
        rw [hW] at p26_0
        refine pw_ite (fun c30 => ?_) (fun c30 => ?_)
        · have c30 := congrArg Int32.toInt c30
          have f18 : (y3_5 + 1).toInt = y3_5.toInt + (1) := z_addc (by decide +kernel) (by omega) (by omega)
          have iv3_0 : (0 ≤ (y3_5 + 1).toInt ∧ (y3_5 + 1).toInt ≤ 100) := by omega
          have iv3_1 : (y3_5 + 1).toInt ≤ ((G 203) wd).toInt := by omega
          have iv3_2 : (∀ w, w < Int32.toNatClampNeg (y3_5 + 1) → W ∉ T w) := by have k6 := clampI (x := y3_5 + 1) (by omega); intro w hw; by_cases q9 : w = Int32.toNatClampNeg y3_5; (rw [q9]; exact p26_0.1 (by omega)); (exact in3 w (by omega))
          exact ih3 (y3_5 + 1) iv3_0 iv3_1 iv3_2
        · have c30 := z_ne c30
          have qq0 : ((1 : Int32).toInt ≠ 0 → knT T N W = true) := by intro _; exact knT_t (w := Int32.toNatClampNeg y3_5) (by omega) (List.mem_of_getElem? (p26_0.2 (by omega)).2.1)
          have qq1 : ((1 : Int32).toInt = 0 → knT T N W = false) := by intro h; exfalso; omega
          exact pw_some ⟨qq0, qq1⟩
  exact lp3 NN (0 : Int32) (show (0 ≤ (0 : Int32).toInt ∧ (0 : Int32).toInt ≤ 100) from by omega) (show (0 : Int32).toInt ≤ ((G 203) wd).toInt from by omega) (show (∀ w, w < Int32.toNatClampNeg (0 : Int32) → W ∉ T w) from by intro w hw; exact absurd hw (Nat.not_lt_zero _))
abbrev QF_X11_chargeWord (κ : Nat → Nat) (wd : Nat) (la : Nat → Nat) (G : Nat → Nat → Int32) (P : Nat → Nat → Option Nat) (U : Nat → Nat → Int64) (V : Nat → Nat → Nat → Int32) (X : Nat → Nat → Nat → Int64) (O : Nat → Nat → Nat → Option Nat) (kd : Nat → Nat) (ln : Nat → Nat) (cnt : Nat) (this : Nat) (tp : Nat) (tb : Nat) (tw : Nat) (bk : Nat) (mi : Nat) (fa : Nat) (co : Nat) (D : Nat) (d : Nat → Dr) (Ws : List Wd) (W : Wd) : ((Nat → Nat → Int32)) → Prop := (fun t => ((∀ es9, CTB ((V 7) co) d Ws (Int32.toNatClampNeg ((G 222) this)) es9 → CTB (t co) d Ws (Int32.toNatClampNeg ((G 222) this)) (es9 ++ [((Int32.toNatClampNeg ((G 162) tw)), W)]))))
set_option maxHeartbeats 4000000 in
set_option maxRecDepth 100000 in
theorem fn_X11_chargeWord (κ : Nat → Nat) (wd : Nat) (la : Nat → Nat) (G : Nat → Nat → Int32) (P : Nat → Nat → Option Nat) (U : Nat → Nat → Int64) (V : Nat → Nat → Nat → Int32) (X : Nat → Nat → Nat → Int64) (O : Nat → Nat → Nat → Option Nat) (kd : Nat → Nat) (ln : Nat → Nat) (cnt : Nat) (this : Nat) (tp : Nat) (tb : Nat) (tw : Nat) (bk : Nat) (mi : Nat) (fa : Nat) (co : Nat) (D : Nat) (d : Nat → Dr) (Ws : List Wd) (W : Wd) (hzG44 : rng (0) 40 (G 44)) (hzG45 : rng (0) 7 (G 45)) (hzG160 : rng (0) 2000 (G 160)) (hzG161 : rng (0) 2000 (G 161)) (hzG162 : rng (0) 2000 (G 162)) (hzG200 : rng (0) 24 (G 200)) (hzG203 : rng (0) 100 (G 203)) (hzG222 : rng (0) 6 (G 222)) (hzP0 : PB κ ln wd 1 11 0 2500 0 (P 0)) (hzP1 : PB κ ln wd 1 301 700 700 0 (P 1)) (hzP5 : PB κ ln wd 1 11 0 2500 0 (P 5)) (hzP40 : PB κ ln wd 3 107 280 280 0 (P 40)) (hzP140 : PB κ ln wd 8 100 2000 2000 0 (P 140)) (hzP201 : PB κ ln wd 11 100 0 2400 0 (P 201)) (hzP202 : PB κ ln wd 11 101 0 100 0 (P 202)) (hzP220 : PB κ ln wd 12 8 0 2500 0 (P 220)) (hzP229 : PB κ ln wd 12 1 0 2500 0 (P 229)) (hzP234 : PB κ ln wd 12 9 0 2500 0 (P 234)) (hzP236 : PB κ ln wd 12 3 0 2500 0 (P 236)) (hzV1 : rng2 (0) 24 (V 1)) (hzO1 : OB κ 11 (O 1)) (hzRA : RA κ ln (G 200) (P 201) (P 202)) (hzRB : RB κ ln (G 200) (G 203) (P 202) (V 1)) (hzRI : RI (P 202)) (hzLN : LN κ ln) (hzW0 : W0 wd (P 0)) (hk_this : κ this = 12) (hB : LB la cnt P) (hlt_this : this < cnt) (h220 : (P 220) this = some tp) (h140 : (P 140) tp = some tb) (h234 : (P 234) this = some tw) (h229 : (P 229) this = some bk) (h236 : (P 236) this = some mi) (h1 : (P 1) bk = some fa) (h0 : (P 0) bk = some wd) (h40 : (P 40) mi = some co) (hN : Int32.toNatClampNeg ((G 203) wd) = Ws.length) (hrw : ∀ s w, s ≤ (Int32.toNatClampNeg ((G 222) this)) → w < Ws.length → ROWF G P V la cnt D ((O 1) fa (100 * s + w)) (FMT d Ws s w)) (hW : wdl ((V 0) tb) (Int32.toNatClampNeg ((G 160) tw)) (Int32.toNatClampNeg ((G 161) tw)) = W) (hbd : ((G 160) tw).toInt + ((G 161) tw).toInt ≤ ((ln tb : Nat) : Int)) (hlm : ((G 162) tw).toInt < ((G 44) mi).toInt) (hsm : ((G 45) mi).toInt = ((G 222) this).toInt + 1) (hnm : nmB W = false) : pw (f_X11_chargeWord G P U V X O kd ln cnt this) (QF_X11_chargeWord κ wd la G P U V X O kd ln cnt this tp tb tw bk mi fa co D d Ws W) := by
  unfold f_X11_chargeWord
  have zk0 : (0 : Int32).toInt = 0 := by decide +kernel
  have hn1 : (P 220) this = some tp := h220
  have lt_tp2 := ((hB.1 220 fl_220) this tp hn1).2.1
  have lb_tp2 : la tp = 10 := lk_220.mp ((hB.1 220 fl_220) this tp hn1).2.2
  have hk_tp := ((hzP220 this).2 tp hn1).1
  have hl1_tp := ((hzP220 this).2 tp hn1).2.1
  have hl2_tp := ((hzP220 this).2 tp hn1).2.2.1
  have hw_tp : id _ := ((hzP220 this).2 tp hn1).2.2.2
  have hn3 : (P 140) tp = some tb := h140
  obtain ⟨_, lt_tb4, lb_tb4⟩ := (hB.1 140 fl_140) tp tb hn3
  have lb_tb4 : la tb = 11 := (lk_140.mp lb_tb4).trans (congrArg (fun z9 => z9 + 1) lb_tp2)
  have hk_tb := ((hzP140 tp).2 tb hn3).1
  have hl1_tb := ((hzP140 tp).2 tb hn3).2.1
  have hl2_tb := ((hzP140 tp).2 tb hn3).2.2.1
  have hw_tb : id _ := ((hzP140 tp).2 tb hn3).2.2.2
  have hz_tb : (Int32.ofNat (ln tb)).toInt = ((ln tb : Nat) : Int) := ofN_eq (by first | exact Nat.le_trans hl2_tb (by decide) | omega)
  have hn5 : (P 234) this = some tw := h234
  have lt_tw6 := ((hB.1 234 fl_234) this tw hn5).2.1
  have lb_tw6 : la tw = 310 := lk_234.mp ((hB.1 234 fl_234) this tw hn5).2.2
  have hk_tw := ((hzP234 this).2 tw hn5).1
  have hl1_tw := ((hzP234 this).2 tw hn5).2.1
  have hl2_tw := ((hzP234 this).2 tw hn5).2.2.1
  have hw_tw : id _ := ((hzP234 this).2 tw hn5).2.2.2
  have hn7 : (P 229) this = some bk := h229
  have lt_bk8 := ((hB.1 229 fl_229) this bk hn7).2.1
  have lb_bk8 : la bk = 70 := lk_229.mp ((hB.1 229 fl_229) this bk hn7).2.2
  have hk_bk := ((hzP229 this).2 bk hn7).1
  have hl1_bk := ((hzP229 this).2 bk hn7).2.1
  have hl2_bk := ((hzP229 this).2 bk hn7).2.2.1
  have hw_bk : id _ := ((hzP229 this).2 bk hn7).2.2.2
  have hn9 : (P 236) this = some mi := h236
  have lt_mi10 := ((hB.1 236 fl_236) this mi hn9).2.1
  have lb_mi10 : la mi = 330 := lk_236.mp ((hB.1 236 fl_236) this mi hn9).2.2
  have hk_mi := ((hzP236 this).2 mi hn9).1
  have hl1_mi := ((hzP236 this).2 mi hn9).2.1
  have hl2_mi := ((hzP236 this).2 mi hn9).2.2.1
  have hw_mi : id _ := ((hzP236 this).2 mi hn9).2.2.2
  have hn11 : (P 1) bk = some fa := h1
  obtain ⟨_, lt_fa12, lb_fa12⟩ := (hB.1 1 fl_1) bk fa hn11
  have lb_fa12 : la fa = 70 := (lk_1.mp lb_fa12).trans (congrArg (fun z9 => z9 + 0) lb_bk8)
  have hk_fa := ((hzP1 bk).2 fa hn11).1
  have hl1_fa := ((hzP1 bk).2 fa hn11).2.1
  have hl2_fa := ((hzP1 bk).2 fa hn11).2.2.1
  have hw_fa : id _ := ((hzP1 bk).2 fa hn11).2.2.2
  have hz_fa : (Int32.ofNat (ln fa)).toInt = ((ln fa : Nat) : Int) := ofN_eq (by first | exact Nat.le_trans hl2_fa (by decide) | omega)
  have hn13 : (P 0) bk = some wd := h0
  have lt_wd14 := ((hB.1 0 fl_0) bk wd hn13).2.1
  have lb_wd14 : la wd = 20 := lk_0.mp ((hB.1 0 fl_0) bk wd hn13).2.2
  have hk_wd := ((hzP0 bk).2 wd hn13).1
  have hl1_wd := ((hzP0 bk).2 wd hn13).2.1
  have hl2_wd := ((hzP0 bk).2 wd hn13).2.2.1
  have hw_wd : id _ := ((hzP0 bk).2 wd hn13).2.2.2
  have hn15 : (P 40) mi = some co := h40
  obtain ⟨_, lt_co16, lb_co16⟩ := (hB.1 40 fl_40) mi co hn15
  have lb_co16 : la co = 330 := (lk_40.mp lb_co16).trans (congrArg (fun z9 => z9 + 0) lb_mi10)
  have hk_co := ((hzP40 mi).2 co hn15).1
  have hl1_co := ((hzP40 mi).2 co hn15).2.1
  have hl2_co := ((hzP40 mi).2 co hn15).2.2.1
  have hw_co : id _ := ((hzP40 mi).2 co hn15).2.2.2
  have hz_co : (Int32.ofNat (ln co)).toInt = ((ln co : Nat) : Int) := ofN_eq (by first | exact Nat.le_trans hl2_co (by decide) | omega)
  have hb222 := hzG222 this
  have c222 := clampI (x := (G 222) this) (by omega)
  have hb160 := hzG160 tw
  have hb161 := hzG161 tw
  have hb162 := hzG162 tw
  have c162 := clampI (x := (G 162) tw) (by omega)
  have hb44 := hzG44 mi
  have lp2 : ∀ (n2 : Nat) (y2_1 : Int32) (d2_V7 : Nat → Nat → Int32), (∀ z, ((la z < 330 ∨ 330 < la z)) → d2_V7 z = (V 7) z) → (0 ≤ y2_1.toInt ∧ y2_1.toInt ≤ 7) → y2_1.toInt ≤ ((G 222) this).toInt + 1 → (∀ es9, CTB ((V 7) co) d Ws (Int32.toNatClampNeg ((G 222) this)) es9 → CTP (d2_V7 co) d Ws (Int32.toNatClampNeg ((G 222) this)) es9 (Int32.toNatClampNeg ((G 162) tw)) W (Int32.toNatClampNeg y2_1)) → pw (L_X11_chargeWord_2 G P U V X O kd ln cnt this n2 y2_1 d2_V7) (QF_X11_chargeWord κ wd la G P U V X O kd ln cnt this tp tb tw bk mi fa co D d Ws W) := by
    intro n2
    induction n2 with
    | zero => intros; exact pw_none
    | succ n2 ih2 =>
      intro y2_1 d2_V7 hfr17 f18 f19 ip2
      show pw (B_X11_chargeWord_2 G P U V X O kd ln cnt this (L_X11_chargeWord_2 G P U V X O kd ln cnt this n2) y2_1 d2_V7) _
      unfold B_X11_chargeWord_2
      have b20 := hzG222 this
      refine pw_ite (fun c7 => ?_) (fun c7 => ?_)
      · have c7 := (z_lt _ _).mp c7
        have qq0 : id ((∀ es9, CTB ((V 7) co) d Ws (Int32.toNatClampNeg ((G 222) this)) es9 → CTB (d2_V7 co) d Ws (Int32.toNatClampNeg ((G 222) this)) (es9 ++ [((Int32.toNatClampNeg ((G 162) tw)), W)]))) := show (∀ es9, CTB ((V 7) co) d Ws (Int32.toNatClampNeg ((G 222) this)) es9 → CTB (d2_V7 co) d Ws (Int32.toNatClampNeg ((G 222) this)) (es9 ++ [((Int32.toNatClampNeg ((G 162) tw)), W)])) from by intro es9 h9; have k1 := clampI (x := y2_1) (by omega); exact CTP_end (ip2 es9 h9) (by omega)
        exact pw_some qq0
      · have c7 := z_nlt c7
        have k1 := clampI (x := y2_1) (by omega)
        refine pw_nne hn7 ?_
        refine pw_nne hn1 ?_
        refine pw_nne hn3 ?_
        refine pw_nne hn5 ?_
        have b21 := hzG160 tw
        refine pw_nne hn5 ?_
        have b22 := hzG161 tw
        have hpr36_0 : (0 ≤ y2_1.toInt ∧ y2_1.toInt ≤ 6) := by first | assumption | omega
        refine pw_b1 (fun r36 hc36 => ?_)
        have hq36 := wp_at (ok_X0_hasForm κ wd G P U (va_up V 7 d2_V7) X O kd ln cnt bk y2_1 tb ((G 160) tw) ((G 161) tw) hzG200 hzG203 hzP0 hzP1 hzP5 hzP201 hzP202 hzV1 hzO1 hzRA hzRB hzRI hzLN hzW0 hk_bk hk_tb hpr36_0) hc36
        have f23 : (0 ≤ r36.toInt ∧ r36.toInt ≤ 1) := hq36
        clear hq36
        have h836_h1 : (P 1) bk = some fa := by exact h1
        have h836_h0 : (P 0) bk = some wd := by exact h0
        have h836_hN : Int32.toNatClampNeg ((G 203) wd) = (Ws.length) := by exact hN
        have h836_hrw : id (∀ w, w < (Ws.length) → ROWF G P (va_up V 7 d2_V7) la cnt D ((O 1) fa (100 * Int32.toNatClampNeg y2_1 + w)) ((FMT d Ws (Int32.toNatClampNeg y2_1)) w)) := show ∀ w, w < (Ws.length) → ROWF G P (va_up V 7 d2_V7) la cnt D ((O 1) fa (100 * Int32.toNatClampNeg y2_1 + w)) ((FMT d Ws (Int32.toNatClampNeg y2_1)) w) from by exact fun w hw => hrw _ w (by omega) hw
        have h836_hW : wdl ((V 0) tb) (Int32.toNatClampNeg ((G 160) tw)) (Int32.toNatClampNeg ((G 161) tw)) = W := by exact hW
        have h836_hbd : 0 ≤ ((G 160) tw).toInt ∧ 0 ≤ ((G 161) tw).toInt ∧ ((G 160) tw).toInt + ((G 161) tw).toInt ≤ ((ln tb : Nat) : Int) := by omega
        have hx36 := pwq (fn_X0_hasForm κ wd la G P U (va_up V 7 d2_V7) X O kd ln cnt bk y2_1 tb ((G 160) tw) ((G 161) tw) (fa) (D) (Ws.length) (FMT d Ws (Int32.toNatClampNeg y2_1)) (W) hzG200 hzG203 hzP0 hzP1 hzP5 hzP201 hzP202 hzV1 hzO1 hzRA hzRB hzRI hzLN hzW0 hk_bk hk_tb hpr36_0 hB lt_bk8 lt_tb4 h836_h1 h836_h0 h836_hN h836_hrw h836_hW h836_hbd) hc36
        obtain ⟨p36_0, p36_1⟩ : (id ((r36.toInt ≠ 0 → knT (FMT d Ws (Int32.toNatClampNeg y2_1)) (Ws.length) W = true))) ∧ (id ((r36.toInt = 0 → knT (FMT d Ws (Int32.toNatClampNeg y2_1)) (Ws.length) W = false))) := hx36
        clear h836_h1 h836_h0 h836_hN h836_hrw h836_hW h836_hbd
        refine pw_jE (fun j57 ej57 => ?_)
        refine pw_ite (fun c39 => ?_) (fun c39 => ?_)
        · have c39 := congrArg Int32.toInt c39
          refine pw_nne hn9 ?_
          refine pw_nne hn5 ?_
          have b24 := hzG162 tw
          have hpr54_0 : 0 ≤ ((G 162) tw).toInt := by first | assumption | omega
          have hpr54_1 : 0 ≤ y2_1.toInt := by first | assumption | omega
          refine pw_b1 (fun c54_V7 hc54 => ?_)
          have hq54 := pwq (fr_X2_charge la G P U (va_up V 7 d2_V7) X O kd ln cnt mi ((G 162) tw) y2_1 hB) hc54
          have q54_V7 : (∀ z, (la z < la mi ∨ la mi < la z) → c54_V7 z = d2_V7 z) := hq54
          clear hq54
          have tz54 : ∀ z, ((la z < 330 ∨ 330 < la z)) → ((la z < la mi ∨ la mi < la z)) := fun z hz => by omega
          have hfr25 : ∀ z, ((la z < 330 ∨ 330 < la z)) → c54_V7 z = (V 7) z := fun z hz => (q54_V7 z (tz54 z hz)).trans (hfr17 z hz)
          have h854_h40 : (P 40) mi = some co := by exact h40
          have h854_hq0 : ((G 162) tw).toInt < ((G 44) mi).toInt := by exact hlm
          have h854_hq1 : y2_1.toInt < ((G 45) mi).toInt := by omega
          have hx54 := pwq (fn_X2_charge κ wd la G P U (va_up V 7 d2_V7) X O kd ln cnt mi ((G 162) tw) y2_1 (co) hzG44 hzG45 hzP40 hzLN hk_mi hpr54_0 hpr54_1 hB lt_mi10 h854_h40 h854_hq0 h854_hq1) hc54
          have p54_0 : (∀ j, c54_V7 co j = (if j = 7 * Int32.toNatClampNeg ((G 162) tw) + Int32.toNatClampNeg y2_1 then d2_V7 co j + 1 else d2_V7 co j)) := hx54
          clear hx54
          clear h854_h40 h854_hq0 h854_hq1
          refine pw_j1 ej57 (fun z57_0 ez57_0 => ?_)
          subst ez57_0
          have f26 : (y2_1 + 1).toInt = y2_1.toInt + (1) := z_addc (by decide +kernel) (by omega) (by omega)
          have iv2_0 : (0 ≤ (y2_1 + 1).toInt ∧ (y2_1 + 1).toInt ≤ 7) := by omega
          have iv2_1 : (y2_1 + 1).toInt ≤ ((G 222) this).toInt + 1 := by omega
          have iv2_2 : (∀ es9, CTB ((V 7) co) d Ws (Int32.toNatClampNeg ((G 222) this)) es9 → CTP (c54_V7 co) d Ws (Int32.toNatClampNeg ((G 222) this)) es9 (Int32.toNatClampNeg ((G 162) tw)) W (Int32.toNatClampNeg (y2_1 + 1))) := by have k2 := clampI (x := y2_1 + 1) (by omega); intro es9 h9; rw [show Int32.toNatClampNeg (y2_1 + 1) = Int32.toNatClampNeg y2_1 + 1 by omega]; exact CTP_s (ip2 es9 h9) (by omega) (by omega) (by omega) (by rw [chB_1 hnm (p36_1 (by omega))]; rfl) p54_0
          exact ih2 (y2_1 + 1) c54_V7 hfr25 iv2_0 iv2_1 iv2_2
        · have c39 := z_ne c39
          refine pw_j1 ej57 (fun z57_0 ez57_0 => ?_)
          subst ez57_0
          have f27 : (y2_1 + 1).toInt = y2_1.toInt + (1) := z_addc (by decide +kernel) (by omega) (by omega)
          have iv2_0 : (0 ≤ (y2_1 + 1).toInt ∧ (y2_1 + 1).toInt ≤ 7) := by omega
          have iv2_1 : (y2_1 + 1).toInt ≤ ((G 222) this).toInt + 1 := by omega
          have iv2_2 : (∀ es9, CTB ((V 7) co) d Ws (Int32.toNatClampNeg ((G 222) this)) es9 → CTP (d2_V7 co) d Ws (Int32.toNatClampNeg ((G 222) this)) es9 (Int32.toNatClampNeg ((G 162) tw)) W (Int32.toNatClampNeg (y2_1 + 1))) := by have k2 := clampI (x := y2_1 + 1) (by omega); intro es9 h9; rw [show Int32.toNatClampNeg (y2_1 + 1) = Int32.toNatClampNeg y2_1 + 1 by omega]; exact CTP_s (ip2 es9 h9) (by omega) (by omega) (by omega) (by rw [chB_k (p36_0 (by omega))]; rfl) up_0
          exact ih2 (y2_1 + 1) d2_V7 hfr17 iv2_0 iv2_1 iv2_2
  exact lp2 NN (0 : Int32) (V 7) (fun _ _ => rfl) (show (0 ≤ (0 : Int32).toInt ∧ (0 : Int32).toInt ≤ 7) from by omega) (show (0 : Int32).toInt ≤ ((G 222) this).toInt + 1 from by omega) (show (∀ es9, CTB ((V 7) co) d Ws (Int32.toNatClampNeg ((G 222) this)) es9 → CTP ((V 7) co) d Ws (Int32.toNatClampNeg ((G 222) this)) es9 (Int32.toNatClampNeg ((G 162) tw)) W (Int32.toNatClampNeg (0 : Int32))) from by exact fun es9 h9 => CTP_0 h9)
