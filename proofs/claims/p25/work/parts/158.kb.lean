abbrev QF_X4_readPart (κ : Nat → Nat) (wd : Nat) (la : Nat → Nat) (G : Nat → Nat → Int32) (P : Nat → Nat → Option Nat) (U : Nat → Nat → Int64) (V : Nat → Nat → Nat → Int32) (X : Nat → Nat → Nat → Int64) (O : Nat → Nat → Nat → Option Nat) (kd : Nat → Nat) (ln : Nat → Nat) (cnt : Nat) (this : Nat) (p0 : Nat) (tx : Nat) (f : Nat → Int32) (n : Nat) (e : Nat) (pl : Nat) (d : Dr) (er : Nat) (br : Nat) (pr : Nat) (kp : Nat) (lr : Nat) (le : Nat) (lb : Nat) (lp : Nat) (se : Nat) (sb : Nat) (sp : Nat) : ((Nat → Int32) × (Nat → Int32) × (Nat → Int32) × (Nat → Int32) × (Nat → Int32) × (Nat → Int32) × (Nat → Int32) × (Nat → Int32) × (Nat → Nat → Int32) × (Nat → Nat → Int32)) → Prop := (fun t => (OUTC (prtF f n pl e d) ((t.1) this) ((t.2.1) this) ((t.2.2.1) this) (fun d1 => (entV ((t.2.2.2.2.2.2.2.1) er) ((t.2.2.2.2.2.2.2.2.1) le) ((t.2.2.2.2.2.2.2.2.2) se) ((t.2.2.2.2.2.2.2.2.1) lb) ((t.2.2.2.2.2.2.2.2.2) sb) ((V 10) kp), rwW ((t.2.2.2.2.2.2.2.1) pr) ((t.2.2.2.2.2.2.2.2.1) lp) ((t.2.2.2.2.2.2.2.2.2) sp) 16, lwsV ((G 102) p0) ((O 0) lr) (P 20) (P 21) (P 22) (P 23) (G 24) (G 25) (t.2.2.2.2.2.2.2.2.1) ln) = d1 ∧ ((t.2.2.2.2.2.2.2.1) br).toInt = ((t.2.2.2.2.2.2.2.1) er).toInt ∧ ((G 107) p0).toInt = ((kct d1.1 : Nat) : Int))) ∧ ((t.2.2.2.2.2.2.2.2.1) tx = f))
set_option maxHeartbeats 4000000 in
set_option maxRecDepth 100000 in
theorem fn_X4_readPart (κ : Nat → Nat) (wd : Nat) (la : Nat → Nat) (G : Nat → Nat → Int32) (P : Nat → Nat → Option Nat) (U : Nat → Nat → Int64) (V : Nat → Nat → Nat → Int32) (X : Nat → Nat → Nat → Int64) (O : Nat → Nat → Nat → Option Nat) (kd : Nat → Nat) (ln : Nat → Nat) (cnt : Nat) (this : Nat) (p0 : Nat) (tx : Nat) (f : Nat → Int32) (n : Nat) (e : Nat) (pl : Nat) (d : Dr) (er : Nat) (br : Nat) (pr : Nat) (kp : Nat) (lr : Nat) (le : Nat) (lb : Nat) (lp : Nat) (se : Nat) (sb : Nat) (sp : Nat) (hzG83 : rng (0) 2000 (G 83)) (hzG84 : rng (0) 2001 (G 84)) (hzG85 : rng (0) 4 (G 85)) (hzG87 : rng (0) 2001 (G 87)) (hzG88 : rng (0) 2000 (G 88)) (hzG200 : rng (0) 24 (G 200)) (hzG203 : rng (0) 100 (G 203)) (hzP82 : PB κ ln wd 5 100 0 2000 0 (P 82)) (hzP103 : PB κ ln wd 6 11 0 2500 1 (P 103)) (hzP201 : PB κ ln wd 11 100 0 2400 0 (P 201)) (hzP202 : PB κ ln wd 11 101 0 100 0 (P 202)) (hzV1 : rng2 (0) 24 (V 1)) (hzRA : RA κ ln (G 200) (P 201) (P 202)) (hzRB : RB κ ln (G 200) (G 203) (P 202) (V 1)) (hzRI : RI (P 202)) (hzRM103 : RM ln 40 (P 103) (P 202)) (hzLN : LN κ ln) (hk_this : κ this = 5) (hk_p0 : κ p0 = 6) (hp0 : (∀ tx, (P 82) this = some tx → ((G 83) this).toInt ≤ ((ln tx : Nat) : Int))) (hp1 : ((G 84) this).toInt ≤ ((G 83) this).toInt + 1) (hB : LB la cnt P) (hlt_this : this < cnt) (hlt_p0 : p0 < cnt) (htx : (P 82) this = some tx) (hf : (V 0) tx = f) (hn : Int32.toNatClampNeg ((G 83) this) = n) (he : Int32.toNatClampNeg ((G 84) this) = e) (hpt : PTS P (G 200) ln p0 er br pr kp lr le lb lp se sb sp) (hd : (entV ((G 203) er) ((V 0) le) ((V 1) se) ((V 0) lb) ((V 1) sb) ((V 10) kp), rwW ((G 203) pr) ((V 0) lp) ((V 1) sp) 16, lwsV ((G 102) p0) ((O 0) lr) (P 20) (P 21) (P 22) (P 23) (G 24) (G 25) (V 0) ln) = d) (hcb : ((G 203) br).toInt = ((G 203) er).toInt) (hkc : ((G 107) p0).toInt = ((kct d.1 : Nat) : Int)) (hpl : ((G 86) this).toInt = (pl : Int)) (hk0 : ((G 80) this).toInt = 0) (hk1 : ((G 81) this).toInt = -1) (hlw : LWL ((G 102) p0) ((O 0) lr) la cnt (la p0 + 5)) (hlx : la tx = 11) (hld : 100000 ≤ la p0) (hlh : la this = 300) : pw (f_X4_readPart G P U V X O kd ln cnt this p0) (QF_X4_readPart κ wd la G P U V X O kd ln cnt this p0 tx f n e pl d er br pr kp lr le lb lp se sb sp) := by
  unfold f_X4_readPart
  have zk0 : (0 : Int32).toInt = 0 := by decide +kernel
  have zk1 : (1 : Int32).toInt = 1 := by decide +kernel
  have hn1 : (P 82) this = some tx := htx
  have lt_tx2 := ((hB.1 82 fl_82) this tx hn1).2.1
  have hk_tx := ((hzP82 this).2 tx hn1).1
  have hl1_tx := ((hzP82 this).2 tx hn1).2.1
  have hl2_tx := ((hzP82 this).2 tx hn1).2.2.1
  have hw_tx := ((hzP82 this).2 tx hn1).2.2.2
  have hz_tx : (Int32.ofNat (ln tx)).toInt = ((ln tx : Nat) : Int) := ofN_eq (by first | exact Nat.le_trans hl2_tx (by decide) | omega)
  have hn3 : (P 103) p0 = some pr := hpt.1.2.2.1
  have lt_pr4 := ((hB.1 103 fl_103) p0 pr hn3).2.1
  have lb_pr4 : la pr = la p0 + 1 := lk_103.mp ((hB.1 103 fl_103) p0 pr hn3).2.2
  have hk_pr := ((hzP103 p0).2 pr hn3).1
  have hl1_pr := ((hzP103 p0).2 pr hn3).2.1
  have hl2_pr := ((hzP103 p0).2 pr hn3).2.2.1
  have hw_pr := ((hzP103 p0).2 pr hn3).2.2.2
  have hd1 : d.1 = entV ((G 203) er) ((V 0) le) ((V 1) se) ((V 0) lb) ((V 1) sb) ((V 10) kp) := by rw [← hd]
  have hd2 : d.2.1 = rwW ((G 203) pr) ((V 0) lp) ((V 1) sp) 16 := by rw [← hd]
  have hd3 : d.2.2 = lwsV ((G 102) p0) ((O 0) lr) (P 20) (P 21) (P 22) (P 23) (G 24) (G 25) (V 0) ln := by rw [← hd]
  have hde : d.1.length = Int32.toNatClampNeg ((G 203) er) := by rw [hd1]; exact ent_len
  have hdp : d.2.1.length = Int32.toNatClampNeg ((G 203) pr) := by rw [hd2]; exact rw_len
  have hbe := hzG203 er
  have hbp := hzG203 pr
  have hce := clampI (x := (G 203) er) (by omega)
  have hcp := clampI (x := (G 203) pr) (by omega)
  have hkl := kct_le (es := d.1)
  have hl40e := hpt.2.2.2.2.1
  have hl40p := hpt.2.2.2.2.2.2
  refine pw_nne hn3 ?_
  refine pw_b1 (fun r5 hc5 => ?_)
  have hq5 := wp_at (ok_X10_isFull κ wd G P U V X O kd ln cnt pr hzG200 hzG203 hzP201 hzP202 hzV1 hzRA hzRB hzRI hzLN hk_pr) hc5
  obtain ⟨f5, f6⟩ : ((0 ≤ r5.toInt ∧ r5.toInt ≤ 1)) ∧ ((∀ s, (P 202) pr = some s → r5.toInt = 0 → ((G 203) pr).toInt < ((ln s : Nat) : Int))) := hq5
  have hx5 := pwq (fn_X10_isFull κ wd la G P U V X O kd ln cnt pr hzG200 hzG203 hzP201 hzP202 hzV1 hzRA hzRB hzRI hzLN hk_pr hB lt_pr4) hc5
  obtain ⟨p5_0, p5_1⟩ : ((r5.toInt ≠ 0 → ∀ s, (P 202) pr = some s → ((ln s : Nat) : Int) ≤ ((G 203) pr).toInt)) ∧ ((r5.toInt = 0 → ∀ s, (P 202) pr = some s → ((G 203) pr).toInt < ((ln s : Nat) : Int))) := hx5
  refine pw_jE (fun j16 ej16 => ?_)
  refine pw_ite (fun c8 => ?_) (fun c8 => ?_)
  · have c8 := congrArg Int32.toInt c8
    refine pw_j1 ej16 (fun t16_0 et16_0 => ?_)
    have et16_0 := et16_0.symm
    have f_t16_0 : t16_0.toInt = 1 := by rw [et16_0]; decide +kernel
    refine pw_b3 (fun r16 c16_G80 c16_G81 hc16 => ?_)
    have hq16 := wp_at (ok_X4_hasRoom κ wd G P U V X O kd ln cnt this t16_0 hzLN hk_this) hc16
    have f7 : (0 ≤ r16.toInt ∧ r16.toInt ≤ 1) := hq16
    clear hq16
    have hq16 := pwq (fr_X4_hasRoom la G P U V X O kd ln cnt this t16_0 hB) hc16
    obtain ⟨q16_G80, q16_G81⟩ : (∀ z, (la z < la this ∨ la this < la z) → c16_G80 z = (G 80) z) ∧ (∀ z, (la z < la this ∨ la this < la z) → c16_G81 z = (G 81) z) := hq16
    have tz16 : ∀ z, ((la z < la this ∨ la this < la z) ∧ (la z < la p0 ∨ la p0 + 3 < la z) ∧ (la z < la p0 + 5 ∨ la p0 + 5 < la z)) → ((la z < la this ∨ la this < la z)) := fun z hz => by omega
    have hfr8 : ∀ z, ((la z < la this ∨ la this < la z) ∧ (la z < la p0 ∨ la p0 + 3 < la z) ∧ (la z < la p0 + 5 ∨ la p0 + 5 < la z)) → c16_G80 z = (G 80) z := fun z hz => (q16_G80 z (tz16 z hz)).trans ((fun _ _ => rfl) z hz)
    have hfr9 : ∀ z, ((la z < la this ∨ la this < la z) ∧ (la z < la p0 ∨ la p0 + 3 < la z) ∧ (la z < la p0 + 5 ∨ la p0 + 5 < la z)) → c16_G81 z = (G 81) z := fun z hz => (q16_G81 z (tz16 z hz)).trans ((fun _ _ => rfl) z hz)
    have hx16 := pwq (fn_X4_hasRoom κ wd la G P U V X O kd ln cnt this t16_0 hzLN hk_this hB hlt_this) hc16
    obtain ⟨p16_0, p16_1⟩ : ((r16.toInt ≠ 0 → t16_0.toInt ≠ 0 ∧ (c16_G80 this).toInt = ((G 80) this).toInt ∧ (c16_G81 this).toInt = ((G 81) this).toInt)) ∧ ((r16.toInt = 0 → t16_0.toInt = 0 ∧ (c16_G80 this).toInt = 4 ∧ (c16_G81 this).toInt = ((G 86) this).toInt)) := hx16
    refine pw_jE (fun j57 ej57 => ?_)
    refine pw_ite (fun c19 => ?_) (fun c19 => ?_)
    · have c19 := congrArg Int32.toInt c19
      exfalso; omega
    · have c19 := z_ne c19
      refine pw_nne hn3 ?_
      have hpr27_0 : (∀ tx, (P 82) this = some tx → ((G 83) this).toInt ≤ ((ln tx : Nat) : Int)) := by assumption
      have hpr27_1 : ((G 84) this).toInt ≤ ((G 83) this).toInt + 1 := by first | assumption | omega
      refine pw_b8 (fun r27 c27_G80 c27_G81 c27_G84 c27_G85 c27_G86 c27_G87 c27_G88 hc27 => ?_)
      have hq27 := wp_at (ok_X4_takeNew κ wd (va_up (va_up G 80 c16_G80) 81 c16_G81) P U V X O kd ln cnt this pr hzG83 hzG84 hzG85 hzG87 hzG88 hzG200 hzG203 hzP82 hzP201 hzP202 hzV1 hzRA hzRB hzRI hzLN hk_this hk_pr hpr27_0 hpr27_1) hc27
      obtain ⟨hg10, hg11, hg12, hg13, f14, f15, f16⟩ : (rng (0) 2001 c27_G84) ∧ (rng (0) 4 c27_G85) ∧ (rng (0) 2001 c27_G87) ∧ (rng (0) 2000 c27_G88) ∧ ((0 ≤ r27.toInt ∧ r27.toInt ≤ 1)) ∧ (((G 84) this).toInt ≤ (c27_G84 this).toInt) ∧ ((c27_G84 this).toInt ≤ ((G 83) this).toInt + 1) := hq27
      have hq27 := pwq (fr_X4_takeNew la (va_up (va_up G 80 c16_G80) 81 c16_G81) P U V X O kd ln cnt this pr hB) hc27
      obtain ⟨q27_G80, q27_G81, q27_G84, q27_G85, q27_G86, q27_G87, q27_G88⟩ : (∀ z, (la z < la this ∨ la this < la z) → c27_G80 z = c16_G80 z) ∧ (∀ z, (la z < la this ∨ la this < la z) → c27_G81 z = c16_G81 z) ∧ (∀ z, (la z < la this ∨ la this < la z) → c27_G84 z = (G 84) z) ∧ (∀ z, (la z < la this ∨ la this < la z) → c27_G85 z = (G 85) z) ∧ (∀ z, (la z < la this ∨ la this < la z) → c27_G86 z = (G 86) z) ∧ (∀ z, (la z < la this ∨ la this < la z) → c27_G87 z = (G 87) z) ∧ (∀ z, (la z < la this ∨ la this < la z) → c27_G88 z = (G 88) z) := hq27
      have tz27 : ∀ z, ((la z < la this ∨ la this < la z) ∧ (la z < la p0 ∨ la p0 + 3 < la z) ∧ (la z < la p0 + 5 ∨ la p0 + 5 < la z)) → ((la z < la this ∨ la this < la z)) := fun z hz => by omega
      have hfr17 : ∀ z, ((la z < la this ∨ la this < la z) ∧ (la z < la p0 ∨ la p0 + 3 < la z) ∧ (la z < la p0 + 5 ∨ la p0 + 5 < la z)) → c27_G80 z = (G 80) z := fun z hz => (q27_G80 z (tz27 z hz)).trans (hfr8 z hz)
      have hfr18 : ∀ z, ((la z < la this ∨ la this < la z) ∧ (la z < la p0 ∨ la p0 + 3 < la z) ∧ (la z < la p0 + 5 ∨ la p0 + 5 < la z)) → c27_G81 z = (G 81) z := fun z hz => (q27_G81 z (tz27 z hz)).trans (hfr9 z hz)
      have hfr19 : ∀ z, ((la z < la this ∨ la this < la z) ∧ (la z < la p0 ∨ la p0 + 3 < la z) ∧ (la z < la p0 + 5 ∨ la p0 + 5 < la z)) → c27_G84 z = (G 84) z := fun z hz => (q27_G84 z (tz27 z hz)).trans ((fun _ _ => rfl) z hz)
      have hfr20 : ∀ z, ((la z < la this ∨ la this < la z) ∧ (la z < la p0 ∨ la p0 + 3 < la z) ∧ (la z < la p0 + 5 ∨ la p0 + 5 < la z)) → c27_G85 z = (G 85) z := fun z hz => (q27_G85 z (tz27 z hz)).trans ((fun _ _ => rfl) z hz)
      have hfr21 : ∀ z, ((la z < la this ∨ la this < la z) ∧ (la z < la p0 ∨ la p0 + 3 < la z) ∧ (la z < la p0 + 5 ∨ la p0 + 5 < la z)) → c27_G86 z = (G 86) z := fun z hz => (q27_G86 z (tz27 z hz)).trans ((fun _ _ => rfl) z hz)
      have hfr22 : ∀ z, ((la z < la this ∨ la this < la z) ∧ (la z < la p0 ∨ la p0 + 3 < la z) ∧ (la z < la p0 + 5 ∨ la p0 + 5 < la z)) → c27_G87 z = (G 87) z := fun z hz => (q27_G87 z (tz27 z hz)).trans ((fun _ _ => rfl) z hz)
      have hfr23 : ∀ z, ((la z < la this ∨ la this < la z) ∧ (la z < la p0 ∨ la p0 + 3 < la z) ∧ (la z < la p0 + 5 ∨ la p0 + 5 < la z)) → c27_G88 z = (G 88) z := fun z hz => (q27_G88 z (tz27 z hz)).trans ((fun _ _ => rfl) z hz)
      have h827_htx : (P 82) this = some tx := by first | assumption | omega
      have h827_hf : (V 0) tx = f := by first | assumption | omega
      have h827_hn : Int32.toNatClampNeg ((G 83) this) = n := by first | assumption | omega
      have h827_he : Int32.toNatClampNeg ((G 84) this) = e := by first | assumption | omega
      have h827_hl : (P 201) pr = some (lp) := by exact hpt.2.1.2.2
      have h827_hs : (P 202) pr = some (sp) := by exact hpt.2.2.1.2.2
      have h827_hw : ((G 200) pr).toInt = 16 := by exact hpt.2.2.2.1.2.2
      have h827_hws : rwW ((G 203) pr) ((V 0) (lp)) ((V 1) (sp)) 16 = (d.2.1) := by exact hd2.symm
      have hx27 := pwq (fn_X4_takeNew κ wd la (va_up (va_up G 80 c16_G80) 81 c16_G81) P U V X O kd ln cnt this pr (tx) (f) (n) (e) (lp) (sp) (d.2.1) hzG83 hzG84 hzG85 hzG87 hzG88 hzG200 hzG203 hzP82 hzP201 hzP202 hzV1 hzRA hzRB hzRI hzLN hk_this hk_pr hpr27_0 hpr27_1 hB hlt_this lt_pr4 h827_htx h827_hf h827_hn h827_he h827_hl h827_hs h827_hw h827_hws) hc27
      obtain ⟨p27_0, p27_1⟩ : ((r27.toInt ≠ 0 → newF f n e (d.2.1) = none ∧ (c27_G80 this).toInt = (c16_G80 this).toInt ∧ (c27_G81 this).toInt = (c16_G81 this).toInt ∧ (c27_G86 this).toInt = ((tP f n e : Nat) : Int) ∧ (c27_G87 this).toInt = ((tP f n e : Nat) : Int) + 1 ∧ (c27_G88 this).toInt = ((tL f n e : Nat) : Int) ∧ Int32.toNatClampNeg (c27_G84 this) = tE f n e)) ∧ ((r27.toInt = 0 → ERR (newF f n e (d.2.1)) (c27_G80 this) (c27_G81 this))) := hx27
      refine pw_ite (fun c30 => ?_) (fun c30 => ?_)
      · have c30 := congrArg Int32.toInt c30
        refine pw_j10 ej57 (fun z57_0 ez57_0 z57_1 ez57_1 z57_2 ez57_2 z57_3 ez57_3 z57_4 ez57_4 z57_5 ez57_5 z57_6 ez57_6 z57_7 ez57_7 z57_8 ez57_8 z57_9 ez57_9 => ?_)
        subst ez57_0 ez57_1 ez57_2 ez57_3 ez57_4 ez57_5 ez57_6 ez57_7 ez57_8 ez57_9
        have qq0 : OUTC (prtF f n pl e d) (c27_G80 this) (c27_G81 this) (c27_G84 this) (fun d1 => (entV ((G 203) er) ((V 0) le) ((V 1) se) ((V 0) lb) ((V 1) sb) ((V 10) kp), rwW ((G 203) pr) ((V 0) lp) ((V 1) sp) 16, lwsV ((G 102) p0) ((O 0) lr) (P 20) (P 21) (P 22) (P 23) (G 24) (G 25) (V 0) ln) = d1 ∧ ((G 203) br).toInt = ((G 203) er).toInt ∧ ((G 107) p0).toInt = ((kct d1.1 : Nat) : Int)) := by exact outc_bad (p27_1 (by omega)) (fun q hq => prtF_new (by have h := p5_1 (by omega) _ hpt.2.2.1.2.2; omega) hq)
        have qq1 : (V 0) tx = f := by exact hf
        exact pw_some ⟨qq0, qq1⟩
      · have c30 := z_ne c30
        obtain ⟨g1, g2, g3, g4, g5, g6, g7⟩ := p27_0 (by omega)
        have hk2 := newF_k g1
        have hl2 := tL_2 hk2.1
        have ea := clampI (x := c27_G87 this) (by omega)
        have eb := clampI (x := c27_G88 this) (by omega)
        have hsz := hp0 _ htx
        have hb83 := hzG83 this
        have ec83 := clampI (x := (G 83) this) (by omega)
        have hwd : wdl ((V 0) tx) (Int32.toNatClampNeg (c27_G87 this)) (Int32.toNatClampNeg (c27_G88 this)) = tW f n e := by rw [hf, show Int32.toNatClampNeg (c27_G87 this) = tP f n e + 1 by omega, show Int32.toNatClampNeg (c27_G88 this) = tL f n e by omega]; rfl
        have hf8 := p5_1 (by omega) _ hpt.2.2.1.2.2
        refine pw_nne hn3 ?_
        refine pw_nne hn1 ?_
        have b24 := hg12 this
        have b25 := hg13 this
        refine pw_b3 (fun c49_G203 c49_V0 c49_V1 hc49 => ?_)
        have hq49 := wp_at (ok_X10_add κ wd (va_up (va_up (va_up (va_up (va_up (va_up (va_up (va_up (va_up G 80 c16_G80) 81 c16_G81) 80 c27_G80) 81 c27_G81) 84 c27_G84) 85 c27_G85) 86 c27_G86) 87 c27_G87) 88 c27_G88) P U V X O kd ln cnt pr tx (c27_G87 this) (c27_G88 this) hzG200 hzG203 hzP201 hzP202 hzV1 hzRA hzRB hzRI hzLN hk_pr hk_tx) hc49
        obtain ⟨hg26, hg27, hRB28, f29, f30⟩ : (rng (0) 100 c49_G203) ∧ (rng2 (0) 24 c49_V1) ∧ (RB κ ln (G 200) c49_G203 (P 202) c49_V1) ∧ ((pr ≠ wd → c49_G203 wd = (G 203) wd)) ∧ (((G 203) pr).toInt ≤ (c49_G203 pr).toInt) := hq49
        have hq49 := pwq (fr_X10_add la (va_up (va_up (va_up (va_up (va_up (va_up (va_up (va_up (va_up G 80 c16_G80) 81 c16_G81) 80 c27_G80) 81 c27_G81) 84 c27_G84) 85 c27_G85) 86 c27_G86) 87 c27_G87) 88 c27_G88) P U V X O kd ln cnt pr tx (c27_G87 this) (c27_G88 this) hB) hc49
        obtain ⟨q49_G203, q49_V0, q49_V1⟩ : (∀ z, (la z < la pr ∨ la pr < la z) → c49_G203 z = (G 203) z) ∧ (∀ z, (la z < la pr ∨ la pr < la z) → c49_V0 z = (V 0) z) ∧ (∀ z, (la z < la pr ∨ la pr < la z) → c49_V1 z = (V 1) z) := hq49
        have tz49 : ∀ z, ((la z < la this ∨ la this < la z) ∧ (la z < la p0 ∨ la p0 + 3 < la z) ∧ (la z < la p0 + 5 ∨ la p0 + 5 < la z)) → ((la z < la pr ∨ la pr < la z)) := fun z hz => by omega
        have hfr31 : ∀ z, ((la z < la this ∨ la this < la z) ∧ (la z < la p0 ∨ la p0 + 3 < la z) ∧ (la z < la p0 + 5 ∨ la p0 + 5 < la z)) → c49_G203 z = (G 203) z := fun z hz => (q49_G203 z (tz49 z hz)).trans ((fun _ _ => rfl) z hz)
        have hfr32 : ∀ z, ((la z < la this ∨ la this < la z) ∧ (la z < la p0 ∨ la p0 + 3 < la z) ∧ (la z < la p0 + 5 ∨ la p0 + 5 < la z)) → c49_V0 z = (V 0) z := fun z hz => (q49_V0 z (tz49 z hz)).trans ((fun _ _ => rfl) z hz)
        have hfr33 : ∀ z, ((la z < la this ∨ la this < la z) ∧ (la z < la p0 ∨ la p0 + 3 < la z) ∧ (la z < la p0 + 5 ∨ la p0 + 5 < la z)) → c49_V1 z = (V 1) z := fun z hz => (q49_V1 z (tz49 z hz)).trans ((fun _ _ => rfl) z hz)
        have h849_hl : (P 201) pr = some (lp) := by exact hpt.2.1.2.2
        have h849_hs : (P 202) pr = some (sp) := by exact hpt.2.2.1.2.2
        have h849_hw : ((G 200) pr).toInt = ((16) : Int) := by exact hpt.2.2.2.1.2.2
        have h849_hrm : ((G 203) pr).toInt < ((ln (sp) : Nat) : Int) := by first | assumption | omega
        have h849_hst : 0 ≤ (c27_G87 this).toInt := by omega
        have h849_hm : 0 ≤ (c27_G88 this).toInt := by omega
        have h849_hmw : (c27_G88 this).toInt ≤ ((16) : Int) := by omega
        have h849_hlf : (c27_G87 this).toInt + (c27_G88 this).toInt ≤ ((ln tx : Nat) : Int) := by omega
        have hx49 := pwq (fn_X10_add κ wd la (va_up (va_up (va_up (va_up (va_up (va_up (va_up (va_up (va_up G 80 c16_G80) 81 c16_G81) 80 c27_G80) 81 c27_G81) 84 c27_G84) 85 c27_G85) 86 c27_G86) 87 c27_G87) 88 c27_G88) P U V X O kd ln cnt pr tx (c27_G87 this) (c27_G88 this) (lp) (sp) (16) hzG200 hzG203 hzP201 hzP202 hzV1 hzRA hzRB hzRI hzLN hk_pr hk_tx hB lt_pr4 lt_tx2 h849_hl h849_hs h849_hw h849_hrm h849_hst h849_hm h849_hmw h849_hlf) hc49
        obtain ⟨p49_0, p49_1⟩ : (rwW (c49_G203 pr) (c49_V0 (lp)) (c49_V1 (sp)) (16) = rwW ((G 203) pr) ((V 0) (lp)) ((V 1) (sp)) (16) ++ [wdl ((V 0) tx) (Int32.toNatClampNeg (c27_G87 this)) (Int32.toNatClampNeg (c27_G88 this))]) ∧ ((c49_G203 pr).toInt = ((G 203) pr).toInt + 1) := hx49
        have hvx : c49_V0 tx = f := (q49_V0 tx (by omega)).trans hf
        have hpr53_0 : (∀ tx, (P 82) this = some tx → ((G 83) this).toInt ≤ ((ln tx : Nat) : Int)) := by assumption
        have hpr53_1 : (c27_G84 this).toInt ≤ ((G 83) this).toInt + 1 := by first | assumption | omega
        refine pw_b8 (fun r53 c53_G80 c53_G81 c53_G84 c53_G85 c53_G86 c53_G87 c53_G88 hc53 => ?_)
        have hq53 := wp_at (ok_X4_takeClose κ wd (va_up (va_up (va_up (va_up (va_up (va_up (va_up (va_up (va_up (va_up G 80 c16_G80) 81 c16_G81) 80 c27_G80) 81 c27_G81) 84 c27_G84) 85 c27_G85) 86 c27_G86) 87 c27_G87) 88 c27_G88) 203 c49_G203) P U (va_up (va_up V 0 c49_V0) 1 c49_V1) X O kd ln cnt this hzG83 hg10 hg11 hg12 hg13 hzP82 hzLN hk_this hpr53_0 hpr53_1) hc53
        obtain ⟨hg34, hg35, hg36, hg37, f38, f39, f40⟩ : (rng (0) 2001 c53_G84) ∧ (rng (0) 4 c53_G85) ∧ (rng (0) 2001 c53_G87) ∧ (rng (0) 2000 c53_G88) ∧ ((0 ≤ r53.toInt ∧ r53.toInt ≤ 1)) ∧ ((c27_G84 this).toInt ≤ (c53_G84 this).toInt) ∧ ((c53_G84 this).toInt ≤ ((G 83) this).toInt + 1) := hq53
        have hq53 := pwq (fr_X4_takeClose la (va_up (va_up (va_up (va_up (va_up (va_up (va_up (va_up (va_up (va_up G 80 c16_G80) 81 c16_G81) 80 c27_G80) 81 c27_G81) 84 c27_G84) 85 c27_G85) 86 c27_G86) 87 c27_G87) 88 c27_G88) 203 c49_G203) P U (va_up (va_up V 0 c49_V0) 1 c49_V1) X O kd ln cnt this hB) hc53
        obtain ⟨q53_G80, q53_G81, q53_G84, q53_G85, q53_G86, q53_G87, q53_G88⟩ : (∀ z, (la z < la this ∨ la this < la z) → c53_G80 z = c27_G80 z) ∧ (∀ z, (la z < la this ∨ la this < la z) → c53_G81 z = c27_G81 z) ∧ (∀ z, (la z < la this ∨ la this < la z) → c53_G84 z = c27_G84 z) ∧ (∀ z, (la z < la this ∨ la this < la z) → c53_G85 z = c27_G85 z) ∧ (∀ z, (la z < la this ∨ la this < la z) → c53_G86 z = c27_G86 z) ∧ (∀ z, (la z < la this ∨ la this < la z) → c53_G87 z = c27_G87 z) ∧ (∀ z, (la z < la this ∨ la this < la z) → c53_G88 z = c27_G88 z) := hq53
        have tz53 : ∀ z, ((la z < la this ∨ la this < la z) ∧ (la z < la p0 ∨ la p0 + 3 < la z) ∧ (la z < la p0 + 5 ∨ la p0 + 5 < la z)) → ((la z < la this ∨ la this < la z)) := fun z hz => by omega
        have hfr41 : ∀ z, ((la z < la this ∨ la this < la z) ∧ (la z < la p0 ∨ la p0 + 3 < la z) ∧ (la z < la p0 + 5 ∨ la p0 + 5 < la z)) → c53_G80 z = (G 80) z := fun z hz => (q53_G80 z (tz53 z hz)).trans (hfr17 z hz)
        have hfr42 : ∀ z, ((la z < la this ∨ la this < la z) ∧ (la z < la p0 ∨ la p0 + 3 < la z) ∧ (la z < la p0 + 5 ∨ la p0 + 5 < la z)) → c53_G81 z = (G 81) z := fun z hz => (q53_G81 z (tz53 z hz)).trans (hfr18 z hz)
        have hfr43 : ∀ z, ((la z < la this ∨ la this < la z) ∧ (la z < la p0 ∨ la p0 + 3 < la z) ∧ (la z < la p0 + 5 ∨ la p0 + 5 < la z)) → c53_G84 z = (G 84) z := fun z hz => (q53_G84 z (tz53 z hz)).trans (hfr19 z hz)
        have hfr44 : ∀ z, ((la z < la this ∨ la this < la z) ∧ (la z < la p0 ∨ la p0 + 3 < la z) ∧ (la z < la p0 + 5 ∨ la p0 + 5 < la z)) → c53_G85 z = (G 85) z := fun z hz => (q53_G85 z (tz53 z hz)).trans (hfr20 z hz)
        have hfr45 : ∀ z, ((la z < la this ∨ la this < la z) ∧ (la z < la p0 ∨ la p0 + 3 < la z) ∧ (la z < la p0 + 5 ∨ la p0 + 5 < la z)) → c53_G86 z = (G 86) z := fun z hz => (q53_G86 z (tz53 z hz)).trans (hfr21 z hz)
        have hfr46 : ∀ z, ((la z < la this ∨ la this < la z) ∧ (la z < la p0 ∨ la p0 + 3 < la z) ∧ (la z < la p0 + 5 ∨ la p0 + 5 < la z)) → c53_G87 z = (G 87) z := fun z hz => (q53_G87 z (tz53 z hz)).trans (hfr22 z hz)
        have hfr47 : ∀ z, ((la z < la this ∨ la this < la z) ∧ (la z < la p0 ∨ la p0 + 3 < la z) ∧ (la z < la p0 + 5 ∨ la p0 + 5 < la z)) → c53_G88 z = (G 88) z := fun z hz => (q53_G88 z (tz53 z hz)).trans (hfr23 z hz)
        have h853_htx : (P 82) this = some tx := by first | assumption | omega
        have h853_hf : c49_V0 tx = f := by exact hvx
        have h853_hn : Int32.toNatClampNeg ((G 83) this) = n := by first | assumption | omega
        have h853_he : Int32.toNatClampNeg (c27_G84 this) = (tE f n e) := by exact g7
        have hx53 := pwq (fn_X4_takeClose κ wd la (va_up (va_up (va_up (va_up (va_up (va_up (va_up (va_up (va_up (va_up G 80 c16_G80) 81 c16_G81) 80 c27_G80) 81 c27_G81) 84 c27_G84) 85 c27_G85) 86 c27_G86) 87 c27_G87) 88 c27_G88) 203 c49_G203) P U (va_up (va_up V 0 c49_V0) 1 c49_V1) X O kd ln cnt this (tx) (f) (n) (tE f n e) hzG83 hg10 hg11 hg12 hg13 hzP82 hzLN hk_this hpr53_0 hpr53_1 hB hlt_this h853_htx h853_hf h853_hn h853_he) hc53
        obtain ⟨p53_0, p53_1⟩ : ((r53.toInt ≠ 0 → fCl f n (tE f n e) = none ∧ (c53_G80 this).toInt = (c27_G80 this).toInt ∧ (c53_G81 this).toInt = (c27_G81 this).toInt ∧ Int32.toNatClampNeg (c53_G84 this) = tE f n (tE f n e))) ∧ ((r53.toInt = 0 → ERR (fCl f n (tE f n e)) (c53_G80 this) (c53_G81 this))) := hx53
        refine pw_j10 ej57 (fun z57_0 ez57_0 z57_1 ez57_1 z57_2 ez57_2 z57_3 ez57_3 z57_4 ez57_4 z57_5 ez57_5 z57_6 ez57_6 z57_7 ez57_7 z57_8 ez57_8 z57_9 ez57_9 => ?_)
        subst ez57_0 ez57_1 ez57_2 ez57_3 ez57_4 ez57_5 ez57_6 ez57_7 ez57_8 ez57_9
        have qq0 : OUTC (prtF f n pl e d) (c53_G80 this) (c53_G81 this) (c53_G84 this) (fun d1 => (entV (c49_G203 er) (c49_V0 le) (c49_V1 se) (c49_V0 lb) (c49_V1 sb) ((V 10) kp), rwW (c49_G203 pr) (c49_V0 lp) (c49_V1 sp) 16, lwsV ((G 102) p0) ((O 0) lr) (P 20) (P 21) (P 22) (P 23) (G 24) (G 25) c49_V0 ln) = d1 ∧ (c49_G203 br).toInt = (c49_G203 er).toInt ∧ ((G 107) p0).toInt = ((kct d1.1 : Nat) : Int)) := by by_cases q50 : r53.toInt = 0; (exact outc_bad (p53_1 q50) (fun q hq => prtF_c (by omega) g1 hq)); (obtain ⟨y1, y2, y3, y4⟩ := p53_0 q50; obtain ⟨⟨c_er, l_er⟩, ⟨c_br, l_br⟩, ⟨c_pr, l_pr⟩, ⟨c_kp, l_kp⟩, ⟨c_lr, l_lr⟩, ⟨c_le, l_le⟩, ⟨c_lb, l_lb⟩, ⟨c_lp, l_lp⟩, ⟨c_se, l_se⟩, ⟨c_sb, l_sb⟩, ⟨c_sp, l_sp⟩⟩ := pts_lab hpt hB; refine outc_ok (prtF_k (by omega) g1 y1) (by omega) (by omega) (by rw [y4]) ⟨?_, ?_, by omega⟩; (refine Prod.ext ?_ (Prod.ext ?_ ?_)); (show entV _ _ _ _ _ _ = d.1; rw [hd1, q49_G203 er (by omega), q49_V0 le (by omega), q49_V0 lb (by omega), q49_V1 se (by omega), q49_V1 sb (by omega)]); (show rwW _ _ _ _ = d.2.1 ++ _; rw [hd2, p49_0, hwd]); (show lwsV _ _ _ _ _ _ _ _ _ _ = d.2.2; rw [hd3]; exact lws_fr hB hlw rfl (fun _ _ => rfl) (fun z hz hl => ⟨rfl, rfl, rfl, rfl, rfl, rfl, q49_V0 z (by omega), rfl⟩)); (have ha := congrArg Int32.toInt (q49_G203 br (by omega)); have hb := congrArg Int32.toInt (q49_G203 er (by omega)); omega))
        have qq1 : c49_V0 tx = f := by exact hvx
        exact pw_some ⟨qq0, qq1⟩
  · have c8 := z_ne c8
    refine pw_j1 ej16 (fun t16_0 et16_0 => ?_)
    have et16_0 := et16_0.symm
    have f_t16_0 : t16_0.toInt = 0 := by rw [et16_0]; decide +kernel
    refine pw_b3 (fun r16 c16_G80 c16_G81 hc16 => ?_)
    have hq16 := wp_at (ok_X4_hasRoom κ wd G P U V X O kd ln cnt this t16_0 hzLN hk_this) hc16
    have f48 : (0 ≤ r16.toInt ∧ r16.toInt ≤ 1) := hq16
    clear hq16
    have hq16 := pwq (fr_X4_hasRoom la G P U V X O kd ln cnt this t16_0 hB) hc16
    obtain ⟨q16_G80, q16_G81⟩ : (∀ z, (la z < la this ∨ la this < la z) → c16_G80 z = (G 80) z) ∧ (∀ z, (la z < la this ∨ la this < la z) → c16_G81 z = (G 81) z) := hq16
    have tz16 : ∀ z, ((la z < la this ∨ la this < la z) ∧ (la z < la p0 ∨ la p0 + 3 < la z) ∧ (la z < la p0 + 5 ∨ la p0 + 5 < la z)) → ((la z < la this ∨ la this < la z)) := fun z hz => by omega
    have hfr49 : ∀ z, ((la z < la this ∨ la this < la z) ∧ (la z < la p0 ∨ la p0 + 3 < la z) ∧ (la z < la p0 + 5 ∨ la p0 + 5 < la z)) → c16_G80 z = (G 80) z := fun z hz => (q16_G80 z (tz16 z hz)).trans ((fun _ _ => rfl) z hz)
    have hfr50 : ∀ z, ((la z < la this ∨ la this < la z) ∧ (la z < la p0 ∨ la p0 + 3 < la z) ∧ (la z < la p0 + 5 ∨ la p0 + 5 < la z)) → c16_G81 z = (G 81) z := fun z hz => (q16_G81 z (tz16 z hz)).trans ((fun _ _ => rfl) z hz)
    have hx16 := pwq (fn_X4_hasRoom κ wd la G P U V X O kd ln cnt this t16_0 hzLN hk_this hB hlt_this) hc16
    obtain ⟨p16_0, p16_1⟩ : ((r16.toInt ≠ 0 → t16_0.toInt ≠ 0 ∧ (c16_G80 this).toInt = ((G 80) this).toInt ∧ (c16_G81 this).toInt = ((G 81) this).toInt)) ∧ ((r16.toInt = 0 → t16_0.toInt = 0 ∧ (c16_G80 this).toInt = 4 ∧ (c16_G81 this).toInt = ((G 86) this).toInt)) := hx16
    refine pw_jE (fun j57 ej57 => ?_)
    refine pw_ite (fun c19 => ?_) (fun c19 => ?_)
    · have c19 := congrArg Int32.toInt c19
      refine pw_j10 ej57 (fun z57_0 ez57_0 z57_1 ez57_1 z57_2 ez57_2 z57_3 ez57_3 z57_4 ez57_4 z57_5 ez57_5 z57_6 ez57_6 z57_7 ez57_7 z57_8 ez57_8 z57_9 ez57_9 => ?_)
      subst ez57_0 ez57_1 ez57_2 ez57_3 ez57_4 ez57_5 ez57_6 ez57_7 ez57_8 ez57_9
      have qq0 : OUTC (prtF f n pl e d) (c16_G80 this) (c16_G81 this) ((G 84) this) (fun d1 => (entV ((G 203) er) ((V 0) le) ((V 1) se) ((V 0) lb) ((V 1) sb) ((V 10) kp), rwW ((G 203) pr) ((V 0) lp) ((V 1) sp) 16, lwsV ((G 102) p0) ((O 0) lr) (P 20) (P 21) (P 22) (P 23) (G 24) (G 25) (V 0) ln) = d1 ∧ ((G 203) br).toInt = ((G 203) er).toInt ∧ ((G 107) p0).toInt = ((kct d1.1 : Nat) : Int)) := by exact outc_bad (z := some (4, pl)) (err_of rfl (by omega) (by omega) (by omega)) (fun q hq => by cases hq; exact prtF_full (by have h := p5_0 (by omega) _ hpt.2.2.1.2.2; omega))
      have qq1 : (V 0) tx = f := by exact hf
      exact pw_some ⟨qq0, qq1⟩
    · have c19 := z_ne c19
      exfalso; omega
