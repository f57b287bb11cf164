abbrev QF_X4_readKeep (κ : Nat → Nat) (wd : Nat) (la : Nat → Nat) (G : Nat → Nat → Int32) (P : Nat → Nat → Option Nat) (U : Nat → Nat → Int64) (V : Nat → Nat → Nat → Int32) (X : Nat → Nat → Nat → Int64) (O : Nat → Nat → Nat → Option Nat) (kd : Nat → Nat) (ln : Nat → Nat) (cnt : Nat) (this : Nat) (p0 : Nat) (tx : Nat) (f : Nat → Int32) (n : Nat) (e : Nat) (pl : Nat) (d : Dr) (er : Nat) (br : Nat) (pr : Nat) (kp : Nat) (lr : Nat) (le : Nat) (lb : Nat) (lp : Nat) (se : Nat) (sb : Nat) (sp : Nat) : ((Nat → Int32) × (Nat → Int32) × (Nat → Int32) × (Nat → Int32) × (Nat → Int32) × (Nat → Int32) × (Nat → Int32) × (Nat → Int32) × (Nat → Int32) × (Nat → Nat → Int32) × (Nat → Nat → Int32) × (Nat → Nat → Int32)) → Prop := (fun t => (OUTC (entF f n pl e d false) ((t.1) this) ((t.2.1) this) ((t.2.2.1) this) (fun d1 => (entV ((t.2.2.2.2.2.2.2.2.1) er) ((t.2.2.2.2.2.2.2.2.2.1) le) ((t.2.2.2.2.2.2.2.2.2.2.1) se) ((t.2.2.2.2.2.2.2.2.2.1) lb) ((t.2.2.2.2.2.2.2.2.2.2.1) sb) ((t.2.2.2.2.2.2.2.2.2.2.2) kp), rwW ((t.2.2.2.2.2.2.2.2.1) pr) ((t.2.2.2.2.2.2.2.2.2.1) lp) ((t.2.2.2.2.2.2.2.2.2.2.1) sp) 16, lwsV ((G 102) p0) ((O 0) lr) (P 20) (P 21) (P 22) (P 23) (G 24) (G 25) (t.2.2.2.2.2.2.2.2.2.1) ln) = d1 ∧ ((t.2.2.2.2.2.2.2.2.1) br).toInt = ((t.2.2.2.2.2.2.2.2.1) er).toInt ∧ ((t.2.2.2.2.2.2.2.1) p0).toInt = ((kct d1.1 : Nat) : Int))) ∧ ((t.2.2.2.2.2.2.2.2.2.1) tx = f))
set_option maxHeartbeats 4000000 in
set_option maxRecDepth 100000 in
theorem fn_X4_readKeep (κ : Nat → Nat) (wd : Nat) (la : Nat → Nat) (G : Nat → Nat → Int32) (P : Nat → Nat → Option Nat) (U : Nat → Nat → Int64) (V : Nat → Nat → Nat → Int32) (X : Nat → Nat → Nat → Int64) (O : Nat → Nat → Nat → Option Nat) (kd : Nat → Nat) (ln : Nat → Nat) (cnt : Nat) (this : Nat) (p0 : Nat) (tx : Nat) (f : Nat → Int32) (n : Nat) (e : Nat) (pl : Nat) (d : Dr) (er : Nat) (br : Nat) (pr : Nat) (kp : Nat) (lr : Nat) (le : Nat) (lb : Nat) (lp : Nat) (se : Nat) (sb : Nat) (sp : Nat) (hzG83 : rng (0) 2000 (G 83)) (hzG84 : rng (0) 2001 (G 84)) (hzG85 : rng (0) 4 (G 85)) (hzG87 : rng (0) 2001 (G 87)) (hzG88 : rng (0) 2000 (G 88)) (hzG200 : rng (0) 24 (G 200)) (hzG203 : rng (0) 100 (G 203)) (hzP82 : PB κ ln wd 5 100 0 2000 0 (P 82)) (hzP104 : PB κ ln wd 6 11 0 2500 1 (P 104)) (hzP105 : PB κ ln wd 6 11 0 2500 1 (P 105)) (hzP106 : PB κ ln wd 6 110 40 40 0 (P 106)) (hzP201 : PB κ ln wd 11 100 0 2400 0 (P 201)) (hzP202 : PB κ ln wd 11 101 0 100 0 (P 202)) (hzV1 : rng2 (0) 24 (V 1)) (hzRA : RA κ ln (G 200) (P 201) (P 202)) (hzRB : RB κ ln (G 200) (G 203) (P 202) (V 1)) (hzRI : RI (P 202)) (hzRM104 : RM ln 40 (P 104) (P 202)) (hzLN : LN κ ln) (hk_this : κ this = 5) (hk_p0 : κ p0 = 6) (hp0 : (∀ tx, (P 82) this = some tx → ((G 83) this).toInt ≤ ((ln tx : Nat) : Int))) (hp1 : ((G 84) this).toInt ≤ ((G 83) this).toInt + 1) (hB : LB la cnt P) (hlt_this : this < cnt) (hlt_p0 : p0 < cnt) (htx : (P 82) this = some tx) (hf : (V 0) tx = f) (hn : Int32.toNatClampNeg ((G 83) this) = n) (he : Int32.toNatClampNeg ((G 84) this) = e) (hpt : PTS P (G 200) ln p0 er br pr kp lr le lb lp se sb sp) (hd : (entV ((G 203) er) ((V 0) le) ((V 1) se) ((V 0) lb) ((V 1) sb) ((V 10) kp), rwW ((G 203) pr) ((V 0) lp) ((V 1) sp) 16, lwsV ((G 102) p0) ((O 0) lr) (P 20) (P 21) (P 22) (P 23) (G 24) (G 25) (V 0) ln) = d) (hcb : ((G 203) br).toInt = ((G 203) er).toInt) (hkc : ((G 107) p0).toInt = ((kct d.1 : Nat) : Int)) (hpl : ((G 86) this).toInt = (pl : Int)) (hk0 : ((G 80) this).toInt = 0) (hk1 : ((G 81) this).toInt = -1) (hlw : LWL ((G 102) p0) ((O 0) lr) la cnt (la p0 + 5)) (hlx : la tx = 11) (hld : 100000 ≤ la p0) (hlh : la this = 300) : pw (f_X4_readKeep G P U V X O kd ln cnt this p0) (QF_X4_readKeep κ wd la G P U V X O kd ln cnt this p0 tx f n e pl d er br pr kp lr le lb lp se sb sp) := by
  unfold f_X4_readKeep
  have zk0 : (0 : Int32).toInt = 0 := by decide +kernel
  have zk1 : (1 : Int32).toInt = 1 := by decide +kernel
  have hn1 : (P 82) this = some tx := htx
  have lt_tx2 := ((hB.1 82 fl_82) this tx hn1).2.1
  have hk_tx := ((hzP82 this).2 tx hn1).1
  have hl1_tx := ((hzP82 this).2 tx hn1).2.1
  have hl2_tx := ((hzP82 this).2 tx hn1).2.2.1
  have hw_tx := ((hzP82 this).2 tx hn1).2.2.2
  have hz_tx : (Int32.ofNat (ln tx)).toInt = ((ln tx : Nat) : Int) := ofN_eq (by first | exact Nat.le_trans hl2_tx (by decide) | omega)
  have hn3 : (P 104) p0 = some er := hpt.1.1
  have lt_er4 := ((hB.1 104 fl_104) p0 er hn3).2.1
  have lb_er4 : la er = la p0 + 2 := lk_104.mp ((hB.1 104 fl_104) p0 er hn3).2.2
  have hk_er := ((hzP104 p0).2 er hn3).1
  have hl1_er := ((hzP104 p0).2 er hn3).2.1
  have hl2_er := ((hzP104 p0).2 er hn3).2.2.1
  have hw_er := ((hzP104 p0).2 er hn3).2.2.2
  have hd1 : d.1 = entV ((G 203) er) ((V 0) le) ((V 1) se) ((V 0) lb) ((V 1) sb) ((V 10) kp) := by rw [← hd]
  have hd2 : d.2.1 = rwW ((G 203) pr) ((V 0) lp) ((V 1) sp) 16 := by rw [← hd]
  have hd3 : d.2.2 = lwsV ((G 102) p0) ((O 0) lr) (P 20) (P 21) (P 22) (P 23) (G 24) (G 25) (V 0) ln := by rw [← hd]
  have hde : d.1.length = Int32.toNatClampNeg ((G 203) er) := by rw [hd1]; exact ent_len
  have hdp : d.2.1.length = Int32.toNatClampNeg ((G 203) pr) := by rw [hd2]; exact rw_len
  have hbe := hzG203 er
  have hbp := hzG203 pr
  have hce := clampI (x := (G 203) er) (by omega)
  have hcp := clampI (x := (G 203) pr) (by omega)
  have hkl := kct_le (es := d.1)
  have hl40e := hpt.2.2.2.2.1
  have hl40p := hpt.2.2.2.2.2.2
  refine pw_nne hn3 ?_
  refine pw_b1 (fun r5 hc5 => ?_)
  have hq5 := wp_at (ok_X10_isFull κ wd G P U V X O kd ln cnt er hzG200 hzG203 hzP201 hzP202 hzV1 hzRA hzRB hzRI hzLN hk_er) hc5
  obtain ⟨f5, f6⟩ : ((0 ≤ r5.toInt ∧ r5.toInt ≤ 1)) ∧ ((∀ s, (P 202) er = some s → r5.toInt = 0 → ((G 203) er).toInt < ((ln s : Nat) : Int))) := hq5
  have hx5 := pwq (fn_X10_isFull κ wd la G P U V X O kd ln cnt er hzG200 hzG203 hzP201 hzP202 hzV1 hzRA hzRB hzRI hzLN hk_er hB lt_er4) hc5
  obtain ⟨p5_0, p5_1⟩ : ((r5.toInt ≠ 0 → ∀ s, (P 202) er = some s → ((ln s : Nat) : Int) ≤ ((G 203) er).toInt)) ∧ ((r5.toInt = 0 → ∀ s, (P 202) er = some s → ((G 203) er).toInt < ((ln s : Nat) : Int))) := hx5
  refine pw_jE (fun j16 ej16 => ?_)
  refine pw_ite (fun c8 => ?_) (fun c8 => ?_)
  · have c8 := congrArg Int32.toInt c8
    refine pw_j1 ej16 (fun t16_0 et16_0 => ?_)
    have et16_0 := et16_0.symm
    have f_t16_0 : t16_0.toInt = 1 := by rw [et16_0]; decide +kernel
    refine pw_b3 (fun r16 c16_G80 c16_G81 hc16 => ?_)
    have hq16 := wp_at (ok_X4_hasRoom κ wd G P U V X O kd ln cnt this t16_0 hzLN hk_this) hc16
    have f7 : (0 ≤ r16.toInt ∧ r16.toInt ≤ 1) := hq16
    clear hq16
    have hq16 := pwq (fr_X4_hasRoom la G P U V X O kd ln cnt this t16_0 hB) hc16
    obtain ⟨q16_G80, q16_G81⟩ : (∀ z, (la z < la this ∨ la this < la z) → c16_G80 z = (G 80) z) ∧ (∀ z, (la z < la this ∨ la this < la z) → c16_G81 z = (G 81) z) := hq16
    have tz16 : ∀ z, ((la z < la this ∨ la this < la z) ∧ (la z < la p0 ∨ la p0 + 3 < la z) ∧ (la z < la p0 + 5 ∨ la p0 + 5 < la z)) → ((la z < la this ∨ la this < la z)) := fun z hz => by omega
    have hfr8 : ∀ z, ((la z < la this ∨ la this < la z) ∧ (la z < la p0 ∨ la p0 + 3 < la z) ∧ (la z < la p0 + 5 ∨ la p0 + 5 < la z)) → c16_G80 z = (G 80) z := fun z hz => (q16_G80 z (tz16 z hz)).trans ((fun _ _ => rfl) z hz)
    have hfr9 : ∀ z, ((la z < la this ∨ la this < la z) ∧ (la z < la p0 ∨ la p0 + 3 < la z) ∧ (la z < la p0 + 5 ∨ la p0 + 5 < la z)) → c16_G81 z = (G 81) z := fun z hz => (q16_G81 z (tz16 z hz)).trans ((fun _ _ => rfl) z hz)
    have hx16 := pwq (fn_X4_hasRoom κ wd la G P U V X O kd ln cnt this t16_0 hzLN hk_this hB hlt_this) hc16
    obtain ⟨p16_0, p16_1⟩ : ((r16.toInt ≠ 0 → t16_0.toInt ≠ 0 ∧ (c16_G80 this).toInt = ((G 80) this).toInt ∧ (c16_G81 this).toInt = ((G 81) this).toInt)) ∧ ((r16.toInt = 0 → t16_0.toInt = 0 ∧ (c16_G80 this).toInt = 4 ∧ (c16_G81 this).toInt = ((G 86) this).toInt)) := hx16
    refine pw_jE (fun j54 ej54 => ?_)
    refine pw_ite (fun c19 => ?_) (fun c19 => ?_)
    · have c19 := congrArg Int32.toInt c19
      exfalso; omega
    · have c19 := z_ne c19
      refine pw_nne hn3 ?_
      have hpr27_0 : (∀ tx, (P 82) this = some tx → ((G 83) this).toInt ≤ ((ln tx : Nat) : Int)) := by assumption
      have hpr27_1 : ((G 84) this).toInt ≤ ((G 83) this).toInt + 1 := by first | assumption | omega
      refine pw_b8 (fun r27 c27_G80 c27_G81 c27_G84 c27_G85 c27_G86 c27_G87 c27_G88 hc27 => ?_)
      have hq27 := wp_at (ok_X4_takeNew κ wd (va_up (va_up G 80 c16_G80) 81 c16_G81) P U V X O kd ln cnt this er hzG83 hzG84 hzG85 hzG87 hzG88 hzG200 hzG203 hzP82 hzP201 hzP202 hzV1 hzRA hzRB hzRI hzLN hk_this hk_er hpr27_0 hpr27_1) hc27
      obtain ⟨hg10, hg11, hg12, hg13, f14, f15, f16⟩ : (rng (0) 2001 c27_G84) ∧ (rng (0) 4 c27_G85) ∧ (rng (0) 2001 c27_G87) ∧ (rng (0) 2000 c27_G88) ∧ ((0 ≤ r27.toInt ∧ r27.toInt ≤ 1)) ∧ (((G 84) this).toInt ≤ (c27_G84 this).toInt) ∧ ((c27_G84 this).toInt ≤ ((G 83) this).toInt + 1) := hq27
      have hq27 := pwq (fr_X4_takeNew la (va_up (va_up G 80 c16_G80) 81 c16_G81) P U V X O kd ln cnt this er hB) hc27
      obtain ⟨q27_G80, q27_G81, q27_G84, q27_G85, q27_G86, q27_G87, q27_G88⟩ : (∀ z, (la z < la this ∨ la this < la z) → c27_G80 z = c16_G80 z) ∧ (∀ z, (la z < la this ∨ la this < la z) → c27_G81 z = c16_G81 z) ∧ (∀ z, (la z < la this ∨ la this < la z) → c27_G84 z = (G 84) z) ∧ (∀ z, (la z < la this ∨ la this < la z) → c27_G85 z = (G 85) z) ∧ (∀ z, (la z < la this ∨ la this < la z) → c27_G86 z = (G 86) z) ∧ (∀ z, (la z < la this ∨ la this < la z) → c27_G87 z = (G 87) z) ∧ (∀ z, (la z < la this ∨ la this < la z) → c27_G88 z = (G 88) z) := hq27
      have tz27 : ∀ z, ((la z < la this ∨ la this < la z) ∧ (la z < la p0 ∨ la p0 + 3 < la z) ∧ (la z < la p0 + 5 ∨ la p0 + 5 < la z)) → ((la z < la this ∨ la this < la z)) := fun z hz => by omega
      have hfr17 : ∀ z, ((la z < la this ∨ la this < la z) ∧ (la z < la p0 ∨ la p0 + 3 < la z) ∧ (la z < la p0 + 5 ∨ la p0 + 5 < la z)) → c27_G80 z = (G 80) z := fun z hz => (q27_G80 z (tz27 z hz)).trans (hfr8 z hz)
      have hfr18 : ∀ z, ((la z < la this ∨ la this < la z) ∧ (la z < la p0 ∨ la p0 + 3 < la z) ∧ (la z < la p0 + 5 ∨ la p0 + 5 < la z)) → c27_G81 z = (G 81) z := fun z hz => (q27_G81 z (tz27 z hz)).trans (hfr9 z hz)
      have hfr19 : ∀ z, ((la z < la this ∨ la this < la z) ∧ (la z < la p0 ∨ la p0 + 3 < la z) ∧ (la z < la p0 + 5 ∨ la p0 + 5 < la z)) → c27_G84 z = (G 84) z := fun z hz => (q27_G84 z (tz27 z hz)).trans ((fun _ _ => rfl) z hz)
      have hfr20 : ∀ z, ((la z < la this ∨ la this < la z) ∧ (la z < la p0 ∨ la p0 + 3 < la z) ∧ (la z < la p0 + 5 ∨ la p0 + 5 < la z)) → c27_G85 z = (G 85) z := fun z hz => (q27_G85 z (tz27 z hz)).trans ((fun _ _ => rfl) z hz)
      have hfr21 : ∀ z, ((la z < la this ∨ la this < la z) ∧ (la z < la p0 ∨ la p0 + 3 < la z) ∧ (la z < la p0 + 5 ∨ la p0 + 5 < la z)) → c27_G86 z = (G 86) z := fun z hz => (q27_G86 z (tz27 z hz)).trans ((fun _ _ => rfl) z hz)
      have hfr22 : ∀ z, ((la z < la this ∨ la this < la z) ∧ (la z < la p0 ∨ la p0 + 3 < la z) ∧ (la z < la p0 + 5 ∨ la p0 + 5 < la z)) → c27_G87 z = (G 87) z := fun z hz => (q27_G87 z (tz27 z hz)).trans ((fun _ _ => rfl) z hz)
      have hfr23 : ∀ z, ((la z < la this ∨ la this < la z) ∧ (la z < la p0 ∨ la p0 + 3 < la z) ∧ (la z < la p0 + 5 ∨ la p0 + 5 < la z)) → c27_G88 z = (G 88) z := fun z hz => (q27_G88 z (tz27 z hz)).trans ((fun _ _ => rfl) z hz)
      have h827_htx : (P 82) this = some tx := by first | assumption | omega
      have h827_hf : (V 0) tx = f := by first | assumption | omega
      have h827_hn : Int32.toNatClampNeg ((G 83) this) = n := by first | assumption | omega
      have h827_he : Int32.toNatClampNeg ((G 84) this) = e := by first | assumption | omega
      have h827_hl : (P 201) er = some (le) := by exact hpt.2.1.1
      have h827_hs : (P 202) er = some (se) := by exact hpt.2.2.1.1
      have h827_hw : ((G 200) er).toInt = 16 := by exact hpt.2.2.2.1.1
      have h827_hws : rwW ((G 203) er) ((V 0) (le)) ((V 1) (se)) 16 = (d.1.map Prod.fst) := by rw [hd1]; exact ent_fst.symm
      have hx27 := pwq (fn_X4_takeNew κ wd la (va_up (va_up G 80 c16_G80) 81 c16_G81) P U V X O kd ln cnt this er (tx) (f) (n) (e) (le) (se) (d.1.map Prod.fst) hzG83 hzG84 hzG85 hzG87 hzG88 hzG200 hzG203 hzP82 hzP201 hzP202 hzV1 hzRA hzRB hzRI hzLN hk_this hk_er hpr27_0 hpr27_1 hB hlt_this lt_er4 h827_htx h827_hf h827_hn h827_he h827_hl h827_hs h827_hw h827_hws) hc27
      obtain ⟨p27_0, p27_1⟩ : ((r27.toInt ≠ 0 → newF f n e (d.1.map Prod.fst) = none ∧ (c27_G80 this).toInt = (c16_G80 this).toInt ∧ (c27_G81 this).toInt = (c16_G81 this).toInt ∧ (c27_G86 this).toInt = ((tP f n e : Nat) : Int) ∧ (c27_G87 this).toInt = ((tP f n e : Nat) : Int) + 1 ∧ (c27_G88 this).toInt = ((tL f n e : Nat) : Int) ∧ Int32.toNatClampNeg (c27_G84 this) = tE f n e)) ∧ ((r27.toInt = 0 → ERR (newF f n e (d.1.map Prod.fst)) (c27_G80 this) (c27_G81 this))) := hx27
      refine pw_ite (fun c30 => ?_) (fun c30 => ?_)
      · have c30 := congrArg Int32.toInt c30
        refine pw_j12 ej54 (fun z54_0 ez54_0 z54_1 ez54_1 z54_2 ez54_2 z54_3 ez54_3 z54_4 ez54_4 z54_5 ez54_5 z54_6 ez54_6 z54_7 ez54_7 z54_8 ez54_8 z54_9 ez54_9 z54_10 ez54_10 z54_11 ez54_11 => ?_)
        subst ez54_0 ez54_1 ez54_2 ez54_3 ez54_4 ez54_5 ez54_6 ez54_7 ez54_8 ez54_9 ez54_10 ez54_11
        have qq0 : OUTC (entF f n pl e d false) (c27_G80 this) (c27_G81 this) (c27_G84 this) (fun d1 => (entV ((G 203) er) ((V 0) le) ((V 1) se) ((V 0) lb) ((V 1) sb) ((V 10) kp), rwW ((G 203) pr) ((V 0) lp) ((V 1) sp) 16, lwsV ((G 102) p0) ((O 0) lr) (P 20) (P 21) (P 22) (P 23) (G 24) (G 25) (V 0) ln) = d1 ∧ ((G 203) br).toInt = ((G 203) er).toInt ∧ ((G 107) p0).toInt = ((kct d1.1 : Nat) : Int)) := by exact outc_bad (p27_1 (by omega)) (fun q hq => entF_new (by have h := p5_1 (by omega) _ hpt.2.2.1.1; omega) hq)
        have qq1 : (V 0) tx = f := by exact hf
        exact pw_some ⟨qq0, qq1⟩
      · have c30 := z_ne c30
        obtain ⟨g1, g2, g3, g4, g5, g6, g7⟩ := p27_0 (by omega)
        have hk2 := newF_k g1
        have hl2 := tL_2 hk2.1
        have ea := clampI (x := c27_G87 this) (by omega)
        have eb := clampI (x := c27_G88 this) (by omega)
        have hsz := hp0 _ htx
        have hb83 := hzG83 this
        have ec83 := clampI (x := (G 83) this) (by omega)
        have hwd : wdl ((V 0) tx) (Int32.toNatClampNeg (c27_G87 this)) (Int32.toNatClampNeg (c27_G88 this)) = tW f n e := by rw [hf, show Int32.toNatClampNeg (c27_G87 this) = tP f n e + 1 by omega, show Int32.toNatClampNeg (c27_G88 this) = tL f n e by omega]; rfl
        have hf8 := p5_1 (by omega) _ hpt.2.2.1.1
        refine pw_nne hn1 ?_
        have b24 := hg12 this
        have b25 := hg13 this
        refine pw_b5 (fun c46_G107 c46_G203 c46_V0 c46_V1 c46_V10 hc46 => ?_)
        have hq46 := wp_at (ok_X5_addKept κ wd (va_up (va_up (va_up (va_up (va_up (va_up (va_up (va_up (va_up G 80 c16_G80) 81 c16_G81) 80 c27_G80) 81 c27_G81) 84 c27_G84) 85 c27_G85) 86 c27_G86) 87 c27_G87) 88 c27_G88) P U V X O kd ln cnt p0 tx (c27_G87 this) (c27_G88 this) hzG200 hzG203 hzP104 hzP105 hzP106 hzP201 hzP202 hzV1 hzRA hzRB hzRI hzRM104 hzLN hk_p0 hk_tx) hc46
        obtain ⟨hg26, hg27, hRB28, f29⟩ : (rng (0) 100 c46_G203) ∧ (rng2 (0) 24 c46_V1) ∧ (RB κ ln (G 200) c46_G203 (P 202) c46_V1) ∧ (c46_G203 wd = (G 203) wd) := hq46
        have hq46 := pwq (fr_X5_addKept la (va_up (va_up (va_up (va_up (va_up (va_up (va_up (va_up (va_up G 80 c16_G80) 81 c16_G81) 80 c27_G80) 81 c27_G81) 84 c27_G84) 85 c27_G85) 86 c27_G86) 87 c27_G87) 88 c27_G88) P U V X O kd ln cnt p0 tx (c27_G87 this) (c27_G88 this) hB) hc46
        obtain ⟨q46_G107, q46_G203, q46_V0, q46_V1, q46_V10⟩ : (∀ z, (la z < la p0 ∨ la p0 + 3 < la z) ∧ (la z < la p0 + 5 ∨ la p0 + 5 < la z) → c46_G107 z = (G 107) z) ∧ (∀ z, (la z < la p0 ∨ la p0 + 3 < la z) ∧ (la z < la p0 + 5 ∨ la p0 + 5 < la z) → c46_G203 z = (G 203) z) ∧ (∀ z, (la z < la p0 ∨ la p0 + 3 < la z) ∧ (la z < la p0 + 5 ∨ la p0 + 5 < la z) → c46_V0 z = (V 0) z) ∧ (∀ z, (la z < la p0 ∨ la p0 + 3 < la z) ∧ (la z < la p0 + 5 ∨ la p0 + 5 < la z) → c46_V1 z = (V 1) z) ∧ (∀ z, (la z < la p0 ∨ la p0 + 3 < la z) ∧ (la z < la p0 + 5 ∨ la p0 + 5 < la z) → c46_V10 z = (V 10) z) := hq46
        have tz46 : ∀ z, ((la z < la this ∨ la this < la z) ∧ (la z < la p0 ∨ la p0 + 3 < la z) ∧ (la z < la p0 + 5 ∨ la p0 + 5 < la z)) → ((la z < la p0 ∨ la p0 + 3 < la z) ∧ (la z < la p0 + 5 ∨ la p0 + 5 < la z)) := fun z hz => by omega
        have hfr30 : ∀ z, ((la z < la this ∨ la this < la z) ∧ (la z < la p0 ∨ la p0 + 3 < la z) ∧ (la z < la p0 + 5 ∨ la p0 + 5 < la z)) → c46_G107 z = (G 107) z := fun z hz => (q46_G107 z (tz46 z hz)).trans ((fun _ _ => rfl) z hz)
        have hfr31 : ∀ z, ((la z < la this ∨ la this < la z) ∧ (la z < la p0 ∨ la p0 + 3 < la z) ∧ (la z < la p0 + 5 ∨ la p0 + 5 < la z)) → c46_G203 z = (G 203) z := fun z hz => (q46_G203 z (tz46 z hz)).trans ((fun _ _ => rfl) z hz)
        have hfr32 : ∀ z, ((la z < la this ∨ la this < la z) ∧ (la z < la p0 ∨ la p0 + 3 < la z) ∧ (la z < la p0 + 5 ∨ la p0 + 5 < la z)) → c46_V0 z = (V 0) z := fun z hz => (q46_V0 z (tz46 z hz)).trans ((fun _ _ => rfl) z hz)
        have hfr33 : ∀ z, ((la z < la this ∨ la this < la z) ∧ (la z < la p0 ∨ la p0 + 3 < la z) ∧ (la z < la p0 + 5 ∨ la p0 + 5 < la z)) → c46_V1 z = (V 1) z := fun z hz => (q46_V1 z (tz46 z hz)).trans ((fun _ _ => rfl) z hz)
        have hfr34 : ∀ z, ((la z < la this ∨ la this < la z) ∧ (la z < la p0 ∨ la p0 + 3 < la z) ∧ (la z < la p0 + 5 ∨ la p0 + 5 < la z)) → c46_V10 z = (V 10) z := fun z hz => (q46_V10 z (tz46 z hz)).trans ((fun _ _ => rfl) z hz)
        have h846_hpt : PTS P (G 200) ln p0 er br pr kp lr le lb lp se sb sp := by exact hpt
        have h846_hrm : ((G 203) er).toInt < 40 := by first | assumption | omega
        have h846_hrb : ((G 203) br).toInt < 40 := by first | assumption | omega
        have h846_hst : 0 ≤ (c27_G87 this).toInt := by first | assumption | omega
        have h846_hm : 0 ≤ (c27_G88 this).toInt := by first | assumption | omega
        have h846_hmw : (c27_G88 this).toInt ≤ 16 := by first | assumption | omega
        have h846_hlf : (c27_G87 this).toInt + (c27_G88 this).toInt ≤ ((ln tx : Nat) : Int) := by first | assumption | omega
        have hx46 := pwq (fn_X5_addKept κ wd la (va_up (va_up (va_up (va_up (va_up (va_up (va_up (va_up (va_up G 80 c16_G80) 81 c16_G81) 80 c27_G80) 81 c27_G81) 84 c27_G84) 85 c27_G85) 86 c27_G86) 87 c27_G87) 88 c27_G88) P U V X O kd ln cnt p0 tx (c27_G87 this) (c27_G88 this) (er) (br) (pr) (kp) (lr) (le) (lb) (lp) (se) (sb) (sp) hzG200 hzG203 hzP104 hzP105 hzP106 hzP201 hzP202 hzV1 hzRA hzRB hzRI hzRM104 hzLN hk_p0 hk_tx hB hlt_p0 lt_tx2 h846_hpt h846_hrm h846_hrb h846_hst h846_hm h846_hmw h846_hlf) hc46
        obtain ⟨p46_0, p46_1, p46_2, p46_3, p46_4, p46_5, p46_6⟩ : (rwW (c46_G203 er) (c46_V0 le) (c46_V1 se) 16 = rwW ((G 203) er) ((V 0) le) ((V 1) se) 16 ++ [wdl ((V 0) tx) (Int32.toNatClampNeg (c27_G87 this)) (Int32.toNatClampNeg (c27_G88 this))]) ∧ (rwW (c46_G203 br) (c46_V0 lb) (c46_V1 sb) 16 = rwW ((G 203) br) ((V 0) lb) ((V 1) sb) 16 ++ [[]]) ∧ (c46_V10 kp = upd ((V 10) kp) (Int32.toNatClampNeg ((G 203) er)) (vp_nar .boolean 1)) ∧ ((c46_G203 er).toInt = ((G 203) er).toInt + 1) ∧ ((c46_G203 br).toInt = ((G 203) br).toInt + 1) ∧ ((0 ≤ ((G 107) p0).toInt → ((G 107) p0).toInt ≤ 40 → (c46_G107 p0).toInt = ((G 107) p0).toInt + 1)) ∧ ((∀ z, la z ≠ la p0 + 2 → la z ≠ la p0 + 3 → c46_V0 z = (V 0) z ∧ c46_V1 z = (V 1) z ∧ c46_G203 z = (G 203) z)) := hx46
        have hvx : c46_V0 tx = f := ((p46_6 tx (by omega) (by omega)).1).trans hf
        have hpr50_0 : (∀ tx, (P 82) this = some tx → ((G 83) this).toInt ≤ ((ln tx : Nat) : Int)) := by assumption
        have hpr50_1 : (c27_G84 this).toInt ≤ ((G 83) this).toInt + 1 := by first | assumption | omega
        refine pw_b8 (fun r50 c50_G80 c50_G81 c50_G84 c50_G85 c50_G86 c50_G87 c50_G88 hc50 => ?_)
        have hq50 := wp_at (ok_X4_takeClose κ wd (va_up (va_up (va_up (va_up (va_up (va_up (va_up (va_up (va_up (va_up (va_up G 80 c16_G80) 81 c16_G81) 80 c27_G80) 81 c27_G81) 84 c27_G84) 85 c27_G85) 86 c27_G86) 87 c27_G87) 88 c27_G88) 107 c46_G107) 203 c46_G203) P U (va_up (va_up (va_up V 0 c46_V0) 1 c46_V1) 10 c46_V10) X O kd ln cnt this hzG83 hg10 hg11 hg12 hg13 hzP82 hzLN hk_this hpr50_0 hpr50_1) hc50
        obtain ⟨hg35, hg36, hg37, hg38, f39, f40, f41⟩ : (rng (0) 2001 c50_G84) ∧ (rng (0) 4 c50_G85) ∧ (rng (0) 2001 c50_G87) ∧ (rng (0) 2000 c50_G88) ∧ ((0 ≤ r50.toInt ∧ r50.toInt ≤ 1)) ∧ ((c27_G84 this).toInt ≤ (c50_G84 this).toInt) ∧ ((c50_G84 this).toInt ≤ ((G 83) this).toInt + 1) := hq50
        have hq50 := pwq (fr_X4_takeClose la (va_up (va_up (va_up (va_up (va_up (va_up (va_up (va_up (va_up (va_up (va_up G 80 c16_G80) 81 c16_G81) 80 c27_G80) 81 c27_G81) 84 c27_G84) 85 c27_G85) 86 c27_G86) 87 c27_G87) 88 c27_G88) 107 c46_G107) 203 c46_G203) P U (va_up (va_up (va_up V 0 c46_V0) 1 c46_V1) 10 c46_V10) X O kd ln cnt this hB) hc50
        obtain ⟨q50_G80, q50_G81, q50_G84, q50_G85, q50_G86, q50_G87, q50_G88⟩ : (∀ z, (la z < la this ∨ la this < la z) → c50_G80 z = c27_G80 z) ∧ (∀ z, (la z < la this ∨ la this < la z) → c50_G81 z = c27_G81 z) ∧ (∀ z, (la z < la this ∨ la this < la z) → c50_G84 z = c27_G84 z) ∧ (∀ z, (la z < la this ∨ la this < la z) → c50_G85 z = c27_G85 z) ∧ (∀ z, (la z < la this ∨ la this < la z) → c50_G86 z = c27_G86 z) ∧ (∀ z, (la z < la this ∨ la this < la z) → c50_G87 z = c27_G87 z) ∧ (∀ z, (la z < la this ∨ la this < la z) → c50_G88 z = c27_G88 z) := hq50
        have tz50 : ∀ z, ((la z < la this ∨ la this < la z) ∧ (la z < la p0 ∨ la p0 + 3 < la z) ∧ (la z < la p0 + 5 ∨ la p0 + 5 < la z)) → ((la z < la this ∨ la this < la z)) := fun z hz => by omega
        have hfr42 : ∀ z, ((la z < la this ∨ la this < la z) ∧ (la z < la p0 ∨ la p0 + 3 < la z) ∧ (la z < la p0 + 5 ∨ la p0 + 5 < la z)) → c50_G80 z = (G 80) z := fun z hz => (q50_G80 z (tz50 z hz)).trans (hfr17 z hz)
        have hfr43 : ∀ z, ((la z < la this ∨ la this < la z) ∧ (la z < la p0 ∨ la p0 + 3 < la z) ∧ (la z < la p0 + 5 ∨ la p0 + 5 < la z)) → c50_G81 z = (G 81) z := fun z hz => (q50_G81 z (tz50 z hz)).trans (hfr18 z hz)
        have hfr44 : ∀ z, ((la z < la this ∨ la this < la z) ∧ (la z < la p0 ∨ la p0 + 3 < la z) ∧ (la z < la p0 + 5 ∨ la p0 + 5 < la z)) → c50_G84 z = (G 84) z := fun z hz => (q50_G84 z (tz50 z hz)).trans (hfr19 z hz)
        have hfr45 : ∀ z, ((la z < la this ∨ la this < la z) ∧ (la z < la p0 ∨ la p0 + 3 < la z) ∧ (la z < la p0 + 5 ∨ la p0 + 5 < la z)) → c50_G85 z = (G 85) z := fun z hz => (q50_G85 z (tz50 z hz)).trans (hfr20 z hz)
        have hfr46 : ∀ z, ((la z < la this ∨ la this < la z) ∧ (la z < la p0 ∨ la p0 + 3 < la z) ∧ (la z < la p0 + 5 ∨ la p0 + 5 < la z)) → c50_G86 z = (G 86) z := fun z hz => (q50_G86 z (tz50 z hz)).trans (hfr21 z hz)
        have hfr47 : ∀ z, ((la z < la this ∨ la this < la z) ∧ (la z < la p0 ∨ la p0 + 3 < la z) ∧ (la z < la p0 + 5 ∨ la p0 + 5 < la z)) → c50_G87 z = (G 87) z := fun z hz => (q50_G87 z (tz50 z hz)).trans (hfr22 z hz)
        have hfr48 : ∀ z, ((la z < la this ∨ la this < la z) ∧ (la z < la p0 ∨ la p0 + 3 < la z) ∧ (la z < la p0 + 5 ∨ la p0 + 5 < la z)) → c50_G88 z = (G 88) z := fun z hz => (q50_G88 z (tz50 z hz)).trans (hfr23 z hz)
        have h850_htx : (P 82) this = some tx := by first | assumption | omega
        have h850_hf : c46_V0 tx = f := by exact hvx
        have h850_hn : Int32.toNatClampNeg ((G 83) this) = n := by first | assumption | omega
        have h850_he : Int32.toNatClampNeg (c27_G84 this) = (tE f n e) := by exact g7
        have hx50 := pwq (fn_X4_takeClose κ wd la (va_up (va_up (va_up (va_up (va_up (va_up (va_up (va_up (va_up (va_up (va_up G 80 c16_G80) 81 c16_G81) 80 c27_G80) 81 c27_G81) 84 c27_G84) 85 c27_G85) 86 c27_G86) 87 c27_G87) 88 c27_G88) 107 c46_G107) 203 c46_G203) P U (va_up (va_up (va_up V 0 c46_V0) 1 c46_V1) 10 c46_V10) X O kd ln cnt this (tx) (f) (n) (tE f n e) hzG83 hg10 hg11 hg12 hg13 hzP82 hzLN hk_this hpr50_0 hpr50_1 hB hlt_this h850_htx h850_hf h850_hn h850_he) hc50
        obtain ⟨p50_0, p50_1⟩ : ((r50.toInt ≠ 0 → fCl f n (tE f n e) = none ∧ (c50_G80 this).toInt = (c27_G80 this).toInt ∧ (c50_G81 this).toInt = (c27_G81 this).toInt ∧ Int32.toNatClampNeg (c50_G84 this) = tE f n (tE f n e))) ∧ ((r50.toInt = 0 → ERR (fCl f n (tE f n e)) (c50_G80 this) (c50_G81 this))) := hx50
        refine pw_j12 ej54 (fun z54_0 ez54_0 z54_1 ez54_1 z54_2 ez54_2 z54_3 ez54_3 z54_4 ez54_4 z54_5 ez54_5 z54_6 ez54_6 z54_7 ez54_7 z54_8 ez54_8 z54_9 ez54_9 z54_10 ez54_10 z54_11 ez54_11 => ?_)
        subst ez54_0 ez54_1 ez54_2 ez54_3 ez54_4 ez54_5 ez54_6 ez54_7 ez54_8 ez54_9 ez54_10 ez54_11
        have qq0 : OUTC (entF f n pl e d false) (c50_G80 this) (c50_G81 this) (c50_G84 this) (fun d1 => (entV (c46_G203 er) (c46_V0 le) (c46_V1 se) (c46_V0 lb) (c46_V1 sb) (c46_V10 kp), rwW (c46_G203 pr) (c46_V0 lp) (c46_V1 sp) 16, lwsV ((G 102) p0) ((O 0) lr) (P 20) (P 21) (P 22) (P 23) (G 24) (G 25) c46_V0 ln) = d1 ∧ (c46_G203 br).toInt = (c46_G203 er).toInt ∧ (c46_G107 p0).toInt = ((kct d1.1 : Nat) : Int)) := by by_cases q50 : r50.toInt = 0; (exact outc_bad (p50_1 q50) (fun q hq => entF_kc (by omega) g1 hq)); (obtain ⟨y1, y2, y3, y4⟩ := p50_0 q50; obtain ⟨⟨c_er, l_er⟩, ⟨c_br, l_br⟩, ⟨c_pr, l_pr⟩, ⟨c_kp, l_kp⟩, ⟨c_lr, l_lr⟩, ⟨c_le, l_le⟩, ⟨c_lb, l_lb⟩, ⟨c_lp, l_lp⟩, ⟨c_se, l_se⟩, ⟨c_sb, l_sb⟩, ⟨c_sp, l_sp⟩⟩ := pts_lab hpt hB; have hbb := hzG203 br; have hcb9 := clampI (x := (G 203) br) (by omega); refine outc_ok (entF_k (by omega) g1 y1) (by omega) (by omega) (by rw [y4]) ⟨?_, by omega, ?_⟩; (refine Prod.ext ?_ (Prod.ext ?_ ?_)); (show entV _ _ _ _ _ _ = d.1 ++ _; rw [hd1]; obtain ⟨b1, b2, b3⟩ := app_tab p46_1; refine ent_add (by rw [← hwd]; exact p46_0) (fun j hj => b2 j (by rw [show Int32.toNatClampNeg ((G 203) br) = Int32.toNatClampNeg ((G 203) er) by omega]; exact hj)) (fun j hj => by rw [p46_2]; exact pk_un (by omega)) (by rw [p46_2, pk_us]; exact if_neg (by decide))); (show rwW _ _ _ _ = d.2.1; rw [hd2, (p46_6 pr (by omega) (by omega)).2.2, (p46_6 lp (by omega) (by omega)).1, (p46_6 sp (by omega) (by omega)).2.1]); (show lwsV _ _ _ _ _ _ _ _ _ _ = d.2.2; rw [hd3]; exact lws_fr hB hlw rfl (fun _ _ => rfl) (fun z hz hl => ⟨rfl, rfl, rfl, rfl, rfl, rfl, (p46_6 z (by omega) (by omega)).1, rfl⟩)); (have h := p46_5 (by omega) (by omega); show _ = ((kct (d.1 ++ [(tW f n e, none)]) : Nat) : Int); rw [show kct (d.1 ++ [(tW f n e, none)]) = kct d.1 + 1 from kct_app]; omega))
        have qq1 : c46_V0 tx = f := by exact hvx
        exact pw_some ⟨qq0, qq1⟩
  · have c8 := z_ne c8
    refine pw_j1 ej16 (fun t16_0 et16_0 => ?_)
    have et16_0 := et16_0.symm
    have f_t16_0 : t16_0.toInt = 0 := by rw [et16_0]; decide +kernel
    refine pw_b3 (fun r16 c16_G80 c16_G81 hc16 => ?_)
    have hq16 := wp_at (ok_X4_hasRoom κ wd G P U V X O kd ln cnt this t16_0 hzLN hk_this) hc16
    have f49 : (0 ≤ r16.toInt ∧ r16.toInt ≤ 1) := hq16
    clear hq16
    have hq16 := pwq (fr_X4_hasRoom la G P U V X O kd ln cnt this t16_0 hB) hc16
    obtain ⟨q16_G80, q16_G81⟩ : (∀ z, (la z < la this ∨ la this < la z) → c16_G80 z = (G 80) z) ∧ (∀ z, (la z < la this ∨ la this < la z) → c16_G81 z = (G 81) z) := hq16
    have tz16 : ∀ z, ((la z < la this ∨ la this < la z) ∧ (la z < la p0 ∨ la p0 + 3 < la z) ∧ (la z < la p0 + 5 ∨ la p0 + 5 < la z)) → ((la z < la this ∨ la this < la z)) := fun z hz => by omega
    have hfr50 : ∀ z, ((la z < la this ∨ la this < la z) ∧ (la z < la p0 ∨ la p0 + 3 < la z) ∧ (la z < la p0 + 5 ∨ la p0 + 5 < la z)) → c16_G80 z = (G 80) z := fun z hz => (q16_G80 z (tz16 z hz)).trans ((fun _ _ => rfl) z hz)
    have hfr51 : ∀ z, ((la z < la this ∨ la this < la z) ∧ (la z < la p0 ∨ la p0 + 3 < la z) ∧ (la z < la p0 + 5 ∨ la p0 + 5 < la z)) → c16_G81 z = (G 81) z := fun z hz => (q16_G81 z (tz16 z hz)).trans ((fun _ _ => rfl) z hz)
    have hx16 := pwq (fn_X4_hasRoom κ wd la G P U V X O kd ln cnt this t16_0 hzLN hk_this hB hlt_this) hc16
    obtain ⟨p16_0, p16_1⟩ : ((r16.toInt ≠ 0 → t16_0.toInt ≠ 0 ∧ (c16_G80 this).toInt = ((G 80) this).toInt ∧ (c16_G81 this).toInt = ((G 81) this).toInt)) ∧ ((r16.toInt = 0 → t16_0.toInt = 0 ∧ (c16_G80 this).toInt = 4 ∧ (c16_G81 this).toInt = ((G 86) this).toInt)) := hx16
    refine pw_jE (fun j54 ej54 => ?_)
    refine pw_ite (fun c19 => ?_) (fun c19 => ?_)
    · have c19 := congrArg Int32.toInt c19
      refine pw_j12 ej54 (fun z54_0 ez54_0 z54_1 ez54_1 z54_2 ez54_2 z54_3 ez54_3 z54_4 ez54_4 z54_5 ez54_5 z54_6 ez54_6 z54_7 ez54_7 z54_8 ez54_8 z54_9 ez54_9 z54_10 ez54_10 z54_11 ez54_11 => ?_)
      subst ez54_0 ez54_1 ez54_2 ez54_3 ez54_4 ez54_5 ez54_6 ez54_7 ez54_8 ez54_9 ez54_10 ez54_11
      have qq0 : OUTC (entF f n pl e d false) (c16_G80 this) (c16_G81 this) ((G 84) this) (fun d1 => (entV ((G 203) er) ((V 0) le) ((V 1) se) ((V 0) lb) ((V 1) sb) ((V 10) kp), rwW ((G 203) pr) ((V 0) lp) ((V 1) sp) 16, lwsV ((G 102) p0) ((O 0) lr) (P 20) (P 21) (P 22) (P 23) (G 24) (G 25) (V 0) ln) = d1 ∧ ((G 203) br).toInt = ((G 203) er).toInt ∧ ((G 107) p0).toInt = ((kct d1.1 : Nat) : Int)) := by exact outc_bad (z := some (4, pl)) (err_of rfl (by omega) (by omega) (by omega)) (fun q hq => by cases hq; exact entF_full (by have h := p5_0 (by omega) _ hpt.2.2.1.1; omega))
      have qq1 : (V 0) tx = f := by exact hf
      exact pw_some ⟨qq0, qq1⟩
    · have c19 := z_ne c19
      exfalso; omega
