abbrev QF_X7_isWord (κ : Nat → Nat) (wd : Nat) (la : Nat → Nat) (G : Nat → Nat → Int32) (P : Nat → Nat → Option Nat) (U : Nat → Nat → Int64) (V : Nat → Nat → Nat → Int32) (X : Nat → Nat → Nat → Int64) (O : Nat → Nat → Nat → Option Nat) (kd : Nat → Nat) (ln : Nat → Nat) (cnt : Nat) (this : Nat) (p0 : Int32) (tb : Nat) : (Int32) → Prop := (fun t => ((t.toInt ≠ 0 → isw ((V 0) tb) p0.toInt)) ∧ ((t.toInt = 0 → ¬ isw ((V 0) tb) p0.toInt)))
set_option maxHeartbeats 4000000 in
set_option maxRecDepth 100000 in
theorem fn_X7_isWord (κ : Nat → Nat) (wd : Nat) (la : Nat → Nat) (G : Nat → Nat → Int32) (P : Nat → Nat → Option Nat) (U : Nat → Nat → Int64) (V : Nat → Nat → Nat → Int32) (X : Nat → Nat → Nat → Int64) (O : Nat → Nat → Nat → Option Nat) (kd : Nat → Nat) (ln : Nat → Nat) (cnt : Nat) (this : Nat) (p0 : Int32) (tb : Nat) (hzP140 : PB κ ln wd 8 100 2000 2000 0 (P 140)) (hzLN : LN κ ln) (hk_this : κ this = 8) (hB : LB la cnt P) (hlt_this : this < cnt) (h140 : (P 140) this = some tb) : pw (f_X7_isWord G P U V X O kd ln cnt this p0) (QF_X7_isWord κ wd la G P U V X O kd ln cnt this p0 tb) := by
  intro x hx
  have hq := wp_at (fx_X7_isWord κ wd G P U V X O kd ln cnt this p0 hzP140 hzLN hk_this) hx
  rcases hq.2.2 tb h140 with ⟨h1, h2⟩ | ⟨h1, h2⟩
  · exact ⟨fun _ => h2, fun q => absurd q (by omega)⟩
  · exact ⟨fun q => absurd h1 q, fun _ => h2⟩
abbrev QF_X11_partings (κ : Nat → Nat) (wd : Nat) (la : Nat → Nat) (G : Nat → Nat → Int32) (P : Nat → Nat → Option Nat) (U : Nat → Nat → Int64) (V : Nat → Nat → Nat → Int32) (X : Nat → Nat → Nat → Int64) (O : Nat → Nat → Nat → Option Nat) (kd : Nat → Nat) (ln : Nat → Nat) (cnt : Nat) (this : Nat) (p0 : Int32) (f : Nat → Int32) (n : Nat) (tp : Nat) (tb : Nat) (ra : Nat) (lp : Nat) (fi : Nat) (pa : Nat) (pk : Nat) (sz : Nat) (cl : Nat) (d : Nat → Dr) : (Int32 × (Nat → Int32) × (Nat → Int32) × (Nat → Option Nat) × (Nat → Nat → Int32) × (Nat → Nat → Int32) × (Nat → Nat → Int32)) → Prop := (fun t => ((¬ (isw f ((G 141) tp).toInt ∧ 0 ≤ p0.toInt ∧ p0.toInt < ((G 222) this).toInt) → (t.1).toInt = -2 ∧ (t.2.1) lp = (G 60) lp ∧ (t.2.2.2.2.2.1) sz = (V 2) sz ∧ (t.2.2.2.2.1) pk = (V 0) pk ∧ (t.2.2.2.1) lp = (P 66) lp)) ∧ ((isw f ((G 141) tp).toInt ∧ 0 ≤ p0.toInt ∧ p0.toInt < ((G 222) this).toInt → lkE (d (Int32.toNatClampNeg p0)).1 (wdl f 0 n) = some none → (t.1).toInt = -10 ∧ (t.2.1) lp = (G 60) lp ∧ (t.2.2.2.2.2.1) sz = (V 2) sz ∧ (t.2.2.2.2.1) pk = (V 0) pk ∧ (t.2.2.2.1) lp = (P 66) lp)) ∧ ((isw f ((G 141) tp).toInt ∧ 0 ≤ p0.toInt ∧ p0.toInt < ((G 222) this).toInt → ∀ v, lkE (d (Int32.toNatClampNeg p0)).1 (wdl f 0 n) = some (some v) → (t.1).toInt = -11 ∧ (t.2.1) lp = (G 60) lp ∧ (t.2.2.2.2.2.1) sz = (V 2) sz ∧ (t.2.2.2.2.1) pk = (V 0) pk ∧ (t.2.2.2.1) lp = (P 66) lp)) ∧ ((isw f ((G 141) tp).toInt ∧ 0 ≤ p0.toInt ∧ p0.toInt < ((G 222) this).toInt → lkE (d (Int32.toNatClampNeg p0)).1 (wdl f 0 n) = none → (t.1).toInt = (((cwF (d (Int32.toNatClampNeg p0)) (wdl f 0 n)).length : Nat) : Int) ∧ ∃ rf pr, (O 2) ra (Int32.toNatClampNeg p0) = some rf ∧ (P 103) rf = some pr ∧ (t.2.2.2.1) lp = some pr ∧ RWS (idxP (d (Int32.toNatClampNeg p0)).2.1) ((t.2.1) lp).toInt ((t.2.2.2.2.2.1) sz) ((t.2.2.2.2.1) pk) (cwF (d (Int32.toNatClampNeg p0)) (wdl f 0 n)))))
set_option maxHeartbeats 4000000 in
set_option maxRecDepth 100000 in
theorem fn_X11_partings (κ : Nat → Nat) (wd : Nat) (la : Nat → Nat) (G : Nat → Nat → Int32) (P : Nat → Nat → Option Nat) (U : Nat → Nat → Int64) (V : Nat → Nat → Nat → Int32) (X : Nat → Nat → Nat → Int64) (O : Nat → Nat → Nat → Option Nat) (kd : Nat → Nat) (ln : Nat → Nat) (cnt : Nat) (this : Nat) (p0 : Int32) (f : Nat → Int32) (n : Nat) (tp : Nat) (tb : Nat) (ra : Nat) (lp : Nat) (fi : Nat) (pa : Nat) (pk : Nat) (sz : Nat) (cl : Nat) (d : Nat → Dr) (hzG60 : rng (0) 30 (G 60)) (hzG141 : rng (0) 2000 (G 141)) (hzG200 : rng (0) 24 (G 200)) (hzG203 : rng (0) 100 (G 203)) (hzG222 : rng (0) 6 (G 222)) (hzP61 : PB κ ln wd 4 102 30 30 0 (P 61)) (hzP62 : PB κ ln wd 4 100 720 720 0 (P 62)) (hzP63 : PB κ ln wd 4 100 408 408 0 (P 63)) (hzP64 : PB κ ln wd 4 112 25 25 0 (P 64)) (hzP65 : PB κ ln wd 4 100 24 24 0 (P 65)) (hzP66 : PB κ ln wd 4 11 0 2500 0 (P 66)) (hzP103 : PB κ ln wd 6 11 0 2500 1 (P 103)) (hzP104 : PB κ ln wd 6 11 0 2500 1 (P 104)) (hzP106 : PB κ ln wd 6 110 40 40 0 (P 106)) (hzP140 : PB κ ln wd 8 100 2000 2000 0 (P 140)) (hzP201 : PB κ ln wd 11 100 0 2400 0 (P 201)) (hzP202 : PB κ ln wd 11 101 0 100 0 (P 202)) (hzP220 : PB κ ln wd 12 8 0 2500 0 (P 220)) (hzP221 : PB κ ln wd 12 302 6 6 0 (P 221)) (hzP228 : PB κ ln wd 12 4 0 2500 0 (P 228)) (hzV1 : rng2 (0) 24 (V 1)) (hzV2 : rng2 (0) 24 (V 2)) (hzO2 : OB κ 6 (O 2)) (hzRA : RA κ ln (G 200) (P 201) (P 202)) (hzRB : RB κ ln (G 200) (G 203) (P 202) (V 1)) (hzRI : RI (P 202)) (hzRM103 : RM ln 40 (P 103) (P 202)) (hzRM104 : RM ln 40 (P 104) (P 202)) (hzLN : LN κ ln) (hk_this : κ this = 12) (hB : LB la cnt P) (hlt_this : this < cnt) (h220 : (P 220) this = some tp) (h140 : (P 140) tp = some tb) (h221 : (P 221) this = some ra) (hf : (V 0) tb = f) (hn : Int32.toNatClampNeg ((G 141) tp) = n) (h228 : (P 228) this = some lp) (hfi : (P 63) lp = some fi) (hpa : (P 65) lp = some pa) (hpk : (P 62) lp = some pk) (hsz : (P 61) lp = some sz) (hcl : (P 64) lp = some cl) (hrf : ∀ q, q < Int32.toNatClampNeg ((G 222) this) → ∃ rf dy, (O 2) ra q = some rf ∧ rf < cnt ∧ 100000 ≤ la rf ∧ RFC G P V O ln la cnt rf dy (d q) ∧ WFD (d q)) : pw (f_X11_partings G P U V X O kd ln cnt this p0) (QF_X11_partings κ wd la G P U V X O kd ln cnt this p0 f n tp tb ra lp fi pa pk sz cl d) := by
  unfold f_X11_partings
  have zkm11 : (-11 : Int32).toInt = -11 := by decide +kernel
  have zkm10 : (-10 : Int32).toInt = -10 := by decide +kernel
  have zkm2 : (-2 : Int32).toInt = -2 := by decide +kernel
  have zkm1 : (-1 : Int32).toInt = -1 := by decide +kernel
  have zk0 : (0 : Int32).toInt = 0 := by decide +kernel
  have r_p0 := i32r p0
  have hn1 : (P 220) this = some tp := h220
  have lt_tp2 := ((hB.1 220 fl_220) this tp hn1).2.1
  have lb_tp2 : la tp = 10 := lk_220.mp ((hB.1 220 fl_220) this tp hn1).2.2
  have hk_tp := ((hzP220 this).2 tp hn1).1
  have hl1_tp := ((hzP220 this).2 tp hn1).2.1
  have hl2_tp := ((hzP220 this).2 tp hn1).2.2.1
  have hw_tp := ((hzP220 this).2 tp hn1).2.2.2
  have hn3 : (P 140) tp = some tb := h140
  have lt_tb4 := ((hB.1 140 fl_140) tp tb hn3).2.1
  have lb_tb4 : la tb = la tp + 1 := lk_140.mp ((hB.1 140 fl_140) tp tb hn3).2.2
  have hk_tb := ((hzP140 tp).2 tb hn3).1
  have hl1_tb := ((hzP140 tp).2 tb hn3).2.1
  have hl2_tb := ((hzP140 tp).2 tb hn3).2.2.1
  have hw_tb := ((hzP140 tp).2 tb hn3).2.2.2
  have hz_tb : (Int32.ofNat (ln tb)).toInt = ((ln tb : Nat) : Int) := ofN_eq (by first | exact Nat.le_trans hl2_tb (by decide) | omega)
  have hn5 : (P 221) this = some ra := h221
  have lt_ra6 := ((hB.1 221 fl_221) this ra hn5).2.1
  have lb_ra6 : la ra = la this + 3 := lk_221.mp ((hB.1 221 fl_221) this ra hn5).2.2
  have hk_ra := ((hzP221 this).2 ra hn5).1
  have hl1_ra := ((hzP221 this).2 ra hn5).2.1
  have hl2_ra := ((hzP221 this).2 ra hn5).2.2.1
  have hw_ra := ((hzP221 this).2 ra hn5).2.2.2
  have hz_ra : (Int32.ofNat (ln ra)).toInt = ((ln ra : Nat) : Int) := ofN_eq (by first | exact Nat.le_trans hl2_ra (by decide) | omega)
  have hn7 : (P 228) this = some lp := h228
  have lt_lp8 := ((hB.1 228 fl_228) this lp hn7).2.1
  have lb_lp8 : la lp = 60 := lk_228.mp ((hB.1 228 fl_228) this lp hn7).2.2
  have hk_lp := ((hzP228 this).2 lp hn7).1
  have hl1_lp := ((hzP228 this).2 lp hn7).2.1
  have hl2_lp := ((hzP228 this).2 lp hn7).2.2.1
  have hw_lp := ((hzP228 this).2 lp hn7).2.2.2
  have hn9 : (P 63) lp = some fi := hfi
  have lt_fi10 := ((hB.1 63 fl_63) lp fi hn9).2.1
  have lb_fi10 : la fi = la lp + 1 := lk_63.mp ((hB.1 63 fl_63) lp fi hn9).2.2
  have hk_fi := ((hzP63 lp).2 fi hn9).1
  have hl1_fi := ((hzP63 lp).2 fi hn9).2.1
  have hl2_fi := ((hzP63 lp).2 fi hn9).2.2.1
  have hw_fi := ((hzP63 lp).2 fi hn9).2.2.2
  have hz_fi : (Int32.ofNat (ln fi)).toInt = ((ln fi : Nat) : Int) := ofN_eq (by first | exact Nat.le_trans hl2_fi (by decide) | omega)
  have hn11 : (P 65) lp = some pa := hpa
  have lt_pa12 := ((hB.1 65 fl_65) lp pa hn11).2.1
  have lb_pa12 : la pa = la lp + 2 := lk_65.mp ((hB.1 65 fl_65) lp pa hn11).2.2
  have hk_pa := ((hzP65 lp).2 pa hn11).1
  have hl1_pa := ((hzP65 lp).2 pa hn11).2.1
  have hl2_pa := ((hzP65 lp).2 pa hn11).2.2.1
  have hw_pa := ((hzP65 lp).2 pa hn11).2.2.2
  have hz_pa : (Int32.ofNat (ln pa)).toInt = ((ln pa : Nat) : Int) := ofN_eq (by first | exact Nat.le_trans hl2_pa (by decide) | omega)
  have hn13 : (P 62) lp = some pk := hpk
  have lt_pk14 := ((hB.1 62 fl_62) lp pk hn13).2.1
  have lb_pk14 : la pk = la lp + 0 := lk_62.mp ((hB.1 62 fl_62) lp pk hn13).2.2
  have hk_pk := ((hzP62 lp).2 pk hn13).1
  have hl1_pk := ((hzP62 lp).2 pk hn13).2.1
  have hl2_pk := ((hzP62 lp).2 pk hn13).2.2.1
  have hw_pk := ((hzP62 lp).2 pk hn13).2.2.2
  have hz_pk : (Int32.ofNat (ln pk)).toInt = ((ln pk : Nat) : Int) := ofN_eq (by first | exact Nat.le_trans hl2_pk (by decide) | omega)
  have hn15 : (P 61) lp = some sz := hsz
  have lt_sz16 := ((hB.1 61 fl_61) lp sz hn15).2.1
  have lb_sz16 : la sz = la lp + 0 := lk_61.mp ((hB.1 61 fl_61) lp sz hn15).2.2
  have hk_sz := ((hzP61 lp).2 sz hn15).1
  have hl1_sz := ((hzP61 lp).2 sz hn15).2.1
  have hl2_sz := ((hzP61 lp).2 sz hn15).2.2.1
  have hw_sz := ((hzP61 lp).2 sz hn15).2.2.2
  have hz_sz : (Int32.ofNat (ln sz)).toInt = ((ln sz : Nat) : Int) := ofN_eq (by first | exact Nat.le_trans hl2_sz (by decide) | omega)
  have hn17 : (P 64) lp = some cl := hcl
  have lt_cl18 := ((hB.1 64 fl_64) lp cl hn17).2.1
  have lb_cl18 : la cl = la lp + 0 := lk_64.mp ((hB.1 64 fl_64) lp cl hn17).2.2
  have hk_cl := ((hzP64 lp).2 cl hn17).1
  have hl1_cl := ((hzP64 lp).2 cl hn17).2.1
  have hl2_cl := ((hzP64 lp).2 cl hn17).2.2.1
  have hw_cl := ((hzP64 lp).2 cl hn17).2.2.2
  have hz_cl : (Int32.ofNat (ln cl)).toInt = ((ln cl : Nat) : Int) := ofN_eq (by first | exact Nat.le_trans hl2_cl (by decide) | omega)
  have hb141 := hzG141 tp
  have hb222 := hzG222 this
  have c222 := clampI (x := (G 222) this) (by omega)
  have c141 := clampI (x := (G 141) tp) (by omega)
  refine pw_nne hn1 ?_
  refine pw_b2 (fun r4 c4_G141 hc4 => ?_)
  have hq4 := wp_at (ok_X7_take κ wd G P U V X O kd ln cnt tp hzG141 hzLN hk_tp) hc4
  obtain ⟨hg19, f20, f21, f22⟩ : (rng (0) 2000 c4_G141) ∧ (r4.toInt = ((G 141) tp).toInt) ∧ ((c4_G141 tp).toInt = 0) ∧ ((0 ≤ r4.toInt ∧ r4.toInt ≤ 2000)) := hq4
  have hq4 := pwq (fr_X7_take la G P U V X O kd ln cnt tp hB) hc4
  have q4_G141 : (∀ z, (la z < la tp ∨ la tp < la z) → c4_G141 z = (G 141) z) := hq4
  clear hq4
  have tz4 : ∀ z, ((la z < 10 ∨ 10 < la z) ∧ (la z < 60 ∨ 60 + 2 < la z)) → ((la z < la tp ∨ la tp < la z)) := fun z hz => by omega
  have hfr23 : ∀ z, ((la z < 10 ∨ 10 < la z) ∧ (la z < 60 ∨ 60 + 2 < la z)) → c4_G141 z = (G 141) z := fun z hz => (q4_G141 z (tz4 z hz)).trans ((fun _ _ => rfl) z hz)
  have hx4 := pwq (fn_X7_take κ wd la G P U V X O kd ln cnt tp hzG141 hzLN hk_tp hB lt_tp2) hc4
  obtain ⟨p4_0, p4_1⟩ : (r4 = (G 141) tp) ∧ (c4_G141 tp = 0) := hx4
  have hr4 := congrArg Int32.toInt p4_0
  have hn4 : Int32.toNatClampNeg r4 = n := by rw [p4_0]; exact hn
  refine pw_b1 (fun r10 hc10 => ?_)
  have hq10 := wp_at (ok_X11_reformAt κ wd (va_up G 141 c4_G141) P U V X O kd ln cnt this p0 hzG222 hzP221 hzO2 hzLN hk_this) hc10
  obtain ⟨hk24, f25⟩ : ((∀ b, r10 = some b → κ b = 6)) ∧ ((∀ b, r10 = some b → 0 ≤ p0.toInt ∧ p0.toInt < ((G 222) this).toInt)) := hq10
  have h810_h221 : (P 221) this = some ra := by exact h221
  have hx10 := pwq (fn_X11_reformAt κ wd la (va_up G 141 c4_G141) P U V X O kd ln cnt this p0 (ra) hzG222 hzP221 hzO2 hzLN hk_this hB hlt_this h810_h221) hc10
  obtain ⟨p10_0, p10_1⟩ : ((p0.toInt < 0 ∨ ((G 222) this).toInt ≤ p0.toInt → (r10 : Option Nat) = none)) ∧ ((0 ≤ p0.toInt → p0.toInt < ((G 222) this).toInt → r10 = (O 2) ra (Int32.toNatClampNeg p0))) := hx10
  refine pw_jE (fun j29 ej29 => ?_)
  refine pw_oc (fun c15 => ?_) (fun b15 c15 => ?_)
  · skip
    refine pw_j0 ej29 ?_
    have qq0 : (¬ (isw f ((G 141) tp).toInt ∧ 0 ≤ p0.toInt ∧ p0.toInt < ((G 222) this).toInt) → (-2 : Int32).toInt = -2 ∧ (G 60) lp = (G 60) lp ∧ (V 2) sz = (V 2) sz ∧ (V 0) pk = (V 0) pk ∧ (P 66) lp = (P 66) lp) := by intro _; exact ⟨by omega, rfl, rfl, rfl, rfl⟩
    have qq1 : (isw f ((G 141) tp).toInt ∧ 0 ≤ p0.toInt ∧ p0.toInt < ((G 222) this).toInt → lkE (d (Int32.toNatClampNeg p0)).1 (wdl f 0 n) = some none → (-2 : Int32).toInt = -10 ∧ (G 60) lp = (G 60) lp ∧ (V 2) sz = (V 2) sz ∧ (V 0) pk = (V 0) pk ∧ (P 66) lp = (P 66) lp) := by intro h; exfalso; obtain ⟨rf, dy, y1, _⟩ := hrf (Int32.toNatClampNeg p0) (by have cp0 := clampI (x := p0) h.2.1; omega); have h9 := p10_1 h.2.1 h.2.2; rw [y1, c15] at h9; cases h9
    have qq2 : (isw f ((G 141) tp).toInt ∧ 0 ≤ p0.toInt ∧ p0.toInt < ((G 222) this).toInt → ∀ v, lkE (d (Int32.toNatClampNeg p0)).1 (wdl f 0 n) = some (some v) → (-2 : Int32).toInt = -11 ∧ (G 60) lp = (G 60) lp ∧ (V 2) sz = (V 2) sz ∧ (V 0) pk = (V 0) pk ∧ (P 66) lp = (P 66) lp) := by intro h; exfalso; obtain ⟨rf, dy, y1, _⟩ := hrf (Int32.toNatClampNeg p0) (by have cp0 := clampI (x := p0) h.2.1; omega); have h9 := p10_1 h.2.1 h.2.2; rw [y1, c15] at h9; cases h9
    have qq3 : (isw f ((G 141) tp).toInt ∧ 0 ≤ p0.toInt ∧ p0.toInt < ((G 222) this).toInt → lkE (d (Int32.toNatClampNeg p0)).1 (wdl f 0 n) = none → (-2 : Int32).toInt = (((cwF (d (Int32.toNatClampNeg p0)) (wdl f 0 n)).length : Nat) : Int) ∧ ∃ rf pr, (O 2) ra (Int32.toNatClampNeg p0) = some rf ∧ (P 103) rf = some pr ∧ (P 66) lp = some pr ∧ RWS (idxP (d (Int32.toNatClampNeg p0)).2.1) ((G 60) lp).toInt ((V 2) sz) ((V 0) pk) (cwF (d (Int32.toNatClampNeg p0)) (wdl f 0 n))) := by intro h; exfalso; obtain ⟨rf, dy, y1, _⟩ := hrf (Int32.toNatClampNeg p0) (by have cp0 := clampI (x := p0) h.2.1; omega); have h9 := p10_1 h.2.1 h.2.2; rw [y1, c15] at h9; cases h9
    exact pw_some ⟨qq0, qq1, qq2, qq3⟩
  · skip
    have hk_b15 := hk24 b15 c15
    have hin : 0 ≤ p0.toInt ∧ p0.toInt < ((G 222) this).toInt := by by_cases q9 : 0 ≤ p0.toInt ∧ p0.toInt < ((G 222) this).toInt; (exact q9); (exfalso; have h9 := p10_0 (by omega); rw [h9] at c15; cases c15)
    have cp0 := clampI (x := p0) hin.1
    have hO : (O 2) ra (Int32.toNatClampNeg p0) = some b15 := (p10_1 hin.1 hin.2).symm.trans c15
    obtain ⟨rf, dy, y1, y2, y3, y4, y5⟩ := hrf (Int32.toNatClampNeg p0) (by omega)
    have erf : rf = b15 := Option.some.inj (y1.symm.trans hO)
    rw [erf] at y2 y3 y4
    obtain ⟨er, br, pr, kp, lr, le, lb, lpp, se, sb, sp, hpt, hd, _, _, _, _⟩ := y4
    have hlab := pts_lab hpt hB
    obtain ⟨⟨t104, t105, t103, t106, t101⟩, ⟨u1, u2, u3⟩, ⟨v1, v2, v3⟩, ⟨w1, w2, w3⟩, ⟨x1, x2, x3⟩⟩ := hpt
    have hd1 : (d (Int32.toNatClampNeg p0)).1 = entV ((G 203) er) ((V 0) le) ((V 1) se) ((V 0) lb) ((V 1) sb) ((V 10) kp) := by rw [← hd]
    have hd2 : (d (Int32.toNatClampNeg p0)).2.1 = rwW ((G 203) pr) ((V 0) lpp) ((V 1) sp) 16 := by rw [← hd]
    have hn26 : (P 104) b15 = some er := t104
    have lt_er27 := ((hB.1 104 fl_104) b15 er hn26).2.1
    have lb_er27 : la er = la b15 + 2 := lk_104.mp ((hB.1 104 fl_104) b15 er hn26).2.2
    have hk_er := ((hzP104 b15).2 er hn26).1
    have hl1_er := ((hzP104 b15).2 er hn26).2.1
    have hl2_er := ((hzP104 b15).2 er hn26).2.2.1
    have hw_er := ((hzP104 b15).2 er hn26).2.2.2
    have hn28 : (P 103) b15 = some pr := t103
    have lt_pr29 := ((hB.1 103 fl_103) b15 pr hn28).2.1
    have lb_pr29 : la pr = la b15 + 1 := lk_103.mp ((hB.1 103 fl_103) b15 pr hn28).2.2
    have hk_pr := ((hzP103 b15).2 pr hn28).1
    have hl1_pr := ((hzP103 b15).2 pr hn28).2.1
    have hl2_pr := ((hzP103 b15).2 pr hn28).2.2.1
    have hw_pr := ((hzP103 b15).2 pr hn28).2.2.2
    have hn30 : (P 106) b15 = some kp := t106
    have lt_kp31 := ((hB.1 106 fl_106) b15 kp hn30).2.1
    have lb_kp31 : la kp = la b15 + 0 := lk_106.mp ((hB.1 106 fl_106) b15 kp hn30).2.2
    have hk_kp := ((hzP106 b15).2 kp hn30).1
    have hl1_kp := ((hzP106 b15).2 kp hn30).2.1
    have hl2_kp := ((hzP106 b15).2 kp hn30).2.2.1
    have hw_kp := ((hzP106 b15).2 kp hn30).2.2.2
    have hz_kp : (Int32.ofNat (ln kp)).toInt = ((ln kp : Nat) : Int) := ofN_eq (by first | exact Nat.le_trans hl2_kp (by decide) | omega)
    have hn32 : (P 201) er = some le := u1
    have lt_le33 := ((hB.1 201 fl_201) er le hn32).2.1
    have lb_le33 : la le = la er + 0 := lk_201.mp ((hB.1 201 fl_201) er le hn32).2.2
    have hk_le := ((hzP201 er).2 le hn32).1
    have hl1_le := ((hzP201 er).2 le hn32).2.1
    have hl2_le := ((hzP201 er).2 le hn32).2.2.1
    have hw_le := ((hzP201 er).2 le hn32).2.2.2
    have hz_le : (Int32.ofNat (ln le)).toInt = ((ln le : Nat) : Int) := ofN_eq (by first | exact Nat.le_trans hl2_le (by decide) | omega)
    have hn34 : (P 202) er = some se := v1
    have lt_se35 := ((hB.1 202 fl_202) er se hn34).2.1
    have lb_se35 : la se = la er + 0 := lk_202.mp ((hB.1 202 fl_202) er se hn34).2.2
    have hk_se := ((hzP202 er).2 se hn34).1
    have hl1_se := ((hzP202 er).2 se hn34).2.1
    have hl2_se := ((hzP202 er).2 se hn34).2.2.1
    have hw_se := ((hzP202 er).2 se hn34).2.2.2
    have hz_se : (Int32.ofNat (ln se)).toInt = ((ln se : Nat) : Int) := ofN_eq (by first | exact Nat.le_trans hl2_se (by decide) | omega)
    have rb36 := (hzRB er se hk_er hn34).1
    have ra37 := hzRA er le se hk_er hn32 hn34
    have bw38 := hzG200 er
    have hn39 : (P 201) pr = some lpp := u3
    have lt_lpp40 := ((hB.1 201 fl_201) pr lpp hn39).2.1
    have lb_lpp40 : la lpp = la pr + 0 := lk_201.mp ((hB.1 201 fl_201) pr lpp hn39).2.2
    have hk_lpp := ((hzP201 pr).2 lpp hn39).1
    have hl1_lpp := ((hzP201 pr).2 lpp hn39).2.1
    have hl2_lpp := ((hzP201 pr).2 lpp hn39).2.2.1
    have hw_lpp := ((hzP201 pr).2 lpp hn39).2.2.2
    have hz_lpp : (Int32.ofNat (ln lpp)).toInt = ((ln lpp : Nat) : Int) := ofN_eq (by first | exact Nat.le_trans hl2_lpp (by decide) | omega)
    have hn41 : (P 202) pr = some sp := v3
    have lt_sp42 := ((hB.1 202 fl_202) pr sp hn41).2.1
    have lb_sp42 : la sp = la pr + 0 := lk_202.mp ((hB.1 202 fl_202) pr sp hn41).2.2
    have hk_sp := ((hzP202 pr).2 sp hn41).1
    have hl1_sp := ((hzP202 pr).2 sp hn41).2.1
    have hl2_sp := ((hzP202 pr).2 sp hn41).2.2.1
    have hw_sp := ((hzP202 pr).2 sp hn41).2.2.2
    have hz_sp : (Int32.ofNat (ln sp)).toInt = ((ln sp : Nat) : Int) := ofN_eq (by first | exact Nat.le_trans hl2_sp (by decide) | omega)
    have rb43 := (hzRB pr sp hk_pr hn41).1
    have ra44 := hzRA pr lpp sp hk_pr hn39 hn41
    have bw45 := hzG200 pr
    refine pw_nne hn1 ?_
    refine pw_b1 (fun r23 hc23 => ?_)
    have hq23 := wp_at (ok_X7_isWord κ wd (va_up G 141 c4_G141) P U V X O kd ln cnt tp r4 hzP140 hzLN hk_tp) hc23
    obtain ⟨f46, f47⟩ : ((0 ≤ r23.toInt ∧ r23.toInt ≤ 1)) ∧ ((r23.toInt = 1 → 1 ≤ r4.toInt ∧ r4.toInt ≤ 24)) := hq23
    have h823_h140 : (P 140) tp = some tb := by exact h140
    have hx23 := pwq (fn_X7_isWord κ wd la (va_up G 141 c4_G141) P U V X O kd ln cnt tp r4 (tb) hzP140 hzLN hk_tp hB lt_tp2 h823_h140) hc23
    obtain ⟨p23_0, p23_1⟩ : ((r23.toInt ≠ 0 → isw ((V 0) tb) r4.toInt)) ∧ ((r23.toInt = 0 → ¬ isw ((V 0) tb) r4.toInt)) := hx23
    rw [hf, hr4] at p23_0 p23_1
    refine pw_ite (fun c26 => ?_) (fun c26 => ?_)
    · have c26 := congrArg Int32.toInt c26
      refine pw_j0 ej29 ?_
      have qq0 : (¬ (isw f ((G 141) tp).toInt ∧ 0 ≤ p0.toInt ∧ p0.toInt < ((G 222) this).toInt) → (-2 : Int32).toInt = -2 ∧ (G 60) lp = (G 60) lp ∧ (V 2) sz = (V 2) sz ∧ (V 0) pk = (V 0) pk ∧ (P 66) lp = (P 66) lp) := by intro _; exact ⟨by omega, rfl, rfl, rfl, rfl⟩
      have qq1 : (isw f ((G 141) tp).toInt ∧ 0 ≤ p0.toInt ∧ p0.toInt < ((G 222) this).toInt → lkE (d (Int32.toNatClampNeg p0)).1 (wdl f 0 n) = some none → (-2 : Int32).toInt = -10 ∧ (G 60) lp = (G 60) lp ∧ (V 2) sz = (V 2) sz ∧ (V 0) pk = (V 0) pk ∧ (P 66) lp = (P 66) lp) := by intro h; exfalso; exact p23_1 (by omega) h.1
      have qq2 : (isw f ((G 141) tp).toInt ∧ 0 ≤ p0.toInt ∧ p0.toInt < ((G 222) this).toInt → ∀ v, lkE (d (Int32.toNatClampNeg p0)).1 (wdl f 0 n) = some (some v) → (-2 : Int32).toInt = -11 ∧ (G 60) lp = (G 60) lp ∧ (V 2) sz = (V 2) sz ∧ (V 0) pk = (V 0) pk ∧ (P 66) lp = (P 66) lp) := by intro h; exfalso; exact p23_1 (by omega) h.1
      have qq3 : (isw f ((G 141) tp).toInt ∧ 0 ≤ p0.toInt ∧ p0.toInt < ((G 222) this).toInt → lkE (d (Int32.toNatClampNeg p0)).1 (wdl f 0 n) = none → (-2 : Int32).toInt = (((cwF (d (Int32.toNatClampNeg p0)) (wdl f 0 n)).length : Nat) : Int) ∧ ∃ rf pr, (O 2) ra (Int32.toNatClampNeg p0) = some rf ∧ (P 103) rf = some pr ∧ (P 66) lp = some pr ∧ RWS (idxP (d (Int32.toNatClampNeg p0)).2.1) ((G 60) lp).toInt ((V 2) sz) ((V 0) pk) (cwF (d (Int32.toNatClampNeg p0)) (wdl f 0 n))) := by intro h; exfalso; exact p23_1 (by omega) h.1
      exact pw_some ⟨qq0, qq1, qq2, qq3⟩
    · have c26 := z_ne c26
      refine pw_nne hn26 ?_
      refine pw_nne hn1 ?_
      refine pw_nne hn3 ?_
      refine pw_b1 (fun r45 hc45 => ?_)
      have hq45 := wp_at (ok_X10_find κ wd (va_up G 141 c4_G141) P U V X O kd ln cnt er tb (0 : Int32) r4 hzG200 hzG203 hzP201 hzP202 hzV1 hzRA hzRB hzRI hzLN hk_er hk_tb) hc45
      obtain ⟨f48, f49⟩ : (((-1) ≤ r45.toInt ∧ r45.toInt < 100)) ∧ ((r45.toInt = -1 ∨ r45.toInt < ((G 203) er).toInt)) := hq45
      have h845_hl : (P 201) er = some (le) := by exact u1
      have h845_hs : (P 202) er = some (se) := by exact v1
      have h845_hw : ((G 200) er).toInt = ((16) : Int) := by omega
      have h845_hws : rwW ((G 203) er) ((V 0) (le)) ((V 1) (se)) (16) = (rwW ((G 203) er) ((V 0) le) ((V 1) se) 16) := by rfl
      have h845_hst : 0 ≤ (0 : Int32).toInt := by omega
      have h845_hm : 0 ≤ r4.toInt := by omega
      have h845_hlf : (0 : Int32).toInt + r4.toInt ≤ ((ln tb : Nat) : Int) := by omega
      have hx45 := pwq (fn_X10_find κ wd la (va_up G 141 c4_G141) P U V X O kd ln cnt er tb (0 : Int32) r4 (le) (se) (16) (rwW ((G 203) er) ((V 0) le) ((V 1) se) 16) hzG200 hzG203 hzP201 hzP202 hzV1 hzRA hzRB hzRI hzLN hk_er hk_tb hB lt_er27 lt_tb4 h845_hl h845_hs h845_hw h845_hws h845_hst h845_hm h845_hlf) hc45
      have p45_0 : FIX (rwW ((G 203) er) ((V 0) le) ((V 1) se) 16) (wdl ((V 0) tb) (Int32.toNatClampNeg (0 : Int32)) (Int32.toNatClampNeg r4)) r45.toInt := hx45
      clear hx45
      rw [hf, hn4, show Int32.toNatClampNeg (0 : Int32) = 0 from rfl] at p45_0
      have hes : (d (Int32.toNatClampNeg p0)).1.map Prod.fst = rwW ((G 203) er) ((V 0) le) ((V 1) se) 16 := by rw [hd1]; exact ent_fst
      rw [← hes] at p45_0
      obtain ⟨lk1, lk2⟩ := lk_fix p45_0
      refine pw_ite (fun c53 => ?_) (fun c53 => ?_)
      · have c53 := congrArg Int32.toInt c53
        refine pw_nne hn7 ?_
        refine pw_nne hn28 ?_
        refine pw_nne hn1 ?_
        refine pw_nne hn3 ?_
        have hpr90_0 : (0 ≤ (0 : Int32).toInt ∧ (0 : Int32).toInt ≤ 2500) := by first | assumption | omega
        refine pw_b5 (fun c90_G60 c90_P66 c90_V0 c90_V2 c90_V12 hc90 => ?_)
        have hq90 := wp_at (ok_X3_find κ wd (va_up G 141 c4_G141) P U V X O kd ln cnt lp pr tb (0 : Int32) r4 hzG60 hzG200 hzG203 hzP61 hzP62 hzP63 hzP64 hzP65 hzP66 hzP201 hzP202 hzV1 hzV2 hzRA hzRB hzRI hzLN hk_lp hk_pr hk_tb hpr90_0) hc90
        obtain ⟨hg50, hg51, hg52⟩ : (rng (0) 30 c90_G60) ∧ (PB κ ln wd 4 11 0 2500 0 c90_P66) ∧ (rng2 (0) 24 c90_V2) := hq90
        have hq90 := pwq (fr_X3_find la (va_up G 141 c4_G141) P U V X O kd ln cnt lp pr tb (0 : Int32) r4 hB lt_lp8 lt_pr29) hc90
        obtain ⟨q90_G60, q90_P66, q90_V0, q90_V2, q90_V12, ql90_66⟩ : (∀ z, (la z < la lp ∨ la lp + 2 < la z) → c90_G60 z = (G 60) z) ∧ (∀ z, (la z < la lp ∨ la lp + 2 < la z) → c90_P66 z = (P 66) z) ∧ (∀ z, (la z < la lp ∨ la lp + 2 < la z) → c90_V0 z = (V 0) z) ∧ (∀ z, (la z < la lp ∨ la lp + 2 < la z) → c90_V2 z = (V 2) z) ∧ (∀ z, (la z < la lp ∨ la lp + 2 < la z) → c90_V12 z = (V 12) z) ∧ LC 66 la cnt c90_P66 := hq90
        have tz90 : ∀ z, ((la z < 10 ∨ 10 < la z) ∧ (la z < 60 ∨ 60 + 2 < la z)) → ((la z < la lp ∨ la lp + 2 < la z)) := fun z hz => by omega
        have hfr53 : ∀ z, ((la z < 10 ∨ 10 < la z) ∧ (la z < 60 ∨ 60 + 2 < la z)) → c90_G60 z = (G 60) z := fun z hz => (q90_G60 z (tz90 z hz)).trans ((fun _ _ => rfl) z hz)
        have hfr54 : ∀ z, ((la z < 10 ∨ 10 < la z) ∧ (la z < 60 ∨ 60 + 2 < la z)) → c90_P66 z = (P 66) z := fun z hz => (q90_P66 z (tz90 z hz)).trans ((fun _ _ => rfl) z hz)
        have hfr55 : ∀ z, ((la z < 10 ∨ 10 < la z) ∧ (la z < 60 ∨ 60 + 2 < la z)) → c90_V0 z = (V 0) z := fun z hz => (q90_V0 z (tz90 z hz)).trans ((fun _ _ => rfl) z hz)
        have hfr56 : ∀ z, ((la z < 10 ∨ 10 < la z) ∧ (la z < 60 ∨ 60 + 2 < la z)) → c90_V2 z = (V 2) z := fun z hz => (q90_V2 z (tz90 z hz)).trans ((fun _ _ => rfl) z hz)
        have hfr57 : ∀ z, ((la z < 10 ∨ 10 < la z) ∧ (la z < 60 ∨ 60 + 2 < la z)) → c90_V12 z = (V 12) z := fun z hz => (q90_V12 z (tz90 z hz)).trans ((fun _ _ => rfl) z hz)
        have h890_hfi : (P 63) lp = some fi := by first | assumption | omega
        have h890_hpa : (P 65) lp = some pa := by first | assumption | omega
        have h890_hpk : (P 62) lp = some pk := by first | assumption | omega
        have h890_hsz : (P 61) lp = some sz := by first | assumption | omega
        have h890_hcl : (P 64) lp = some cl := by first | assumption | omega
        have h890_hl : (P 201) pr = some (lpp) := by exact u3
        have h890_hs : (P 202) pr = some (sp) := by exact v3
        have h890_hw : ((G 200) pr).toInt = ((16 : Nat) : Int) := by omega
        have h890_hps : rwW ((G 203) pr) ((V 0) (lpp)) ((V 1) (sp)) 16 = ((d (Int32.toNatClampNeg p0)).2.1) := by exact hd2.symm
        have h890_hW : wdl ((V 0) tb) (Int32.toNatClampNeg (0 : Int32)) (Int32.toNatClampNeg r4) = (wdl f 0 n) := by rw [hf, hn4, show Int32.toNatClampNeg (0 : Int32) = 0 from rfl]
        have h890_hlx : (0 : Int32).toInt + r4.toInt ≤ ((ln tb : Nat) : Int) := by omega
        have h890_hne : ∀ x, x ∈ ((d (Int32.toNatClampNeg p0)).2.1) → x ≠ [] ∧ x.length ≤ 16 := by exact fun x hx => ⟨(y5.2.1 x hx).1, (y5.2.1 x hx).2.2⟩
        have h890_h13 : 1 ≤ r4.toInt ∧ r4.toInt ≤ 24 := by have h9 := p23_0 (by omega); have h8 := h9.1; have h7 := h9.2.1; omega
        have h890_hdl : (la (lpp) < la lp ∨ la lp + 2 < la (lpp)) := by omega
        have h890_hdp : (la tb < la lp ∨ la lp + 2 < la tb) := by omega
        have hx90 := pwq (fn_X3_find κ wd la (va_up G 141 c4_G141) P U V X O kd ln cnt lp pr tb (0 : Int32) r4 (fi) (pa) (pk) (sz) (cl) (lpp) (sp) ((d (Int32.toNatClampNeg p0)).2.1) (wdl f 0 n) hzG60 hzG200 hzG203 hzP61 hzP62 hzP63 hzP64 hzP65 hzP66 hzP201 hzP202 hzV1 hzV2 hzRA hzRB hzRI hzLN hk_lp hk_pr hk_tb hpr90_0 hB lt_lp8 lt_pr29 lt_tb4 h890_hfi h890_hpa h890_hpk h890_hsz h890_hcl h890_hl h890_hs h890_hw h890_hps h890_hW h890_hlx h890_hne h890_h13 h890_hdl h890_hdp) hc90
        obtain ⟨p90_0, p90_1⟩ : (RWS (idxP ((d (Int32.toNatClampNeg p0)).2.1)) (c90_G60 lp).toInt (c90_V2 sz) (c90_V0 pk) ((wy ((d (Int32.toNatClampNeg p0)).2.1) (wdl f 0 n) 0).take 30)) ∧ (c90_P66 lp = some pr) := hx90
        refine pw_nne hn7 ?_
        have b58 := hg50 lp
        have qq0 : (¬ (isw f ((G 141) tp).toInt ∧ 0 ≤ p0.toInt ∧ p0.toInt < ((G 222) this).toInt) → (c90_G60 lp).toInt = -2 ∧ c90_G60 lp = (G 60) lp ∧ c90_V2 sz = (V 2) sz ∧ c90_V0 pk = (V 0) pk ∧ c90_P66 lp = (P 66) lp) := by intro h; exfalso; exact h ⟨p23_0 (by omega), hin⟩
        have qq1 : (isw f ((G 141) tp).toInt ∧ 0 ≤ p0.toInt ∧ p0.toInt < ((G 222) this).toInt → lkE (d (Int32.toNatClampNeg p0)).1 (wdl f 0 n) = some none → (c90_G60 lp).toInt = -10 ∧ c90_G60 lp = (G 60) lp ∧ c90_V2 sz = (V 2) sz ∧ c90_V0 pk = (V 0) pk ∧ c90_P66 lp = (P 66) lp) := by intro _ h; exfalso; rw [lk1 (by omega)] at h; cases h
        have qq2 : (isw f ((G 141) tp).toInt ∧ 0 ≤ p0.toInt ∧ p0.toInt < ((G 222) this).toInt → ∀ v, lkE (d (Int32.toNatClampNeg p0)).1 (wdl f 0 n) = some (some v) → (c90_G60 lp).toInt = -11 ∧ c90_G60 lp = (G 60) lp ∧ c90_V2 sz = (V 2) sz ∧ c90_V0 pk = (V 0) pk ∧ c90_P66 lp = (P 66) lp) := by intro _ v h; exfalso; rw [lk1 (by omega)] at h; cases h
        have qq3 : (isw f ((G 141) tp).toInt ∧ 0 ≤ p0.toInt ∧ p0.toInt < ((G 222) this).toInt → lkE (d (Int32.toNatClampNeg p0)).1 (wdl f 0 n) = none → (c90_G60 lp).toInt = (((cwF (d (Int32.toNatClampNeg p0)) (wdl f 0 n)).length : Nat) : Int) ∧ ∃ rf pr, (O 2) ra (Int32.toNatClampNeg p0) = some rf ∧ (P 103) rf = some pr ∧ c90_P66 lp = some pr ∧ RWS (idxP (d (Int32.toNatClampNeg p0)).2.1) (c90_G60 lp).toInt (c90_V2 sz) (c90_V0 pk) (cwF (d (Int32.toNatClampNeg p0)) (wdl f 0 n))) := by intro _ _; exact ⟨p90_0.1.1, b15, pr, hO, t103, p90_1, p90_0⟩
        exact pw_some ⟨qq0, qq1, qq2, qq3⟩
      · have c53 := z_ne c53
        obtain ⟨e, e1, e2, e3, e4⟩ := lk2 (by omega)
        rw [hd1] at e2
        obtain ⟨k1, k2, k3⟩ := entV_at e2
        have hb203 := hzG203 er
        have c203 := clampI (x := (G 203) er) (by omega)
        have h40 : r45.toInt < 40 := by omega
        refine pw_b1 (fun r59 hc59 => ?_)
        have hq59 := wp_at (ok_X5_isKept κ wd (va_up G 141 c4_G141) P U V X O kd ln cnt b15 r45 hzP106 hzLN hk_b15) hc59
        have f59 : (0 ≤ r59.toInt ∧ r59.toInt ≤ 1) := hq59
        clear hq59
        have h859_hkp : (P 106) b15 = some kp := by exact t106
        have hx59 := pwq (fn_X5_isKept κ wd la (va_up G 141 c4_G141) P U V X O kd ln cnt b15 r45 (kp) hzP106 hzLN hk_b15 hB (by omega) h859_hkp) hc59
        obtain ⟨p59_0, p59_1⟩ : ((r59.toInt ≠ 0 → 0 ≤ r45.toInt ∧ r45.toInt < 40 ∧ (((V 10) kp) (Int32.toNatClampNeg r45)).toInt ≠ 0)) ∧ ((r59.toInt = 0 → 0 ≤ r45.toInt → r45.toInt < 40 → (((V 10) kp) (Int32.toNatClampNeg r45)).toInt = 0)) := hx59
        refine pw_jE (fun j72 ej72 => ?_)
        refine pw_ite (fun c62 => ?_) (fun c62 => ?_)
        · have c62 := congrArg Int32.toInt c62
          refine pw_j1 ej72 (fun t72_0 et72_0 => ?_)
          have et72_0 := et72_0.symm
          have f_t72_0 : t72_0.toInt = (-11) := by rw [et72_0]; decide +kernel
          have qq0 : (¬ (isw f ((G 141) tp).toInt ∧ 0 ≤ p0.toInt ∧ p0.toInt < ((G 222) this).toInt) → t72_0.toInt = -2 ∧ (G 60) lp = (G 60) lp ∧ (V 2) sz = (V 2) sz ∧ (V 0) pk = (V 0) pk ∧ (P 66) lp = (P 66) lp) := by intro h; exfalso; exact h ⟨p23_0 (by omega), hin⟩
          have qq1 : (isw f ((G 141) tp).toInt ∧ 0 ≤ p0.toInt ∧ p0.toInt < ((G 222) this).toInt → lkE (d (Int32.toNatClampNeg p0)).1 (wdl f 0 n) = some none → t72_0.toInt = -10 ∧ (G 60) lp = (G 60) lp ∧ (V 2) sz = (V 2) sz ∧ (V 0) pk = (V 0) pk ∧ (P 66) lp = (P 66) lp) := by intro _ h; exfalso; have h9 := k3 (p59_1 (by omega) (by omega) (by omega)); rw [e4, h9] at h; cases h
          have qq2 : (isw f ((G 141) tp).toInt ∧ 0 ≤ p0.toInt ∧ p0.toInt < ((G 222) this).toInt → ∀ v, lkE (d (Int32.toNatClampNeg p0)).1 (wdl f 0 n) = some (some v) → t72_0.toInt = -11 ∧ (G 60) lp = (G 60) lp ∧ (V 2) sz = (V 2) sz ∧ (V 0) pk = (V 0) pk ∧ (P 66) lp = (P 66) lp) := by intro _ _ _; exact ⟨by omega, rfl, rfl, rfl, rfl⟩
          have qq3 : (isw f ((G 141) tp).toInt ∧ 0 ≤ p0.toInt ∧ p0.toInt < ((G 222) this).toInt → lkE (d (Int32.toNatClampNeg p0)).1 (wdl f 0 n) = none → t72_0.toInt = (((cwF (d (Int32.toNatClampNeg p0)) (wdl f 0 n)).length : Nat) : Int) ∧ ∃ rf pr, (O 2) ra (Int32.toNatClampNeg p0) = some rf ∧ (P 103) rf = some pr ∧ (P 66) lp = some pr ∧ RWS (idxP (d (Int32.toNatClampNeg p0)).2.1) ((G 60) lp).toInt ((V 2) sz) ((V 0) pk) (cwF (d (Int32.toNatClampNeg p0)) (wdl f 0 n))) := by intro _ h; exfalso; rw [e4] at h; cases h
          exact pw_some ⟨qq0, qq1, qq2, qq3⟩
        · have c62 := z_ne c62
          refine pw_j1 ej72 (fun t72_0 et72_0 => ?_)
          have et72_0 := et72_0.symm
          have f_t72_0 : t72_0.toInt = (-10) := by rw [et72_0]; decide +kernel
          have qq0 : (¬ (isw f ((G 141) tp).toInt ∧ 0 ≤ p0.toInt ∧ p0.toInt < ((G 222) this).toInt) → t72_0.toInt = -2 ∧ (G 60) lp = (G 60) lp ∧ (V 2) sz = (V 2) sz ∧ (V 0) pk = (V 0) pk ∧ (P 66) lp = (P 66) lp) := by intro h; exfalso; exact h ⟨p23_0 (by omega), hin⟩
          have qq1 : (isw f ((G 141) tp).toInt ∧ 0 ≤ p0.toInt ∧ p0.toInt < ((G 222) this).toInt → lkE (d (Int32.toNatClampNeg p0)).1 (wdl f 0 n) = some none → t72_0.toInt = -10 ∧ (G 60) lp = (G 60) lp ∧ (V 2) sz = (V 2) sz ∧ (V 0) pk = (V 0) pk ∧ (P 66) lp = (P 66) lp) := by intro _ _; exact ⟨by omega, rfl, rfl, rfl, rfl⟩
          have qq2 : (isw f ((G 141) tp).toInt ∧ 0 ≤ p0.toInt ∧ p0.toInt < ((G 222) this).toInt → ∀ v, lkE (d (Int32.toNatClampNeg p0)).1 (wdl f 0 n) = some (some v) → t72_0.toInt = -11 ∧ (G 60) lp = (G 60) lp ∧ (V 2) sz = (V 2) sz ∧ (V 0) pk = (V 0) pk ∧ (P 66) lp = (P 66) lp) := by intro _ v h; exfalso; have h9 := k2 (p59_0 (by omega)).2.2; rw [e4, h9] at h; cases h
          have qq3 : (isw f ((G 141) tp).toInt ∧ 0 ≤ p0.toInt ∧ p0.toInt < ((G 222) this).toInt → lkE (d (Int32.toNatClampNeg p0)).1 (wdl f 0 n) = none → t72_0.toInt = (((cwF (d (Int32.toNatClampNeg p0)) (wdl f 0 n)).length : Nat) : Int) ∧ ∃ rf pr, (O 2) ra (Int32.toNatClampNeg p0) = some rf ∧ (P 103) rf = some pr ∧ (P 66) lp = some pr ∧ RWS (idxP (d (Int32.toNatClampNeg p0)).2.1) ((G 60) lp).toInt ((V 2) sz) ((V 0) pk) (cwF (d (Int32.toNatClampNeg p0)) (wdl f 0 n))) := by intro _ h; exfalso; rw [e4] at h; cases h
          exact pw_some ⟨qq0, qq1, qq2, qq3⟩