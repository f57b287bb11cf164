abbrev QF_X6_finish (κ : Nat → Nat) (wd : Nat) (la : Nat → Nat) (G : Nat → Nat → Int32) (P : Nat → Nat → Option Nat) (U : Nat → Nat → Int64) (V : Nat → Nat → Nat → Int32) (X : Nat → Nat → Nat → Int64) (O : Nat → Nat → Nat → Option Nat) (kd : Nat → Nat) (ln : Nat → Nat) (cnt : Nat) (this : Nat) (p0 : Nat) (p1 : Int32) (f : Nat → Int32) (tl : Nat) (pv : Nat) (tt : Nat) (tv : Nat) : (Int32 × (Nat → Int32) × (Nat → Int32) × (Nat → Int32) × (Nat → Int32) × (Nat → Option Nat) × (Nat → Option Nat) × (Nat → Option Nat) × (Nat → Option Nat) × (Nat → Nat → Int32)) → Prop := (fun t => ((∀ o9, CWS f ((V 0) pv) (Int32.toNatClampNeg ((G 126) this)) (Int32.toNatClampNeg ((G 127) this)) (Int32.toNatClampNeg p1) ((G 128) this).toInt o9 → (2500 < o9.length ∧ (t.1).toInt = -1 ∧ (t.2.2.2.2.2.1) this = some tl ∧ (t.2.2.2.2.2.2.1) this = some pv ∧ (t.2.2.2.2.2.2.2.1) this = some tt ∧ (t.2.2.2.2.2.2.2.2.1) this = some tv ∧ (t.2.1) this = (G 124) this ∧ (t.2.2.1) this = (G 125) this) ∨ (o9.length ≤ 2500 ∧ (t.1).toInt = ((o9.length : Nat) : Int) ∧ (t.2.2.2.2.2.1) this = some pv ∧ (t.2.2.2.2.2.2.1) this = some tl ∧ (t.2.2.2.2.2.2.2.1) this = some tv ∧ (t.2.2.2.2.2.2.2.2.1) this = some tt ∧ ((t.2.1) this).toInt ≠ 0 ∧ (t.2.2.1) this = (t.1) ∧ wdl ((t.2.2.2.2.2.2.2.2.2) pv) 0 (Int32.toNatClampNeg ((t.2.2.1) this)) = o9))) ∧ ((∀ z, z ≠ pv → (t.2.2.2.2.2.2.2.2.2) z = (V 0) z)))
set_option maxHeartbeats 4000000 in
set_option maxRecDepth 100000 in
theorem fn_X6_finish (κ : Nat → Nat) (wd : Nat) (la : Nat → Nat) (G : Nat → Nat → Int32) (P : Nat → Nat → Option Nat) (U : Nat → Nat → Int64) (V : Nat → Nat → Nat → Int32) (X : Nat → Nat → Nat → Int64) (O : Nat → Nat → Nat → Option Nat) (kd : Nat → Nat) (ln : Nat → Nat) (cnt : Nat) (this : Nat) (p0 : Nat) (p1 : Int32) (f : Nat → Int32) (tl : Nat) (pv : Nat) (tt : Nat) (tv : Nat) (hzG125 : rng (0) 2500 (G 125)) (hzG126 : rng (0) 2500 (G 126)) (hzG127 : rng (0) 2000 (G 127)) (hzP120 : PB κ ln wd 7 100 2500 2500 0 (P 120)) (hzP121 : PB κ ln wd 7 100 2500 2500 0 (P 121)) (hzP122 : PB κ ln wd 7 106 5 5 0 (P 122)) (hzP123 : PB κ ln wd 7 106 5 5 0 (P 123)) (hzLN : LN κ ln) (hk_this : κ this = 7) (hk_p0 : κ p0 = 100) (hp0 : ((G 127) this).toInt ≤ p1.toInt) (hp1 : p1.toInt ≤ ((ln p0 : Nat) : Int)) (hB : LB la cnt P) (hlt_this : this < cnt) (hlt_p0 : p0 < cnt) (hf : (V 0) p0 = f) (h120 : (P 120) this = some tl) (h121 : (P 121) this = some pv) (h122 : (P 122) this = some tt) (h123 : (P 123) this = some tv) : pw (f_X6_finish G P U V X O kd ln cnt this p0 p1) (QF_X6_finish κ wd la G P U V X O kd ln cnt this p0 p1 f tl pv tt tv) := by
  unfold f_X6_finish
  have zkm1 : (-1 : Int32).toInt = -1 := by decide +kernel
  have zk0 : (0 : Int32).toInt = 0 := by decide +kernel
  have zk1 : (1 : Int32).toInt = 1 := by decide +kernel
  have r_p1 := i32r p1
  have hn1 : (P 120) this = some tl := h120
  have lt_tl2 := ((hB.1 120 fl_120) this tl hn1).2.1
  have lb_tl2 : (la tl = la this + 1 ∨ la tl = la this + 2) := lk_120.mp ((hB.1 120 fl_120) this tl hn1).2.2
  have hk_tl := ((hzP120 this).2 tl hn1).1
  have hl1_tl := ((hzP120 this).2 tl hn1).2.1
  have hl2_tl := ((hzP120 this).2 tl hn1).2.2.1
  have hw_tl := ((hzP120 this).2 tl hn1).2.2.2
  have hz_tl : (Int32.ofNat (ln tl)).toInt = ((ln tl : Nat) : Int) := ofN_eq (by first | exact Nat.le_trans hl2_tl (by decide) | omega)
  have hn3 : (P 121) this = some pv := h121
  have lt_pv4 := ((hB.1 121 fl_121) this pv hn3).2.1
  have lb_pv4 : (la pv = la this + 1 ∨ la pv = la this + 2) := lk_121.mp ((hB.1 121 fl_121) this pv hn3).2.2
  have hk_pv := ((hzP121 this).2 pv hn3).1
  have hl1_pv := ((hzP121 this).2 pv hn3).2.1
  have hl2_pv := ((hzP121 this).2 pv hn3).2.2.1
  have hw_pv := ((hzP121 this).2 pv hn3).2.2.2
  have hz_pv : (Int32.ofNat (ln pv)).toInt = ((ln pv : Nat) : Int) := ofN_eq (by first | exact Nat.le_trans hl2_pv (by decide) | omega)
  have hn5 : (P 122) this = some tt := h122
  have lt_tt6 := ((hB.1 122 fl_122) this tt hn5).2.1
  have lb_tt6 : (la tt = la this + 1 ∨ la tt = la this + 2) := lk_122.mp ((hB.1 122 fl_122) this tt hn5).2.2
  have hk_tt := ((hzP122 this).2 tt hn5).1
  have hl1_tt := ((hzP122 this).2 tt hn5).2.1
  have hl2_tt := ((hzP122 this).2 tt hn5).2.2.1
  have hw_tt := ((hzP122 this).2 tt hn5).2.2.2
  have hz_tt : (Int32.ofNat (ln tt)).toInt = ((ln tt : Nat) : Int) := ofN_eq (by first | exact Nat.le_trans hl2_tt (by decide) | omega)
  have hn7 : (P 123) this = some tv := h123
  have lt_tv8 := ((hB.1 123 fl_123) this tv hn7).2.1
  have lb_tv8 : (la tv = la this + 1 ∨ la tv = la this + 2) := lk_123.mp ((hB.1 123 fl_123) this tv hn7).2.2
  have hk_tv := ((hzP123 this).2 tv hn7).1
  have hl1_tv := ((hzP123 this).2 tv hn7).2.1
  have hl2_tv := ((hzP123 this).2 tv hn7).2.2.1
  have hw_tv := ((hzP123 this).2 tv hn7).2.2.2
  have hz_tv : (Int32.ofNat (ln tv)).toInt = ((ln tv : Nat) : Int) := ofN_eq (by first | exact Nat.le_trans hl2_tv (by decide) | omega)
  have hb127 := hzG127 this
  have c127 := clampI (x := (G 127) this) (by omega)
  have cp1 := clampI (x := p1) (by omega)
  have b9 := hzG127 this
  have f11 : (p1 - ((G 127) this)).toInt = p1.toInt - ((G 127) this).toInt := z_sub (by omega) (by omega)
  have hpr12_0 : (0 ≤ ((G 127) this).toInt ∧ 0 ≤ (p1 - ((G 127) this)).toInt ∧ ((G 127) this).toInt + (p1 - ((G 127) this)).toInt ≤ ((ln p0 : Nat) : Int)) := by first | assumption | omega
  refine pw_b3 (fun c12_G126 c12_G128 c12_V0 hc12 => ?_)
  have hq12 := wp_at (ok_X6_append κ wd G P U V X O kd ln cnt this p0 ((G 127) this) (p1 - ((G 127) this)) hzG126 hzP121 hzLN hk_this hk_p0 hpr12_0) hc12
  have hg12 : rng (0) 2500 c12_G126 := hq12
  clear hq12
  have hq12 := pwq (fr_X6_append la G P U V X O kd ln cnt this p0 ((G 127) this) (p1 - ((G 127) this)) hB) hc12
  obtain ⟨q12_G126, q12_G128, q12_V0⟩ : (∀ z, (la z < la this ∨ la this + 2 < la z) → c12_G126 z = (G 126) z) ∧ (∀ z, (la z < la this ∨ la this + 2 < la z) → c12_G128 z = (G 128) z) ∧ (∀ z, (la z < la this ∨ la this + 2 < la z) → c12_V0 z = (V 0) z) := hq12
  have tz12 : ∀ z, ((la z < la this ∨ la this + 2 < la z)) → ((la z < la this ∨ la this + 2 < la z)) := fun z hz => by omega
  have hfr13 : ∀ z, ((la z < la this ∨ la this + 2 < la z)) → c12_G126 z = (G 126) z := fun z hz => (q12_G126 z (tz12 z hz)).trans ((fun _ _ => rfl) z hz)
  have hfr14 : ∀ z, ((la z < la this ∨ la this + 2 < la z)) → c12_G128 z = (G 128) z := fun z hz => (q12_G128 z (tz12 z hz)).trans ((fun _ _ => rfl) z hz)
  have hfr15 : ∀ z, ((la z < la this ∨ la this + 2 < la z)) → c12_V0 z = (V 0) z := fun z hz => (q12_V0 z (tz12 z hz)).trans ((fun _ _ => rfl) z hz)
  have h812_h121 : (P 121) this = some pv := by exact h121
  have hx12 := pwq (fn_X6_append κ wd la G P U V X O kd ln cnt this p0 ((G 127) this) (p1 - ((G 127) this)) (pv) hzG126 hzP121 hzLN hk_this hk_p0 hpr12_0 hB hlt_this hlt_p0 h812_h121) hc12
  obtain ⟨p12_0, p12_1⟩ : (APP ((V 0) pv) (c12_V0 pv) (Int32.toNatClampNeg ((G 126) this)) (Int32.toNatClampNeg (c12_G126 this)) ((G 128) this).toInt (c12_G128 this).toInt (wdl ((V 0) p0) (Int32.toNatClampNeg ((G 127) this)) (Int32.toNatClampNeg (p1 - ((G 127) this))))) ∧ ((∀ z, z ≠ pv → c12_V0 z = (V 0) z)) := hx12
  rw [hf] at p12_0
  have kn := clampI (x := p1 - ((G 127) this)) (by omega)
  rw [show Int32.toNatClampNeg (p1 - ((G 127) this)) = Int32.toNatClampNeg p1 - Int32.toNatClampNeg ((G 127) this) by omega] at p12_0
  refine pw_ite (fun c19 => ?_) (fun c19 => ?_)
  · have c19 := congrArg Int32.toInt c19
    have qq0 : (∀ o9, CWS f ((V 0) pv) (Int32.toNatClampNeg ((G 126) this)) (Int32.toNatClampNeg ((G 127) this)) (Int32.toNatClampNeg p1) ((G 128) this).toInt o9 → (2500 < o9.length ∧ (-1 : Int32).toInt = -1 ∧ (P 120) this = some tl ∧ (P 121) this = some pv ∧ (P 122) this = some tt ∧ (P 123) this = some tv ∧ (G 124) this = (G 124) this ∧ (G 125) this = (G 125) this) ∨ (o9.length ≤ 2500 ∧ (-1 : Int32).toInt = ((o9.length : Nat) : Int) ∧ (P 120) this = some pv ∧ (P 121) this = some tl ∧ (P 122) this = some tv ∧ (P 123) this = some tt ∧ ((G 124) this).toInt ≠ 0 ∧ (G 125) this = (-1 : Int32) ∧ wdl (c12_V0 pv) 0 (Int32.toNatClampNeg ((G 125) this)) = o9)) := by intro o9 h9; exact Or.inl ⟨(CWS_fin h9 p12_0).1 (by omega), by omega, h120, h121, h122, h123, rfl, rfl⟩
    have qq1 : (∀ z, z ≠ pv → c12_V0 z = (V 0) z) := by exact p12_1
    exact pw_some ⟨qq0, qq1⟩
  · have c19 := z_ne c19
    refine pw_nne hn1 ?_
    refine pw_nne hn3 ?_
    refine pw_vl (fun m34 em34 => ?_)
    have hfr16 : ∀ z, ((la z < la this ∨ la this + 2 < la z)) → m34 z = (P 120) z := fr_up (e0 := (P 120)) (fun _ _ => rfl) em34 (show ¬ ((la this < la this ∨ la this + 2 < la this)) from by omega)
    have hl17 : LC 120 la cnt m34 := LC_up (hB.1 120 fl_120) em34 (by omega) (by omega) (lk_120.mpr (by omega))
    have hp18 : PB κ ln wd 7 100 2500 2500 0 m34 := by rw [em34]; exact PB_up hzP120 hk_pv (by omega) (by omega) (fun h9 => absurd h9 (by decide))
    have sm34 : m34 this = some pv := by rw [em34]; exact va_up_self _ _ _
    refine pw_vl (fun m39 em39 => ?_)
    have hfr19 : ∀ z, ((la z < la this ∨ la this + 2 < la z)) → m39 z = (P 121) z := fr_up (e0 := (P 121)) (fun _ _ => rfl) em39 (show ¬ ((la this < la this ∨ la this + 2 < la this)) from by omega)
    have hl20 : LC 121 la cnt m39 := LC_up (hB.1 121 fl_121) em39 (by omega) (by omega) (lk_121.mpr (by omega))
    have hp21 : PB κ ln wd 7 100 2500 2500 0 m39 := by rw [em39]; exact PB_up hzP121 hk_tl (by omega) (by omega) (fun h9 => absurd h9 (by decide))
    have sm39 : m39 this = some tl := by rw [em39]; exact va_up_self _ _ _
    refine pw_nne hn5 ?_
    refine pw_nne hn7 ?_
    refine pw_vl (fun m53 em53 => ?_)
    have hfr22 : ∀ z, ((la z < la this ∨ la this + 2 < la z)) → m53 z = (P 122) z := fr_up (e0 := (P 122)) (fun _ _ => rfl) em53 (show ¬ ((la this < la this ∨ la this + 2 < la this)) from by omega)
    have hl23 : LC 122 la cnt m53 := LC_up (hB.1 122 fl_122) em53 (by omega) (by omega) (lk_122.mpr (by omega))
    have hp24 : PB κ ln wd 7 106 5 5 0 m53 := by rw [em53]; exact PB_up hzP122 hk_tv (by omega) (by omega) (fun h9 => absurd h9 (by decide))
    have sm53 : m53 this = some tv := by rw [em53]; exact va_up_self _ _ _
    refine pw_vl (fun m59 em59 => ?_)
    have hfr25 : ∀ z, ((la z < la this ∨ la this + 2 < la z)) → m59 z = (P 123) z := fr_up (e0 := (P 123)) (fun _ _ => rfl) em59 (show ¬ ((la this < la this ∨ la this + 2 < la this)) from by omega)
    have hl26 : LC 123 la cnt m59 := LC_up (hB.1 123 fl_123) em59 (by omega) (by omega) (lk_123.mpr (by omega))
    have hp27 : PB κ ln wd 7 106 5 5 0 m59 := by rw [em59]; exact PB_up hzP123 hk_tt (by omega) (by omega) (fun h9 => absurd h9 (by decide))
    have sm59 : m59 this = some tt := by rw [em59]; exact va_up_self _ _ _
    refine pw_vl (fun m64 em64 => ?_)
    have hfr28 : ∀ z, ((la z < la this ∨ la this + 2 < la z)) → m64 z = (G 124) z := fr_up (e0 := (G 124)) (fun _ _ => rfl) em64 (show ¬ ((la this < la this ∨ la this + 2 < la this)) from by omega)
    have sm64 : (m64 this).toInt = 1 := by rw [em64, va_up_self]; decide +kernel
    have b29 := hg12 this
    refine pw_vl (fun x72 ex72 => ?_)
    have f30 : x72.toInt = (c12_G126 this).toInt := congrArg Int32.toInt ex72
    refine pw_vl (fun m72 em72 => ?_)
    have hfr31 : ∀ z, ((la z < la this ∨ la this + 2 < la z)) → m72 z = (G 125) z := fr_up (e0 := (G 125)) (fun _ _ => rfl) em72 (show ¬ ((la this < la this ∨ la this + 2 < la this)) from by omega)
    have hg32 : rng (0) 2500 m72 := by rw [em72]; exact rng_vup hzG125 (by omega) (by omega)
    have sm72 : (m72 this).toInt = x72.toInt := by rw [em72, va_up_self]
    have b33 := hg32 this
    have qq0 : (∀ o9, CWS f ((V 0) pv) (Int32.toNatClampNeg ((G 126) this)) (Int32.toNatClampNeg ((G 127) this)) (Int32.toNatClampNeg p1) ((G 128) this).toInt o9 → (2500 < o9.length ∧ (c12_G126 this).toInt = -1 ∧ m34 this = some tl ∧ m39 this = some pv ∧ m53 this = some tt ∧ m59 this = some tv ∧ m64 this = (G 124) this ∧ m72 this = (G 125) this) ∨ (o9.length ≤ 2500 ∧ (c12_G126 this).toInt = ((o9.length : Nat) : Int) ∧ m34 this = some pv ∧ m39 this = some tl ∧ m53 this = some tv ∧ m59 this = some tt ∧ (m64 this).toInt ≠ 0 ∧ m72 this = (c12_G126 this) ∧ wdl (c12_V0 pv) 0 (Int32.toNatClampNeg (m72 this)) = o9)) := by intro o9 h9; have h8 := (CWS_fin h9 p12_0).2 (by omega); have hb6 := hg12 this; have k6 := clampI (x := c12_G126 this) (by omega); have h7 : o9.length = Int32.toNatClampNeg (c12_G126 this) := (by rw [← h8, wdl_len]); refine Or.inr ⟨by omega, by omega, sm34, sm39, sm53, sm59, by omega, ?_, ?_⟩; (rw [em72, va_up_self]; first | rfl | exact ex72); (rw [em72, va_up_self]; first | exact h8 | (rw [ex72]; exact h8))
    have qq1 : (∀ z, z ≠ pv → c12_V0 z = (V 0) z) := by exact p12_1
    exact pw_some ⟨qq0, qq1⟩
abbrev QF_X6_tallyOf (κ : Nat → Nat) (wd : Nat) (la : Nat → Nat) (G : Nat → Nat → Int32) (P : Nat → Nat → Option Nat) (U : Nat → Nat → Int64) (V : Nat → Nat → Nat → Int32) (X : Nat → Nat → Nat → Int64) (O : Nat → Nat → Nat → Option Nat) (kd : Nat → Nat) (ln : Nat → Nat) (cnt : Nat) (this : Nat) (p0 : Int32) (tt : Nat) : (Int32) → Prop := (fun t => (((((G 124) this).toInt ≠ 0 ∧ 0 ≤ p0.toInt ∧ p0.toInt < 5) → t = ((V 6) tt) (Int32.toNatClampNeg p0))) ∧ ((¬ (((G 124) this).toInt ≠ 0 ∧ 0 ≤ p0.toInt ∧ p0.toInt < 5) → t.toInt = -1)))
set_option maxHeartbeats 4000000 in
set_option maxRecDepth 100000 in
theorem fn_X6_tallyOf (κ : Nat → Nat) (wd : Nat) (la : Nat → Nat) (G : Nat → Nat → Int32) (P : Nat → Nat → Option Nat) (U : Nat → Nat → Int64) (V : Nat → Nat → Nat → Int32) (X : Nat → Nat → Nat → Int64) (O : Nat → Nat → Nat → Option Nat) (kd : Nat → Nat) (ln : Nat → Nat) (cnt : Nat) (this : Nat) (p0 : Int32) (tt : Nat) (hzP122 : PB κ ln wd 7 106 5 5 0 (P 122)) (hzLN : LN κ ln) (hk_this : κ this = 7) (hB : LB la cnt P) (hlt_this : this < cnt) (h122 : (P 122) this = some tt) : pw (f_X6_tallyOf G P U V X O kd ln cnt this p0) (QF_X6_tallyOf κ wd la G P U V X O kd ln cnt this p0 tt) := by
  unfold f_X6_tallyOf
  have zkm1 : (-1 : Int32).toInt = -1 := by decide +kernel
  have zk0 : (0 : Int32).toInt = 0 := by decide +kernel
  have zk5 : (5 : Int32).toInt = 5 := by decide +kernel
  have r_p0 := i32r p0
  have hn1 : (P 122) this = some tt := h122
  have lt_tt2 := ((hB.1 122 fl_122) this tt hn1).2.1
  have lb_tt2 : (la tt = la this + 1 ∨ la tt = la this + 2) := lk_122.mp ((hB.1 122 fl_122) this tt hn1).2.2
  have hk_tt := ((hzP122 this).2 tt hn1).1
  have hl1_tt := ((hzP122 this).2 tt hn1).2.1
  have hl2_tt := ((hzP122 this).2 tt hn1).2.2.1
  have hw_tt := ((hzP122 this).2 tt hn1).2.2.2
  have hz_tt : (Int32.ofNat (ln tt)).toInt = ((ln tt : Nat) : Int) := ofN_eq (by first | exact Nat.le_trans hl2_tt (by decide) | omega)
  refine pw_jE (fun j26 ej26 => ?_)
  refine pw_jE (fun j16 ej16 => ?_)
  refine pw_ite (fun c4 => ?_) (fun c4 => ?_)
  · have c4 := congrArg Int32.toInt c4
    refine pw_j0 ej16 ?_
    refine pw_j1 ej26 (fun t26_0 et26_0 => ?_)
    have et26_0 := et26_0.symm
    have f_t26_0 : t26_0.toInt = (-1) := by rw [et26_0]; decide +kernel
    have qq0 : ((((G 124) this).toInt ≠ 0 ∧ 0 ≤ p0.toInt ∧ p0.toInt < 5) → t26_0 = ((V 6) tt) (Int32.toNatClampNeg p0)) := by intro h; exfalso; omega
    have qq1 : (¬ (((G 124) this).toInt ≠ 0 ∧ 0 ≤ p0.toInt ∧ p0.toInt < 5) → t26_0.toInt = -1) := by intro _; omega
    exact pw_some ⟨qq0, qq1⟩
  · have c4 := z_ne c4
    refine pw_ite (fun c8 => ?_) (fun c8 => ?_)
    · have c8 := (z_lt _ _).mp c8
      refine pw_j0 ej16 ?_
      refine pw_j1 ej26 (fun t26_0 et26_0 => ?_)
      have et26_0 := et26_0.symm
      have f_t26_0 : t26_0.toInt = (-1) := by rw [et26_0]; decide +kernel
      have qq0 : ((((G 124) this).toInt ≠ 0 ∧ 0 ≤ p0.toInt ∧ p0.toInt < 5) → t26_0 = ((V 6) tt) (Int32.toNatClampNeg p0)) := by intro h; exfalso; omega
      have qq1 : (¬ (((G 124) this).toInt ≠ 0 ∧ 0 ≤ p0.toInt ∧ p0.toInt < 5) → t26_0.toInt = -1) := by intro _; omega
      exact pw_some ⟨qq0, qq1⟩
    · have c8 := z_nlt c8
      refine pw_ite (fun c13 => ?_) (fun c13 => ?_)
      · have c13 := (z_lt _ _).mp c13
        refine pw_nne hn1 ?_
        refine pw_if (fun hb25 => ?_)
        obtain ⟨hbl25, hbr25⟩ := hb25
        refine pw_j1 ej26 (fun t26_0 et26_0 => ?_)
        have et26_0 := et26_0.symm
        have f_t26_0 : t26_0.toInt = (((V 6) tt) (Int32.toNatClampNeg p0)).toInt := by rw [et26_0]
        have qq0 : ((((G 124) this).toInt ≠ 0 ∧ 0 ≤ p0.toInt ∧ p0.toInt < 5) → t26_0 = ((V 6) tt) (Int32.toNatClampNeg p0)) := by intro _; first | rfl | assumption
        have qq1 : (¬ (((G 124) this).toInt ≠ 0 ∧ 0 ≤ p0.toInt ∧ p0.toInt < 5) → t26_0.toInt = -1) := by intro h; exfalso; omega
        exact pw_some ⟨qq0, qq1⟩
      · have c13 := z_nlt c13
        refine pw_j0 ej16 ?_
        refine pw_j1 ej26 (fun t26_0 et26_0 => ?_)
        have et26_0 := et26_0.symm
        have f_t26_0 : t26_0.toInt = (-1) := by rw [et26_0]; decide +kernel
        have qq0 : ((((G 124) this).toInt ≠ 0 ∧ 0 ≤ p0.toInt ∧ p0.toInt < 5) → t26_0 = ((V 6) tt) (Int32.toNatClampNeg p0)) := by intro h; exfalso; omega
        have qq1 : (¬ (((G 124) this).toInt ≠ 0 ∧ 0 ≤ p0.toInt ∧ p0.toInt < 5) → t26_0.toInt = -1) := by intro _; omega
        exact pw_some ⟨qq0, qq1⟩
abbrev QF_X11_counted (κ : Nat → Nat) (wd : Nat) (la : Nat → Nat) (G : Nat → Nat → Int32) (P : Nat → Nat → Option Nat) (U : Nat → Nat → Int64) (V : Nat → Nat → Nat → Int32) (X : Nat → Nat → Nat → Int64) (O : Nat → Nat → Nat → Option Nat) (kd : Nat → Nat) (ln : Nat → Nat) (cnt : Nat) (this : Nat) (p0 : Int32) (sc : Nat) (tt : Nat) : (Int32) → Prop := (fun t => (((((G 124) sc).toInt ≠ 0 ∧ 0 ≤ p0.toInt ∧ p0.toInt < 5) → t = ((V 6) tt) (Int32.toNatClampNeg p0))) ∧ ((¬ (((G 124) sc).toInt ≠ 0 ∧ 0 ≤ p0.toInt ∧ p0.toInt < 5) → t.toInt = -1)))
set_option maxHeartbeats 4000000 in
set_option maxRecDepth 100000 in
theorem fn_X11_counted (κ : Nat → Nat) (wd : Nat) (la : Nat → Nat) (G : Nat → Nat → Int32) (P : Nat → Nat → Option Nat) (U : Nat → Nat → Int64) (V : Nat → Nat → Nat → Int32) (X : Nat → Nat → Nat → Int64) (O : Nat → Nat → Nat → Option Nat) (kd : Nat → Nat) (ln : Nat → Nat) (cnt : Nat) (this : Nat) (p0 : Int32) (sc : Nat) (tt : Nat) (hzP122 : PB κ ln wd 7 106 5 5 0 (P 122)) (hzP235 : PB κ ln wd 12 7 0 2500 0 (P 235)) (hzLN : LN κ ln) (hk_this : κ this = 12) (hB : LB la cnt P) (hlt_this : this < cnt) (h235 : (P 235) this = some sc) (h122 : (P 122) sc = some tt) : pw (f_X11_counted G P U V X O kd ln cnt this p0) (QF_X11_counted κ wd la G P U V X O kd ln cnt this p0 sc tt) := by
  unfold f_X11_counted
  have r_p0 := i32r p0
  have hn1 : (P 235) this = some sc := h235
  have lt_sc2 := ((hB.1 235 fl_235) this sc hn1).2.1
  have lb_sc2 : la sc = 320 := lk_235.mp ((hB.1 235 fl_235) this sc hn1).2.2
  have hk_sc := ((hzP235 this).2 sc hn1).1
  have hl1_sc := ((hzP235 this).2 sc hn1).2.1
  have hl2_sc := ((hzP235 this).2 sc hn1).2.2.1
  have hw_sc := ((hzP235 this).2 sc hn1).2.2.2
  have hn3 : (P 122) sc = some tt := h122
  have lt_tt4 := ((hB.1 122 fl_122) sc tt hn3).2.1
  have lb_tt4 : (la tt = la sc + 1 ∨ la tt = la sc + 2) := lk_122.mp ((hB.1 122 fl_122) sc tt hn3).2.2
  have hk_tt := ((hzP122 sc).2 tt hn3).1
  have hl1_tt := ((hzP122 sc).2 tt hn3).2.1
  have hl2_tt := ((hzP122 sc).2 tt hn3).2.2.1
  have hw_tt := ((hzP122 sc).2 tt hn3).2.2.2
  have hz_tt : (Int32.ofNat (ln tt)).toInt = ((ln tt : Nat) : Int) := ofN_eq (by first | exact Nat.le_trans hl2_tt (by decide) | omega)
  refine pw_nne hn1 ?_
  refine pw_b1 (fun r5 hc5 => ?_)
  have h85_h122 : (P 122) sc = some tt := by exact h122
  have hx5 := pwq (fn_X6_tallyOf κ wd la G P U V X O kd ln cnt sc p0 (tt) hzP122 hzLN hk_sc hB lt_sc2 h85_h122) hc5
  obtain ⟨p5_0, p5_1⟩ : (((((G 124) sc).toInt ≠ 0 ∧ 0 ≤ p0.toInt ∧ p0.toInt < 5) → r5 = ((V 6) tt) (Int32.toNatClampNeg p0))) ∧ ((¬ (((G 124) sc).toInt ≠ 0 ∧ 0 ≤ p0.toInt ∧ p0.toInt < 5) → r5.toInt = -1)) := hx5
  have qq0 : ((((G 124) sc).toInt ≠ 0 ∧ 0 ≤ p0.toInt ∧ p0.toInt < 5) → r5 = ((V 6) tt) (Int32.toNatClampNeg p0)) := by exact p5_0
  have qq1 : (¬ (((G 124) sc).toInt ≠ 0 ∧ 0 ≤ p0.toInt ∧ p0.toInt < 5) → r5.toInt = -1) := by exact p5_1
  exact pw_some ⟨qq0, qq1⟩
