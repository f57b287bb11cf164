abbrev QF_J7_fill_53178_107 (κ : Nat → Nat) (wd : Nat) (la : Nat → Nat) (G : Nat → Nat → Int32) (P : Nat → Nat → Option Nat) (U : Nat → Nat → Int64) (V : Nat → Nat → Nat → Int32) (X : Nat → Nat → Nat → Int64) (O : Nat → Nat → Nat → Option Nat) (kd : Nat → Nat) (ln : Nat → Nat) (cnt : Nat) (p0 : Nat) (p1 : Int32) : ((Nat → Nat → Int32)) → Prop := (fun t => ((∀ q : Nat, q < ln p0 → t p0 q = p1)) ∧ ((∀ z, z ≠ p0 → t z = (V 7) z)))
set_option maxHeartbeats 4000000 in
set_option maxRecDepth 100000 in
theorem fn_J7_fill_53178_107 (κ : Nat → Nat) (wd : Nat) (la : Nat → Nat) (G : Nat → Nat → Int32) (P : Nat → Nat → Option Nat) (U : Nat → Nat → Int64) (V : Nat → Nat → Nat → Int32) (X : Nat → Nat → Nat → Int64) (O : Nat → Nat → Nat → Option Nat) (kd : Nat → Nat) (ln : Nat → Nat) (cnt : Nat) (p0 : Nat) (p1 : Int32) (hzLN : LN κ ln) (hk_p0 : κ p0 = 107) (hB : LB la cnt P) (hlt_p0 : p0 < cnt) : pw (f_J7_fill_53178_107 G P U V X O kd ln cnt p0 p1) (QF_J7_fill_53178_107 κ wd la G P U V X O kd ln cnt p0 p1) := by
  unfold f_J7_fill_53178_107
  have zk0 : (0 : Int32).toInt = 0 := by decide +kernel
  have r_p1 := i32r p1
  have hz_p0 : (Int32.ofNat (ln p0)).toInt = ((ln p0 : Nat) : Int) := ofN_eq (hzLN p0 (by rw [hk_p0]; decide))
  have hzb_p0 := hzLN p0 (by rw [hk_p0]; decide)
  refine pw_vl (fun x4 ex4 => ?_)
  have f1 : x4.toInt = (Int32.ofNat (ln p0)).toInt := congrArg Int32.toInt ex4
  have lp5 : ∀ (n5 : Nat) (y5_2 : Int32) (d5_V7 : Nat → Nat → Int32), (∀ z, ((la z < la p0 ∨ la p0 < la z)) → d5_V7 z = (V 7) z) → 0 ≤ y5_2.toInt → y5_2.toInt ≤ ((ln p0 : Nat) : Int) → (∀ q : Nat, (q : Int) < y5_2.toInt → d5_V7 p0 q = p1) → (∀ z, z ≠ p0 → d5_V7 z = (V 7) z) → pw (L_J7_fill_53178_107_5 ln p0 p1 x4 n5 y5_2 d5_V7) (QF_J7_fill_53178_107 κ wd la G P U V X O kd ln cnt p0 p1) := by
    intro n5
    induction n5 with
    | zero => intros; exact pw_none
    | succ n5 ih5 =>
      intro y5_2 d5_V7 hfr2 f3 f4 ii5 iz5
      show pw (B_J7_fill_53178_107_5 ln p0 p1 x4 (L_J7_fill_53178_107_5 ln p0 p1 x4 n5) y5_2 d5_V7) _
      unfold B_J7_fill_53178_107_5
      refine pw_ite (fun c7 => ?_) (fun c7 => ?_)
      · have c7 := (z_le _ _).mp c7
        have qq0 : (∀ q : Nat, q < ln p0 → d5_V7 p0 q = p1) := by first | exact iz5 | (intro q hq; exact ii5 q (by omega))
        have qq1 : (∀ z, z ≠ p0 → d5_V7 z = (V 7) z) := by first | exact iz5 | (intro q hq; exact ii5 q (by omega))
        exact pw_some ⟨qq0, qq1⟩
      · have c7 := z_nle c7
        refine pw_if (fun hb13 => ?_)
        obtain ⟨hbl13, hbr13⟩ := hb13
        refine pw_vl (fun m13 em13 => ?_)
        have hfr5 : ∀ z, ((la z < la p0 ∨ la p0 < la z)) → m13 z = (V 7) z := fr_up (e0 := (V 7)) hfr2 em13 (show ¬ ((la p0 < la p0 ∨ la p0 < la p0)) from by omega)
        have f6 : (y5_2 + 1).toInt = y5_2.toInt + (1) := z_addc (by decide +kernel) (by omega) (by omega)
        have iv5_0 : 0 ≤ (y5_2 + 1).toInt := by omega
        have iv5_1 : (y5_2 + 1).toInt ≤ ((ln p0 : Nat) : Int) := by omega
        have iv5_2 : (∀ q : Nat, (q : Int) < (y5_2 + 1).toInt → m13 p0 q = p1) := by have k2 := clampI (x := y5_2) (by omega); intro q hq; by_cases h3 : q = Int32.toNatClampNeg y5_2; (rw [em13, va_up_self, h3, pk_us]); (rw [em13, va_up_self, pk_un h3]; exact ii5 q (by omega))
        have iv5_3 : (∀ z, z ≠ p0 → m13 z = (V 7) z) := by intro z hz; rw [em13, va_up_ne _ _ hz]; exact iz5 z hz
        exact ih5 (y5_2 + 1) m13 hfr5 iv5_0 iv5_1 iv5_2 iv5_3
  exact lp5 NN (0 : Int32) (V 7) (fun _ _ => rfl) (show 0 ≤ (0 : Int32).toInt from by omega) (show (0 : Int32).toInt ≤ ((ln p0 : Nat) : Int) from by omega) (show (∀ q : Nat, (q : Int) < (0 : Int32).toInt → (V 7) p0 q = p1) from by intro q hq; exfalso; omega) (show (∀ z, z ≠ p0 → (V 7) z = (V 7) z) from by intro _ _; rfl)
abbrev QF_X2_begin (κ : Nat → Nat) (wd : Nat) (la : Nat → Nat) (G : Nat → Nat → Int32) (P : Nat → Nat → Option Nat) (U : Nat → Nat → Int64) (V : Nat → Nat → Nat → Int32) (X : Nat → Nat → Nat → Int64) (O : Nat → Nat → Nat → Option Nat) (kd : Nat → Nat) (ln : Nat → Nat) (cnt : Nat) (this : Nat) (p0 : Int32) (p1 : Int32) (co : Nat) : ((Nat → Int32) × (Nat → Int32) × (Nat → Nat → Int32)) → Prop := (fun t => ((((t.1) this).toInt = p0.toInt ∧ ((t.2.1) this).toInt = p1.toInt)) ∧ ((∀ j, j < 280 → (t.2.2) co j = 0)))
set_option maxHeartbeats 4000000 in
set_option maxRecDepth 100000 in
theorem fn_X2_begin (κ : Nat → Nat) (wd : Nat) (la : Nat → Nat) (G : Nat → Nat → Int32) (P : Nat → Nat → Option Nat) (U : Nat → Nat → Int64) (V : Nat → Nat → Nat → Int32) (X : Nat → Nat → Nat → Int64) (O : Nat → Nat → Nat → Option Nat) (kd : Nat → Nat) (ln : Nat → Nat) (cnt : Nat) (this : Nat) (p0 : Int32) (p1 : Int32) (co : Nat) (hzG44 : rng (0) 40 (G 44)) (hzG45 : rng (0) 7 (G 45)) (hzP40 : PB κ ln wd 3 107 280 280 0 (P 40)) (hzLN : LN κ ln) (hk_this : κ this = 3) (hp0 : (0 ≤ p0.toInt ∧ p0.toInt ≤ 3000)) (hp1 : (0 ≤ p1.toInt ∧ p1.toInt ≤ 100)) (hB : LB la cnt P) (hlt_this : this < cnt) (h40 : (P 40) this = some co) (hq0 : p0.toInt ≤ 40) (hq1 : p1.toInt ≤ 7) : pw (f_X2_begin G P U V X O kd ln cnt this p0 p1) (QF_X2_begin κ wd la G P U V X O kd ln cnt this p0 p1 co) := by
  unfold f_X2_begin
  have zk0 : (0 : Int32).toInt = 0 := by decide +kernel
  have zk7 : (7 : Int32).toInt = 7 := by decide +kernel
  have zk40 : (40 : Int32).toInt = 40 := by decide +kernel
  have r_p0 := i32r p0
  have r_p1 := i32r p1
  have hn1 : (P 40) this = some co := h40
  have lt_co2 := ((hB.1 40 fl_40) this co hn1).2.1
  have lb_co2 : la co = la this + 0 := lk_40.mp ((hB.1 40 fl_40) this co hn1).2.2
  have hk_co := ((hzP40 this).2 co hn1).1
  have hl1_co := ((hzP40 this).2 co hn1).2.1
  have hl2_co := ((hzP40 this).2 co hn1).2.2.1
  have hw_co := ((hzP40 this).2 co hn1).2.2.2
  have hz_co : (Int32.ofNat (ln co)).toInt = ((ln co : Nat) : Int) := ofN_eq (by first | exact Nat.le_trans hl2_co (by decide) | omega)
  have mm3 := z_min 40 p0
  refine pw_vl (fun x7 ex7 => ?_)
  have f4 : x7.toInt = (if 40 < p0 then 40 else p0).toInt := congrArg Int32.toInt ex7
  refine pw_vl (fun m7 em7 => ?_)
  have hfr5 : ∀ z, ((la z < la this ∨ la this < la z)) → m7 z = (G 44) z := fr_up (e0 := (G 44)) (fun _ _ => rfl) em7 (show ¬ ((la this < la this ∨ la this < la this)) from by omega)
  have hg6 : rng (0) 40 m7 := by rw [em7]; exact rng_vup hzG44 (by omega) (by omega)
  have sm7 : (m7 this).toInt = x7.toInt := by rw [em7, va_up_self]
  have b7 := hg6 this
  have mm8 := z_min 7 p1
  refine pw_vl (fun x17 ex17 => ?_)
  have f9 : x17.toInt = (if 7 < p1 then 7 else p1).toInt := congrArg Int32.toInt ex17
  refine pw_vl (fun m17 em17 => ?_)
  have hfr10 : ∀ z, ((la z < la this ∨ la this < la z)) → m17 z = (G 45) z := fr_up (e0 := (G 45)) (fun _ _ => rfl) em17 (show ¬ ((la this < la this ∨ la this < la this)) from by omega)
  have hg11 : rng (0) 7 m17 := by rw [em17]; exact rng_vup hzG45 (by omega) (by omega)
  have sm17 : (m17 this).toInt = x17.toInt := by rw [em17, va_up_self]
  have b12 := hg11 this
  refine pw_nne hn1 ?_
  refine pw_b1 (fun c25_V7 hc25 => ?_)
  have hq25 := pwq (fr_J7_fill_53178_107 la (va_up (va_up G 44 m7) 45 m17) P U V X O kd ln cnt co (0 : Int32) hB) hc25
  have q25_V7 : (∀ z, (la z < la co ∨ la co < la z) → c25_V7 z = (V 7) z) := hq25
  clear hq25
  have tz25 : ∀ z, ((la z < la this ∨ la this < la z)) → ((la z < la co ∨ la co < la z)) := fun z hz => by omega
  have hfr13 : ∀ z, ((la z < la this ∨ la this < la z)) → c25_V7 z = (V 7) z := fun z hz => (q25_V7 z (tz25 z hz)).trans ((fun _ _ => rfl) z hz)
  have hx25 := pwq (fn_J7_fill_53178_107 κ wd la (va_up (va_up G 44 m7) 45 m17) P U V X O kd ln cnt co (0 : Int32) hzLN hk_co hB lt_co2) hc25
  obtain ⟨p25_0, p25_1⟩ : ((∀ q : Nat, q < ln co → c25_V7 co q = (0 : Int32))) ∧ ((∀ z, z ≠ co → c25_V7 z = (V 7) z)) := hx25
  have qq0 : ((m7 this).toInt = p0.toInt ∧ (m17 this).toInt = p1.toInt) := by omega
  have qq1 : (∀ j, j < 280 → c25_V7 co j = 0) := by intro j hj; exact p25_0 j (by omega)
  exact pw_some ⟨qq0, qq1⟩
abbrev QF_X2_charge (κ : Nat → Nat) (wd : Nat) (la : Nat → Nat) (G : Nat → Nat → Int32) (P : Nat → Nat → Option Nat) (U : Nat → Nat → Int64) (V : Nat → Nat → Nat → Int32) (X : Nat → Nat → Nat → Int64) (O : Nat → Nat → Nat → Option Nat) (kd : Nat → Nat) (ln : Nat → Nat) (cnt : Nat) (this : Nat) (p0 : Int32) (p1 : Int32) (co : Nat) : ((Nat → Nat → Int32)) → Prop := (fun t => ((∀ j, t co j = (if j = 7 * Int32.toNatClampNeg p0 + Int32.toNatClampNeg p1 then (V 7) co j + 1 else (V 7) co j))))
set_option maxHeartbeats 4000000 in
set_option maxRecDepth 100000 in
theorem fn_X2_charge (κ : Nat → Nat) (wd : Nat) (la : Nat → Nat) (G : Nat → Nat → Int32) (P : Nat → Nat → Option Nat) (U : Nat → Nat → Int64) (V : Nat → Nat → Nat → Int32) (X : Nat → Nat → Nat → Int64) (O : Nat → Nat → Nat → Option Nat) (kd : Nat → Nat) (ln : Nat → Nat) (cnt : Nat) (this : Nat) (p0 : Int32) (p1 : Int32) (co : Nat) (hzG44 : rng (0) 40 (G 44)) (hzG45 : rng (0) 7 (G 45)) (hzP40 : PB κ ln wd 3 107 280 280 0 (P 40)) (hzLN : LN κ ln) (hk_this : κ this = 3) (hp0 : 0 ≤ p0.toInt) (hp1 : 0 ≤ p1.toInt) (hB : LB la cnt P) (hlt_this : this < cnt) (h40 : (P 40) this = some co) (hq0 : p0.toInt < ((G 44) this).toInt) (hq1 : p1.toInt < ((G 45) this).toInt) : pw (f_X2_charge G P U V X O kd ln cnt this p0 p1) (QF_X2_charge κ wd la G P U V X O kd ln cnt this p0 p1 co) := by
  unfold f_X2_charge
  have zk1 : (1 : Int32).toInt = 1 := by decide +kernel
  have zk7 : (7 : Int32).toInt = 7 := by decide +kernel
  have r_p0 := i32r p0
  have r_p1 := i32r p1
  have hn1 : (P 40) this = some co := h40
  have lt_co2 := ((hB.1 40 fl_40) this co hn1).2.1
  have lb_co2 : la co = la this + 0 := lk_40.mp ((hB.1 40 fl_40) this co hn1).2.2
  have hk_co := ((hzP40 this).2 co hn1).1
  have hl1_co := ((hzP40 this).2 co hn1).2.1
  have hl2_co := ((hzP40 this).2 co hn1).2.2.1
  have hw_co := ((hzP40 this).2 co hn1).2.2.2
  have hz_co : (Int32.ofNat (ln co)).toInt = ((ln co : Nat) : Int) := ofN_eq (by first | exact Nat.le_trans hl2_co (by decide) | omega)
  have hb44 := hzG44 this
  have hb45 := hzG45 this
  have cp0 := clampI (x := p0) (by omega)
  have cp1 := clampI (x := p1) (by omega)
  have b3 := hzG44 this
  refine pw_jE (fun j31 ej31 => ?_)
  refine pw_ite (fun c5 => ?_) (fun c5 => ?_)
  · have c5 := (z_le _ _).mp c5
    exfalso; omega
  · have c5 := z_nle c5
    have b4 := hzG45 this
    refine pw_ite (fun c13 => ?_) (fun c13 => ?_)
    · have c13 := (z_le _ _).mp c13
      exfalso; omega
    · have c13 := z_nle c13
      refine pw_nne hn1 ?_
      have f5 : (p0 * 7).toInt = p0.toInt * 7 := z_mulc (by decide +kernel) (by omega) (by omega)
      have f6 : ((p0 * 7) + p1).toInt = (p0 * 7).toInt + p1.toInt := z_add (by omega) (by omega)
      refine pw_if (fun hb27 => ?_)
      obtain ⟨hbl27, hbr27⟩ := hb27
      refine pw_if (fun hb30 => ?_)
      obtain ⟨hbl30, hbr30⟩ := hb30
      refine pw_vl (fun m30 em30 => ?_)
      have hfr7 : ∀ z, ((la z < la this ∨ la this < la z)) → m30 z = (V 7) z := fr_up (e0 := (V 7)) (fun _ _ => rfl) em30 (show ¬ ((la co < la this ∨ la this < la co)) from by omega)
      refine pw_j1 ej31 (fun z31_0 ez31_0 => ?_)
      subst ez31_0
      have qq0 : (∀ j, m30 co j = (if j = 7 * Int32.toNatClampNeg p0 + Int32.toNatClampNeg p1 then (V 7) co j + 1 else (V 7) co j)) := by have ki := clampI (x := (p0 * 7) + p1) (by omega); exact up_e (by rw [em30, va_up_self]) (by omega)
      exact pw_some qq0
abbrev QF_X2_cost (κ : Nat → Nat) (wd : Nat) (la : Nat → Nat) (G : Nat → Nat → Int32) (P : Nat → Nat → Option Nat) (U : Nat → Nat → Int64) (V : Nat → Nat → Nat → Int32) (X : Nat → Nat → Nat → Int64) (O : Nat → Nat → Nat → Option Nat) (kd : Nat → Nat) (ln : Nat → Nat) (cnt : Nat) (this : Nat) (p0 : Int32) (p1 : Int32) (p2 : Int32) (p3 : Int32) (le : Nat) : (Int32) → Prop := (fun t => (t = ((V 8) le) (7 * Int32.toNatClampNeg p0 + Int32.toNatClampNeg p1) + prF p3 p2.toInt (Int32.toNatClampNeg p1)))
set_option maxHeartbeats 4000000 in
set_option maxRecDepth 100000 in
theorem fn_X2_cost (κ : Nat → Nat) (wd : Nat) (la : Nat → Nat) (G : Nat → Nat → Int32) (P : Nat → Nat → Option Nat) (U : Nat → Nat → Int64) (V : Nat → Nat → Nat → Int32) (X : Nat → Nat → Nat → Int64) (O : Nat → Nat → Nat → Option Nat) (kd : Nat → Nat) (ln : Nat → Nat) (cnt : Nat) (this : Nat) (p0 : Int32) (p1 : Int32) (p2 : Int32) (p3 : Int32) (le : Nat) (hzP41 : PB κ ln wd 3 108 280 280 0 (P 41)) (hzLN : LN κ ln) (hk_this : κ this = 3) (hp0 : (0 ≤ p0.toInt ∧ p0.toInt < 40)) (hp1 : (0 ≤ p1.toInt ∧ p1.toInt ≤ 6)) (hB : LB la cnt P) (hlt_this : this < cnt) (h41 : (P 41) this = some le) : pw (f_X2_cost G P U V X O kd ln cnt this p0 p1 p2 p3) (QF_X2_cost κ wd la G P U V X O kd ln cnt this p0 p1 p2 p3 le) := by
  unfold f_X2_cost
  have zkm1 : (-1 : Int32).toInt = -1 := by decide +kernel
  have zk0 : (0 : Int32).toInt = 0 := by decide +kernel
  have zk1 : (1 : Int32).toInt = 1 := by decide +kernel
  have zk7 : (7 : Int32).toInt = 7 := by decide +kernel
  have r_p0 := i32r p0
  have r_p1 := i32r p1
  have r_p2 := i32r p2
  have r_p3 := i32r p3
  have hn1 : (P 41) this = some le := h41
  have lt_le2 := ((hB.1 41 fl_41) this le hn1).2.1
  have lb_le2 : la le = la this + 0 := lk_41.mp ((hB.1 41 fl_41) this le hn1).2.2
  have hk_le := ((hzP41 this).2 le hn1).1
  have hl1_le := ((hzP41 this).2 le hn1).2.1
  have hl2_le := ((hzP41 this).2 le hn1).2.2.1
  have hw_le := ((hzP41 this).2 le hn1).2.2.2
  have hz_le : (Int32.ofNat (ln le)).toInt = ((ln le : Nat) : Int) := ofN_eq (by first | exact Nat.le_trans hl2_le (by decide) | omega)
  have cp0 := clampI (x := p0) (by omega)
  have cp1 := clampI (x := p1) (by omega)
  refine pw_jE (fun j15 ej15 => ?_)
  refine pw_jE (fun j14 ej14 => ?_)
  refine pw_ite (fun c2 => ?_) (fun c2 => ?_)
  · have c2 := congrArg Int32.toInt c2
    refine pw_j0 ej14 ?_
    refine pw_j1 ej15 (fun t15_0 et15_0 => ?_)
    have et15_0 := et15_0.symm
    have f_t15_0 : t15_0.toInt = 0 := by rw [et15_0]; decide +kernel
    refine pw_nne hn1 ?_
    have f3 : (p0 * 7).toInt = p0.toInt * 7 := z_mulc (by decide +kernel) (by omega) (by omega)
    have f4 : ((p0 * 7) + p1).toInt = (p0 * 7).toInt + p1.toInt := z_add (by omega) (by omega)
    refine pw_if (fun hb27 => ?_)
    obtain ⟨hbl27, hbr27⟩ := hb27
    refine pw_jE (fun j39 ej39 => ?_)
    refine pw_ite (fun c30 => ?_) (fun c30 => ?_)
    · have c30 := congrArg Int32.toInt c30
      refine pw_j1 ej39 (fun t39_0 et39_0 => ?_)
      have et39_0 := et39_0.symm
      have f_t39_0 : t39_0.toInt = 0 := by rw [et39_0]; decide +kernel
      have qq0 : ((((V 8) le) (Int32.toNatClampNeg ((p0 * 7) + p1))) + t39_0) = ((V 8) le) (7 * Int32.toNatClampNeg p0 + Int32.toNatClampNeg p1) + prF p3 p2.toInt (Int32.toNatClampNeg p1) := by have ki := clampI (x := (p0 * 7) + p1) (by omega); rw [show Int32.toNatClampNeg ((p0 * 7) + p1) = 7 * Int32.toNatClampNeg p0 + Int32.toNatClampNeg p1 by omega, et39_0, prF_0 (by omega)]
      exact pw_some qq0
    · have c30 := z_ne c30
      exfalso; omega
  · have c2 := z_ne c2
    refine pw_ite (fun c7 => ?_) (fun c7 => ?_)
    · have c7 := congrArg Int32.toInt c7
      refine pw_j0 ej14 ?_
      refine pw_j1 ej15 (fun t15_0 et15_0 => ?_)
      have et15_0 := et15_0.symm
      have f_t15_0 : t15_0.toInt = 0 := by rw [et15_0]; decide +kernel
      refine pw_nne hn1 ?_
      have f5 : (p0 * 7).toInt = p0.toInt * 7 := z_mulc (by decide +kernel) (by omega) (by omega)
      have f6 : ((p0 * 7) + p1).toInt = (p0 * 7).toInt + p1.toInt := z_add (by omega) (by omega)
      refine pw_if (fun hb27 => ?_)
      obtain ⟨hbl27, hbr27⟩ := hb27
      refine pw_jE (fun j39 ej39 => ?_)
      refine pw_ite (fun c30 => ?_) (fun c30 => ?_)
      · have c30 := congrArg Int32.toInt c30
        refine pw_j1 ej39 (fun t39_0 et39_0 => ?_)
        have et39_0 := et39_0.symm
        have f_t39_0 : t39_0.toInt = 0 := by rw [et39_0]; decide +kernel
        have qq0 : ((((V 8) le) (Int32.toNatClampNeg ((p0 * 7) + p1))) + t39_0) = ((V 8) le) (7 * Int32.toNatClampNeg p0 + Int32.toNatClampNeg p1) + prF p3 p2.toInt (Int32.toNatClampNeg p1) := by have ki := clampI (x := (p0 * 7) + p1) (by omega); rw [show Int32.toNatClampNeg ((p0 * 7) + p1) = 7 * Int32.toNatClampNeg p0 + Int32.toNatClampNeg p1 by omega, et39_0, prF_0 (by omega)]
        exact pw_some qq0
      · have c30 := z_ne c30
        exfalso; omega
    · have c7 := z_ne c7
      refine pw_j1 ej15 (fun t15_0 et15_0 => ?_)
      have et15_0 := et15_0.symm
      have f_t15_0 : t15_0.toInt = 1 := by rw [et15_0]; decide +kernel
      refine pw_nne hn1 ?_
      have f7 : (p0 * 7).toInt = p0.toInt * 7 := z_mulc (by decide +kernel) (by omega) (by omega)
      have f8 : ((p0 * 7) + p1).toInt = (p0 * 7).toInt + p1.toInt := z_add (by omega) (by omega)
      refine pw_if (fun hb27 => ?_)
      obtain ⟨hbl27, hbr27⟩ := hb27
      refine pw_jE (fun j39 ej39 => ?_)
      refine pw_ite (fun c30 => ?_) (fun c30 => ?_)
      · have c30 := congrArg Int32.toInt c30
        exfalso; omega
      · have c30 := z_ne c30
        refine pw_j1 ej39 (fun t39_0 et39_0 => ?_)
        have et39_0 := et39_0.symm
        have f_t39_0 : t39_0.toInt = p3.toInt := by rw [et39_0]
        have qq0 : ((((V 8) le) (Int32.toNatClampNeg ((p0 * 7) + p1))) + t39_0) = ((V 8) le) (7 * Int32.toNatClampNeg p0 + Int32.toNatClampNeg p1) + prF p3 p2.toInt (Int32.toNatClampNeg p1) := by have ki := clampI (x := (p0 * 7) + p1) (by omega); rw [show Int32.toNatClampNeg ((p0 * 7) + p1) = 7 * Int32.toNatClampNeg p0 + Int32.toNatClampNeg p1 by omega, et39_0, prF_1 (by omega)]
        exact pw_some qq0
abbrev QF_X2_cheapest (κ : Nat → Nat) (wd : Nat) (la : Nat → Nat) (G : Nat → Nat → Int32) (P : Nat → Nat → Option Nat) (U : Nat → Nat → Int64) (V : Nat → Nat → Nat → Int32) (X : Nat → Nat → Nat → Int64) (O : Nat → Nat → Nat → Option Nat) (kd : Nat → Nat) (ln : Nat → Nat) (cnt : Nat) (this : Nat) (p0 : Int32) (p1 : Int32) (p2 : Int32) (le : Nat) : (Int32) → Prop := (fun t => (Int32.toNatClampNeg t = ofF (fun t => ((V 8) le) (7 * Int32.toNatClampNeg p0 + t)) (Int32.toNatClampNeg ((G 45) this) - 1) p2 p1.toInt))
set_option maxHeartbeats 4000000 in
set_option maxRecDepth 100000 in
theorem fn_X2_cheapest (κ : Nat → Nat) (wd : Nat) (la : Nat → Nat) (G : Nat → Nat → Int32) (P : Nat → Nat → Option Nat) (U : Nat → Nat → Int64) (V : Nat → Nat → Nat → Int32) (X : Nat → Nat → Nat → Int64) (O : Nat → Nat → Nat → Option Nat) (kd : Nat → Nat) (ln : Nat → Nat) (cnt : Nat) (this : Nat) (p0 : Int32) (p1 : Int32) (p2 : Int32) (le : Nat) (hzG45 : rng (0) 7 (G 45)) (hzP41 : PB κ ln wd 3 108 280 280 0 (P 41)) (hzLN : LN κ ln) (hk_this : κ this = 3) (hp0 : (0 ≤ p0.toInt ∧ p0.toInt < 40)) (hB : LB la cnt P) (hlt_this : this < cnt) (h41 : (P 41) this = some le) (hs1 : 1 ≤ ((G 45) this).toInt) : pw (f_X2_cheapest G P U V X O kd ln cnt this p0 p1 p2) (QF_X2_cheapest κ wd la G P U V X O kd ln cnt this p0 p1 p2 le) := by
  unfold f_X2_cheapest
  have zk0 : (0 : Int32).toInt = 0 := by decide +kernel
  have zk1 : (1 : Int32).toInt = 1 := by decide +kernel
  have r_p0 := i32r p0
  have r_p1 := i32r p1
  have r_p2 := i32r p2
  have hn1 : (P 41) this = some le := h41
  have lt_le2 := ((hB.1 41 fl_41) this le hn1).2.1
  have lb_le2 : la le = la this + 0 := lk_41.mp ((hB.1 41 fl_41) this le hn1).2.2
  have hk_le := ((hzP41 this).2 le hn1).1
  have hl1_le := ((hzP41 this).2 le hn1).2.1
  have hl2_le := ((hzP41 this).2 le hn1).2.2.1
  have hw_le := ((hzP41 this).2 le hn1).2.2.2
  have hz_le : (Int32.ofNat (ln le)).toInt = ((ln le : Nat) : Int) := ofN_eq (by first | exact Nat.le_trans hl2_le (by decide) | omega)
  have hb45 := hzG45 this
  have c45 := clampI (x := (G 45) this) (by omega)
  have cp0 := clampI (x := p0) (by omega)
  have lp6 : ∀ (n6 : Nat) (y6_4 : Int32) (y6_5 : Int32), (0 ≤ y6_4.toInt ∧ y6_4.toInt ≤ 6) → (1 ≤ y6_5.toInt ∧ y6_5.toInt ≤ 7) → y6_5.toInt ≤ ((G 45) this).toInt → (Int32.toNatClampNeg y6_4 = fsF (fun t => ((V 8) le) (7 * Int32.toNatClampNeg p0 + t) + prF p2 p1.toInt t) (Int32.toNatClampNeg y6_5 - 1)) → pw (L_X2_cheapest_6 G P U V X O kd ln cnt this p0 p1 p2 n6 y6_4 y6_5) (QF_X2_cheapest κ wd la G P U V X O kd ln cnt this p0 p1 p2 le) := by
    intro n6
    induction n6 with
    | zero => intros; exact pw_none
    | succ n6 ih6 =>
      intro y6_4 y6_5 f3 f4 f5 ib6
      show pw (B_X2_cheapest_6 G P U V X O kd ln cnt this p0 p1 p2 (L_X2_cheapest_6 G P U V X O kd ln cnt this p0 p1 p2 n6) y6_4 y6_5) _
      unfold B_X2_cheapest_6
      have b6 := hzG45 this
      refine pw_ite (fun c12 => ?_) (fun c12 => ?_)
      · have c12 := (z_le _ _).mp c12
        have qq0 : Int32.toNatClampNeg y6_4 = ofF (fun t => ((V 8) le) (7 * Int32.toNatClampNeg p0 + t)) (Int32.toNatClampNeg ((G 45) this) - 1) p2 p1.toInt := by have k5 := clampI (x := y6_5) (by omega); rw [show Int32.toNatClampNeg ((G 45) this) - 1 = Int32.toNatClampNeg y6_5 - 1 by omega]; exact ib6
        exact pw_some qq0
      · have c12 := z_nle c12
        have hpr21_0 : (0 ≤ p0.toInt ∧ p0.toInt < 40) := by first | assumption | omega
        have hpr21_1 : (0 ≤ y6_5.toInt ∧ y6_5.toInt ≤ 6) := by first | assumption | omega
        refine pw_b1 (fun r21 hc21 => ?_)
        have h821_h41 : (P 41) this = some le := by exact h41
        have hx21 := pwq (fn_X2_cost κ wd la G P U V X O kd ln cnt this p0 y6_5 p1 p2 (le) hzP41 hzLN hk_this hpr21_0 hpr21_1 hB hlt_this h821_h41) hc21
        have p21_0 : r21 = ((V 8) le) (7 * Int32.toNatClampNeg p0 + Int32.toNatClampNeg y6_5) + prF p2 p1.toInt (Int32.toNatClampNeg y6_5) := hx21
        clear hx21
        have hpr30_0 : (0 ≤ p0.toInt ∧ p0.toInt < 40) := by first | assumption | omega
        have hpr30_1 : (0 ≤ y6_4.toInt ∧ y6_4.toInt ≤ 6) := by first | assumption | omega
        refine pw_b1 (fun r30 hc30 => ?_)
        have h830_h41 : (P 41) this = some le := by exact h41
        have hx30 := pwq (fn_X2_cost κ wd la G P U V X O kd ln cnt this p0 y6_4 p1 p2 (le) hzP41 hzLN hk_this hpr30_0 hpr30_1 hB hlt_this h830_h41) hc30
        have p30_0 : r30 = ((V 8) le) (7 * Int32.toNatClampNeg p0 + Int32.toNatClampNeg y6_4) + prF p2 p1.toInt (Int32.toNatClampNeg y6_4) := hx30
        clear hx30
        refine pw_jE (fun j40 ej40 => ?_)
        refine pw_ite (fun c33 => ?_) (fun c33 => ?_)
        · have c33 := (z_le _ _).mp c33
          refine pw_j1 ej40 (fun x40_4 ex40_4 => ?_)
          have ex40_4 := ex40_4.symm
          have f_x40_4 : x40_4.toInt = y6_4.toInt := by rw [ex40_4]
          have f7 : (y6_5 + 1).toInt = y6_5.toInt + (1) := z_addc (by decide +kernel) (by omega) (by omega)
          have iv6_0 : (0 ≤ x40_4.toInt ∧ x40_4.toInt ≤ 6) := by omega
          have iv6_1 : (1 ≤ (y6_5 + 1).toInt ∧ (y6_5 + 1).toInt ≤ 7) := by omega
          have iv6_2 : (y6_5 + 1).toInt ≤ ((G 45) this).toInt := by omega
          have iv6_3 : (Int32.toNatClampNeg x40_4 = fsF (fun t => ((V 8) le) (7 * Int32.toNatClampNeg p0 + t) + prF p2 p1.toInt t) (Int32.toNatClampNeg (y6_5 + 1) - 1)) := by have k5 := clampI (x := y6_5) (by omega); have k6 := clampI (x := y6_5 + 1) (by omega); have k4 := clampI (x := y6_4) (by omega); have hg1 : (fun t => ((V 8) le) (7 * Int32.toNatClampNeg p0 + t) + prF p2 p1.toInt t) (Int32.toNatClampNeg y6_5 - 1 + 1) = r21 := (by rw [show Int32.toNatClampNeg y6_5 - 1 + 1 = Int32.toNatClampNeg y6_5 by omega]; exact p21_0.symm); have hm1 : mnF (fun t => ((V 8) le) (7 * Int32.toNatClampNeg p0 + t) + prF p2 p1.toInt t) (Int32.toNatClampNeg y6_5 - 1) = r30 := (by rw [← fs_at, ← ib6]; exact p30_0.symm); rw [show Int32.toNatClampNeg (y6_5 + 1) - 1 = Int32.toNatClampNeg y6_5 - 1 + 1 by omega, fs_n (by have u1 := congrArg Int32.toInt hg1; have u2 := congrArg Int32.toInt hm1; dsimp only at u1; omega), ← ib6, ex40_4]
          exact ih6 x40_4 (y6_5 + 1) iv6_0 iv6_1 iv6_2 iv6_3
        · have c33 := z_nle c33
          refine pw_j1 ej40 (fun x40_4 ex40_4 => ?_)
          have ex40_4 := ex40_4.symm
          have f_x40_4 : x40_4.toInt = y6_5.toInt := by rw [ex40_4]
          have f8 : (y6_5 + 1).toInt = y6_5.toInt + (1) := z_addc (by decide +kernel) (by omega) (by omega)
          have iv6_0 : (0 ≤ x40_4.toInt ∧ x40_4.toInt ≤ 6) := by omega
          have iv6_1 : (1 ≤ (y6_5 + 1).toInt ∧ (y6_5 + 1).toInt ≤ 7) := by omega
          have iv6_2 : (y6_5 + 1).toInt ≤ ((G 45) this).toInt := by omega
          have iv6_3 : (Int32.toNatClampNeg x40_4 = fsF (fun t => ((V 8) le) (7 * Int32.toNatClampNeg p0 + t) + prF p2 p1.toInt t) (Int32.toNatClampNeg (y6_5 + 1) - 1)) := by have k5 := clampI (x := y6_5) (by omega); have k6 := clampI (x := y6_5 + 1) (by omega); have k4 := clampI (x := y6_4) (by omega); have hg1 : (fun t => ((V 8) le) (7 * Int32.toNatClampNeg p0 + t) + prF p2 p1.toInt t) (Int32.toNatClampNeg y6_5 - 1 + 1) = r21 := (by rw [show Int32.toNatClampNeg y6_5 - 1 + 1 = Int32.toNatClampNeg y6_5 by omega]; exact p21_0.symm); have hm1 : mnF (fun t => ((V 8) le) (7 * Int32.toNatClampNeg p0 + t) + prF p2 p1.toInt t) (Int32.toNatClampNeg y6_5 - 1) = r30 := (by rw [← fs_at, ← ib6]; exact p30_0.symm); rw [show Int32.toNatClampNeg (y6_5 + 1) - 1 = Int32.toNatClampNeg y6_5 - 1 + 1 by omega, fs_y (by have u1 := congrArg Int32.toInt hg1; have u2 := congrArg Int32.toInt hm1; dsimp only at u1; omega)]; have k40 := clampI (x := x40_4) (by omega); omega
          exact ih6 x40_4 (y6_5 + 1) iv6_0 iv6_1 iv6_2 iv6_3
  exact lp6 NN (0 : Int32) (1 : Int32) (show (0 ≤ (0 : Int32).toInt ∧ (0 : Int32).toInt ≤ 6) from by omega) (show (1 ≤ (1 : Int32).toInt ∧ (1 : Int32).toInt ≤ 7) from by omega) (show (1 : Int32).toInt ≤ ((G 45) this).toInt from by omega) (show (Int32.toNatClampNeg (0 : Int32) = fsF (fun t => ((V 8) le) (7 * Int32.toNatClampNeg p0 + t) + prF p2 p1.toInt t) (Int32.toNatClampNeg (1 : Int32) - 1)) from by rfl)
