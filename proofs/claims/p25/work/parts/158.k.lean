abbrev QF_X5_addEntry (κ : Nat → Nat) (wd : Nat) (la : Nat → Nat) (G : Nat → Nat → Int32) (P : Nat → Nat → Option Nat) (U : Nat → Nat → Int64) (V : Nat → Nat → Nat → Int32) (X : Nat → Nat → Nat → Int64) (O : Nat → Nat → Nat → Option Nat) (kd : Nat → Nat) (ln : Nat → Nat) (cnt : Nat) (this : Nat) (p0 : Nat) (p1 : Int32) (p2 : Int32) (p3 : Int32) (er : Nat) (br : Nat) (pr : Nat) (kp : Nat) (lr : Nat) (le : Nat) (lb : Nat) (lp : Nat) (se : Nat) (sb : Nat) (sp : Nat) : ((Nat → Int32) × (Nat → Int32) × (Nat → Nat → Int32) × (Nat → Nat → Int32) × (Nat → Nat → Int32)) → Prop := (fun t => (rwW ((t.2.1) er) ((t.2.2.1) le) ((t.2.2.2.1) se) 16 = rwW ((G 203) er) ((V 0) le) ((V 1) se) 16 ++ [wdl ((V 0) p0) (Int32.toNatClampNeg p1) (Int32.toNatClampNeg p2)]) ∧ ((t.2.2.2.2) kp = upd ((V 10) kp) (Int32.toNatClampNeg ((G 203) er)) (vp_nar .boolean p3)) ∧ (((t.2.1) er).toInt = ((G 203) er).toInt + 1) ∧ ((0 ≤ ((G 107) this).toInt → ((G 107) this).toInt ≤ 40 → ((t.1) this).toInt = ((G 107) this).toInt + (if p3.toInt = 0 then 0 else 1))) ∧ ((∀ z, la z ≠ la this + 2 → (t.2.2.1) z = (V 0) z ∧ (t.2.2.2.1) z = (V 1) z ∧ (t.2.1) z = (G 203) z)))
set_option maxHeartbeats 4000000 in
set_option maxRecDepth 100000 in
theorem fn_X5_addEntry (κ : Nat → Nat) (wd : Nat) (la : Nat → Nat) (G : Nat → Nat → Int32) (P : Nat → Nat → Option Nat) (U : Nat → Nat → Int64) (V : Nat → Nat → Nat → Int32) (X : Nat → Nat → Nat → Int64) (O : Nat → Nat → Nat → Option Nat) (kd : Nat → Nat) (ln : Nat → Nat) (cnt : Nat) (this : Nat) (p0 : Nat) (p1 : Int32) (p2 : Int32) (p3 : Int32) (er : Nat) (br : Nat) (pr : Nat) (kp : Nat) (lr : Nat) (le : Nat) (lb : Nat) (lp : Nat) (se : Nat) (sb : Nat) (sp : Nat) (hzG200 : rng (0) 24 (G 200)) (hzG203 : rng (0) 100 (G 203)) (hzP104 : PB κ ln wd 6 11 0 2500 1 (P 104)) (hzP106 : PB κ ln wd 6 110 40 40 0 (P 106)) (hzP201 : PB κ ln wd 11 100 0 2400 0 (P 201)) (hzP202 : PB κ ln wd 11 101 0 100 0 (P 202)) (hzV1 : rng2 (0) 24 (V 1)) (hzRA : RA κ ln (G 200) (P 201) (P 202)) (hzRB : RB κ ln (G 200) (G 203) (P 202) (V 1)) (hzRI : RI (P 202)) (hzRM104 : RM ln 40 (P 104) (P 202)) (hzLN : LN κ ln) (hk_this : κ this = 6) (hk_p0 : κ p0 = 100) (hB : LB la cnt P) (hlt_this : this < cnt) (hlt_p0 : p0 < cnt) (hpt : PTS P (G 200) ln this er br pr kp lr le lb lp se sb sp) (hrm : ((G 203) er).toInt < 40) (hst : 0 ≤ p1.toInt) (hm : 0 ≤ p2.toInt) (hmw : p2.toInt ≤ 16) (hlf : p1.toInt + p2.toInt ≤ ((ln p0 : Nat) : Int)) : pw (f_X5_addEntry G P U V X O kd ln cnt this p0 p1 p2 p3) (QF_X5_addEntry κ wd la G P U V X O kd ln cnt this p0 p1 p2 p3 er br pr kp lr le lb lp se sb sp) := by
  unfold f_X5_addEntry
  have zk0 : (0 : Int32).toInt = 0 := by decide +kernel
  have zk1 : (1 : Int32).toInt = 1 := by decide +kernel
  have r_p1 := i32r p1
  have r_p2 := i32r p2
  have r_p3 := i32r p3
  have hn1 : (P 104) this = some er := hpt.1.1
  have lt_er2 := ((hB.1 104 fl_104) this er hn1).2.1
  have lb_er2 : la er = la this + 2 := lk_104.mp ((hB.1 104 fl_104) this er hn1).2.2
  have hk_er := ((hzP104 this).2 er hn1).1
  have hl1_er := ((hzP104 this).2 er hn1).2.1
  have hl2_er := ((hzP104 this).2 er hn1).2.2.1
  have hw_er := ((hzP104 this).2 er hn1).2.2.2
  have hn3 : (P 106) this = some kp := hpt.1.2.2.2.1
  have lt_kp4 := ((hB.1 106 fl_106) this kp hn3).2.1
  have lb_kp4 : la kp = la this + 0 := lk_106.mp ((hB.1 106 fl_106) this kp hn3).2.2
  have hk_kp := ((hzP106 this).2 kp hn3).1
  have hl1_kp := ((hzP106 this).2 kp hn3).2.1
  have hl2_kp := ((hzP106 this).2 kp hn3).2.2.1
  have hw_kp := ((hzP106 this).2 kp hn3).2.2.2
  have hz_kp : (Int32.ofNat (ln kp)).toInt = ((ln kp : Nat) : Int) := ofN_eq (by first | exact Nat.le_trans hl2_kp (by decide) | omega)
  have hn5 : (P 201) er = some le := hpt.2.1.1
  have lt_le6 := ((hB.1 201 fl_201) er le hn5).2.1
  have lb_le6 : la le = la er + 0 := lk_201.mp ((hB.1 201 fl_201) er le hn5).2.2
  have hk_le := ((hzP201 er).2 le hn5).1
  have hl1_le := ((hzP201 er).2 le hn5).2.1
  have hl2_le := ((hzP201 er).2 le hn5).2.2.1
  have hw_le := ((hzP201 er).2 le hn5).2.2.2
  have hz_le : (Int32.ofNat (ln le)).toInt = ((ln le : Nat) : Int) := ofN_eq (by first | exact Nat.le_trans hl2_le (by decide) | omega)
  have hn7 : (P 202) er = some se := hpt.2.2.1.1
  have lt_se8 := ((hB.1 202 fl_202) er se hn7).2.1
  have lb_se8 : la se = la er + 0 := lk_202.mp ((hB.1 202 fl_202) er se hn7).2.2
  have hk_se := ((hzP202 er).2 se hn7).1
  have hl1_se := ((hzP202 er).2 se hn7).2.1
  have hl2_se := ((hzP202 er).2 se hn7).2.2.1
  have hw_se := ((hzP202 er).2 se hn7).2.2.2
  have hz_se : (Int32.ofNat (ln se)).toInt = ((ln se : Nat) : Int) := ofN_eq (by first | exact Nat.le_trans hl2_se (by decide) | omega)
  have rb9 := (hzRB er se hk_er hn7).1
  have ra10 := hzRA er le se hk_er hn5 hn7
  have bw11 := hzG200 er
  refine pw_nne hn1 ?_
  refine pw_b1 (fun r4 hc4 => ?_)
  have hq4 := wp_at (ok_X10_isFull κ wd G P U V X O kd ln cnt er hzG200 hzG203 hzP201 hzP202 hzV1 hzRA hzRB hzRI hzLN hk_er) hc4
  obtain ⟨f12, f13⟩ : ((0 ≤ r4.toInt ∧ r4.toInt ≤ 1)) ∧ ((∀ s, (P 202) er = some s → r4.toInt = 0 → ((G 203) er).toInt < ((ln s : Nat) : Int))) := hq4
  have hx4 := pwq (fn_X10_isFull κ wd la G P U V X O kd ln cnt er hzG200 hzG203 hzP201 hzP202 hzV1 hzRA hzRB hzRI hzLN hk_er hB lt_er2) hc4
  obtain ⟨p4_0, p4_1⟩ : ((r4.toInt ≠ 0 → ∀ s, (P 202) er = some s → ((ln s : Nat) : Int) ≤ ((G 203) er).toInt)) ∧ ((r4.toInt = 0 → ∀ s, (P 202) er = some s → ((G 203) er).toInt < ((ln s : Nat) : Int))) := hx4
  have hl40 := hpt.2.2.2.2.1
  refine pw_jE (fun j53 ej53 => ?_)
  refine pw_ite (fun c7 => ?_) (fun c7 => ?_)
  · have c7 := congrArg Int32.toInt c7
    refine pw_nne hn3 ?_
    refine pw_nne hn1 ?_
    have b14 := hzG203 er
    refine pw_if (fun hb23 => ?_)
    obtain ⟨hbl23, hbr23⟩ := hb23
    refine pw_vl (fun m23 em23 => ?_)
    have hfr18 : ∀ z, ((la z < la this ∨ la this + 3 < la z) ∧ (la z < la this + 5 ∨ la this + 5 < la z)) → m23 z = (V 10) z := fr_up (e0 := (V 10)) (fun _ _ => rfl) em23 (show ¬ ((la kp < la this ∨ la this + 3 < la kp) ∧ (la kp < la this + 5 ∨ la this + 5 < la kp)) from by omega)
    refine pw_jE (fun j39 ej39 => ?_)
    refine pw_ite (fun c31 => ?_) (fun c31 => ?_)
    · have c31 := congrArg Int32.toInt c31
      refine pw_j1 ej39 (fun t39_0 et39_0 => ?_)
      have et39_0 := et39_0.symm
      have f_t39_0 : t39_0.toInt = 0 := by rw [et39_0]; decide +kernel
      refine pw_vl (fun x40 ex40 => ?_)
      have f19 : x40.toInt = (((G 107) this) + t39_0).toInt := congrArg Int32.toInt ex40
      refine pw_vl (fun m40 em40 => ?_)
      have hfr20 : ∀ z, ((la z < la this ∨ la this + 3 < la z) ∧ (la z < la this + 5 ∨ la this + 5 < la z)) → m40 z = (G 107) z := fr_up (e0 := (G 107)) (fun _ _ => rfl) em40 (show ¬ ((la this < la this ∨ la this + 3 < la this) ∧ (la this < la this + 5 ∨ la this + 5 < la this)) from by omega)
      have sm40 : (m40 this).toInt = x40.toInt := by rw [em40, va_up_self]
      refine pw_nne hn1 ?_
      refine pw_b3 (fun c50_G203 c50_V0 c50_V1 hc50 => ?_)
      have hq50 := wp_at (ok_X10_add κ wd (va_up G 107 m40) P U (va_up V 10 m23) X O kd ln cnt er p0 p1 p2 hzG200 hzG203 hzP201 hzP202 hzV1 hzRA hzRB hzRI hzLN hk_er hk_p0) hc50
      obtain ⟨hg21, hg22, hRB23, f24, f25⟩ : (rng (0) 100 c50_G203) ∧ (rng2 (0) 24 c50_V1) ∧ (RB κ ln (G 200) c50_G203 (P 202) c50_V1) ∧ ((er ≠ wd → c50_G203 wd = (G 203) wd)) ∧ (((G 203) er).toInt ≤ (c50_G203 er).toInt) := hq50
      have hq50 := pwq (fr_X10_add la (va_up G 107 m40) P U (va_up V 10 m23) X O kd ln cnt er p0 p1 p2 hB) hc50
      obtain ⟨q50_G203, q50_V0, q50_V1⟩ : (∀ z, (la z < la er ∨ la er < la z) → c50_G203 z = (G 203) z) ∧ (∀ z, (la z < la er ∨ la er < la z) → c50_V0 z = (V 0) z) ∧ (∀ z, (la z < la er ∨ la er < la z) → c50_V1 z = (V 1) z) := hq50
      have tz50 : ∀ z, ((la z < la this ∨ la this + 3 < la z) ∧ (la z < la this + 5 ∨ la this + 5 < la z)) → ((la z < la er ∨ la er < la z)) := fun z hz => by omega
      have hfr26 : ∀ z, ((la z < la this ∨ la this + 3 < la z) ∧ (la z < la this + 5 ∨ la this + 5 < la z)) → c50_G203 z = (G 203) z := fun z hz => (q50_G203 z (tz50 z hz)).trans ((fun _ _ => rfl) z hz)
      have hfr27 : ∀ z, ((la z < la this ∨ la this + 3 < la z) ∧ (la z < la this + 5 ∨ la this + 5 < la z)) → c50_V0 z = (V 0) z := fun z hz => (q50_V0 z (tz50 z hz)).trans ((fun _ _ => rfl) z hz)
      have hfr28 : ∀ z, ((la z < la this ∨ la this + 3 < la z) ∧ (la z < la this + 5 ∨ la this + 5 < la z)) → c50_V1 z = (V 1) z := fun z hz => (q50_V1 z (tz50 z hz)).trans ((fun _ _ => rfl) z hz)
      have h850_hl : (P 201) er = some (le) := by exact hpt.2.1.1
      have h850_hs : (P 202) er = some (se) := by exact hpt.2.2.1.1
      have h850_hw : ((G 200) er).toInt = ((16) : Int) := by exact hpt.2.2.2.1.1
      have h850_hrm : ((G 203) er).toInt < ((ln (se) : Nat) : Int) := by rw [hl40]; omega
      have h850_hst : 0 ≤ p1.toInt := by first | assumption | omega
      have h850_hm : 0 ≤ p2.toInt := by first | assumption | omega
      have h850_hmw : p2.toInt ≤ ((16) : Int) := by first | assumption | omega
      have h850_hlf : p1.toInt + p2.toInt ≤ ((ln p0 : Nat) : Int) := by first | assumption | omega
      have hx50 := pwq (fn_X10_add κ wd la (va_up G 107 m40) P U (va_up V 10 m23) X O kd ln cnt er p0 p1 p2 (le) (se) (16) hzG200 hzG203 hzP201 hzP202 hzV1 hzRA hzRB hzRI hzLN hk_er hk_p0 hB lt_er2 hlt_p0 h850_hl h850_hs h850_hw h850_hrm h850_hst h850_hm h850_hmw h850_hlf) hc50
      obtain ⟨p50_0, p50_1⟩ : (rwW (c50_G203 er) (c50_V0 (le)) (c50_V1 (se)) (16) = rwW ((G 203) er) ((V 0) (le)) ((V 1) (se)) (16) ++ [wdl ((V 0) p0) (Int32.toNatClampNeg p1) (Int32.toNatClampNeg p2)]) ∧ ((c50_G203 er).toInt = ((G 203) er).toInt + 1) := hx50
      refine pw_j5 ej53 (fun z53_0 ez53_0 z53_1 ez53_1 z53_2 ez53_2 z53_3 ez53_3 z53_4 ez53_4 => ?_)
      subst ez53_0 ez53_1 ez53_2 ez53_3 ez53_4
      have qq0 : rwW (c50_G203 er) (c50_V0 le) (c50_V1 se) 16 = rwW ((G 203) er) ((V 0) le) ((V 1) se) 16 ++ [wdl ((V 0) p0) (Int32.toNatClampNeg p1) (Int32.toNatClampNeg p2)] := by exact p50_0
      have qq1 : m23 kp = upd ((V 10) kp) (Int32.toNatClampNeg ((G 203) er)) (vp_nar .boolean p3) := by rw [em23, va_up_self]
      have qq2 : (c50_G203 er).toInt = ((G 203) er).toInt + 1 := by omega
      have qq3 : (0 ≤ ((G 107) this).toInt → ((G 107) this).toInt ≤ 40 → (m40 this).toInt = ((G 107) this).toInt + (if p3.toInt = 0 then 0 else 1)) := by intro h1 h2; have hz := z_add (a := (G 107) this) (b := t39_0) (by omega) (by omega); rw [if_pos (by omega)]; omega
      have qq4 : (∀ z, la z ≠ la this + 2 → c50_V0 z = (V 0) z ∧ c50_V1 z = (V 1) z ∧ c50_G203 z = (G 203) z) := by intro z hz; exact ⟨q50_V0 z (by omega), q50_V1 z (by omega), q50_G203 z (by omega)⟩
      exact pw_some ⟨qq0, qq1, qq2, qq3, qq4⟩
    · have c31 := z_ne c31
      refine pw_j1 ej39 (fun t39_0 et39_0 => ?_)
      have et39_0 := et39_0.symm
      have f_t39_0 : t39_0.toInt = 1 := by rw [et39_0]; decide +kernel
      refine pw_vl (fun x40 ex40 => ?_)
      have f29 : x40.toInt = (((G 107) this) + t39_0).toInt := congrArg Int32.toInt ex40
      refine pw_vl (fun m40 em40 => ?_)
      have hfr30 : ∀ z, ((la z < la this ∨ la this + 3 < la z) ∧ (la z < la this + 5 ∨ la this + 5 < la z)) → m40 z = (G 107) z := fr_up (e0 := (G 107)) (fun _ _ => rfl) em40 (show ¬ ((la this < la this ∨ la this + 3 < la this) ∧ (la this < la this + 5 ∨ la this + 5 < la this)) from by omega)
      have sm40 : (m40 this).toInt = x40.toInt := by rw [em40, va_up_self]
      refine pw_nne hn1 ?_
      refine pw_b3 (fun c50_G203 c50_V0 c50_V1 hc50 => ?_)
      have hq50 := wp_at (ok_X10_add κ wd (va_up G 107 m40) P U (va_up V 10 m23) X O kd ln cnt er p0 p1 p2 hzG200 hzG203 hzP201 hzP202 hzV1 hzRA hzRB hzRI hzLN hk_er hk_p0) hc50
      obtain ⟨hg31, hg32, hRB33, f34, f35⟩ : (rng (0) 100 c50_G203) ∧ (rng2 (0) 24 c50_V1) ∧ (RB κ ln (G 200) c50_G203 (P 202) c50_V1) ∧ ((er ≠ wd → c50_G203 wd = (G 203) wd)) ∧ (((G 203) er).toInt ≤ (c50_G203 er).toInt) := hq50
      have hq50 := pwq (fr_X10_add la (va_up G 107 m40) P U (va_up V 10 m23) X O kd ln cnt er p0 p1 p2 hB) hc50
      obtain ⟨q50_G203, q50_V0, q50_V1⟩ : (∀ z, (la z < la er ∨ la er < la z) → c50_G203 z = (G 203) z) ∧ (∀ z, (la z < la er ∨ la er < la z) → c50_V0 z = (V 0) z) ∧ (∀ z, (la z < la er ∨ la er < la z) → c50_V1 z = (V 1) z) := hq50
      have tz50 : ∀ z, ((la z < la this ∨ la this + 3 < la z) ∧ (la z < la this + 5 ∨ la this + 5 < la z)) → ((la z < la er ∨ la er < la z)) := fun z hz => by omega
      have hfr36 : ∀ z, ((la z < la this ∨ la this + 3 < la z) ∧ (la z < la this + 5 ∨ la this + 5 < la z)) → c50_G203 z = (G 203) z := fun z hz => (q50_G203 z (tz50 z hz)).trans ((fun _ _ => rfl) z hz)
      have hfr37 : ∀ z, ((la z < la this ∨ la this + 3 < la z) ∧ (la z < la this + 5 ∨ la this + 5 < la z)) → c50_V0 z = (V 0) z := fun z hz => (q50_V0 z (tz50 z hz)).trans ((fun _ _ => rfl) z hz)
      have hfr38 : ∀ z, ((la z < la this ∨ la this + 3 < la z) ∧ (la z < la this + 5 ∨ la this + 5 < la z)) → c50_V1 z = (V 1) z := fun z hz => (q50_V1 z (tz50 z hz)).trans ((fun _ _ => rfl) z hz)
      have h850_hl : (P 201) er = some (le) := by exact hpt.2.1.1
      have h850_hs : (P 202) er = some (se) := by exact hpt.2.2.1.1
      have h850_hw : ((G 200) er).toInt = ((16) : Int) := by exact hpt.2.2.2.1.1
      have h850_hrm : ((G 203) er).toInt < ((ln (se) : Nat) : Int) := by rw [hl40]; omega
      have h850_hst : 0 ≤ p1.toInt := by first | assumption | omega
      have h850_hm : 0 ≤ p2.toInt := by first | assumption | omega
      have h850_hmw : p2.toInt ≤ ((16) : Int) := by first | assumption | omega
      have h850_hlf : p1.toInt + p2.toInt ≤ ((ln p0 : Nat) : Int) := by first | assumption | omega
      have hx50 := pwq (fn_X10_add κ wd la (va_up G 107 m40) P U (va_up V 10 m23) X O kd ln cnt er p0 p1 p2 (le) (se) (16) hzG200 hzG203 hzP201 hzP202 hzV1 hzRA hzRB hzRI hzLN hk_er hk_p0 hB lt_er2 hlt_p0 h850_hl h850_hs h850_hw h850_hrm h850_hst h850_hm h850_hmw h850_hlf) hc50
      obtain ⟨p50_0, p50_1⟩ : (rwW (c50_G203 er) (c50_V0 (le)) (c50_V1 (se)) (16) = rwW ((G 203) er) ((V 0) (le)) ((V 1) (se)) (16) ++ [wdl ((V 0) p0) (Int32.toNatClampNeg p1) (Int32.toNatClampNeg p2)]) ∧ ((c50_G203 er).toInt = ((G 203) er).toInt + 1) := hx50
      refine pw_j5 ej53 (fun z53_0 ez53_0 z53_1 ez53_1 z53_2 ez53_2 z53_3 ez53_3 z53_4 ez53_4 => ?_)
      subst ez53_0 ez53_1 ez53_2 ez53_3 ez53_4
      have qq0 : rwW (c50_G203 er) (c50_V0 le) (c50_V1 se) 16 = rwW ((G 203) er) ((V 0) le) ((V 1) se) 16 ++ [wdl ((V 0) p0) (Int32.toNatClampNeg p1) (Int32.toNatClampNeg p2)] := by exact p50_0
      have qq1 : m23 kp = upd ((V 10) kp) (Int32.toNatClampNeg ((G 203) er)) (vp_nar .boolean p3) := by rw [em23, va_up_self]
      have qq2 : (c50_G203 er).toInt = ((G 203) er).toInt + 1 := by omega
      have qq3 : (0 ≤ ((G 107) this).toInt → ((G 107) this).toInt ≤ 40 → (m40 this).toInt = ((G 107) this).toInt + (if p3.toInt = 0 then 0 else 1)) := by intro h1 h2; have hz := z_add (a := (G 107) this) (b := t39_0) (by omega) (by omega); rw [if_neg (by omega)]; omega
      have qq4 : (∀ z, la z ≠ la this + 2 → c50_V0 z = (V 0) z ∧ c50_V1 z = (V 1) z ∧ c50_G203 z = (G 203) z) := by intro z hz; exact ⟨q50_V0 z (by omega), q50_V1 z (by omega), q50_G203 z (by omega)⟩
      exact pw_some ⟨qq0, qq1, qq2, qq3, qq4⟩
  · have c7 := z_ne c7
    exfalso; have h := p4_0 (by omega) _ hpt.2.2.1.1; omega
abbrev QF_X5_addKept (κ : Nat → Nat) (wd : Nat) (la : Nat → Nat) (G : Nat → Nat → Int32) (P : Nat → Nat → Option Nat) (U : Nat → Nat → Int64) (V : Nat → Nat → Nat → Int32) (X : Nat → Nat → Nat → Int64) (O : Nat → Nat → Nat → Option Nat) (kd : Nat → Nat) (ln : Nat → Nat) (cnt : Nat) (this : Nat) (p0 : Nat) (p1 : Int32) (p2 : Int32) (er : Nat) (br : Nat) (pr : Nat) (kp : Nat) (lr : Nat) (le : Nat) (lb : Nat) (lp : Nat) (se : Nat) (sb : Nat) (sp : Nat) : ((Nat → Int32) × (Nat → Int32) × (Nat → Nat → Int32) × (Nat → Nat → Int32) × (Nat → Nat → Int32)) → Prop := (fun t => (rwW ((t.2.1) er) ((t.2.2.1) le) ((t.2.2.2.1) se) 16 = rwW ((G 203) er) ((V 0) le) ((V 1) se) 16 ++ [wdl ((V 0) p0) (Int32.toNatClampNeg p1) (Int32.toNatClampNeg p2)]) ∧ (rwW ((t.2.1) br) ((t.2.2.1) lb) ((t.2.2.2.1) sb) 16 = rwW ((G 203) br) ((V 0) lb) ((V 1) sb) 16 ++ [[]]) ∧ ((t.2.2.2.2) kp = upd ((V 10) kp) (Int32.toNatClampNeg ((G 203) er)) (vp_nar .boolean 1)) ∧ (((t.2.1) er).toInt = ((G 203) er).toInt + 1) ∧ (((t.2.1) br).toInt = ((G 203) br).toInt + 1) ∧ ((0 ≤ ((G 107) this).toInt → ((G 107) this).toInt ≤ 40 → ((t.1) this).toInt = ((G 107) this).toInt + 1)) ∧ ((∀ z, la z ≠ la this + 2 → la z ≠ la this + 3 → (t.2.2.1) z = (V 0) z ∧ (t.2.2.2.1) z = (V 1) z ∧ (t.2.1) z = (G 203) z)))
set_option maxHeartbeats 4000000 in
set_option maxRecDepth 100000 in
theorem fn_X5_addKept (κ : Nat → Nat) (wd : Nat) (la : Nat → Nat) (G : Nat → Nat → Int32) (P : Nat → Nat → Option Nat) (U : Nat → Nat → Int64) (V : Nat → Nat → Nat → Int32) (X : Nat → Nat → Nat → Int64) (O : Nat → Nat → Nat → Option Nat) (kd : Nat → Nat) (ln : Nat → Nat) (cnt : Nat) (this : Nat) (p0 : Nat) (p1 : Int32) (p2 : Int32) (er : Nat) (br : Nat) (pr : Nat) (kp : Nat) (lr : Nat) (le : Nat) (lb : Nat) (lp : Nat) (se : Nat) (sb : Nat) (sp : Nat) (hzG200 : rng (0) 24 (G 200)) (hzG203 : rng (0) 100 (G 203)) (hzP104 : PB κ ln wd 6 11 0 2500 1 (P 104)) (hzP105 : PB κ ln wd 6 11 0 2500 1 (P 105)) (hzP106 : PB κ ln wd 6 110 40 40 0 (P 106)) (hzP201 : PB κ ln wd 11 100 0 2400 0 (P 201)) (hzP202 : PB κ ln wd 11 101 0 100 0 (P 202)) (hzV1 : rng2 (0) 24 (V 1)) (hzRA : RA κ ln (G 200) (P 201) (P 202)) (hzRB : RB κ ln (G 200) (G 203) (P 202) (V 1)) (hzRI : RI (P 202)) (hzRM104 : RM ln 40 (P 104) (P 202)) (hzLN : LN κ ln) (hk_this : κ this = 6) (hk_p0 : κ p0 = 100) (hB : LB la cnt P) (hlt_this : this < cnt) (hlt_p0 : p0 < cnt) (hpt : PTS P (G 200) ln this er br pr kp lr le lb lp se sb sp) (hrm : ((G 203) er).toInt < 40) (hrb : ((G 203) br).toInt < 40) (hst : 0 ≤ p1.toInt) (hm : 0 ≤ p2.toInt) (hmw : p2.toInt ≤ 16) (hlf : p1.toInt + p2.toInt ≤ ((ln p0 : Nat) : Int)) : pw (f_X5_addKept G P U V X O kd ln cnt this p0 p1 p2) (QF_X5_addKept κ wd la G P U V X O kd ln cnt this p0 p1 p2 er br pr kp lr le lb lp se sb sp) := by
  unfold f_X5_addKept
  have zk0 : (0 : Int32).toInt = 0 := by decide +kernel
  have zk1 : (1 : Int32).toInt = 1 := by decide +kernel
  have r_p1 := i32r p1
  have r_p2 := i32r p2
  have hn1 : (P 104) this = some er := hpt.1.1
  have lt_er2 := ((hB.1 104 fl_104) this er hn1).2.1
  have lb_er2 : la er = la this + 2 := lk_104.mp ((hB.1 104 fl_104) this er hn1).2.2
  have hk_er := ((hzP104 this).2 er hn1).1
  have hl1_er := ((hzP104 this).2 er hn1).2.1
  have hl2_er := ((hzP104 this).2 er hn1).2.2.1
  have hw_er := ((hzP104 this).2 er hn1).2.2.2
  have hn3 : (P 105) this = some br := hpt.1.2.1
  have lt_br4 := ((hB.1 105 fl_105) this br hn3).2.1
  have lb_br4 : la br = la this + 3 := lk_105.mp ((hB.1 105 fl_105) this br hn3).2.2
  have hk_br := ((hzP105 this).2 br hn3).1
  have hl1_br := ((hzP105 this).2 br hn3).2.1
  have hl2_br := ((hzP105 this).2 br hn3).2.2.1
  have hw_br := ((hzP105 this).2 br hn3).2.2.2
  have hn5 : (P 106) this = some kp := hpt.1.2.2.2.1
  have lt_kp6 := ((hB.1 106 fl_106) this kp hn5).2.1
  have lb_kp6 : la kp = la this + 0 := lk_106.mp ((hB.1 106 fl_106) this kp hn5).2.2
  have hk_kp := ((hzP106 this).2 kp hn5).1
  have hl1_kp := ((hzP106 this).2 kp hn5).2.1
  have hl2_kp := ((hzP106 this).2 kp hn5).2.2.1
  have hw_kp := ((hzP106 this).2 kp hn5).2.2.2
  have hz_kp : (Int32.ofNat (ln kp)).toInt = ((ln kp : Nat) : Int) := ofN_eq (by first | exact Nat.le_trans hl2_kp (by decide) | omega)
  have hn7 : (P 201) er = some le := hpt.2.1.1
  have lt_le8 := ((hB.1 201 fl_201) er le hn7).2.1
  have lb_le8 : la le = la er + 0 := lk_201.mp ((hB.1 201 fl_201) er le hn7).2.2
  have hk_le := ((hzP201 er).2 le hn7).1
  have hl1_le := ((hzP201 er).2 le hn7).2.1
  have hl2_le := ((hzP201 er).2 le hn7).2.2.1
  have hw_le := ((hzP201 er).2 le hn7).2.2.2
  have hz_le : (Int32.ofNat (ln le)).toInt = ((ln le : Nat) : Int) := ofN_eq (by first | exact Nat.le_trans hl2_le (by decide) | omega)
  have hn9 : (P 201) br = some lb := hpt.2.1.2.1
  have lt_lb10 := ((hB.1 201 fl_201) br lb hn9).2.1
  have lb_lb10 : la lb = la br + 0 := lk_201.mp ((hB.1 201 fl_201) br lb hn9).2.2
  have hk_lb := ((hzP201 br).2 lb hn9).1
  have hl1_lb := ((hzP201 br).2 lb hn9).2.1
  have hl2_lb := ((hzP201 br).2 lb hn9).2.2.1
  have hw_lb := ((hzP201 br).2 lb hn9).2.2.2
  have hz_lb : (Int32.ofNat (ln lb)).toInt = ((ln lb : Nat) : Int) := ofN_eq (by first | exact Nat.le_trans hl2_lb (by decide) | omega)
  have hn11 : (P 202) er = some se := hpt.2.2.1.1
  have lt_se12 := ((hB.1 202 fl_202) er se hn11).2.1
  have lb_se12 : la se = la er + 0 := lk_202.mp ((hB.1 202 fl_202) er se hn11).2.2
  have hk_se := ((hzP202 er).2 se hn11).1
  have hl1_se := ((hzP202 er).2 se hn11).2.1
  have hl2_se := ((hzP202 er).2 se hn11).2.2.1
  have hw_se := ((hzP202 er).2 se hn11).2.2.2
  have hz_se : (Int32.ofNat (ln se)).toInt = ((ln se : Nat) : Int) := ofN_eq (by first | exact Nat.le_trans hl2_se (by decide) | omega)
  have rb13 := (hzRB er se hk_er hn11).1
  have ra14 := hzRA er le se hk_er hn7 hn11
  have bw15 := hzG200 er
  have hn16 : (P 202) br = some sb := hpt.2.2.1.2.1
  have lt_sb17 := ((hB.1 202 fl_202) br sb hn16).2.1
  have lb_sb17 : la sb = la br + 0 := lk_202.mp ((hB.1 202 fl_202) br sb hn16).2.2
  have hk_sb := ((hzP202 br).2 sb hn16).1
  have hl1_sb := ((hzP202 br).2 sb hn16).2.1
  have hl2_sb := ((hzP202 br).2 sb hn16).2.2.1
  have hw_sb := ((hzP202 br).2 sb hn16).2.2.2
  have hz_sb : (Int32.ofNat (ln sb)).toInt = ((ln sb : Nat) : Int) := ofN_eq (by first | exact Nat.le_trans hl2_sb (by decide) | omega)
  have rb18 := (hzRB br sb hk_br hn16).1
  have ra19 := hzRA br lb sb hk_br hn9 hn16
  have bw20 := hzG200 br
  refine pw_b5 (fun c5_G107 c5_G203 c5_V0 c5_V1 c5_V10 hc5 => ?_)
  have hq5 := wp_at (ok_X5_addEntry κ wd G P U V X O kd ln cnt this p0 p1 p2 (1 : Int32) hzG200 hzG203 hzP104 hzP106 hzP201 hzP202 hzV1 hzRA hzRB hzRI hzRM104 hzLN hk_this hk_p0) hc5
  obtain ⟨hg21, hg22, hRB23, f24⟩ : (rng (0) 100 c5_G203) ∧ (rng2 (0) 24 c5_V1) ∧ (RB κ ln (G 200) c5_G203 (P 202) c5_V1) ∧ (c5_G203 wd = (G 203) wd) := hq5
  have hq5 := pwq (fr_X5_addEntry la G P U V X O kd ln cnt this p0 p1 p2 (1 : Int32) hB) hc5
  obtain ⟨q5_G107, q5_G203, q5_V0, q5_V1, q5_V10⟩ : (∀ z, (la z < la this ∨ la this + 3 < la z) ∧ (la z < la this + 5 ∨ la this + 5 < la z) → c5_G107 z = (G 107) z) ∧ (∀ z, (la z < la this ∨ la this + 3 < la z) ∧ (la z < la this + 5 ∨ la this + 5 < la z) → c5_G203 z = (G 203) z) ∧ (∀ z, (la z < la this ∨ la this + 3 < la z) ∧ (la z < la this + 5 ∨ la this + 5 < la z) → c5_V0 z = (V 0) z) ∧ (∀ z, (la z < la this ∨ la this + 3 < la z) ∧ (la z < la this + 5 ∨ la this + 5 < la z) → c5_V1 z = (V 1) z) ∧ (∀ z, (la z < la this ∨ la this + 3 < la z) ∧ (la z < la this + 5 ∨ la this + 5 < la z) → c5_V10 z = (V 10) z) := hq5
  have tz5 : ∀ z, ((la z < la this ∨ la this + 3 < la z) ∧ (la z < la this + 5 ∨ la this + 5 < la z)) → ((la z < la this ∨ la this + 3 < la z) ∧ (la z < la this + 5 ∨ la this + 5 < la z)) := fun z hz => by omega
  have hfr25 : ∀ z, ((la z < la this ∨ la this + 3 < la z) ∧ (la z < la this + 5 ∨ la this + 5 < la z)) → c5_G107 z = (G 107) z := fun z hz => (q5_G107 z (tz5 z hz)).trans ((fun _ _ => rfl) z hz)
  have hfr26 : ∀ z, ((la z < la this ∨ la this + 3 < la z) ∧ (la z < la this + 5 ∨ la this + 5 < la z)) → c5_G203 z = (G 203) z := fun z hz => (q5_G203 z (tz5 z hz)).trans ((fun _ _ => rfl) z hz)
  have hfr27 : ∀ z, ((la z < la this ∨ la this + 3 < la z) ∧ (la z < la this + 5 ∨ la this + 5 < la z)) → c5_V0 z = (V 0) z := fun z hz => (q5_V0 z (tz5 z hz)).trans ((fun _ _ => rfl) z hz)
  have hfr28 : ∀ z, ((la z < la this ∨ la this + 3 < la z) ∧ (la z < la this + 5 ∨ la this + 5 < la z)) → c5_V1 z = (V 1) z := fun z hz => (q5_V1 z (tz5 z hz)).trans ((fun _ _ => rfl) z hz)
  have hfr29 : ∀ z, ((la z < la this ∨ la this + 3 < la z) ∧ (la z < la this + 5 ∨ la this + 5 < la z)) → c5_V10 z = (V 10) z := fun z hz => (q5_V10 z (tz5 z hz)).trans ((fun _ _ => rfl) z hz)
  have h85_hpt : PTS P (G 200) ln this er br pr kp lr le lb lp se sb sp := by exact hpt
  have h85_hrm : ((G 203) er).toInt < 40 := by first | assumption | omega
  have h85_hst : 0 ≤ p1.toInt := by first | assumption | omega
  have h85_hm : 0 ≤ p2.toInt := by first | assumption | omega
  have h85_hmw : p2.toInt ≤ 16 := by first | assumption | omega
  have h85_hlf : p1.toInt + p2.toInt ≤ ((ln p0 : Nat) : Int) := by first | assumption | omega
  have hx5 := pwq (fn_X5_addEntry κ wd la G P U V X O kd ln cnt this p0 p1 p2 (1 : Int32) (er) (br) (pr) (kp) (lr) (le) (lb) (lp) (se) (sb) (sp) hzG200 hzG203 hzP104 hzP106 hzP201 hzP202 hzV1 hzRA hzRB hzRI hzRM104 hzLN hk_this hk_p0 hB hlt_this hlt_p0 h85_hpt h85_hrm h85_hst h85_hm h85_hmw h85_hlf) hc5
  obtain ⟨p5_0, p5_1, p5_2, p5_3, p5_4⟩ : (rwW (c5_G203 er) (c5_V0 le) (c5_V1 se) 16 = rwW ((G 203) er) ((V 0) le) ((V 1) se) 16 ++ [wdl ((V 0) p0) (Int32.toNatClampNeg p1) (Int32.toNatClampNeg p2)]) ∧ (c5_V10 kp = upd ((V 10) kp) (Int32.toNatClampNeg ((G 203) er)) (vp_nar .boolean (1 : Int32))) ∧ ((c5_G203 er).toInt = ((G 203) er).toInt + 1) ∧ ((0 ≤ ((G 107) this).toInt → ((G 107) this).toInt ≤ 40 → (c5_G107 this).toInt = ((G 107) this).toInt + (if (1 : Int32).toInt = 0 then 0 else 1))) ∧ ((∀ z, la z ≠ la this + 2 → c5_V0 z = (V 0) z ∧ c5_V1 z = (V 1) z ∧ c5_G203 z = (G 203) z)) := hx5
  have hb5 := p5_4 br (by omega)
  have hb5b := p5_4 lb (by omega)
  have hb5s := p5_4 sb (by omega)
  have hi5 := congrArg Int32.toInt hb5.2.2
  refine pw_nne hn3 ?_
  refine pw_b3 (fun c15_G203 c15_V0 c15_V1 hc15 => ?_)
  have hq15 := wp_at (ok_X10_add κ wd (va_up (va_up G 107 c5_G107) 203 c5_G203) P U (va_up (va_up (va_up V 0 c5_V0) 1 c5_V1) 10 c5_V10) X O kd ln cnt br p0 p1 (0 : Int32) hzG200 hg21 hzP201 hzP202 hg22 hzRA hRB23 hzRI hzLN hk_br hk_p0) hc15
  obtain ⟨hg30, hg31, hRB32, f33, f34⟩ : (rng (0) 100 c15_G203) ∧ (rng2 (0) 24 c15_V1) ∧ (RB κ ln (G 200) c15_G203 (P 202) c15_V1) ∧ ((br ≠ wd → c15_G203 wd = c5_G203 wd)) ∧ ((c5_G203 br).toInt ≤ (c15_G203 br).toInt) := hq15
  have hq15 := pwq (fr_X10_add la (va_up (va_up G 107 c5_G107) 203 c5_G203) P U (va_up (va_up (va_up V 0 c5_V0) 1 c5_V1) 10 c5_V10) X O kd ln cnt br p0 p1 (0 : Int32) hB) hc15
  obtain ⟨q15_G203, q15_V0, q15_V1⟩ : (∀ z, (la z < la br ∨ la br < la z) → c15_G203 z = c5_G203 z) ∧ (∀ z, (la z < la br ∨ la br < la z) → c15_V0 z = c5_V0 z) ∧ (∀ z, (la z < la br ∨ la br < la z) → c15_V1 z = c5_V1 z) := hq15
  have tz15 : ∀ z, ((la z < la this ∨ la this + 3 < la z) ∧ (la z < la this + 5 ∨ la this + 5 < la z)) → ((la z < la br ∨ la br < la z)) := fun z hz => by omega
  have hfr35 : ∀ z, ((la z < la this ∨ la this + 3 < la z) ∧ (la z < la this + 5 ∨ la this + 5 < la z)) → c15_G203 z = (G 203) z := fun z hz => (q15_G203 z (tz15 z hz)).trans (hfr26 z hz)
  have hfr36 : ∀ z, ((la z < la this ∨ la this + 3 < la z) ∧ (la z < la this + 5 ∨ la this + 5 < la z)) → c15_V0 z = (V 0) z := fun z hz => (q15_V0 z (tz15 z hz)).trans (hfr27 z hz)
  have hfr37 : ∀ z, ((la z < la this ∨ la this + 3 < la z) ∧ (la z < la this + 5 ∨ la this + 5 < la z)) → c15_V1 z = (V 1) z := fun z hz => (q15_V1 z (tz15 z hz)).trans (hfr28 z hz)
  have h815_hl : (P 201) br = some (lb) := by exact hpt.2.1.2.1
  have h815_hs : (P 202) br = some (sb) := by exact hpt.2.2.1.2.1
  have h815_hw : ((G 200) br).toInt = ((16) : Int) := by exact hpt.2.2.2.1.2.1
  have h815_hrm : (c5_G203 br).toInt < ((ln (sb) : Nat) : Int) := by rw [hpt.2.2.2.2.2.1]; omega
  have h815_hst : 0 ≤ p1.toInt := by exact hst
  have h815_hm : 0 ≤ (0 : Int32).toInt := by first | assumption | omega
  have h815_hmw : (0 : Int32).toInt ≤ ((16) : Int) := by first | assumption | omega
  have h815_hlf : p1.toInt + (0 : Int32).toInt ≤ ((ln p0 : Nat) : Int) := by omega
  have hx15 := pwq (fn_X10_add κ wd la (va_up (va_up G 107 c5_G107) 203 c5_G203) P U (va_up (va_up (va_up V 0 c5_V0) 1 c5_V1) 10 c5_V10) X O kd ln cnt br p0 p1 (0 : Int32) (lb) (sb) (16) hzG200 hg21 hzP201 hzP202 hg22 hzRA hRB23 hzRI hzLN hk_br hk_p0 hB lt_br4 hlt_p0 h815_hl h815_hs h815_hw h815_hrm h815_hst h815_hm h815_hmw h815_hlf) hc15
  obtain ⟨p15_0, p15_1⟩ : (rwW (c15_G203 br) (c15_V0 (lb)) (c15_V1 (sb)) (16) = rwW (c5_G203 br) (c5_V0 (lb)) (c5_V1 (sb)) (16) ++ [wdl (c5_V0 p0) (Int32.toNatClampNeg p1) (Int32.toNatClampNeg (0 : Int32))]) ∧ ((c15_G203 br).toInt = (c5_G203 br).toInt + 1) := hx15
  have qq0 : rwW (c15_G203 er) (c15_V0 le) (c15_V1 se) 16 = rwW ((G 203) er) ((V 0) le) ((V 1) se) 16 ++ [wdl ((V 0) p0) (Int32.toNatClampNeg p1) (Int32.toNatClampNeg p2)] := by rw [q15_G203 er (by omega), q15_V0 le (by omega), q15_V1 se (by omega)]; exact p5_0
  have qq1 : rwW (c15_G203 br) (c15_V0 lb) (c15_V1 sb) 16 = rwW ((G 203) br) ((V 0) lb) ((V 1) sb) 16 ++ [[]] := by rw [p15_0, hb5.2.2, hb5b.1, hb5s.2.1]; rfl
  have qq2 : c5_V10 kp = upd ((V 10) kp) (Int32.toNatClampNeg ((G 203) er)) (vp_nar .boolean 1) := by exact p5_1
  have qq3 : (c15_G203 er).toInt = ((G 203) er).toInt + 1 := by have h := congrArg Int32.toInt (q15_G203 er (by omega)); omega
  have qq4 : (c15_G203 br).toInt = ((G 203) br).toInt + 1 := by omega
  have qq5 : (0 ≤ ((G 107) this).toInt → ((G 107) this).toInt ≤ 40 → (c5_G107 this).toInt = ((G 107) this).toInt + 1) := by intro h1 h2; have h := p5_3 h1 h2; rw [if_neg (by omega)] at h; exact h
  have qq6 : (∀ z, la z ≠ la this + 2 → la z ≠ la this + 3 → c15_V0 z = (V 0) z ∧ c15_V1 z = (V 1) z ∧ c15_G203 z = (G 203) z) := by intro z h2 h3; obtain ⟨a1, a2, a3⟩ := p5_4 z h2; exact ⟨(q15_V0 z (by omega)).trans a1, (q15_V1 z (by omega)).trans a2, (q15_G203 z (by omega)).trans a3⟩
  exact pw_some ⟨qq0, qq1, qq2, qq3, qq4, qq5, qq6⟩
abbrev QF_X5_addListed (κ : Nat → Nat) (wd : Nat) (la : Nat → Nat) (G : Nat → Nat → Int32) (P : Nat → Nat → Option Nat) (U : Nat → Nat → Int64) (V : Nat → Nat → Nat → Int32) (X : Nat → Nat → Nat → Int64) (O : Nat → Nat → Nat → Option Nat) (kd : Nat → Nat) (ln : Nat → Nat) (cnt : Nat) (this : Nat) (p0 : Nat) (p1 : Int32) (p2 : Int32) (er : Nat) (br : Nat) (pr : Nat) (kp : Nat) (lr : Nat) (le : Nat) (lb : Nat) (lp : Nat) (se : Nat) (sb : Nat) (sp : Nat) : ((Nat → Int32) × (Nat → Int32) × (Nat → Nat → Int32) × (Nat → Nat → Int32) × (Nat → Nat → Int32)) → Prop := (fun t => (rwW ((t.2.1) er) ((t.2.2.1) le) ((t.2.2.2.1) se) 16 = rwW ((G 203) er) ((V 0) le) ((V 1) se) 16 ++ [wdl ((V 0) p0) (Int32.toNatClampNeg p1) (Int32.toNatClampNeg p2)]) ∧ ((t.2.2.2.2) kp = upd ((V 10) kp) (Int32.toNatClampNeg ((G 203) er)) (vp_nar .boolean 0)) ∧ (((t.2.1) er).toInt = ((G 203) er).toInt + 1) ∧ ((0 ≤ ((G 107) this).toInt → ((G 107) this).toInt ≤ 40 → ((t.1) this).toInt = ((G 107) this).toInt + 0)) ∧ ((∀ z, la z ≠ la this + 2 → (t.2.2.1) z = (V 0) z ∧ (t.2.2.2.1) z = (V 1) z ∧ (t.2.1) z = (G 203) z)))
set_option maxHeartbeats 4000000 in
set_option maxRecDepth 100000 in
theorem fn_X5_addListed (κ : Nat → Nat) (wd : Nat) (la : Nat → Nat) (G : Nat → Nat → Int32) (P : Nat → Nat → Option Nat) (U : Nat → Nat → Int64) (V : Nat → Nat → Nat → Int32) (X : Nat → Nat → Nat → Int64) (O : Nat → Nat → Nat → Option Nat) (kd : Nat → Nat) (ln : Nat → Nat) (cnt : Nat) (this : Nat) (p0 : Nat) (p1 : Int32) (p2 : Int32) (er : Nat) (br : Nat) (pr : Nat) (kp : Nat) (lr : Nat) (le : Nat) (lb : Nat) (lp : Nat) (se : Nat) (sb : Nat) (sp : Nat) (hzG200 : rng (0) 24 (G 200)) (hzG203 : rng (0) 100 (G 203)) (hzP104 : PB κ ln wd 6 11 0 2500 1 (P 104)) (hzP106 : PB κ ln wd 6 110 40 40 0 (P 106)) (hzP201 : PB κ ln wd 11 100 0 2400 0 (P 201)) (hzP202 : PB κ ln wd 11 101 0 100 0 (P 202)) (hzV1 : rng2 (0) 24 (V 1)) (hzRA : RA κ ln (G 200) (P 201) (P 202)) (hzRB : RB κ ln (G 200) (G 203) (P 202) (V 1)) (hzRI : RI (P 202)) (hzRM104 : RM ln 40 (P 104) (P 202)) (hzLN : LN κ ln) (hk_this : κ this = 6) (hk_p0 : κ p0 = 100) (hB : LB la cnt P) (hlt_this : this < cnt) (hlt_p0 : p0 < cnt) (hpt : PTS P (G 200) ln this er br pr kp lr le lb lp se sb sp) (hrm : ((G 203) er).toInt < 40) (hst : 0 ≤ p1.toInt) (hm : 0 ≤ p2.toInt) (hmw : p2.toInt ≤ 16) (hlf : p1.toInt + p2.toInt ≤ ((ln p0 : Nat) : Int)) : pw (f_X5_addListed G P U V X O kd ln cnt this p0 p1 p2) (QF_X5_addListed κ wd la G P U V X O kd ln cnt this p0 p1 p2 er br pr kp lr le lb lp se sb sp) := by
  unfold f_X5_addListed
  have zk0 : (0 : Int32).toInt = 0 := by decide +kernel
  have r_p1 := i32r p1
  have r_p2 := i32r p2
  refine pw_b5 (fun c5_G107 c5_G203 c5_V0 c5_V1 c5_V10 hc5 => ?_)
  have hq5 := wp_at (ok_X5_addEntry κ wd G P U V X O kd ln cnt this p0 p1 p2 (0 : Int32) hzG200 hzG203 hzP104 hzP106 hzP201 hzP202 hzV1 hzRA hzRB hzRI hzRM104 hzLN hk_this hk_p0) hc5
  obtain ⟨hg1, hg2, hRB3, f4⟩ : (rng (0) 100 c5_G203) ∧ (rng2 (0) 24 c5_V1) ∧ (RB κ ln (G 200) c5_G203 (P 202) c5_V1) ∧ (c5_G203 wd = (G 203) wd) := hq5
  have hq5 := pwq (fr_X5_addEntry la G P U V X O kd ln cnt this p0 p1 p2 (0 : Int32) hB) hc5
  obtain ⟨q5_G107, q5_G203, q5_V0, q5_V1, q5_V10⟩ : (∀ z, (la z < la this ∨ la this + 3 < la z) ∧ (la z < la this + 5 ∨ la this + 5 < la z) → c5_G107 z = (G 107) z) ∧ (∀ z, (la z < la this ∨ la this + 3 < la z) ∧ (la z < la this + 5 ∨ la this + 5 < la z) → c5_G203 z = (G 203) z) ∧ (∀ z, (la z < la this ∨ la this + 3 < la z) ∧ (la z < la this + 5 ∨ la this + 5 < la z) → c5_V0 z = (V 0) z) ∧ (∀ z, (la z < la this ∨ la this + 3 < la z) ∧ (la z < la this + 5 ∨ la this + 5 < la z) → c5_V1 z = (V 1) z) ∧ (∀ z, (la z < la this ∨ la this + 3 < la z) ∧ (la z < la this + 5 ∨ la this + 5 < la z) → c5_V10 z = (V 10) z) := hq5
  have tz5 : ∀ z, ((la z < la this ∨ la this + 3 < la z) ∧ (la z < la this + 5 ∨ la this + 5 < la z)) → ((la z < la this ∨ la this + 3 < la z) ∧ (la z < la this + 5 ∨ la this + 5 < la z)) := fun z hz => by omega
  have hfr5 : ∀ z, ((la z < la this ∨ la this + 3 < la z) ∧ (la z < la this + 5 ∨ la this + 5 < la z)) → c5_G107 z = (G 107) z := fun z hz => (q5_G107 z (tz5 z hz)).trans ((fun _ _ => rfl) z hz)
  have hfr6 : ∀ z, ((la z < la this ∨ la this + 3 < la z) ∧ (la z < la this + 5 ∨ la this + 5 < la z)) → c5_G203 z = (G 203) z := fun z hz => (q5_G203 z (tz5 z hz)).trans ((fun _ _ => rfl) z hz)
  have hfr7 : ∀ z, ((la z < la this ∨ la this + 3 < la z) ∧ (la z < la this + 5 ∨ la this + 5 < la z)) → c5_V0 z = (V 0) z := fun z hz => (q5_V0 z (tz5 z hz)).trans ((fun _ _ => rfl) z hz)
  have hfr8 : ∀ z, ((la z < la this ∨ la this + 3 < la z) ∧ (la z < la this + 5 ∨ la this + 5 < la z)) → c5_V1 z = (V 1) z := fun z hz => (q5_V1 z (tz5 z hz)).trans ((fun _ _ => rfl) z hz)
  have hfr9 : ∀ z, ((la z < la this ∨ la this + 3 < la z) ∧ (la z < la this + 5 ∨ la this + 5 < la z)) → c5_V10 z = (V 10) z := fun z hz => (q5_V10 z (tz5 z hz)).trans ((fun _ _ => rfl) z hz)
  have h85_hpt : PTS P (G 200) ln this er br pr kp lr le lb lp se sb sp := by exact hpt
  have h85_hrm : ((G 203) er).toInt < 40 := by first | assumption | omega
  have h85_hst : 0 ≤ p1.toInt := by first | assumption | omega
  have h85_hm : 0 ≤ p2.toInt := by first | assumption | omega
  have h85_hmw : p2.toInt ≤ 16 := by first | assumption | omega
  have h85_hlf : p1.toInt + p2.toInt ≤ ((ln p0 : Nat) : Int) := by first | assumption | omega
  have hx5 := pwq (fn_X5_addEntry κ wd la G P U V X O kd ln cnt this p0 p1 p2 (0 : Int32) (er) (br) (pr) (kp) (lr) (le) (lb) (lp) (se) (sb) (sp) hzG200 hzG203 hzP104 hzP106 hzP201 hzP202 hzV1 hzRA hzRB hzRI hzRM104 hzLN hk_this hk_p0 hB hlt_this hlt_p0 h85_hpt h85_hrm h85_hst h85_hm h85_hmw h85_hlf) hc5
  obtain ⟨p5_0, p5_1, p5_2, p5_3, p5_4⟩ : (rwW (c5_G203 er) (c5_V0 le) (c5_V1 se) 16 = rwW ((G 203) er) ((V 0) le) ((V 1) se) 16 ++ [wdl ((V 0) p0) (Int32.toNatClampNeg p1) (Int32.toNatClampNeg p2)]) ∧ (c5_V10 kp = upd ((V 10) kp) (Int32.toNatClampNeg ((G 203) er)) (vp_nar .boolean (0 : Int32))) ∧ ((c5_G203 er).toInt = ((G 203) er).toInt + 1) ∧ ((0 ≤ ((G 107) this).toInt → ((G 107) this).toInt ≤ 40 → (c5_G107 this).toInt = ((G 107) this).toInt + (if (0 : Int32).toInt = 0 then 0 else 1))) ∧ ((∀ z, la z ≠ la this + 2 → c5_V0 z = (V 0) z ∧ c5_V1 z = (V 1) z ∧ c5_G203 z = (G 203) z)) := hx5
  have qq0 : rwW (c5_G203 er) (c5_V0 le) (c5_V1 se) 16 = rwW ((G 203) er) ((V 0) le) ((V 1) se) 16 ++ [wdl ((V 0) p0) (Int32.toNatClampNeg p1) (Int32.toNatClampNeg p2)] := by exact p5_0
  have qq1 : c5_V10 kp = upd ((V 10) kp) (Int32.toNatClampNeg ((G 203) er)) (vp_nar .boolean 0) := by exact p5_1
  have qq2 : (c5_G203 er).toInt = ((G 203) er).toInt + 1 := by exact p5_2
  have qq3 : (0 ≤ ((G 107) this).toInt → ((G 107) this).toInt ≤ 40 → (c5_G107 this).toInt = ((G 107) this).toInt + 0) := by intro h1 h2; have h := p5_3 h1 h2; rw [if_pos (by omega)] at h; omega
  have qq4 : (∀ z, la z ≠ la this + 2 → c5_V0 z = (V 0) z ∧ c5_V1 z = (V 1) z ∧ c5_G203 z = (G 203) z) := by exact p5_4
  exact pw_some ⟨qq0, qq1, qq2, qq3, qq4⟩
