abbrev QF_J7_fill_53178_106 (κ : Nat → Nat) (wd : Nat) (la : Nat → Nat) (G : Nat → Nat → Int32) (P : Nat → Nat → Option Nat) (U : Nat → Nat → Int64) (V : Nat → Nat → Nat → Int32) (X : Nat → Nat → Nat → Int64) (O : Nat → Nat → Nat → Option Nat) (kd : Nat → Nat) (ln : Nat → Nat) (cnt : Nat) (p0 : Nat) (p1 : Int32) : ((Nat → Nat → Int32)) → Prop := (fun t => ((∀ q : Nat, q < ln p0 → t p0 q = p1)) ∧ ((∀ z, z ≠ p0 → t z = (V 6) z)))
set_option maxHeartbeats 4000000 in
set_option maxRecDepth 100000 in
theorem fn_J7_fill_53178_106 (κ : Nat → Nat) (wd : Nat) (la : Nat → Nat) (G : Nat → Nat → Int32) (P : Nat → Nat → Option Nat) (U : Nat → Nat → Int64) (V : Nat → Nat → Nat → Int32) (X : Nat → Nat → Nat → Int64) (O : Nat → Nat → Nat → Option Nat) (kd : Nat → Nat) (ln : Nat → Nat) (cnt : Nat) (p0 : Nat) (p1 : Int32) (hzLN : LN κ ln) (hk_p0 : κ p0 = 106) (hB : LB la cnt P) (hlt_p0 : p0 < cnt) : pw (f_J7_fill_53178_106 G P U V X O kd ln cnt p0 p1) (QF_J7_fill_53178_106 κ wd la G P U V X O kd ln cnt p0 p1) := by
  unfold f_J7_fill_53178_106
  have zk0 : (0 : Int32).toInt = 0 := by decide +kernel
  have r_p1 := i32r p1
  have hz_p0 : (Int32.ofNat (ln p0)).toInt = ((ln p0 : Nat) : Int) := ofN_eq (hzLN p0 (by rw [hk_p0]; decide))
  have hzb_p0 := hzLN p0 (by rw [hk_p0]; decide)
  refine pw_vl (fun x4 ex4 => ?_)
  have f1 : x4.toInt = (Int32.ofNat (ln p0)).toInt := congrArg Int32.toInt ex4
  have lp5 : ∀ (n5 : Nat) (y5_2 : Int32) (d5_V6 : Nat → Nat → Int32), (∀ z, ((la z < la p0 ∨ la p0 < la z)) → d5_V6 z = (V 6) z) → 0 ≤ y5_2.toInt → y5_2.toInt ≤ ((ln p0 : Nat) : Int) → (∀ q : Nat, (q : Int) < y5_2.toInt → d5_V6 p0 q = p1) → (∀ z, z ≠ p0 → d5_V6 z = (V 6) z) → pw (L_J7_fill_53178_106_5 ln p0 p1 x4 n5 y5_2 d5_V6) (QF_J7_fill_53178_106 κ wd la G P U V X O kd ln cnt p0 p1) := by
    intro n5
    induction n5 with
    | zero => intros; exact pw_none
    | succ n5 ih5 =>
      intro y5_2 d5_V6 hfr2 f3 f4 ii5 iz5
      show pw (B_J7_fill_53178_106_5 ln p0 p1 x4 (L_J7_fill_53178_106_5 ln p0 p1 x4 n5) y5_2 d5_V6) _
      unfold B_J7_fill_53178_106_5
      refine pw_ite (fun c7 => ?_) (fun c7 => ?_)
      · have c7 := (z_le _ _).mp c7
        have qq0 : (∀ q : Nat, q < ln p0 → d5_V6 p0 q = p1) := by first | exact iz5 | (intro q hq; exact ii5 q (by omega))
        have qq1 : (∀ z, z ≠ p0 → d5_V6 z = (V 6) z) := by first | exact iz5 | (intro q hq; exact ii5 q (by omega))
        exact pw_some ⟨qq0, qq1⟩
      · have c7 := z_nle c7
        refine pw_if (fun hb13 => ?_)
        obtain ⟨hbl13, hbr13⟩ := hb13
        refine pw_vl (fun m13 em13 => ?_)
        have hfr5 : ∀ z, ((la z < la p0 ∨ la p0 < la z)) → m13 z = (V 6) z := fr_up (e0 := (V 6)) hfr2 em13 (show ¬ ((la p0 < la p0 ∨ la p0 < la p0)) from by omega)
        have f6 : (y5_2 + 1).toInt = y5_2.toInt + (1) := z_addc (by decide +kernel) (by omega) (by omega)
        have iv5_0 : 0 ≤ (y5_2 + 1).toInt := by omega
        have iv5_1 : (y5_2 + 1).toInt ≤ ((ln p0 : Nat) : Int) := by omega
        have iv5_2 : (∀ q : Nat, (q : Int) < (y5_2 + 1).toInt → m13 p0 q = p1) := by have k2 := clampI (x := y5_2) (by omega); intro q hq; by_cases h3 : q = Int32.toNatClampNeg y5_2; (rw [em13, va_up_self, h3, pk_us]); (rw [em13, va_up_self, pk_un h3]; exact ii5 q (by omega))
        have iv5_3 : (∀ z, z ≠ p0 → m13 z = (V 6) z) := by intro z hz; rw [em13, va_up_ne _ _ hz]; exact iz5 z hz
        exact ih5 (y5_2 + 1) m13 hfr5 iv5_0 iv5_1 iv5_2 iv5_3
  exact lp5 NN (0 : Int32) (V 6) (fun _ _ => rfl) (show 0 ≤ (0 : Int32).toInt from by omega) (show (0 : Int32).toInt ≤ ((ln p0 : Nat) : Int) from by omega) (show (∀ q : Nat, (q : Int) < (0 : Int32).toInt → (V 6) p0 q = p1) from by intro q hq; exfalso; omega) (show (∀ z, z ≠ p0 → (V 6) z = (V 6) z) from by intro _ _; rfl)
abbrev QF_X6_begin (κ : Nat → Nat) (wd : Nat) (la : Nat → Nat) (G : Nat → Nat → Int32) (P : Nat → Nat → Option Nat) (U : Nat → Nat → Int64) (V : Nat → Nat → Nat → Int32) (X : Nat → Nat → Nat → Int64) (O : Nat → Nat → Nat → Option Nat) (kd : Nat → Nat) (ln : Nat → Nat) (cnt : Nat) (this : Nat) (tv : Nat) : ((Nat → Int32) × (Nat → Int32) × (Nat → Int32) × (Nat → Nat → Int32)) → Prop := (fun t => (TYA ((t.2.2.2) tv) tz0) ∧ ((∀ z, z ≠ tv → (t.2.2.2) z = (V 6) z)) ∧ ((((t.1) this).toInt = 0 ∧ ((t.2.1) this).toInt = 0 ∧ ((t.2.2.1) this).toInt = 1)))
set_option maxHeartbeats 4000000 in
set_option maxRecDepth 100000 in
theorem fn_X6_begin (κ : Nat → Nat) (wd : Nat) (la : Nat → Nat) (G : Nat → Nat → Int32) (P : Nat → Nat → Option Nat) (U : Nat → Nat → Int64) (V : Nat → Nat → Nat → Int32) (X : Nat → Nat → Nat → Int64) (O : Nat → Nat → Nat → Option Nat) (kd : Nat → Nat) (ln : Nat → Nat) (cnt : Nat) (this : Nat) (tv : Nat) (hzG126 : rng (0) 2500 (G 126)) (hzG127 : rng (0) 2000 (G 127)) (hzP123 : PB κ ln wd 7 106 5 5 0 (P 123)) (hzLN : LN κ ln) (hk_this : κ this = 7) (hB : LB la cnt P) (hlt_this : this < cnt) (h123 : (P 123) this = some tv) (hl5 : ln tv = 5) : pw (f_X6_begin G P U V X O kd ln cnt this) (QF_X6_begin κ wd la G P U V X O kd ln cnt this tv) := by
  unfold f_X6_begin
  have zk0 : (0 : Int32).toInt = 0 := by decide +kernel
  have zk1 : (1 : Int32).toInt = 1 := by decide +kernel
  have hn1 : (P 123) this = some tv := h123
  have lt_tv2 := ((hB.1 123 fl_123) this tv hn1).2.1
  have lb_tv2 : (la tv = la this + 1 ∨ la tv = la this + 2) := lk_123.mp ((hB.1 123 fl_123) this tv hn1).2.2
  have hk_tv := ((hzP123 this).2 tv hn1).1
  have hl1_tv := ((hzP123 this).2 tv hn1).2.1
  have hl2_tv := ((hzP123 this).2 tv hn1).2.2.1
  have hw_tv := ((hzP123 this).2 tv hn1).2.2.2
  have hz_tv : (Int32.ofNat (ln tv)).toInt = ((ln tv : Nat) : Int) := ofN_eq (by first | exact Nat.le_trans hl2_tv (by decide) | omega)
  refine pw_nne hn1 ?_
  refine pw_b1 (fun c5_V6 hc5 => ?_)
  have hq5 := pwq (fr_J7_fill_53178_106 la G P U V X O kd ln cnt tv (0 : Int32) hB) hc5
  have q5_V6 : (∀ z, (la z < la tv ∨ la tv < la z) → c5_V6 z = (V 6) z) := hq5
  clear hq5
  have tz5 : ∀ z, ((la z < la this ∨ la this + 2 < la z)) → ((la z < la tv ∨ la tv < la z)) := fun z hz => by omega
  have hfr3 : ∀ z, ((la z < la this ∨ la this + 2 < la z)) → c5_V6 z = (V 6) z := fun z hz => (q5_V6 z (tz5 z hz)).trans ((fun _ _ => rfl) z hz)
  have hx5 := pwq (fn_J7_fill_53178_106 κ wd la G P U V X O kd ln cnt tv (0 : Int32) hzLN hk_tv hB lt_tv2) hc5
  obtain ⟨p5_0, p5_1⟩ : ((∀ q : Nat, q < ln tv → c5_V6 tv q = (0 : Int32))) ∧ ((∀ z, z ≠ tv → c5_V6 z = (V 6) z)) := hx5
  refine pw_vl (fun m10 em10 => ?_)
  have hfr4 : ∀ z, ((la z < la this ∨ la this + 2 < la z)) → m10 z = (G 126) z := fr_up (e0 := (G 126)) (fun _ _ => rfl) em10 (show ¬ ((la this < la this ∨ la this + 2 < la this)) from by omega)
  have hg5 : rng (0) 2500 m10 := by rw [em10]; exact rng_vup hzG126 (by omega) (by omega)
  have sm10 : (m10 this).toInt = 0 := by rw [em10, va_up_self]; decide +kernel
  have b6 := hg5 this
  refine pw_vl (fun m15 em15 => ?_)
  have hfr7 : ∀ z, ((la z < la this ∨ la this + 2 < la z)) → m15 z = (G 127) z := fr_up (e0 := (G 127)) (fun _ _ => rfl) em15 (show ¬ ((la this < la this ∨ la this + 2 < la this)) from by omega)
  have hg8 : rng (0) 2000 m15 := by rw [em15]; exact rng_vup hzG127 (by omega) (by omega)
  have sm15 : (m15 this).toInt = 0 := by rw [em15, va_up_self]; decide +kernel
  have b9 := hg8 this
  refine pw_vl (fun m20 em20 => ?_)
  have hfr10 : ∀ z, ((la z < la this ∨ la this + 2 < la z)) → m20 z = (G 128) z := fr_up (e0 := (G 128)) (fun _ _ => rfl) em20 (show ¬ ((la this < la this ∨ la this + 2 < la this)) from by omega)
  have sm20 : (m20 this).toInt = 1 := by rw [em20, va_up_self]; decide +kernel
  have qq0 : TYA (c5_V6 tv) tz0 := by exact TYA_0 (fun j hj => p5_0 j (by omega))
  have qq1 : (∀ z, z ≠ tv → c5_V6 z = (V 6) z) := by exact p5_1
  have qq2 : ((m10 this).toInt = 0 ∧ (m15 this).toInt = 0 ∧ (m20 this).toInt = 1) := by omega
  exact pw_some ⟨qq0, qq1, qq2⟩
abbrev QF_X6_leaveName (κ : Nat → Nat) (wd : Nat) (la : Nat → Nat) (G : Nat → Nat → Int32) (P : Nat → Nat → Option Nat) (U : Nat → Nat → Int64) (V : Nat → Nat → Nat → Int32) (X : Nat → Nat → Nat → Int64) (O : Nat → Nat → Nat → Option Nat) (kd : Nat → Nat) (ln : Nat → Nat) (cnt : Nat) (this : Nat) (tv : Nat) : ((Nat → Nat → Int32)) → Prop := (fun t => ((∀ t9, TYA ((V 6) tv) t9 → TYA (t tv) (upT t9 4 1))) ∧ ((∀ z, z ≠ tv → t z = (V 6) z)))
set_option maxHeartbeats 4000000 in
set_option maxRecDepth 100000 in
theorem fn_X6_leaveName (κ : Nat → Nat) (wd : Nat) (la : Nat → Nat) (G : Nat → Nat → Int32) (P : Nat → Nat → Option Nat) (U : Nat → Nat → Int64) (V : Nat → Nat → Nat → Int32) (X : Nat → Nat → Nat → Int64) (O : Nat → Nat → Nat → Option Nat) (kd : Nat → Nat) (ln : Nat → Nat) (cnt : Nat) (this : Nat) (tv : Nat) (hzP123 : PB κ ln wd 7 106 5 5 0 (P 123)) (hzLN : LN κ ln) (hk_this : κ this = 7) (hB : LB la cnt P) (hlt_this : this < cnt) (h123 : (P 123) this = some tv) : pw (f_X6_leaveName G P U V X O kd ln cnt this) (QF_X6_leaveName κ wd la G P U V X O kd ln cnt this tv) := by
  unfold f_X6_leaveName
  have zk1 : (1 : Int32).toInt = 1 := by decide +kernel
  have zk4 : (4 : Int32).toInt = 4 := by decide +kernel
  have hn1 : (P 123) this = some tv := h123
  have lt_tv2 := ((hB.1 123 fl_123) this tv hn1).2.1
  have lb_tv2 : (la tv = la this + 1 ∨ la tv = la this + 2) := lk_123.mp ((hB.1 123 fl_123) this tv hn1).2.2
  have hk_tv := ((hzP123 this).2 tv hn1).1
  have hl1_tv := ((hzP123 this).2 tv hn1).2.1
  have hl2_tv := ((hzP123 this).2 tv hn1).2.2.1
  have hw_tv := ((hzP123 this).2 tv hn1).2.2.2
  have hz_tv : (Int32.ofNat (ln tv)).toInt = ((ln tv : Nat) : Int) := ofN_eq (by first | exact Nat.le_trans hl2_tv (by decide) | omega)
  refine pw_nne hn1 ?_
  refine pw_if (fun hb6 => ?_)
  obtain ⟨hbl6, hbr6⟩ := hb6
  refine pw_if (fun hb9 => ?_)
  obtain ⟨hbl9, hbr9⟩ := hb9
  refine pw_vl (fun m9 em9 => ?_)
  have hfr3 : ∀ z, ((la z < la this ∨ la this + 2 < la z)) → m9 z = (V 6) z := fr_up (e0 := (V 6)) (fun _ _ => rfl) em9 (show ¬ ((la tv < la this ∨ la this + 2 < la tv)) from by omega)
  have qq0 : (∀ t9, TYA ((V 6) tv) t9 → TYA (m9 tv) (upT t9 4 1)) := by intro t9 h9; exact TYA_up (k := 4) (a := 1) (x := 1) h9 (by omega) rfl (by rw [em9, va_up_self]; try rfl)
  have qq1 : (∀ z, z ≠ tv → m9 z = (V 6) z) := by intro z hz; rw [em9, va_up_ne _ _ hz]
  exact pw_some ⟨qq0, qq1⟩
abbrev QF_X6_leaveLost (κ : Nat → Nat) (wd : Nat) (la : Nat → Nat) (G : Nat → Nat → Int32) (P : Nat → Nat → Option Nat) (U : Nat → Nat → Int64) (V : Nat → Nat → Nat → Int32) (X : Nat → Nat → Nat → Int64) (O : Nat → Nat → Nat → Option Nat) (kd : Nat → Nat) (ln : Nat → Nat) (cnt : Nat) (this : Nat) (tv : Nat) : ((Nat → Nat → Int32)) → Prop := (fun t => ((∀ t9, TYA ((V 6) tv) t9 → TYA (t tv) (upT (upT t9 0 1) 3 1))) ∧ ((∀ z, z ≠ tv → t z = (V 6) z)))
set_option maxHeartbeats 4000000 in
set_option maxRecDepth 100000 in
theorem fn_X6_leaveLost (κ : Nat → Nat) (wd : Nat) (la : Nat → Nat) (G : Nat → Nat → Int32) (P : Nat → Nat → Option Nat) (U : Nat → Nat → Int64) (V : Nat → Nat → Nat → Int32) (X : Nat → Nat → Nat → Int64) (O : Nat → Nat → Nat → Option Nat) (kd : Nat → Nat) (ln : Nat → Nat) (cnt : Nat) (this : Nat) (tv : Nat) (hzP123 : PB κ ln wd 7 106 5 5 0 (P 123)) (hzLN : LN κ ln) (hk_this : κ this = 7) (hB : LB la cnt P) (hlt_this : this < cnt) (h123 : (P 123) this = some tv) : pw (f_X6_leaveLost G P U V X O kd ln cnt this) (QF_X6_leaveLost κ wd la G P U V X O kd ln cnt this tv) := by
  unfold f_X6_leaveLost
  have zk0 : (0 : Int32).toInt = 0 := by decide +kernel
  have zk1 : (1 : Int32).toInt = 1 := by decide +kernel
  have zk3 : (3 : Int32).toInt = 3 := by decide +kernel
  have hn1 : (P 123) this = some tv := h123
  have lt_tv2 := ((hB.1 123 fl_123) this tv hn1).2.1
  have lb_tv2 : (la tv = la this + 1 ∨ la tv = la this + 2) := lk_123.mp ((hB.1 123 fl_123) this tv hn1).2.2
  have hk_tv := ((hzP123 this).2 tv hn1).1
  have hl1_tv := ((hzP123 this).2 tv hn1).2.1
  have hl2_tv := ((hzP123 this).2 tv hn1).2.2.1
  have hw_tv := ((hzP123 this).2 tv hn1).2.2.2
  have hz_tv : (Int32.ofNat (ln tv)).toInt = ((ln tv : Nat) : Int) := ofN_eq (by first | exact Nat.le_trans hl2_tv (by decide) | omega)
  refine pw_nne hn1 ?_
  refine pw_if (fun hb6 => ?_)
  obtain ⟨hbl6, hbr6⟩ := hb6
  refine pw_if (fun hb9 => ?_)
  obtain ⟨hbl9, hbr9⟩ := hb9
  refine pw_vl (fun m9 em9 => ?_)
  have hfr3 : ∀ z, ((la z < la this ∨ la this + 2 < la z)) → m9 z = (V 6) z := fr_up (e0 := (V 6)) (fun _ _ => rfl) em9 (show ¬ ((la tv < la this ∨ la this + 2 < la tv)) from by omega)
  refine pw_nne hn1 ?_
  refine pw_if (fun hb16 => ?_)
  obtain ⟨hbl16, hbr16⟩ := hb16
  refine pw_if (fun hb19 => ?_)
  obtain ⟨hbl19, hbr19⟩ := hb19
  refine pw_vl (fun m19 em19 => ?_)
  have hfr4 : ∀ z, ((la z < la this ∨ la this + 2 < la z)) → m19 z = (V 6) z := fr_up (e0 := (V 6)) hfr3 em19 (show ¬ ((la tv < la this ∨ la this + 2 < la tv)) from by omega)
  have qq0 : (∀ t9, TYA ((V 6) tv) t9 → TYA (m19 tv) (upT (upT t9 0 1) 3 1)) := by intro t9 h9; have h8 : TYA (m9 tv) (upT t9 0 1) := TYA_up (k := 0) (a := 1) (x := 1) h9 (by omega) rfl (by rw [em9, va_up_self]; try rfl); exact TYA_up (k := 3) (a := 1) (x := 1) h8 (by omega) rfl (by rw [em19, va_up_self]; try rfl)
  have qq1 : (∀ z, z ≠ tv → m19 z = (V 6) z) := by intro z hz; rw [em19, va_up_ne _ _ hz, em9, va_up_ne _ _ hz]
  exact pw_some ⟨qq0, qq1⟩
abbrev QF_X6_append (κ : Nat → Nat) (wd : Nat) (la : Nat → Nat) (G : Nat → Nat → Int32) (P : Nat → Nat → Option Nat) (U : Nat → Nat → Int64) (V : Nat → Nat → Nat → Int32) (X : Nat → Nat → Nat → Int64) (O : Nat → Nat → Nat → Option Nat) (kd : Nat → Nat) (ln : Nat → Nat) (cnt : Nat) (this : Nat) (p0 : Nat) (p1 : Int32) (p2 : Int32) (pv : Nat) : ((Nat → Int32) × (Nat → Int32) × (Nat → Nat → Int32)) → Prop := (fun t => (APP ((V 0) pv) ((t.2.2) pv) (Int32.toNatClampNeg ((G 126) this)) (Int32.toNatClampNeg ((t.1) this)) ((G 128) this).toInt ((t.2.1) this).toInt (wdl ((V 0) p0) (Int32.toNatClampNeg p1) (Int32.toNatClampNeg p2))) ∧ ((∀ z, z ≠ pv → (t.2.2) z = (V 0) z)))
set_option maxHeartbeats 4000000 in
set_option maxRecDepth 100000 in
theorem fn_X6_append (κ : Nat → Nat) (wd : Nat) (la : Nat → Nat) (G : Nat → Nat → Int32) (P : Nat → Nat → Option Nat) (U : Nat → Nat → Int64) (V : Nat → Nat → Nat → Int32) (X : Nat → Nat → Nat → Int64) (O : Nat → Nat → Nat → Option Nat) (kd : Nat → Nat) (ln : Nat → Nat) (cnt : Nat) (this : Nat) (p0 : Nat) (p1 : Int32) (p2 : Int32) (pv : Nat) (hzG126 : rng (0) 2500 (G 126)) (hzP121 : PB κ ln wd 7 100 2500 2500 0 (P 121)) (hzLN : LN κ ln) (hk_this : κ this = 7) (hk_p0 : κ p0 = 100) (hp0 : (0 ≤ p1.toInt ∧ 0 ≤ p2.toInt ∧ p1.toInt + p2.toInt ≤ ((ln p0 : Nat) : Int))) (hB : LB la cnt P) (hlt_this : this < cnt) (hlt_p0 : p0 < cnt) (h121 : (P 121) this = some pv) : pw (f_X6_append G P U V X O kd ln cnt this p0 p1 p2) (QF_X6_append κ wd la G P U V X O kd ln cnt this p0 p1 p2 pv) := by
  unfold f_X6_append
  have zk0 : (0 : Int32).toInt = 0 := by decide +kernel
  have zk2500 : (2500 : Int32).toInt = 2500 := by decide +kernel
  have r_p1 := i32r p1
  have r_p2 := i32r p2
  have hn1 : (P 121) this = some pv := h121
  have lt_pv2 := ((hB.1 121 fl_121) this pv hn1).2.1
  have lb_pv2 : (la pv = la this + 1 ∨ la pv = la this + 2) := lk_121.mp ((hB.1 121 fl_121) this pv hn1).2.2
  have hk_pv := ((hzP121 this).2 pv hn1).1
  have hl1_pv := ((hzP121 this).2 pv hn1).2.1
  have hl2_pv := ((hzP121 this).2 pv hn1).2.2.1
  have hw_pv := ((hzP121 this).2 pv hn1).2.2.2
  have hz_pv : (Int32.ofNat (ln pv)).toInt = ((ln pv : Nat) : Int) := ofN_eq (by first | exact Nat.le_trans hl2_pv (by decide) | omega)
  have hb126 := hzG126 this
  have c126 := clampI (x := (G 126) this) (by omega)
  have cp1 := clampI (x := p1) (by omega)
  have cp2 := clampI (x := p2) (by omega)
  refine pw_jE (fun j19 ej19 => ?_)
  refine pw_ite (fun c4 => ?_) (fun c4 => ?_)
  · have c4 := congrArg Int32.toInt c4
    refine pw_j0 ej19 ?_
    refine pw_vl (fun m21 em21 => ?_)
    have hfr3 : ∀ z, ((la z < la this ∨ la this + 2 < la z)) → m21 z = (G 128) z := fr_up (e0 := (G 128)) (fun _ _ => rfl) em21 (show ¬ ((la this < la this ∨ la this + 2 < la this)) from by omega)
    have sm21 : (m21 this).toInt = 0 := by rw [em21, va_up_self]; decide +kernel
    have qq0 : APP ((V 0) pv) ((V 0) pv) (Int32.toNatClampNeg ((G 126) this)) (Int32.toNatClampNeg ((G 126) this)) ((G 128) this).toInt (m21 this).toInt (wdl ((V 0) p0) (Int32.toNatClampNeg p1) (Int32.toNatClampNeg p2)) := by refine ⟨fun h => ?_, fun _ => by omega⟩; exfalso; rw [wdl_len] at h; omega
    have qq1 : (∀ z, z ≠ pv → (V 0) z = (V 0) z) := by intro _ _; rfl
    exact pw_some ⟨qq0, qq1⟩
  · have c4 := z_ne c4
    have b4 := hzG126 this
    have f5 : (2500 - ((G 126) this)).toInt = 2500 - ((G 126) this).toInt := z_subd (by decide +kernel) (by omega) (by omega)
    refine pw_ite (fun c16 => ?_) (fun c16 => ?_)
    · have c16 := (z_le _ _).mp c16
      refine pw_nne hn1 ?_
      refine pw_if (fun hb36 => ?_)
      obtain ⟨hb36_1, hb36_2, hb36_3, hb36_4, hb36_5⟩ := hb36
      refine pw_vl (fun m36 em36 => ?_)
      have hfr7 : ∀ z, ((la z < la this ∨ la this + 2 < la z)) → m36 z = (V 0) z := fr_up (e0 := (V 0)) (fun _ _ => rfl) em36 (show ¬ ((la pv < la this ∨ la this + 2 < la pv)) from by omega)
      have f9 : (((G 126) this) + p2).toInt = ((G 126) this).toInt + p2.toInt := z_add (by omega) (by omega)
      refine pw_vl (fun x46 ex46 => ?_)
      have f10 : x46.toInt = (((G 126) this) + p2).toInt := congrArg Int32.toInt ex46
      refine pw_vl (fun m46 em46 => ?_)
      have hfr11 : ∀ z, ((la z < la this ∨ la this + 2 < la z)) → m46 z = (G 126) z := fr_up (e0 := (G 126)) (fun _ _ => rfl) em46 (show ¬ ((la this < la this ∨ la this + 2 < la this)) from by omega)
      have hg12 : rng (0) 2500 m46 := by rw [em46]; exact rng_vup hzG126 (by omega) (by omega)
      have sm46 : (m46 this).toInt = x46.toInt := by rw [em46, va_up_self]
      have b13 := hg12 this
      have qq0 : APP ((V 0) pv) (m36 pv) (Int32.toNatClampNeg ((G 126) this)) (Int32.toNatClampNeg (m46 this)) ((G 128) this).toInt ((G 128) this).toInt (wdl ((V 0) p0) (Int32.toNatClampNeg p1) (Int32.toNatClampNeg p2)) := by refine ⟨fun _ => ⟨by omega, ?_⟩, fun h => ?_⟩; (have kn := clampI (x := m46 this) (by omega); rw [em36, va_up_self, show Int32.toNatClampNeg (m46 this) = Int32.toNatClampNeg ((G 126) this) + Int32.toNatClampNeg p2 by omega, wdl_cpy]); (exfalso; exact h ⟨by omega, by rw [wdl_len]; omega⟩)
      have qq1 : (∀ z, z ≠ pv → m36 z = (V 0) z) := by intro z hz; rw [em36, va_up_ne _ _ hz]
      exact pw_some ⟨qq0, qq1⟩
    · have c16 := z_nle c16
      refine pw_j0 ej19 ?_
      refine pw_vl (fun m21 em21 => ?_)
      have hfr14 : ∀ z, ((la z < la this ∨ la this + 2 < la z)) → m21 z = (G 128) z := fr_up (e0 := (G 128)) (fun _ _ => rfl) em21 (show ¬ ((la this < la this ∨ la this + 2 < la this)) from by omega)
      have sm21 : (m21 this).toInt = 0 := by rw [em21, va_up_self]; decide +kernel
      have qq0 : APP ((V 0) pv) ((V 0) pv) (Int32.toNatClampNeg ((G 126) this)) (Int32.toNatClampNeg ((G 126) this)) ((G 128) this).toInt (m21 this).toInt (wdl ((V 0) p0) (Int32.toNatClampNeg p1) (Int32.toNatClampNeg p2)) := by refine ⟨fun h => ?_, fun _ => by omega⟩; exfalso; rw [wdl_len] at h; omega
      have qq1 : (∀ z, z ≠ pv → (V 0) z = (V 0) z) := by intro _ _; rfl
      exact pw_some ⟨qq0, qq1⟩
abbrev QF_X6_put (κ : Nat → Nat) (wd : Nat) (la : Nat → Nat) (G : Nat → Nat → Int32) (P : Nat → Nat → Option Nat) (U : Nat → Nat → Int64) (V : Nat → Nat → Nat → Int32) (X : Nat → Nat → Nat → Int64) (O : Nat → Nat → Nat → Option Nat) (kd : Nat → Nat) (ln : Nat → Nat) (cnt : Nat) (this : Nat) (p0 : Nat) (p1 : Nat) (tx : Nat) (f : Nat → Int32) (pv : Nat) (tv : Nat) (l : Nat) (s : Nat) (T : List Wd) : ((Nat → Int32) × (Nat → Int32) × (Nat → Int32) × (Nat → Nat → Int32) × (Nat → Nat → Int32)) → Prop := (fun t => ((∀ o9 t9, CWS f ((V 0) pv) (Int32.toNatClampNeg ((G 126) this)) (Int32.toNatClampNeg ((G 127) this)) (Int32.toNatClampNeg ((G 160) p0)) ((G 128) this).toInt o9 → TYA ((V 6) tv) t9 → CWS f ((t.2.2.2.1) pv) (Int32.toNatClampNeg ((t.1) this)) (Int32.toNatClampNeg ((t.2.1) this)) ((Int32.toNatClampNeg ((G 160) p0)) + (Int32.toNatClampNeg ((G 161) p0))) ((t.2.2.1) this).toInt (wdT T (wdl f (Int32.toNatClampNeg ((G 160) p0)) (Int32.toNatClampNeg ((G 161) p0))) (o9, t9)).1 ∧ TYA ((t.2.2.2.2) tv) (wdT T (wdl f (Int32.toNatClampNeg ((G 160) p0)) (Int32.toNatClampNeg ((G 161) p0))) (o9, t9)).2)) ∧ ((∀ z, z ≠ pv → (t.2.2.2.1) z = (V 0) z)) ∧ ((∀ z, z ≠ tv → (t.2.2.2.2) z = (V 6) z)))
set_option maxHeartbeats 4000000 in
set_option maxRecDepth 100000 in
theorem fn_X6_put (κ : Nat → Nat) (wd : Nat) (la : Nat → Nat) (G : Nat → Nat → Int32) (P : Nat → Nat → Option Nat) (U : Nat → Nat → Int64) (V : Nat → Nat → Nat → Int32) (X : Nat → Nat → Nat → Int64) (O : Nat → Nat → Nat → Option Nat) (kd : Nat → Nat) (ln : Nat → Nat) (cnt : Nat) (this : Nat) (p0 : Nat) (p1 : Nat) (tx : Nat) (f : Nat → Int32) (pv : Nat) (tv : Nat) (l : Nat) (s : Nat) (T : List Wd) (hzG126 : rng (0) 2500 (G 126)) (hzG127 : rng (0) 2000 (G 127)) (hzG160 : rng (0) 2000 (G 160)) (hzG161 : rng (0) 2000 (G 161)) (hzG200 : rng (0) 24 (G 200)) (hzG203 : rng (0) 100 (G 203)) (hzP121 : PB κ ln wd 7 100 2500 2500 0 (P 121)) (hzP123 : PB κ ln wd 7 106 5 5 0 (P 123)) (hzP164 : PB κ ln wd 9 100 0 2000 0 (P 164)) (hzP201 : PB κ ln wd 11 100 0 2400 0 (P 201)) (hzP202 : PB κ ln wd 11 101 0 100 0 (P 202)) (hzV1 : rng2 (0) 24 (V 1)) (hzRA : RA κ ln (G 200) (P 201) (P 202)) (hzRB : RB κ ln (G 200) (G 203) (P 202) (V 1)) (hzRI : RI (P 202)) (hzLN : LN κ ln) (hk_this : κ this = 7) (hk_p0 : κ p0 = 9) (hk_p1 : κ p1 = 11) (hp0 : ((G 127) this).toInt ≤ ((G 160) p0).toInt) (hp1 : (∀ tx, (P 164) p0 = some tx → ((G 160) p0).toInt + ((G 161) p0).toInt ≤ ((ln tx : Nat) : Int))) (hB : LB la cnt P) (hlt_this : this < cnt) (hlt_p0 : p0 < cnt) (hlt_p1 : p1 < cnt) (h164 : (P 164) p0 = some tx) (hf : (V 0) tx = f) (h121 : (P 121) this = some pv) (h123 : (P 123) this = some tv) (hl : (P 201) p1 = some l) (hs : (P 202) p1 = some s) (hw : ((G 200) p1).toInt = ((24 : Nat) : Int)) (hT : rwW ((G 203) p1) ((V 0) l) ((V 1) s) 24 = T) (hTw : WDS T) (hnt : tx ≠ pv) (hnl : l ≠ pv) : pw (f_X6_put G P U V X O kd ln cnt this p0 p1) (QF_X6_put κ wd la G P U V X O kd ln cnt this p0 p1 tx f pv tv l s T) := by
  unfold f_X6_put
  have zk0 : (0 : Int32).toInt = 0 := by decide +kernel
  have zk1 : (1 : Int32).toInt = 1 := by decide +kernel
  have zk2 : (2 : Int32).toInt = 2 := by decide +kernel
  have hn1 : (P 164) p0 = some tx := h164
  have lt_tx2 := ((hB.1 164 fl_164) p0 tx hn1).2.1
  have hk_tx := ((hzP164 p0).2 tx hn1).1
  have hl1_tx := ((hzP164 p0).2 tx hn1).2.1
  have hl2_tx := ((hzP164 p0).2 tx hn1).2.2.1
  have hw_tx : id _ := ((hzP164 p0).2 tx hn1).2.2.2
  have hz_tx : (Int32.ofNat (ln tx)).toInt = ((ln tx : Nat) : Int) := ofN_eq (by first | exact Nat.le_trans hl2_tx (by decide) | omega)
  have hn3 : (P 201) p1 = some l := hl
  have lt_l4 := ((hB.1 201 fl_201) p1 l hn3).2.1
  have lb_l4 : la l = la p1 + 0 := lk_201.mp ((hB.1 201 fl_201) p1 l hn3).2.2
  have hk_l := ((hzP201 p1).2 l hn3).1
  have hl1_l := ((hzP201 p1).2 l hn3).2.1
  have hl2_l := ((hzP201 p1).2 l hn3).2.2.1
  have hw_l : id _ := ((hzP201 p1).2 l hn3).2.2.2
  have hz_l : (Int32.ofNat (ln l)).toInt = ((ln l : Nat) : Int) := ofN_eq (by first | exact Nat.le_trans hl2_l (by decide) | omega)
  have hn5 : (P 202) p1 = some s := hs
  have lt_s6 := ((hB.1 202 fl_202) p1 s hn5).2.1
  have lb_s6 : la s = la p1 + 0 := lk_202.mp ((hB.1 202 fl_202) p1 s hn5).2.2
  have hk_s := ((hzP202 p1).2 s hn5).1
  have hl1_s := ((hzP202 p1).2 s hn5).2.1
  have hl2_s := ((hzP202 p1).2 s hn5).2.2.1
  have hw_s : id _ := ((hzP202 p1).2 s hn5).2.2.2
  have hz_s : (Int32.ofNat (ln s)).toInt = ((ln s : Nat) : Int) := ofN_eq (by first | exact Nat.le_trans hl2_s (by decide) | omega)
  have rb7 := (hzRB p1 s hk_p1 hn5).1
  have ra8 := hzRA p1 l s hk_p1 hn3 hn5
  have bw9 := hzG200 p1
  have hn10 : (P 121) this = some pv := h121
  obtain ⟨_, lt_pv11, lb_pv11⟩ := (hB.1 121 fl_121) this pv hn10
  have lb_pv11 : la this + 1 ≤ la pv ∧ la pv ≤ la this + 2 := or_bd (lk_121.mp lb_pv11) (by omega)
  have hk_pv := ((hzP121 this).2 pv hn10).1
  have hl1_pv := ((hzP121 this).2 pv hn10).2.1
  have hl2_pv := ((hzP121 this).2 pv hn10).2.2.1
  have hw_pv : id _ := ((hzP121 this).2 pv hn10).2.2.2
  have hz_pv : (Int32.ofNat (ln pv)).toInt = ((ln pv : Nat) : Int) := ofN_eq (by first | exact Nat.le_trans hl2_pv (by decide) | omega)
  have hn12 : (P 123) this = some tv := h123
  obtain ⟨_, lt_tv13, lb_tv13⟩ := (hB.1 123 fl_123) this tv hn12
  have lb_tv13 : la this + 1 ≤ la tv ∧ la tv ≤ la this + 2 := or_bd (lk_123.mp lb_tv13) (by omega)
  have hk_tv := ((hzP123 this).2 tv hn12).1
  have hl1_tv := ((hzP123 this).2 tv hn12).2.1
  have hl2_tv := ((hzP123 this).2 tv hn12).2.2.1
  have hw_tv : id _ := ((hzP123 this).2 tv hn12).2.2.2
  have hz_tv : (Int32.ofNat (ln tv)).toInt = ((ln tv : Nat) : Int) := ofN_eq (by first | exact Nat.le_trans hl2_tv (by decide) | omega)
  have hsz := hp1 _ hn1
  have hb1 := hzG160 p0
  have hb2 := hzG161 p0
  have hb3 := hzG127 this
  have hb160 := hzG160 p0
  have c160 := clampI (x := (G 160) p0) (by omega)
  have hb161 := hzG161 p0
  have c161 := clampI (x := (G 161) p0) (by omega)
  have hb127 := hzG127 this
  have c127 := clampI (x := (G 127) this) (by omega)
  have hb203 := hzG203 p1
  have c203 := clampI (x := (G 203) p1) (by omega)
  have hTl : T.length = Int32.toNatClampNeg ((G 203) p1) := by rw [← hT]; exact rw_len
  have b14 := hzG203 p1
  refine pw_ite (fun c4 => ?_) (fun c4 => ?_)
  · have c4 := congrArg Int32.toInt c4
    refine pw_b1 (fun c8_V6 hc8 => ?_)
    have hq8 := pwq (fr_X6_leaveLost la G P U V X O kd ln cnt this hB) hc8
    have q8_V6 : (∀ z, (la z < la this ∨ la this + 2 < la z) → c8_V6 z = (V 6) z) := hq8
    clear hq8
    have tz8 : ∀ z, ((la z < la this ∨ la this + 2 < la z)) → ((la z < la this ∨ la this + 2 < la z)) := fun z hz => by omega
    have hfr18 : ∀ z, ((la z < la this ∨ la this + 2 < la z)) → c8_V6 z = (V 6) z := fun z hz => (q8_V6 z (tz8 z hz)).trans ((fun _ _ => rfl) z hz)
    have h88_h123 : (P 123) this = some tv := by exact h123
    have hx8 := pwq (fn_X6_leaveLost κ wd la G P U V X O kd ln cnt this (tv) hzP123 hzLN hk_this hB hlt_this h88_h123) hc8
    obtain ⟨p8_0, p8_1⟩ : ((∀ t9, TYA ((V 6) tv) t9 → TYA (c8_V6 tv) (upT (upT t9 0 1) 3 1))) ∧ ((∀ z, z ≠ tv → c8_V6 z = (V 6) z)) := hx8
    clear h88_h123
    have qq0 : id ((∀ o9 t9, CWS f ((V 0) pv) (Int32.toNatClampNeg ((G 126) this)) (Int32.toNatClampNeg ((G 127) this)) (Int32.toNatClampNeg ((G 160) p0)) ((G 128) this).toInt o9 → TYA ((V 6) tv) t9 → CWS f ((V 0) pv) (Int32.toNatClampNeg ((G 126) this)) (Int32.toNatClampNeg ((G 127) this)) ((Int32.toNatClampNeg ((G 160) p0)) + (Int32.toNatClampNeg ((G 161) p0))) ((G 128) this).toInt (wdT T (wdl f (Int32.toNatClampNeg ((G 160) p0)) (Int32.toNatClampNeg ((G 161) p0))) (o9, t9)).1 ∧ TYA (c8_V6 tv) (wdT T (wdl f (Int32.toNatClampNeg ((G 160) p0)) (Int32.toNatClampNeg ((G 161) p0))) (o9, t9)).2)) := show (∀ o9 t9, CWS f ((V 0) pv) (Int32.toNatClampNeg ((G 126) this)) (Int32.toNatClampNeg ((G 127) this)) (Int32.toNatClampNeg ((G 160) p0)) ((G 128) this).toInt o9 → TYA ((V 6) tv) t9 → CWS f ((V 0) pv) (Int32.toNatClampNeg ((G 126) this)) (Int32.toNatClampNeg ((G 127) this)) ((Int32.toNatClampNeg ((G 160) p0)) + (Int32.toNatClampNeg ((G 161) p0))) ((G 128) this).toInt (wdT T (wdl f (Int32.toNatClampNeg ((G 160) p0)) (Int32.toNatClampNeg ((G 161) p0))) (o9, t9)).1 ∧ TYA (c8_V6 tv) (wdT T (wdl f (Int32.toNatClampNeg ((G 160) p0)) (Int32.toNatClampNeg ((G 161) p0))) (o9, t9)).2) from by intro o9 t9 h1 h2; have hT0 : T = [] := List.length_eq_zero_iff.mp (by omega); rw [hT0]; exact ⟨CWS_w h1 (Int32.toNatClampNeg ((G 161) p0)), p8_0 t9 h2⟩
    have qq1 : id ((∀ z, z ≠ pv → (V 0) z = (V 0) z)) := show (∀ z, z ≠ pv → (V 0) z = (V 0) z) from by intro _ _; rfl
    have qq2 : id ((∀ z, z ≠ tv → c8_V6 z = (V 6) z)) := show (∀ z, z ≠ tv → c8_V6 z = (V 6) z) from by exact p8_1
    exact pw_some ⟨qq0, qq1, qq2⟩
  · have c4 := z_ne c4
    obtain ⟨xs, hx1, hx2⟩ := rw_hd hT (by omega)
    have hx0 := hTw _ (by rw [hx1]; exact List.mem_cons_self)
    have hv0 := hzV1 s 0
    have cv0 := clampI (x := (V 1) s 0) (by omega)
    have hxl : (wdl ((V 0) l) 0 (Int32.toNatClampNeg ((V 1) s 0))).length = Int32.toNatClampNeg ((V 1) s 0) := wdl_len
    refine pw_nne hn12 ?_
    refine pw_if (fun hb18 => ?_)
    obtain ⟨hbl18, hbr18⟩ := hb18
    refine pw_if (fun hb21 => ?_)
    obtain ⟨hbl21, hbr21⟩ := hb21
    refine pw_vl (fun m21 em21 => ?_)
    have hfr19 : ∀ z, ((la z < la this ∨ la this + 2 < la z)) → m21 z = (V 6) z := fr_up (e0 := (V 6)) (fun _ _ => rfl) em21 (show ¬ ((la tv < la this ∨ la this + 2 < la tv)) from by omega)
    refine pw_jE (fun j40 ej40 => ?_)
    refine pw_ite (fun c27 => ?_) (fun c27 => ?_)
    · have c27 := (z_le _ _).mp c27
      refine pw_j1 ej40 (fun z40_0 ez40_0 => ?_)
      subst ez40_0
      refine pw_nne hn5 ?_
      refine pw_if (fun hb45 => ?_)
      obtain ⟨hbl45, hbr45⟩ := hb45
      have b24 := hzV1 s (Int32.toNatClampNeg (0 : Int32))
      have rl25 := (hzRB p1 s hk_p1 hn5).2 (Int32.toNatClampNeg (0 : Int32))
      have b26 := hzG161 p0
      refine pw_jE (fun j70 ej70 => ?_)
      refine pw_ite (fun c50 => ?_) (fun c50 => ?_)
      · have c50 := congrArg Int32.toInt c50
        refine pw_nne hn1 ?_
        have b27 := hzG160 p0
        have hpr63_0 : (0 ≤ (0 : Int32).toInt ∧ (0 : Int32).toInt < ((G 203) p1).toInt) := by first | assumption | omega
        refine pw_b1 (fun r63 hc63 => ?_)
        have hq63 := wp_at (ok_X10_standsIn κ wd G P U (va_up V 6 m21) X O kd ln cnt p1 (0 : Int32) tx ((G 160) p0) hzG200 hzG203 hzP201 hzP202 hzV1 hzRA hzRB hzRI hzLN hk_p1 hk_tx hpr63_0) hc63
        have f28 : (0 ≤ r63.toInt ∧ r63.toInt ≤ 1) := hq63
        clear hq63
        have h863_hl : (P 201) p1 = some l := by exact hl
        have h863_hs : (P 202) p1 = some s := by exact hs
        have h863_hw : ((G 200) p1).toInt = ((24) : Int) := by exact hw
        have h863_hw24 : (24) ≤ 24 := by decide
        have hx63 := pwq (fn_X10_standsIn κ wd la G P U (va_up V 6 m21) X O kd ln cnt p1 (0 : Int32) tx ((G 160) p0) (l) (s) (24) hzG200 hzG203 hzP201 hzP202 hzV1 hzRA hzRB hzRI hzLN hk_p1 hk_tx hpr63_0 hB hlt_p1 lt_tx2 h863_hl h863_hs h863_hw h863_hw24) hc63
        obtain ⟨p63_0, p63_1⟩ : ((r63.toInt ≠ 0 → 0 ≤ ((G 160) p0).toInt ∧ wdl ((V 0) tx) (Int32.toNatClampNeg ((G 160) p0)) (Int32.toNatClampNeg (((V 1) s) (Int32.toNatClampNeg (0 : Int32)))) = wdl ((V 0) l) ((24) * Int32.toNatClampNeg (0 : Int32)) (Int32.toNatClampNeg (((V 1) s) (Int32.toNatClampNeg (0 : Int32)))))) ∧ ((r63.toInt = 0 → 0 ≤ ((G 160) p0).toInt → ((G 160) p0).toInt + (((V 1) s) (Int32.toNatClampNeg (0 : Int32))).toInt ≤ ((ln tx : Nat) : Int) → wdl ((V 0) tx) (Int32.toNatClampNeg ((G 160) p0)) (Int32.toNatClampNeg (((V 1) s) (Int32.toNatClampNeg (0 : Int32)))) ≠ wdl ((V 0) l) ((24) * Int32.toNatClampNeg (0 : Int32)) (Int32.toNatClampNeg (((V 1) s) (Int32.toNatClampNeg (0 : Int32)))))) := hx63
        clear h863_hl h863_hs h863_hw h863_hw24
        rw [show Int32.toNatClampNeg (0 : Int32) = 0 from rfl, Nat.mul_zero, hf] at p63_0 p63_1
        have hlq : Int32.toNatClampNeg ((V 1) s 0) = (Int32.toNatClampNeg ((G 161) p0)) := by have z9 : ((V 1) s 0).toInt = ((G 161) p0).toInt := c50; omega
        refine pw_ite (fun c66 => ?_) (fun c66 => ?_)
        · have c66 := congrArg Int32.toInt c66
          refine pw_j0 ej70 ?_
          have hdf : (wdl ((V 0) l) 0 (Int32.toNatClampNeg ((V 1) s 0))) ≠ wdl f (Int32.toNatClampNeg ((G 160) p0)) (Int32.toNatClampNeg ((G 161) p0)) := by intro z9; have z8 := congrArg List.length z9; rw [wdl_len, wdl_len] at z8; first | exact absurd (show ((V 1) s 0).toInt = ((G 161) p0).toInt from by omega) c50 | exact p63_1 (by omega) (by omega) (show ((G 160) p0).toInt + ((V 1) s 0).toInt ≤ ((ln tx : Nat) : Int) from by omega) (by rw [z9, hlq])
          refine pw_nne hn12 ?_
          refine pw_if (fun hb76 => ?_)
          obtain ⟨hbl76, hbr76⟩ := hb76
          refine pw_if (fun hb79 => ?_)
          obtain ⟨hbl79, hbr79⟩ := hb79
          refine pw_vl (fun m79 em79 => ?_)
          have hfr29 : ∀ z, ((la z < la this ∨ la this + 2 < la z)) → m79 z = (V 6) z := fr_up (e0 := (V 6)) hfr19 em79 (show ¬ ((la tv < la this ∨ la this + 2 < la tv)) from by omega)
          refine pw_nne hn1 ?_
          have b30 := hzG127 this
          have f33 : (((G 160) p0) - ((G 127) this)).toInt = ((G 160) p0).toInt - ((G 127) this).toInt := z_sub (by omega) (by omega)
          have hpr98_0 : (0 ≤ ((G 127) this).toInt ∧ 0 ≤ (((G 160) p0) - ((G 127) this)).toInt ∧ ((G 127) this).toInt + (((G 160) p0) - ((G 127) this)).toInt ≤ ((ln tx : Nat) : Int)) := by first | assumption | omega
          refine pw_b3 (fun c98_G126 c98_G128 c98_V0 hc98 => ?_)
          have hq98 := wp_at (ok_X6_append κ wd G P U (va_up (va_up V 6 m21) 6 m79) X O kd ln cnt this tx ((G 127) this) (((G 160) p0) - ((G 127) this)) hzG126 hzP121 hzLN hk_this hk_tx hpr98_0) hc98
          have hg34 : rng (0) 2500 c98_G126 := hq98
          clear hq98
          have hq98 := pwq (fr_X6_append la G P U (va_up (va_up V 6 m21) 6 m79) X O kd ln cnt this tx ((G 127) this) (((G 160) p0) - ((G 127) this)) hB) hc98
          obtain ⟨q98_G126, q98_G128, q98_V0⟩ : (∀ z, (la z < la this ∨ la this + 2 < la z) → c98_G126 z = (G 126) z) ∧ (∀ z, (la z < la this ∨ la this + 2 < la z) → c98_G128 z = (G 128) z) ∧ (∀ z, (la z < la this ∨ la this + 2 < la z) → c98_V0 z = (V 0) z) := hq98
          have tz98 : ∀ z, ((la z < la this ∨ la this + 2 < la z)) → ((la z < la this ∨ la this + 2 < la z)) := fun z hz => by omega
          have hfr35 : ∀ z, ((la z < la this ∨ la this + 2 < la z)) → c98_G126 z = (G 126) z := fun z hz => (q98_G126 z (tz98 z hz)).trans ((fun _ _ => rfl) z hz)
          have hfr36 : ∀ z, ((la z < la this ∨ la this + 2 < la z)) → c98_G128 z = (G 128) z := fun z hz => (q98_G128 z (tz98 z hz)).trans ((fun _ _ => rfl) z hz)
          have hfr37 : ∀ z, ((la z < la this ∨ la this + 2 < la z)) → c98_V0 z = (V 0) z := fun z hz => (q98_V0 z (tz98 z hz)).trans ((fun _ _ => rfl) z hz)
          have h898_h121 : (P 121) this = some pv := by exact h121
          have hx98 := pwq (fn_X6_append κ wd la G P U (va_up (va_up V 6 m21) 6 m79) X O kd ln cnt this tx ((G 127) this) (((G 160) p0) - ((G 127) this)) (pv) hzG126 hzP121 hzLN hk_this hk_tx hpr98_0 hB hlt_this lt_tx2 h898_h121) hc98
          obtain ⟨p98_0, p98_1⟩ : (APP ((V 0) pv) (c98_V0 pv) (Int32.toNatClampNeg ((G 126) this)) (Int32.toNatClampNeg (c98_G126 this)) ((G 128) this).toInt (c98_G128 this).toInt (wdl ((V 0) tx) (Int32.toNatClampNeg ((G 127) this)) (Int32.toNatClampNeg (((G 160) p0) - ((G 127) this))))) ∧ ((∀ z, z ≠ pv → c98_V0 z = (V 0) z)) := hx98
          clear h898_h121
          rw [hf] at p98_0
          have ksc := clampI (x := ((G 160) p0) - ((G 127) this)) (by omega)
          rw [show Int32.toNatClampNeg (((G 160) p0) - ((G 127) this)) = (Int32.toNatClampNeg ((G 160) p0)) - Int32.toNatClampNeg ((G 127) this) by omega] at p98_0
          refine pw_nne hn3 ?_
          have hrx := row0 (hzRA p1 _ _ hk_p1 hn3 hn5) (hzG200 p1).1
          refine pw_nne hn5 ?_
          refine pw_if (fun hb112 => ?_)
          obtain ⟨hbl112, hbr112⟩ := hb112
          have hpr113_0 : (0 ≤ (0 : Int32).toInt ∧ 0 ≤ (((V 1) s) (Int32.toNatClampNeg 0)).toInt ∧ (0 : Int32).toInt + (((V 1) s) (Int32.toNatClampNeg 0)).toInt ≤ ((ln l : Nat) : Int)) := by first | assumption | omega
          refine pw_b3 (fun c113_G126 c113_G128 c113_V0 hc113 => ?_)
          have hq113 := wp_at (ok_X6_append κ wd (va_up (va_up G 126 c98_G126) 128 c98_G128) P U (va_up (va_up (va_up V 6 m21) 6 m79) 0 c98_V0) X O kd ln cnt this l (0 : Int32) (((V 1) s) (Int32.toNatClampNeg 0)) hg34 hzP121 hzLN hk_this hk_l hpr113_0) hc113
          have hg40 : rng (0) 2500 c113_G126 := hq113
          clear hq113
          have hq113 := pwq (fr_X6_append la (va_up (va_up G 126 c98_G126) 128 c98_G128) P U (va_up (va_up (va_up V 6 m21) 6 m79) 0 c98_V0) X O kd ln cnt this l (0 : Int32) (((V 1) s) (Int32.toNatClampNeg 0)) hB) hc113
          obtain ⟨q113_G126, q113_G128, q113_V0⟩ : (∀ z, (la z < la this ∨ la this + 2 < la z) → c113_G126 z = c98_G126 z) ∧ (∀ z, (la z < la this ∨ la this + 2 < la z) → c113_G128 z = c98_G128 z) ∧ (∀ z, (la z < la this ∨ la this + 2 < la z) → c113_V0 z = c98_V0 z) := hq113
          have tz113 : ∀ z, ((la z < la this ∨ la this + 2 < la z)) → ((la z < la this ∨ la this + 2 < la z)) := fun z hz => by omega
          have hfr41 : ∀ z, ((la z < la this ∨ la this + 2 < la z)) → c113_G126 z = (G 126) z := fun z hz => (q113_G126 z (tz113 z hz)).trans (hfr35 z hz)
          have hfr42 : ∀ z, ((la z < la this ∨ la this + 2 < la z)) → c113_G128 z = (G 128) z := fun z hz => (q113_G128 z (tz113 z hz)).trans (hfr36 z hz)
          have hfr43 : ∀ z, ((la z < la this ∨ la this + 2 < la z)) → c113_V0 z = (V 0) z := fun z hz => (q113_V0 z (tz113 z hz)).trans (hfr37 z hz)
          have h8113_h121 : (P 121) this = some pv := by exact h121
          have hx113 := pwq (fn_X6_append κ wd la (va_up (va_up G 126 c98_G126) 128 c98_G128) P U (va_up (va_up (va_up V 6 m21) 6 m79) 0 c98_V0) X O kd ln cnt this l (0 : Int32) (((V 1) s) (Int32.toNatClampNeg 0)) (pv) hg34 hzP121 hzLN hk_this hk_l hpr113_0 hB hlt_this lt_l4 h8113_h121) hc113
          obtain ⟨p113_0, p113_1⟩ : (APP (c98_V0 pv) (c113_V0 pv) (Int32.toNatClampNeg (c98_G126 this)) (Int32.toNatClampNeg (c113_G126 this)) (c98_G128 this).toInt (c113_G128 this).toInt (wdl (c98_V0 l) (Int32.toNatClampNeg (0 : Int32)) (Int32.toNatClampNeg (((V 1) s) (Int32.toNatClampNeg 0))))) ∧ ((∀ z, z ≠ pv → c113_V0 z = c98_V0 z)) := hx113
          clear h8113_h121
          rw [p98_1 l hnl, show Int32.toNatClampNeg (0 : Int32) = 0 from rfl] at p113_0
          have f46 : (((G 160) p0) + ((G 161) p0)).toInt = ((G 160) p0).toInt + ((G 161) p0).toInt := z_add (by omega) (by omega)
          refine pw_vl (fun x126 ex126 => ?_)
          have f47 : x126.toInt = (((G 160) p0) + ((G 161) p0)).toInt := congrArg Int32.toInt ex126
          refine pw_vl (fun m126 em126 => ?_)
          have hfr48 : ∀ z, ((la z < la this ∨ la this + 2 < la z)) → m126 z = (G 127) z := fr_up (e0 := (G 127)) (fun _ _ => rfl) em126 (show ¬ ((la this < la this ∨ la this + 2 < la this)) from by omega)
          have hg49 : rng (0) 2000 m126 := by rw [em126]; exact rng_vup hzG127 (by omega) (by omega)
          have sm126 : (m126 this).toInt = x126.toInt := by rw [em126, va_up_self]
          have b50 := hg49 this
          have qq0 : id ((∀ o9 t9, CWS f ((V 0) pv) (Int32.toNatClampNeg ((G 126) this)) (Int32.toNatClampNeg ((G 127) this)) (Int32.toNatClampNeg ((G 160) p0)) ((G 128) this).toInt o9 → TYA ((V 6) tv) t9 → CWS f (c113_V0 pv) (Int32.toNatClampNeg (c113_G126 this)) (Int32.toNatClampNeg (m126 this)) ((Int32.toNatClampNeg ((G 160) p0)) + (Int32.toNatClampNeg ((G 161) p0))) (c113_G128 this).toInt (wdT T (wdl f (Int32.toNatClampNeg ((G 160) p0)) (Int32.toNatClampNeg ((G 161) p0))) (o9, t9)).1 ∧ TYA (m79 tv) (wdT T (wdl f (Int32.toNatClampNeg ((G 160) p0)) (Int32.toNatClampNeg ((G 161) p0))) (o9, t9)).2)) := show (∀ o9 t9, CWS f ((V 0) pv) (Int32.toNatClampNeg ((G 126) this)) (Int32.toNatClampNeg ((G 127) this)) (Int32.toNatClampNeg ((G 160) p0)) ((G 128) this).toInt o9 → TYA ((V 6) tv) t9 → CWS f (c113_V0 pv) (Int32.toNatClampNeg (c113_G126 this)) (Int32.toNatClampNeg (m126 this)) ((Int32.toNatClampNeg ((G 160) p0)) + (Int32.toNatClampNeg ((G 161) p0))) (c113_G128 this).toInt (wdT T (wdl f (Int32.toNatClampNeg ((G 160) p0)) (Int32.toNatClampNeg ((G 161) p0))) (o9, t9)).1 ∧ TYA (m79 tv) (wdT T (wdl f (Int32.toNatClampNeg ((G 160) p0)) (Int32.toNatClampNeg ((G 161) p0))) (o9, t9)).2) from by intro o9 t9 h1 h2; rw [hx1]; have u0 : TYA (m21 tv) (upT t9 0 1) := TYA_up (k := 0) (a := 1) (x := 1) h2 (by omega) rfl (by rw [em21, va_up_self]; try rfl); have u1 : TYA (m79 tv) (upT (upT t9 0 1) 1 1) := TYA_up (k := 1) (a := 1) (x := 1) u0 (by omega) rfl (by rw [em79, va_up_self]; try rfl); refine ⟨?_, wdT_c (a := 0) (b := 1) u1 (by rw [if_pos (hx2.mpr (by omega))]) (by rw [if_neg hdf])⟩; have k126 := clampI (x := m126 this) (by omega); rw [show Int32.toNatClampNeg (m126 this) = (Int32.toNatClampNeg ((G 160) p0)) + (Int32.toNatClampNeg ((G 161) p0)) by omega]; exact CWS_x h1 p98_0 p113_0
          have qq1 : id ((∀ z, z ≠ pv → c113_V0 z = (V 0) z)) := show (∀ z, z ≠ pv → c113_V0 z = (V 0) z) from by intro z hz; rw [p113_1 z hz, p98_1 z hz]
          have qq2 : id ((∀ z, z ≠ tv → m79 z = (V 6) z)) := show (∀ z, z ≠ tv → m79 z = (V 6) z) from by intro z hz; rw [em79, va_up_ne _ _ hz, em21, va_up_ne _ _ hz]
          exact pw_some ⟨qq0, qq1, qq2⟩
        · have c66 := z_ne c66
          have qq0 : id ((∀ o9 t9, CWS f ((V 0) pv) (Int32.toNatClampNeg ((G 126) this)) (Int32.toNatClampNeg ((G 127) this)) (Int32.toNatClampNeg ((G 160) p0)) ((G 128) this).toInt o9 → TYA ((V 6) tv) t9 → CWS f ((V 0) pv) (Int32.toNatClampNeg ((G 126) this)) (Int32.toNatClampNeg ((G 127) this)) ((Int32.toNatClampNeg ((G 160) p0)) + (Int32.toNatClampNeg ((G 161) p0))) ((G 128) this).toInt (wdT T (wdl f (Int32.toNatClampNeg ((G 160) p0)) (Int32.toNatClampNeg ((G 161) p0))) (o9, t9)).1 ∧ TYA (m21 tv) (wdT T (wdl f (Int32.toNatClampNeg ((G 160) p0)) (Int32.toNatClampNeg ((G 161) p0))) (o9, t9)).2)) := show (∀ o9 t9, CWS f ((V 0) pv) (Int32.toNatClampNeg ((G 126) this)) (Int32.toNatClampNeg ((G 127) this)) (Int32.toNatClampNeg ((G 160) p0)) ((G 128) this).toInt o9 → TYA ((V 6) tv) t9 → CWS f ((V 0) pv) (Int32.toNatClampNeg ((G 126) this)) (Int32.toNatClampNeg ((G 127) this)) ((Int32.toNatClampNeg ((G 160) p0)) + (Int32.toNatClampNeg ((G 161) p0))) ((G 128) this).toInt (wdT T (wdl f (Int32.toNatClampNeg ((G 160) p0)) (Int32.toNatClampNeg ((G 161) p0))) (o9, t9)).1 ∧ TYA (m21 tv) (wdT T (wdl f (Int32.toNatClampNeg ((G 160) p0)) (Int32.toNatClampNeg ((G 161) p0))) (o9, t9)).2) from by intro o9 t9 h1 h2; rw [hx1]; have hxw : (wdl ((V 0) l) 0 (Int32.toNatClampNeg ((V 1) s 0))) = wdl f (Int32.toNatClampNeg ((G 160) p0)) (Int32.toNatClampNeg ((G 161) p0)) := (by have h9 := (p63_0 (by omega)).2; rw [← h9, hlq]); have u0 : TYA (m21 tv) (upT t9 0 1) := TYA_up (k := 0) (a := 1) (x := 1) h2 (by omega) rfl (by rw [em21, va_up_self]; try rfl); refine ⟨?_, wdT_c (a := 0) (b := 0) u0 (by rw [if_pos (hx2.mpr (by omega))]) (by rw [if_pos hxw])⟩; show CWS f _ _ _ _ _ (o9 ++ (wdl ((V 0) l) 0 (Int32.toNatClampNeg ((V 1) s 0)))); rw [hxw]; exact CWS_w h1 (Int32.toNatClampNeg ((G 161) p0))
          have qq1 : id ((∀ z, z ≠ pv → (V 0) z = (V 0) z)) := show (∀ z, z ≠ pv → (V 0) z = (V 0) z) from by intro _ _; rfl
          have qq2 : id ((∀ z, z ≠ tv → m21 z = (V 6) z)) := show (∀ z, z ≠ tv → m21 z = (V 6) z) from by intro z hz; rw [em21, va_up_ne _ _ hz]
          exact pw_some ⟨qq0, qq1, qq2⟩
      · have c50 := z_ne c50
        refine pw_j0 ej70 ?_
        have hdf : (wdl ((V 0) l) 0 (Int32.toNatClampNeg ((V 1) s 0))) ≠ wdl f (Int32.toNatClampNeg ((G 160) p0)) (Int32.toNatClampNeg ((G 161) p0)) := by intro z9; have z8 := congrArg List.length z9; rw [wdl_len, wdl_len] at z8; first | exact absurd (show ((V 1) s 0).toInt = ((G 161) p0).toInt from by omega) c50 | exact p63_1 (by omega) (by omega) (show ((G 160) p0).toInt + ((V 1) s 0).toInt ≤ ((ln tx : Nat) : Int) from by omega) (by rw [z9, hlq])
        refine pw_nne hn12 ?_
        refine pw_if (fun hb76 => ?_)
        obtain ⟨hbl76, hbr76⟩ := hb76
        refine pw_if (fun hb79 => ?_)
        obtain ⟨hbl79, hbr79⟩ := hb79
        refine pw_vl (fun m79 em79 => ?_)
        have hfr51 : ∀ z, ((la z < la this ∨ la this + 2 < la z)) → m79 z = (V 6) z := fr_up (e0 := (V 6)) hfr19 em79 (show ¬ ((la tv < la this ∨ la this + 2 < la tv)) from by omega)
        refine pw_nne hn1 ?_
        have b52 := hzG127 this
        have b53 := hzG160 p0
        have f55 : (((G 160) p0) - ((G 127) this)).toInt = ((G 160) p0).toInt - ((G 127) this).toInt := z_sub (by omega) (by omega)
        have hpr98_0 : (0 ≤ ((G 127) this).toInt ∧ 0 ≤ (((G 160) p0) - ((G 127) this)).toInt ∧ ((G 127) this).toInt + (((G 160) p0) - ((G 127) this)).toInt ≤ ((ln tx : Nat) : Int)) := by first | assumption | omega
        refine pw_b3 (fun c98_G126 c98_G128 c98_V0 hc98 => ?_)
        have hq98 := wp_at (ok_X6_append κ wd G P U (va_up (va_up V 6 m21) 6 m79) X O kd ln cnt this tx ((G 127) this) (((G 160) p0) - ((G 127) this)) hzG126 hzP121 hzLN hk_this hk_tx hpr98_0) hc98
        have hg56 : rng (0) 2500 c98_G126 := hq98
        clear hq98
        have hq98 := pwq (fr_X6_append la G P U (va_up (va_up V 6 m21) 6 m79) X O kd ln cnt this tx ((G 127) this) (((G 160) p0) - ((G 127) this)) hB) hc98
        obtain ⟨q98_G126, q98_G128, q98_V0⟩ : (∀ z, (la z < la this ∨ la this + 2 < la z) → c98_G126 z = (G 126) z) ∧ (∀ z, (la z < la this ∨ la this + 2 < la z) → c98_G128 z = (G 128) z) ∧ (∀ z, (la z < la this ∨ la this + 2 < la z) → c98_V0 z = (V 0) z) := hq98
        have tz98 : ∀ z, ((la z < la this ∨ la this + 2 < la z)) → ((la z < la this ∨ la this + 2 < la z)) := fun z hz => by omega
        have hfr57 : ∀ z, ((la z < la this ∨ la this + 2 < la z)) → c98_G126 z = (G 126) z := fun z hz => (q98_G126 z (tz98 z hz)).trans ((fun _ _ => rfl) z hz)
        have hfr58 : ∀ z, ((la z < la this ∨ la this + 2 < la z)) → c98_G128 z = (G 128) z := fun z hz => (q98_G128 z (tz98 z hz)).trans ((fun _ _ => rfl) z hz)
        have hfr59 : ∀ z, ((la z < la this ∨ la this + 2 < la z)) → c98_V0 z = (V 0) z := fun z hz => (q98_V0 z (tz98 z hz)).trans ((fun _ _ => rfl) z hz)
        have h898_h121 : (P 121) this = some pv := by exact h121
        have hx98 := pwq (fn_X6_append κ wd la G P U (va_up (va_up V 6 m21) 6 m79) X O kd ln cnt this tx ((G 127) this) (((G 160) p0) - ((G 127) this)) (pv) hzG126 hzP121 hzLN hk_this hk_tx hpr98_0 hB hlt_this lt_tx2 h898_h121) hc98
        obtain ⟨p98_0, p98_1⟩ : (APP ((V 0) pv) (c98_V0 pv) (Int32.toNatClampNeg ((G 126) this)) (Int32.toNatClampNeg (c98_G126 this)) ((G 128) this).toInt (c98_G128 this).toInt (wdl ((V 0) tx) (Int32.toNatClampNeg ((G 127) this)) (Int32.toNatClampNeg (((G 160) p0) - ((G 127) this))))) ∧ ((∀ z, z ≠ pv → c98_V0 z = (V 0) z)) := hx98
        clear h898_h121
        rw [hf] at p98_0
        have ksc := clampI (x := ((G 160) p0) - ((G 127) this)) (by omega)
        rw [show Int32.toNatClampNeg (((G 160) p0) - ((G 127) this)) = (Int32.toNatClampNeg ((G 160) p0)) - Int32.toNatClampNeg ((G 127) this) by omega] at p98_0
        refine pw_nne hn3 ?_
        have hrx := row0 (hzRA p1 _ _ hk_p1 hn3 hn5) (hzG200 p1).1
        refine pw_nne hn5 ?_
        refine pw_if (fun hb112 => ?_)
        obtain ⟨hbl112, hbr112⟩ := hb112
        have hpr113_0 : (0 ≤ (0 : Int32).toInt ∧ 0 ≤ (((V 1) s) (Int32.toNatClampNeg 0)).toInt ∧ (0 : Int32).toInt + (((V 1) s) (Int32.toNatClampNeg 0)).toInt ≤ ((ln l : Nat) : Int)) := by first | assumption | omega
        refine pw_b3 (fun c113_G126 c113_G128 c113_V0 hc113 => ?_)
        have hq113 := wp_at (ok_X6_append κ wd (va_up (va_up G 126 c98_G126) 128 c98_G128) P U (va_up (va_up (va_up V 6 m21) 6 m79) 0 c98_V0) X O kd ln cnt this l (0 : Int32) (((V 1) s) (Int32.toNatClampNeg 0)) hg56 hzP121 hzLN hk_this hk_l hpr113_0) hc113
        have hg62 : rng (0) 2500 c113_G126 := hq113
        clear hq113
        have hq113 := pwq (fr_X6_append la (va_up (va_up G 126 c98_G126) 128 c98_G128) P U (va_up (va_up (va_up V 6 m21) 6 m79) 0 c98_V0) X O kd ln cnt this l (0 : Int32) (((V 1) s) (Int32.toNatClampNeg 0)) hB) hc113
        obtain ⟨q113_G126, q113_G128, q113_V0⟩ : (∀ z, (la z < la this ∨ la this + 2 < la z) → c113_G126 z = c98_G126 z) ∧ (∀ z, (la z < la this ∨ la this + 2 < la z) → c113_G128 z = c98_G128 z) ∧ (∀ z, (la z < la this ∨ la this + 2 < la z) → c113_V0 z = c98_V0 z) := hq113
        have tz113 : ∀ z, ((la z < la this ∨ la this + 2 < la z)) → ((la z < la this ∨ la this + 2 < la z)) := fun z hz => by omega
        have hfr63 : ∀ z, ((la z < la this ∨ la this + 2 < la z)) → c113_G126 z = (G 126) z := fun z hz => (q113_G126 z (tz113 z hz)).trans (hfr57 z hz)
        have hfr64 : ∀ z, ((la z < la this ∨ la this + 2 < la z)) → c113_G128 z = (G 128) z := fun z hz => (q113_G128 z (tz113 z hz)).trans (hfr58 z hz)
        have hfr65 : ∀ z, ((la z < la this ∨ la this + 2 < la z)) → c113_V0 z = (V 0) z := fun z hz => (q113_V0 z (tz113 z hz)).trans (hfr59 z hz)
        have h8113_h121 : (P 121) this = some pv := by exact h121
        have hx113 := pwq (fn_X6_append κ wd la (va_up (va_up G 126 c98_G126) 128 c98_G128) P U (va_up (va_up (va_up V 6 m21) 6 m79) 0 c98_V0) X O kd ln cnt this l (0 : Int32) (((V 1) s) (Int32.toNatClampNeg 0)) (pv) hg56 hzP121 hzLN hk_this hk_l hpr113_0 hB hlt_this lt_l4 h8113_h121) hc113
        obtain ⟨p113_0, p113_1⟩ : (APP (c98_V0 pv) (c113_V0 pv) (Int32.toNatClampNeg (c98_G126 this)) (Int32.toNatClampNeg (c113_G126 this)) (c98_G128 this).toInt (c113_G128 this).toInt (wdl (c98_V0 l) (Int32.toNatClampNeg (0 : Int32)) (Int32.toNatClampNeg (((V 1) s) (Int32.toNatClampNeg 0))))) ∧ ((∀ z, z ≠ pv → c113_V0 z = c98_V0 z)) := hx113
        clear h8113_h121
        rw [p98_1 l hnl, show Int32.toNatClampNeg (0 : Int32) = 0 from rfl] at p113_0
        have f68 : (((G 160) p0) + ((G 161) p0)).toInt = ((G 160) p0).toInt + ((G 161) p0).toInt := z_add (by omega) (by omega)
        refine pw_vl (fun x126 ex126 => ?_)
        have f69 : x126.toInt = (((G 160) p0) + ((G 161) p0)).toInt := congrArg Int32.toInt ex126
        refine pw_vl (fun m126 em126 => ?_)
        have hfr70 : ∀ z, ((la z < la this ∨ la this + 2 < la z)) → m126 z = (G 127) z := fr_up (e0 := (G 127)) (fun _ _ => rfl) em126 (show ¬ ((la this < la this ∨ la this + 2 < la this)) from by omega)
        have hg71 : rng (0) 2000 m126 := by rw [em126]; exact rng_vup hzG127 (by omega) (by omega)
        have sm126 : (m126 this).toInt = x126.toInt := by rw [em126, va_up_self]
        have b72 := hg71 this
        have qq0 : id ((∀ o9 t9, CWS f ((V 0) pv) (Int32.toNatClampNeg ((G 126) this)) (Int32.toNatClampNeg ((G 127) this)) (Int32.toNatClampNeg ((G 160) p0)) ((G 128) this).toInt o9 → TYA ((V 6) tv) t9 → CWS f (c113_V0 pv) (Int32.toNatClampNeg (c113_G126 this)) (Int32.toNatClampNeg (m126 this)) ((Int32.toNatClampNeg ((G 160) p0)) + (Int32.toNatClampNeg ((G 161) p0))) (c113_G128 this).toInt (wdT T (wdl f (Int32.toNatClampNeg ((G 160) p0)) (Int32.toNatClampNeg ((G 161) p0))) (o9, t9)).1 ∧ TYA (m79 tv) (wdT T (wdl f (Int32.toNatClampNeg ((G 160) p0)) (Int32.toNatClampNeg ((G 161) p0))) (o9, t9)).2)) := show (∀ o9 t9, CWS f ((V 0) pv) (Int32.toNatClampNeg ((G 126) this)) (Int32.toNatClampNeg ((G 127) this)) (Int32.toNatClampNeg ((G 160) p0)) ((G 128) this).toInt o9 → TYA ((V 6) tv) t9 → CWS f (c113_V0 pv) (Int32.toNatClampNeg (c113_G126 this)) (Int32.toNatClampNeg (m126 this)) ((Int32.toNatClampNeg ((G 160) p0)) + (Int32.toNatClampNeg ((G 161) p0))) (c113_G128 this).toInt (wdT T (wdl f (Int32.toNatClampNeg ((G 160) p0)) (Int32.toNatClampNeg ((G 161) p0))) (o9, t9)).1 ∧ TYA (m79 tv) (wdT T (wdl f (Int32.toNatClampNeg ((G 160) p0)) (Int32.toNatClampNeg ((G 161) p0))) (o9, t9)).2) from by intro o9 t9 h1 h2; rw [hx1]; have u0 : TYA (m21 tv) (upT t9 0 1) := TYA_up (k := 0) (a := 1) (x := 1) h2 (by omega) rfl (by rw [em21, va_up_self]; try rfl); have u1 : TYA (m79 tv) (upT (upT t9 0 1) 1 1) := TYA_up (k := 1) (a := 1) (x := 1) u0 (by omega) rfl (by rw [em79, va_up_self]; try rfl); refine ⟨?_, wdT_c (a := 0) (b := 1) u1 (by rw [if_pos (hx2.mpr (by omega))]) (by rw [if_neg hdf])⟩; have k126 := clampI (x := m126 this) (by omega); rw [show Int32.toNatClampNeg (m126 this) = (Int32.toNatClampNeg ((G 160) p0)) + (Int32.toNatClampNeg ((G 161) p0)) by omega]; exact CWS_x h1 p98_0 p113_0
        have qq1 : id ((∀ z, z ≠ pv → c113_V0 z = (V 0) z)) := show (∀ z, z ≠ pv → c113_V0 z = (V 0) z) from by intro z hz; rw [p113_1 z hz, p98_1 z hz]
        have qq2 : id ((∀ z, z ≠ tv → m79 z = (V 6) z)) := show (∀ z, z ≠ tv → m79 z = (V 6) z) from by intro z hz; rw [em79, va_up_ne _ _ hz, em21, va_up_ne _ _ hz]
        exact pw_some ⟨qq0, qq1, qq2⟩
    · have c27 := z_nle c27
      refine pw_nne hn12 ?_
      refine pw_if (fun hb36 => ?_)
      obtain ⟨hbl36, hbr36⟩ := hb36
      refine pw_if (fun hb39 => ?_)
      obtain ⟨hbl39, hbr39⟩ := hb39
      refine pw_vl (fun m39 em39 => ?_)
      have hfr73 : ∀ z, ((la z < la this ∨ la this + 2 < la z)) → m39 z = (V 6) z := fr_up (e0 := (V 6)) hfr19 em39 (show ¬ ((la tv < la this ∨ la this + 2 < la tv)) from by omega)
      refine pw_j1 ej40 (fun z40_0 ez40_0 => ?_)
      subst ez40_0
      refine pw_nne hn5 ?_
      refine pw_if (fun hb45 => ?_)
      obtain ⟨hbl45, hbr45⟩ := hb45
      have b74 := hzV1 s (Int32.toNatClampNeg (0 : Int32))
      have rl75 := (hzRB p1 s hk_p1 hn5).2 (Int32.toNatClampNeg (0 : Int32))
      have b76 := hzG161 p0
      refine pw_jE (fun j70 ej70 => ?_)
      refine pw_ite (fun c50 => ?_) (fun c50 => ?_)
      · have c50 := congrArg Int32.toInt c50
        refine pw_nne hn1 ?_
        have b77 := hzG160 p0
        have hpr63_0 : (0 ≤ (0 : Int32).toInt ∧ (0 : Int32).toInt < ((G 203) p1).toInt) := by first | assumption | omega
        refine pw_b1 (fun r63 hc63 => ?_)
        have hq63 := wp_at (ok_X10_standsIn κ wd G P U (va_up (va_up V 6 m21) 6 m39) X O kd ln cnt p1 (0 : Int32) tx ((G 160) p0) hzG200 hzG203 hzP201 hzP202 hzV1 hzRA hzRB hzRI hzLN hk_p1 hk_tx hpr63_0) hc63
        have f78 : (0 ≤ r63.toInt ∧ r63.toInt ≤ 1) := hq63
        clear hq63
        have h863_hl : (P 201) p1 = some l := by exact hl
        have h863_hs : (P 202) p1 = some s := by exact hs
        have h863_hw : ((G 200) p1).toInt = ((24) : Int) := by exact hw
        have h863_hw24 : (24) ≤ 24 := by decide
        have hx63 := pwq (fn_X10_standsIn κ wd la G P U (va_up (va_up V 6 m21) 6 m39) X O kd ln cnt p1 (0 : Int32) tx ((G 160) p0) (l) (s) (24) hzG200 hzG203 hzP201 hzP202 hzV1 hzRA hzRB hzRI hzLN hk_p1 hk_tx hpr63_0 hB hlt_p1 lt_tx2 h863_hl h863_hs h863_hw h863_hw24) hc63
        obtain ⟨p63_0, p63_1⟩ : ((r63.toInt ≠ 0 → 0 ≤ ((G 160) p0).toInt ∧ wdl ((V 0) tx) (Int32.toNatClampNeg ((G 160) p0)) (Int32.toNatClampNeg (((V 1) s) (Int32.toNatClampNeg (0 : Int32)))) = wdl ((V 0) l) ((24) * Int32.toNatClampNeg (0 : Int32)) (Int32.toNatClampNeg (((V 1) s) (Int32.toNatClampNeg (0 : Int32)))))) ∧ ((r63.toInt = 0 → 0 ≤ ((G 160) p0).toInt → ((G 160) p0).toInt + (((V 1) s) (Int32.toNatClampNeg (0 : Int32))).toInt ≤ ((ln tx : Nat) : Int) → wdl ((V 0) tx) (Int32.toNatClampNeg ((G 160) p0)) (Int32.toNatClampNeg (((V 1) s) (Int32.toNatClampNeg (0 : Int32)))) ≠ wdl ((V 0) l) ((24) * Int32.toNatClampNeg (0 : Int32)) (Int32.toNatClampNeg (((V 1) s) (Int32.toNatClampNeg (0 : Int32)))))) := hx63
        clear h863_hl h863_hs h863_hw h863_hw24
        rw [show Int32.toNatClampNeg (0 : Int32) = 0 from rfl, Nat.mul_zero, hf] at p63_0 p63_1
        have hlq : Int32.toNatClampNeg ((V 1) s 0) = (Int32.toNatClampNeg ((G 161) p0)) := by have z9 : ((V 1) s 0).toInt = ((G 161) p0).toInt := c50; omega
        refine pw_ite (fun c66 => ?_) (fun c66 => ?_)
        · have c66 := congrArg Int32.toInt c66
          refine pw_j0 ej70 ?_
          have hdf : (wdl ((V 0) l) 0 (Int32.toNatClampNeg ((V 1) s 0))) ≠ wdl f (Int32.toNatClampNeg ((G 160) p0)) (Int32.toNatClampNeg ((G 161) p0)) := by intro z9; have z8 := congrArg List.length z9; rw [wdl_len, wdl_len] at z8; first | exact absurd (show ((V 1) s 0).toInt = ((G 161) p0).toInt from by omega) c50 | exact p63_1 (by omega) (by omega) (show ((G 160) p0).toInt + ((V 1) s 0).toInt ≤ ((ln tx : Nat) : Int) from by omega) (by rw [z9, hlq])
          refine pw_nne hn12 ?_
          refine pw_if (fun hb76 => ?_)
          obtain ⟨hbl76, hbr76⟩ := hb76
          refine pw_if (fun hb79 => ?_)
          obtain ⟨hbl79, hbr79⟩ := hb79
          refine pw_vl (fun m79 em79 => ?_)
          have hfr79 : ∀ z, ((la z < la this ∨ la this + 2 < la z)) → m79 z = (V 6) z := fr_up (e0 := (V 6)) hfr73 em79 (show ¬ ((la tv < la this ∨ la this + 2 < la tv)) from by omega)
          refine pw_nne hn1 ?_
          have b80 := hzG127 this
          have f83 : (((G 160) p0) - ((G 127) this)).toInt = ((G 160) p0).toInt - ((G 127) this).toInt := z_sub (by omega) (by omega)
          have hpr98_0 : (0 ≤ ((G 127) this).toInt ∧ 0 ≤ (((G 160) p0) - ((G 127) this)).toInt ∧ ((G 127) this).toInt + (((G 160) p0) - ((G 127) this)).toInt ≤ ((ln tx : Nat) : Int)) := by first | assumption | omega
          refine pw_b3 (fun c98_G126 c98_G128 c98_V0 hc98 => ?_)
          have hq98 := wp_at (ok_X6_append κ wd G P U (va_up (va_up (va_up V 6 m21) 6 m39) 6 m79) X O kd ln cnt this tx ((G 127) this) (((G 160) p0) - ((G 127) this)) hzG126 hzP121 hzLN hk_this hk_tx hpr98_0) hc98
          have hg84 : rng (0) 2500 c98_G126 := hq98
          clear hq98
          have hq98 := pwq (fr_X6_append la G P U (va_up (va_up (va_up V 6 m21) 6 m39) 6 m79) X O kd ln cnt this tx ((G 127) this) (((G 160) p0) - ((G 127) this)) hB) hc98
          obtain ⟨q98_G126, q98_G128, q98_V0⟩ : (∀ z, (la z < la this ∨ la this + 2 < la z) → c98_G126 z = (G 126) z) ∧ (∀ z, (la z < la this ∨ la this + 2 < la z) → c98_G128 z = (G 128) z) ∧ (∀ z, (la z < la this ∨ la this + 2 < la z) → c98_V0 z = (V 0) z) := hq98
          have tz98 : ∀ z, ((la z < la this ∨ la this + 2 < la z)) → ((la z < la this ∨ la this + 2 < la z)) := fun z hz => by omega
          have hfr85 : ∀ z, ((la z < la this ∨ la this + 2 < la z)) → c98_G126 z = (G 126) z := fun z hz => (q98_G126 z (tz98 z hz)).trans ((fun _ _ => rfl) z hz)
          have hfr86 : ∀ z, ((la z < la this ∨ la this + 2 < la z)) → c98_G128 z = (G 128) z := fun z hz => (q98_G128 z (tz98 z hz)).trans ((fun _ _ => rfl) z hz)
          have hfr87 : ∀ z, ((la z < la this ∨ la this + 2 < la z)) → c98_V0 z = (V 0) z := fun z hz => (q98_V0 z (tz98 z hz)).trans ((fun _ _ => rfl) z hz)
          have h898_h121 : (P 121) this = some pv := by exact h121
          have hx98 := pwq (fn_X6_append κ wd la G P U (va_up (va_up (va_up V 6 m21) 6 m39) 6 m79) X O kd ln cnt this tx ((G 127) this) (((G 160) p0) - ((G 127) this)) (pv) hzG126 hzP121 hzLN hk_this hk_tx hpr98_0 hB hlt_this lt_tx2 h898_h121) hc98
          obtain ⟨p98_0, p98_1⟩ : (APP ((V 0) pv) (c98_V0 pv) (Int32.toNatClampNeg ((G 126) this)) (Int32.toNatClampNeg (c98_G126 this)) ((G 128) this).toInt (c98_G128 this).toInt (wdl ((V 0) tx) (Int32.toNatClampNeg ((G 127) this)) (Int32.toNatClampNeg (((G 160) p0) - ((G 127) this))))) ∧ ((∀ z, z ≠ pv → c98_V0 z = (V 0) z)) := hx98
          clear h898_h121
          rw [hf] at p98_0
          have ksc := clampI (x := ((G 160) p0) - ((G 127) this)) (by omega)
          rw [show Int32.toNatClampNeg (((G 160) p0) - ((G 127) this)) = (Int32.toNatClampNeg ((G 160) p0)) - Int32.toNatClampNeg ((G 127) this) by omega] at p98_0
          refine pw_nne hn3 ?_
          have hrx := row0 (hzRA p1 _ _ hk_p1 hn3 hn5) (hzG200 p1).1
          refine pw_nne hn5 ?_
          refine pw_if (fun hb112 => ?_)
          obtain ⟨hbl112, hbr112⟩ := hb112
          have hpr113_0 : (0 ≤ (0 : Int32).toInt ∧ 0 ≤ (((V 1) s) (Int32.toNatClampNeg 0)).toInt ∧ (0 : Int32).toInt + (((V 1) s) (Int32.toNatClampNeg 0)).toInt ≤ ((ln l : Nat) : Int)) := by first | assumption | omega
          refine pw_b3 (fun c113_G126 c113_G128 c113_V0 hc113 => ?_)
          have hq113 := wp_at (ok_X6_append κ wd (va_up (va_up G 126 c98_G126) 128 c98_G128) P U (va_up (va_up (va_up (va_up V 6 m21) 6 m39) 6 m79) 0 c98_V0) X O kd ln cnt this l (0 : Int32) (((V 1) s) (Int32.toNatClampNeg 0)) hg84 hzP121 hzLN hk_this hk_l hpr113_0) hc113
          have hg90 : rng (0) 2500 c113_G126 := hq113
          clear hq113
          have hq113 := pwq (fr_X6_append la (va_up (va_up G 126 c98_G126) 128 c98_G128) P U (va_up (va_up (va_up (va_up V 6 m21) 6 m39) 6 m79) 0 c98_V0) X O kd ln cnt this l (0 : Int32) (((V 1) s) (Int32.toNatClampNeg 0)) hB) hc113
          obtain ⟨q113_G126, q113_G128, q113_V0⟩ : (∀ z, (la z < la this ∨ la this + 2 < la z) → c113_G126 z = c98_G126 z) ∧ (∀ z, (la z < la this ∨ la this + 2 < la z) → c113_G128 z = c98_G128 z) ∧ (∀ z, (la z < la this ∨ la this + 2 < la z) → c113_V0 z = c98_V0 z) := hq113
          have tz113 : ∀ z, ((la z < la this ∨ la this + 2 < la z)) → ((la z < la this ∨ la this + 2 < la z)) := fun z hz => by omega
          have hfr91 : ∀ z, ((la z < la this ∨ la this + 2 < la z)) → c113_G126 z = (G 126) z := fun z hz => (q113_G126 z (tz113 z hz)).trans (hfr85 z hz)
          have hfr92 : ∀ z, ((la z < la this ∨ la this + 2 < la z)) → c113_G128 z = (G 128) z := fun z hz => (q113_G128 z (tz113 z hz)).trans (hfr86 z hz)
          have hfr93 : ∀ z, ((la z < la this ∨ la this + 2 < la z)) → c113_V0 z = (V 0) z := fun z hz => (q113_V0 z (tz113 z hz)).trans (hfr87 z hz)
          have h8113_h121 : (P 121) this = some pv := by exact h121
          have hx113 := pwq (fn_X6_append κ wd la (va_up (va_up G 126 c98_G126) 128 c98_G128) P U (va_up (va_up (va_up (va_up V 6 m21) 6 m39) 6 m79) 0 c98_V0) X O kd ln cnt this l (0 : Int32) (((V 1) s) (Int32.toNatClampNeg 0)) (pv) hg84 hzP121 hzLN hk_this hk_l hpr113_0 hB hlt_this lt_l4 h8113_h121) hc113
          obtain ⟨p113_0, p113_1⟩ : (APP (c98_V0 pv) (c113_V0 pv) (Int32.toNatClampNeg (c98_G126 this)) (Int32.toNatClampNeg (c113_G126 this)) (c98_G128 this).toInt (c113_G128 this).toInt (wdl (c98_V0 l) (Int32.toNatClampNeg (0 : Int32)) (Int32.toNatClampNeg (((V 1) s) (Int32.toNatClampNeg 0))))) ∧ ((∀ z, z ≠ pv → c113_V0 z = c98_V0 z)) := hx113
          clear h8113_h121
          rw [p98_1 l hnl, show Int32.toNatClampNeg (0 : Int32) = 0 from rfl] at p113_0
          have f96 : (((G 160) p0) + ((G 161) p0)).toInt = ((G 160) p0).toInt + ((G 161) p0).toInt := z_add (by omega) (by omega)
          refine pw_vl (fun x126 ex126 => ?_)
          have f97 : x126.toInt = (((G 160) p0) + ((G 161) p0)).toInt := congrArg Int32.toInt ex126
          refine pw_vl (fun m126 em126 => ?_)
          have hfr98 : ∀ z, ((la z < la this ∨ la this + 2 < la z)) → m126 z = (G 127) z := fr_up (e0 := (G 127)) (fun _ _ => rfl) em126 (show ¬ ((la this < la this ∨ la this + 2 < la this)) from by omega)
          have hg99 : rng (0) 2000 m126 := by rw [em126]; exact rng_vup hzG127 (by omega) (by omega)
          have sm126 : (m126 this).toInt = x126.toInt := by rw [em126, va_up_self]
          have b100 := hg99 this
          have qq0 : id ((∀ o9 t9, CWS f ((V 0) pv) (Int32.toNatClampNeg ((G 126) this)) (Int32.toNatClampNeg ((G 127) this)) (Int32.toNatClampNeg ((G 160) p0)) ((G 128) this).toInt o9 → TYA ((V 6) tv) t9 → CWS f (c113_V0 pv) (Int32.toNatClampNeg (c113_G126 this)) (Int32.toNatClampNeg (m126 this)) ((Int32.toNatClampNeg ((G 160) p0)) + (Int32.toNatClampNeg ((G 161) p0))) (c113_G128 this).toInt (wdT T (wdl f (Int32.toNatClampNeg ((G 160) p0)) (Int32.toNatClampNeg ((G 161) p0))) (o9, t9)).1 ∧ TYA (m79 tv) (wdT T (wdl f (Int32.toNatClampNeg ((G 160) p0)) (Int32.toNatClampNeg ((G 161) p0))) (o9, t9)).2)) := show (∀ o9 t9, CWS f ((V 0) pv) (Int32.toNatClampNeg ((G 126) this)) (Int32.toNatClampNeg ((G 127) this)) (Int32.toNatClampNeg ((G 160) p0)) ((G 128) this).toInt o9 → TYA ((V 6) tv) t9 → CWS f (c113_V0 pv) (Int32.toNatClampNeg (c113_G126 this)) (Int32.toNatClampNeg (m126 this)) ((Int32.toNatClampNeg ((G 160) p0)) + (Int32.toNatClampNeg ((G 161) p0))) (c113_G128 this).toInt (wdT T (wdl f (Int32.toNatClampNeg ((G 160) p0)) (Int32.toNatClampNeg ((G 161) p0))) (o9, t9)).1 ∧ TYA (m79 tv) (wdT T (wdl f (Int32.toNatClampNeg ((G 160) p0)) (Int32.toNatClampNeg ((G 161) p0))) (o9, t9)).2) from by intro o9 t9 h1 h2; rw [hx1]; have u0 : TYA (m21 tv) (upT t9 0 1) := TYA_up (k := 0) (a := 1) (x := 1) h2 (by omega) rfl (by rw [em21, va_up_self]; try rfl); have u2 : TYA (m39 tv) (upT (upT t9 0 1) 2 1) := TYA_up (k := 2) (a := 1) (x := 1) u0 (by omega) rfl (by rw [em39, va_up_self]; try rfl); have u1 : TYA (m79 tv) (upT (upT (upT t9 0 1) 2 1) 1 1) := TYA_up (k := 1) (a := 1) (x := 1) u2 (by omega) rfl (by rw [em79, va_up_self]; try rfl); refine ⟨?_, wdT_c (a := 1) (b := 1) u1 (by rw [if_neg (fun z => by have z9 := hx2.mp z; omega)]) (by rw [if_neg hdf])⟩; have k126 := clampI (x := m126 this) (by omega); rw [show Int32.toNatClampNeg (m126 this) = (Int32.toNatClampNeg ((G 160) p0)) + (Int32.toNatClampNeg ((G 161) p0)) by omega]; exact CWS_x h1 p98_0 p113_0
          have qq1 : id ((∀ z, z ≠ pv → c113_V0 z = (V 0) z)) := show (∀ z, z ≠ pv → c113_V0 z = (V 0) z) from by intro z hz; rw [p113_1 z hz, p98_1 z hz]
          have qq2 : id ((∀ z, z ≠ tv → m79 z = (V 6) z)) := show (∀ z, z ≠ tv → m79 z = (V 6) z) from by intro z hz; rw [em79, va_up_ne _ _ hz, em39, va_up_ne _ _ hz, em21, va_up_ne _ _ hz]
          exact pw_some ⟨qq0, qq1, qq2⟩
        · have c66 := z_ne c66
          have qq0 : id ((∀ o9 t9, CWS f ((V 0) pv) (Int32.toNatClampNeg ((G 126) this)) (Int32.toNatClampNeg ((G 127) this)) (Int32.toNatClampNeg ((G 160) p0)) ((G 128) this).toInt o9 → TYA ((V 6) tv) t9 → CWS f ((V 0) pv) (Int32.toNatClampNeg ((G 126) this)) (Int32.toNatClampNeg ((G 127) this)) ((Int32.toNatClampNeg ((G 160) p0)) + (Int32.toNatClampNeg ((G 161) p0))) ((G 128) this).toInt (wdT T (wdl f (Int32.toNatClampNeg ((G 160) p0)) (Int32.toNatClampNeg ((G 161) p0))) (o9, t9)).1 ∧ TYA (m39 tv) (wdT T (wdl f (Int32.toNatClampNeg ((G 160) p0)) (Int32.toNatClampNeg ((G 161) p0))) (o9, t9)).2)) := show (∀ o9 t9, CWS f ((V 0) pv) (Int32.toNatClampNeg ((G 126) this)) (Int32.toNatClampNeg ((G 127) this)) (Int32.toNatClampNeg ((G 160) p0)) ((G 128) this).toInt o9 → TYA ((V 6) tv) t9 → CWS f ((V 0) pv) (Int32.toNatClampNeg ((G 126) this)) (Int32.toNatClampNeg ((G 127) this)) ((Int32.toNatClampNeg ((G 160) p0)) + (Int32.toNatClampNeg ((G 161) p0))) ((G 128) this).toInt (wdT T (wdl f (Int32.toNatClampNeg ((G 160) p0)) (Int32.toNatClampNeg ((G 161) p0))) (o9, t9)).1 ∧ TYA (m39 tv) (wdT T (wdl f (Int32.toNatClampNeg ((G 160) p0)) (Int32.toNatClampNeg ((G 161) p0))) (o9, t9)).2) from by intro o9 t9 h1 h2; rw [hx1]; have hxw : (wdl ((V 0) l) 0 (Int32.toNatClampNeg ((V 1) s 0))) = wdl f (Int32.toNatClampNeg ((G 160) p0)) (Int32.toNatClampNeg ((G 161) p0)) := (by have h9 := (p63_0 (by omega)).2; rw [← h9, hlq]); have u0 : TYA (m21 tv) (upT t9 0 1) := TYA_up (k := 0) (a := 1) (x := 1) h2 (by omega) rfl (by rw [em21, va_up_self]; try rfl); have u2 : TYA (m39 tv) (upT (upT t9 0 1) 2 1) := TYA_up (k := 2) (a := 1) (x := 1) u0 (by omega) rfl (by rw [em39, va_up_self]; try rfl); refine ⟨?_, wdT_c (a := 1) (b := 0) u2 (by rw [if_neg (fun z => by have z9 := hx2.mp z; omega)]) (by rw [if_pos hxw])⟩; show CWS f _ _ _ _ _ (o9 ++ (wdl ((V 0) l) 0 (Int32.toNatClampNeg ((V 1) s 0)))); rw [hxw]; exact CWS_w h1 (Int32.toNatClampNeg ((G 161) p0))
          have qq1 : id ((∀ z, z ≠ pv → (V 0) z = (V 0) z)) := show (∀ z, z ≠ pv → (V 0) z = (V 0) z) from by intro _ _; rfl
          have qq2 : id ((∀ z, z ≠ tv → m39 z = (V 6) z)) := show (∀ z, z ≠ tv → m39 z = (V 6) z) from by intro z hz; rw [em39, va_up_ne _ _ hz, em21, va_up_ne _ _ hz]
          exact pw_some ⟨qq0, qq1, qq2⟩
      · have c50 := z_ne c50
        refine pw_j0 ej70 ?_
        have hdf : (wdl ((V 0) l) 0 (Int32.toNatClampNeg ((V 1) s 0))) ≠ wdl f (Int32.toNatClampNeg ((G 160) p0)) (Int32.toNatClampNeg ((G 161) p0)) := by intro z9; have z8 := congrArg List.length z9; rw [wdl_len, wdl_len] at z8; first | exact absurd (show ((V 1) s 0).toInt = ((G 161) p0).toInt from by omega) c50 | exact p63_1 (by omega) (by omega) (show ((G 160) p0).toInt + ((V 1) s 0).toInt ≤ ((ln tx : Nat) : Int) from by omega) (by rw [z9, hlq])
        refine pw_nne hn12 ?_
        refine pw_if (fun hb76 => ?_)
        obtain ⟨hbl76, hbr76⟩ := hb76
        refine pw_if (fun hb79 => ?_)
        obtain ⟨hbl79, hbr79⟩ := hb79
        refine pw_vl (fun m79 em79 => ?_)
        have hfr101 : ∀ z, ((la z < la this ∨ la this + 2 < la z)) → m79 z = (V 6) z := fr_up (e0 := (V 6)) hfr73 em79 (show ¬ ((la tv < la this ∨ la this + 2 < la tv)) from by omega)
        refine pw_nne hn1 ?_
        have b102 := hzG127 this
        have b103 := hzG160 p0
        have f105 : (((G 160) p0) - ((G 127) this)).toInt = ((G 160) p0).toInt - ((G 127) this).toInt := z_sub (by omega) (by omega)
        have hpr98_0 : (0 ≤ ((G 127) this).toInt ∧ 0 ≤ (((G 160) p0) - ((G 127) this)).toInt ∧ ((G 127) this).toInt + (((G 160) p0) - ((G 127) this)).toInt ≤ ((ln tx : Nat) : Int)) := by first | assumption | omega
        refine pw_b3 (fun c98_G126 c98_G128 c98_V0 hc98 => ?_)
        have hq98 := wp_at (ok_X6_append κ wd G P U (va_up (va_up (va_up V 6 m21) 6 m39) 6 m79) X O kd ln cnt this tx ((G 127) this) (((G 160) p0) - ((G 127) this)) hzG126 hzP121 hzLN hk_this hk_tx hpr98_0) hc98
        have hg106 : rng (0) 2500 c98_G126 := hq98
        clear hq98
        have hq98 := pwq (fr_X6_append la G P U (va_up (va_up (va_up V 6 m21) 6 m39) 6 m79) X O kd ln cnt this tx ((G 127) this) (((G 160) p0) - ((G 127) this)) hB) hc98
        obtain ⟨q98_G126, q98_G128, q98_V0⟩ : (∀ z, (la z < la this ∨ la this + 2 < la z) → c98_G126 z = (G 126) z) ∧ (∀ z, (la z < la this ∨ la this + 2 < la z) → c98_G128 z = (G 128) z) ∧ (∀ z, (la z < la this ∨ la this + 2 < la z) → c98_V0 z = (V 0) z) := hq98
        have tz98 : ∀ z, ((la z < la this ∨ la this + 2 < la z)) → ((la z < la this ∨ la this + 2 < la z)) := fun z hz => by omega
        have hfr107 : ∀ z, ((la z < la this ∨ la this + 2 < la z)) → c98_G126 z = (G 126) z := fun z hz => (q98_G126 z (tz98 z hz)).trans ((fun _ _ => rfl) z hz)
        have hfr108 : ∀ z, ((la z < la this ∨ la this + 2 < la z)) → c98_G128 z = (G 128) z := fun z hz => (q98_G128 z (tz98 z hz)).trans ((fun _ _ => rfl) z hz)
        have hfr109 : ∀ z, ((la z < la this ∨ la this + 2 < la z)) → c98_V0 z = (V 0) z := fun z hz => (q98_V0 z (tz98 z hz)).trans ((fun _ _ => rfl) z hz)
        have h898_h121 : (P 121) this = some pv := by exact h121
        have hx98 := pwq (fn_X6_append κ wd la G P U (va_up (va_up (va_up V 6 m21) 6 m39) 6 m79) X O kd ln cnt this tx ((G 127) this) (((G 160) p0) - ((G 127) this)) (pv) hzG126 hzP121 hzLN hk_this hk_tx hpr98_0 hB hlt_this lt_tx2 h898_h121) hc98
        obtain ⟨p98_0, p98_1⟩ : (APP ((V 0) pv) (c98_V0 pv) (Int32.toNatClampNeg ((G 126) this)) (Int32.toNatClampNeg (c98_G126 this)) ((G 128) this).toInt (c98_G128 this).toInt (wdl ((V 0) tx) (Int32.toNatClampNeg ((G 127) this)) (Int32.toNatClampNeg (((G 160) p0) - ((G 127) this))))) ∧ ((∀ z, z ≠ pv → c98_V0 z = (V 0) z)) := hx98
        clear h898_h121
        rw [hf] at p98_0
        have ksc := clampI (x := ((G 160) p0) - ((G 127) this)) (by omega)
        rw [show Int32.toNatClampNeg (((G 160) p0) - ((G 127) this)) = (Int32.toNatClampNeg ((G 160) p0)) - Int32.toNatClampNeg ((G 127) this) by omega] at p98_0
        refine pw_nne hn3 ?_
        have hrx := row0 (hzRA p1 _ _ hk_p1 hn3 hn5) (hzG200 p1).1
        refine pw_nne hn5 ?_
        refine pw_if (fun hb112 => ?_)
        obtain ⟨hbl112, hbr112⟩ := hb112
        have hpr113_0 : (0 ≤ (0 : Int32).toInt ∧ 0 ≤ (((V 1) s) (Int32.toNatClampNeg 0)).toInt ∧ (0 : Int32).toInt + (((V 1) s) (Int32.toNatClampNeg 0)).toInt ≤ ((ln l : Nat) : Int)) := by first | assumption | omega
        refine pw_b3 (fun c113_G126 c113_G128 c113_V0 hc113 => ?_)
        have hq113 := wp_at (ok_X6_append κ wd (va_up (va_up G 126 c98_G126) 128 c98_G128) P U (va_up (va_up (va_up (va_up V 6 m21) 6 m39) 6 m79) 0 c98_V0) X O kd ln cnt this l (0 : Int32) (((V 1) s) (Int32.toNatClampNeg 0)) hg106 hzP121 hzLN hk_this hk_l hpr113_0) hc113
        have hg112 : rng (0) 2500 c113_G126 := hq113
        clear hq113
        have hq113 := pwq (fr_X6_append la (va_up (va_up G 126 c98_G126) 128 c98_G128) P U (va_up (va_up (va_up (va_up V 6 m21) 6 m39) 6 m79) 0 c98_V0) X O kd ln cnt this l (0 : Int32) (((V 1) s) (Int32.toNatClampNeg 0)) hB) hc113
        obtain ⟨q113_G126, q113_G128, q113_V0⟩ : (∀ z, (la z < la this ∨ la this + 2 < la z) → c113_G126 z = c98_G126 z) ∧ (∀ z, (la z < la this ∨ la this + 2 < la z) → c113_G128 z = c98_G128 z) ∧ (∀ z, (la z < la this ∨ la this + 2 < la z) → c113_V0 z = c98_V0 z) := hq113
        have tz113 : ∀ z, ((la z < la this ∨ la this + 2 < la z)) → ((la z < la this ∨ la this + 2 < la z)) := fun z hz => by omega
        have hfr113 : ∀ z, ((la z < la this ∨ la this + 2 < la z)) → c113_G126 z = (G 126) z := fun z hz => (q113_G126 z (tz113 z hz)).trans (hfr107 z hz)
        have hfr114 : ∀ z, ((la z < la this ∨ la this + 2 < la z)) → c113_G128 z = (G 128) z := fun z hz => (q113_G128 z (tz113 z hz)).trans (hfr108 z hz)
        have hfr115 : ∀ z, ((la z < la this ∨ la this + 2 < la z)) → c113_V0 z = (V 0) z := fun z hz => (q113_V0 z (tz113 z hz)).trans (hfr109 z hz)
        have h8113_h121 : (P 121) this = some pv := by exact h121
        have hx113 := pwq (fn_X6_append κ wd la (va_up (va_up G 126 c98_G126) 128 c98_G128) P U (va_up (va_up (va_up (va_up V 6 m21) 6 m39) 6 m79) 0 c98_V0) X O kd ln cnt this l (0 : Int32) (((V 1) s) (Int32.toNatClampNeg 0)) (pv) hg106 hzP121 hzLN hk_this hk_l hpr113_0 hB hlt_this lt_l4 h8113_h121) hc113
        obtain ⟨p113_0, p113_1⟩ : (APP (c98_V0 pv) (c113_V0 pv) (Int32.toNatClampNeg (c98_G126 this)) (Int32.toNatClampNeg (c113_G126 this)) (c98_G128 this).toInt (c113_G128 this).toInt (wdl (c98_V0 l) (Int32.toNatClampNeg (0 : Int32)) (Int32.toNatClampNeg (((V 1) s) (Int32.toNatClampNeg 0))))) ∧ ((∀ z, z ≠ pv → c113_V0 z = c98_V0 z)) := hx113
        clear h8113_h121
        rw [p98_1 l hnl, show Int32.toNatClampNeg (0 : Int32) = 0 from rfl] at p113_0
        have f118 : (((G 160) p0) + ((G 161) p0)).toInt = ((G 160) p0).toInt + ((G 161) p0).toInt := z_add (by omega) (by omega)
        refine pw_vl (fun x126 ex126 => ?_)
        have f119 : x126.toInt = (((G 160) p0) + ((G 161) p0)).toInt := congrArg Int32.toInt ex126
        refine pw_vl (fun m126 em126 => ?_)
        have hfr120 : ∀ z, ((la z < la this ∨ la this + 2 < la z)) → m126 z = (G 127) z := fr_up (e0 := (G 127)) (fun _ _ => rfl) em126 (show ¬ ((la this < la this ∨ la this + 2 < la this)) from by omega)
        have hg121 : rng (0) 2000 m126 := by rw [em126]; exact rng_vup hzG127 (by omega) (by omega)
        have sm126 : (m126 this).toInt = x126.toInt := by rw [em126, va_up_self]
        have b122 := hg121 this
        have qq0 : id ((∀ o9 t9, CWS f ((V 0) pv) (Int32.toNatClampNeg ((G 126) this)) (Int32.toNatClampNeg ((G 127) this)) (Int32.toNatClampNeg ((G 160) p0)) ((G 128) this).toInt o9 → TYA ((V 6) tv) t9 → CWS f (c113_V0 pv) (Int32.toNatClampNeg (c113_G126 this)) (Int32.toNatClampNeg (m126 this)) ((Int32.toNatClampNeg ((G 160) p0)) + (Int32.toNatClampNeg ((G 161) p0))) (c113_G128 this).toInt (wdT T (wdl f (Int32.toNatClampNeg ((G 160) p0)) (Int32.toNatClampNeg ((G 161) p0))) (o9, t9)).1 ∧ TYA (m79 tv) (wdT T (wdl f (Int32.toNatClampNeg ((G 160) p0)) (Int32.toNatClampNeg ((G 161) p0))) (o9, t9)).2)) := show (∀ o9 t9, CWS f ((V 0) pv) (Int32.toNatClampNeg ((G 126) this)) (Int32.toNatClampNeg ((G 127) this)) (Int32.toNatClampNeg ((G 160) p0)) ((G 128) this).toInt o9 → TYA ((V 6) tv) t9 → CWS f (c113_V0 pv) (Int32.toNatClampNeg (c113_G126 this)) (Int32.toNatClampNeg (m126 this)) ((Int32.toNatClampNeg ((G 160) p0)) + (Int32.toNatClampNeg ((G 161) p0))) (c113_G128 this).toInt (wdT T (wdl f (Int32.toNatClampNeg ((G 160) p0)) (Int32.toNatClampNeg ((G 161) p0))) (o9, t9)).1 ∧ TYA (m79 tv) (wdT T (wdl f (Int32.toNatClampNeg ((G 160) p0)) (Int32.toNatClampNeg ((G 161) p0))) (o9, t9)).2) from by intro o9 t9 h1 h2; rw [hx1]; have u0 : TYA (m21 tv) (upT t9 0 1) := TYA_up (k := 0) (a := 1) (x := 1) h2 (by omega) rfl (by rw [em21, va_up_self]; try rfl); have u2 : TYA (m39 tv) (upT (upT t9 0 1) 2 1) := TYA_up (k := 2) (a := 1) (x := 1) u0 (by omega) rfl (by rw [em39, va_up_self]; try rfl); have u1 : TYA (m79 tv) (upT (upT (upT t9 0 1) 2 1) 1 1) := TYA_up (k := 1) (a := 1) (x := 1) u2 (by omega) rfl (by rw [em79, va_up_self]; try rfl); refine ⟨?_, wdT_c (a := 1) (b := 1) u1 (by rw [if_neg (fun z => by have z9 := hx2.mp z; omega)]) (by rw [if_neg hdf])⟩; have k126 := clampI (x := m126 this) (by omega); rw [show Int32.toNatClampNeg (m126 this) = (Int32.toNatClampNeg ((G 160) p0)) + (Int32.toNatClampNeg ((G 161) p0)) by omega]; exact CWS_x h1 p98_0 p113_0
        have qq1 : id ((∀ z, z ≠ pv → c113_V0 z = (V 0) z)) := show (∀ z, z ≠ pv → c113_V0 z = (V 0) z) from by intro z hz; rw [p113_1 z hz, p98_1 z hz]
        have qq2 : id ((∀ z, z ≠ tv → m79 z = (V 6) z)) := show (∀ z, z ≠ tv → m79 z = (V 6) z) from by intro z hz; rw [em79, va_up_ne _ _ hz, em39, va_up_ne _ _ hz, em21, va_up_ne _ _ hz]
        exact pw_some ⟨qq0, qq1, qq2⟩
