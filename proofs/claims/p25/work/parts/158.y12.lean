abbrev QF_X10_add2 (κ : Nat → Nat) (wd : Nat) (la : Nat → Nat) (G : Nat → Nat → Int32) (P : Nat → Nat → Option Nat) (U : Nat → Nat → Int64) (V : Nat → Nat → Nat → Int32) (X : Nat → Nat → Nat → Int64) (O : Nat → Nat → Nat → Option Nat) (kd : Nat → Nat) (ln : Nat → Nat) (cnt : Nat) (this : Nat) (p0 : Nat) (p1 : Int32) (p2 : Int32) (l : Nat) (s : Nat) (w : Nat) : ((Nat → Int32) × (Nat → Nat → Int32) × (Nat → Nat → Int32)) → Prop := (fun t => (rwW ((t.1) this) ((t.2.1) l) ((t.2.2) s) w = (if ((G 203) this).toInt < ((ln s : Nat) : Int) then rwW ((G 203) this) ((V 0) l) ((V 1) s) w ++ [wdl ((V 0) p0) (Int32.toNatClampNeg p1) (Int32.toNatClampNeg p2)] else rwW ((G 203) this) ((V 0) l) ((V 1) s) w)) ∧ ((∀ z, z ≠ l → (t.2.1) z = (V 0) z)) ∧ ((∀ z, z ≠ s → (t.2.2) z = (V 1) z)) ∧ ((∀ z, z ≠ this → (t.1) z = (G 203) z)))
set_option maxHeartbeats 4000000 in
set_option maxRecDepth 100000 in
theorem fn_X10_add2 (κ : Nat → Nat) (wd : Nat) (la : Nat → Nat) (G : Nat → Nat → Int32) (P : Nat → Nat → Option Nat) (U : Nat → Nat → Int64) (V : Nat → Nat → Nat → Int32) (X : Nat → Nat → Nat → Int64) (O : Nat → Nat → Nat → Option Nat) (kd : Nat → Nat) (ln : Nat → Nat) (cnt : Nat) (this : Nat) (p0 : Nat) (p1 : Int32) (p2 : Int32) (l : Nat) (s : Nat) (w : Nat) (hzG200 : rng (0) 24 (G 200)) (hzG203 : rng (0) 100 (G 203)) (hzP201 : PB κ ln wd 11 100 0 2400 0 (P 201)) (hzP202 : PB κ ln wd 11 101 0 100 0 (P 202)) (hzV1 : rng2 (0) 24 (V 1)) (hzRA : RA κ ln (G 200) (P 201) (P 202)) (hzRB : RB κ ln (G 200) (G 203) (P 202) (V 1)) (hzRI : RI (P 202)) (hzLN : LN κ ln) (hk_this : κ this = 11) (hk_p0 : κ p0 = 100) (hB : LB la cnt P) (hlt_this : this < cnt) (hlt_p0 : p0 < cnt) (hl : (P 201) this = some l) (hs : (P 202) this = some s) (hw : ((G 200) this).toInt = (w : Int)) (hst : 0 ≤ p1.toInt) (hm : 0 ≤ p2.toInt) (hmw : p2.toInt ≤ (w : Int)) (hlf : p1.toInt + p2.toInt ≤ ((ln p0 : Nat) : Int)) (hw24 : w ≤ 24) : pw (f_X10_add G P U V X O kd ln cnt this p0 p1 p2) (QF_X10_add2 κ wd la G P U V X O kd ln cnt this p0 p1 p2 l s w) := by
  unfold f_X10_add
  have zk0 : (0 : Int32).toInt = 0 := by decide +kernel
  have zk1 : (1 : Int32).toInt = 1 := by decide +kernel
  have r_p1 := i32r p1
  have r_p2 := i32r p2
  have hn1 : (P 201) this = some l := hl
  have lt_l2 := ((hB.1 201 fl_201) this l hn1).2.1
  have lb_l2 : la l = la this + 0 := lk_201.mp ((hB.1 201 fl_201) this l hn1).2.2
  have hk_l := ((hzP201 this).2 l hn1).1
  have hl1_l := ((hzP201 this).2 l hn1).2.1
  have hl2_l := ((hzP201 this).2 l hn1).2.2.1
  have hw_l := ((hzP201 this).2 l hn1).2.2.2
  have hz_l : (Int32.ofNat (ln l)).toInt = ((ln l : Nat) : Int) := ofN_eq (by first | exact Nat.le_trans hl2_l (by decide) | omega)
  have hn3 : (P 202) this = some s := hs
  have lt_s4 := ((hB.1 202 fl_202) this s hn3).2.1
  have lb_s4 : la s = la this + 0 := lk_202.mp ((hB.1 202 fl_202) this s hn3).2.2
  have hk_s := ((hzP202 this).2 s hn3).1
  have hl1_s := ((hzP202 this).2 s hn3).2.1
  have hl2_s := ((hzP202 this).2 s hn3).2.2.1
  have hw_s := ((hzP202 this).2 s hn3).2.2.2
  have hz_s : (Int32.ofNat (ln s)).toInt = ((ln s : Nat) : Int) := ofN_eq (by first | exact Nat.le_trans hl2_s (by decide) | omega)
  have rb5 := (hzRB this s hk_this hn3).1
  have ra6 := hzRA this l s hk_this hn1 hn3
  have bw7 := hzG200 this
  have hra := hzRA this l s hk_this hl hs
  have hrb := hzRB this s hk_this hs
  have hb203 := hzG203 this
  obtain ⟨hm1, hm2, hm3⟩ := mulW (x := (G 203) this) (g := (G 200) this) (w := w) (by omega) hw hw24
  have cp1 := clampI hst
  have cp2 := clampI hm
  refine pw_b1 (fun r1 hc1 => ?_)
  have hq1 := wp_at (ok_X10_isFull κ wd G P U V X O kd ln cnt this hzG200 hzG203 hzP201 hzP202 hzV1 hzRA hzRB hzRI hzLN hk_this) hc1
  obtain ⟨f8, f9⟩ : ((0 ≤ r1.toInt ∧ r1.toInt ≤ 1)) ∧ (id ((∀ s, (P 202) this = some s → r1.toInt = 0 → ((G 203) this).toInt < ((ln s : Nat) : Int)))) := hq1
  have hx1 := pwq (fn_X10_isFull κ wd la G P U V X O kd ln cnt this hzG200 hzG203 hzP201 hzP202 hzV1 hzRA hzRB hzRI hzLN hk_this hB hlt_this) hc1
  obtain ⟨p1_0, p1_1⟩ : (id ((r1.toInt ≠ 0 → ∀ s, (P 202) this = some s → ((ln s : Nat) : Int) ≤ ((G 203) this).toInt))) ∧ (id ((r1.toInt = 0 → ∀ s, (P 202) this = some s → ((G 203) this).toInt < ((ln s : Nat) : Int)))) := hx1
  have hful := p1_0
  have hfree := p1_1
  refine pw_jE (fun j31 ej31 => ?_)
  refine pw_ite (fun c4 => ?_) (fun c4 => ?_)
  · have c4 := congrArg Int32.toInt c4
    refine pw_ite (fun c8 => ?_) (fun c8 => ?_)
    · have c8 := (z_lt _ _).mp c8
      exfalso; omega
    · have c8 := z_nlt c8
      have b10 := hzG200 this
      refine pw_ite (fun c16 => ?_) (fun c16 => ?_)
      · have c16 := (z_lt _ _).mp c16
        exfalso; omega
      · have c16 := z_nlt c16
        refine pw_ite (fun c20 => ?_) (fun c20 => ?_)
        · have c20 := (z_lt _ _).mp c20
          exfalso; omega
        · have c20 := z_nlt c20
          have hz_p0 : (Int32.ofNat (ln p0)).toInt = ((ln p0 : Nat) : Int) := ofN_eq (hzLN p0 (by rw [hk_p0]; decide))
          have hzb_p0 := hzLN p0 (by rw [hk_p0]; decide)
          have f11 : ((Int32.ofNat (ln p0)) - p1).toInt = (Int32.ofNat (ln p0)).toInt - p1.toInt := z_sub (by omega) (by omega)
          refine pw_ite (fun c28 => ?_) (fun c28 => ?_)
          · have c28 := (z_le _ _).mp c28
            refine pw_nne hn1 ?_
            have b12 := hzG203 this
            have f17 := zmw (x := ((G 203) this)) (y := ((G 200) this)) (by omega) (by omega) (by omega) (by omega)
            have ix18 := rowix (x := ((G 203) this)) (hzRA this l s hk_this hn1 hn3) (hzG200 this).1
            refine pw_if (fun hb48 => ?_)
            obtain ⟨hb48_1, hb48_2, hb48_3, hb48_4, hb48_5⟩ := hb48
            refine pw_vl (fun m48 em48 => ?_)
            have hfr19 : ∀ z, ((la z < la this ∨ la this < la z)) → m48 z = (V 0) z := fr_up (e0 := (V 0)) (fun _ _ => rfl) em48 (show ¬ ((la l < la this ∨ la this < la l)) from by omega)
            refine pw_nne hn3 ?_
            refine pw_if (fun hb60 => ?_)
            obtain ⟨hbl60, hbr60⟩ := hb60
            refine pw_vl (fun m60 em60 => ?_)
            have hfr24 : ∀ z, ((la z < la this ∨ la this < la z)) → m60 z = (V 1) z := fr_up (e0 := (V 1)) (fun _ _ => rfl) em60 (show ¬ ((la s < la this ∨ la this < la s)) from by omega)
            have hv25 : rng2 (0) 24 m60 := by rw [em60]; exact rng2_up hzV1 (by omega) (by omega)
            have hRB26 : RB κ ln (G 200) (G 203) (P 202) m60 := by rw [em60]; exact RB_len hzRB hzRI hn3 (by omega)
            have f31 : (((G 203) this) + 1).toInt = ((G 203) this).toInt + 1 := z_addc (by decide +kernel) (by omega) (by omega)
            refine pw_vl (fun x68 ex68 => ?_)
            have f32 : x68.toInt = (((G 203) this) + 1).toInt := congrArg Int32.toInt ex68
            refine pw_vl (fun m68 em68 => ?_)
            have hfr33 : ∀ z, ((la z < la this ∨ la this < la z)) → m68 z = (G 203) z := fr_up (e0 := (G 203)) (fun _ _ => rfl) em68 (show ¬ ((la this < la this ∨ la this < la this)) from by omega)
            have hg34 : rng (0) 100 m68 := by rw [em68]; exact rng_vup hzG203 (by omega) (by omega)
            have sm68 : (m68 this).toInt = x68.toInt := by rw [em68, va_up_self]
            have b35 := hg34 this
            have hRB36 : RB κ ln (G 200) m68 (P 202) m60 := by rw [em68]; exact RB_cnt hRB26 (fun s9 hs9 => by obtain rfl : s = s9 := Option.some.inj (hn3.symm.trans hs9); omega)
            have qq0 : rwW (m68 this) (m48 l) (m60 s) w = (if ((G 203) this).toInt < ((ln s : Nat) : Int) then rwW ((G 203) this) ((V 0) l) ((V 1) s) w ++ [wdl ((V 0) p0) (Int32.toNatClampNeg p1) (Int32.toNatClampNeg p2)] else rwW ((G 203) this) ((V 0) l) ((V 1) s) w) := by have h9 := hfree (by omega) s hs; rw [if_pos h9]; exact rw_add (st := Int32.toNatClampNeg p1) (m := Int32.toNatClampNeg p2) (len := p2) (cw := (G 203) this * (G 200) this) (by rw [em48, va_up_self]; rfl) (by rw [em60, va_up_self]; rfl) (by omega) (by omega) (by omega) (by rw [hm2, hw]) (fun i hi => ⟨(hzV1 s i).1, by have := hrb.2 i; omega⟩) (by omega)
            have qq1 : id ((∀ z, z ≠ l → m48 z = (V 0) z)) := show (∀ z, z ≠ l → m48 z = (V 0) z) from by intro z hz; rw [em48, va_up_ne _ _ hz]
            have qq2 : id ((∀ z, z ≠ s → m60 z = (V 1) z)) := show (∀ z, z ≠ s → m60 z = (V 1) z) from by intro z hz; rw [em60, va_up_ne _ _ hz]
            have qq3 : id ((∀ z, z ≠ this → m68 z = (G 203) z)) := show (∀ z, z ≠ this → m68 z = (G 203) z) from by intro z hz; rw [em68, va_up_ne _ _ hz]
            exact pw_some ⟨qq0, qq1, qq2, qq3⟩
          · have c28 := z_nle c28
            exfalso; omega
  · have c4 : r1.toInt = 1 := by have z9 := z_ne c4; omega
    refine pw_j0 ej31 ?_
    have qq0 : rwW ((G 203) this) ((V 0) l) ((V 1) s) w = (if ((G 203) this).toInt < ((ln s : Nat) : Int) then rwW ((G 203) this) ((V 0) l) ((V 1) s) w ++ [wdl ((V 0) p0) (Int32.toNatClampNeg p1) (Int32.toNatClampNeg p2)] else rwW ((G 203) this) ((V 0) l) ((V 1) s) w) := by rw [if_neg (by have h9 := hful (by omega) s hs; omega)]
    have qq1 : id ((∀ z, z ≠ l → (V 0) z = (V 0) z)) := show (∀ z, z ≠ l → (V 0) z = (V 0) z) from by exact fun _ _ => rfl
    have qq2 : id ((∀ z, z ≠ s → (V 1) z = (V 1) z)) := show (∀ z, z ≠ s → (V 1) z = (V 1) z) from by exact fun _ _ => rfl
    have qq3 : id ((∀ z, z ≠ this → (G 203) z = (G 203) z)) := show (∀ z, z ≠ this → (G 203) z = (G 203) z) from by exact fun _ _ => rfl
    exact pw_some ⟨qq0, qq1, qq2, qq3⟩
abbrev QF_X10_addForm (κ : Nat → Nat) (wd : Nat) (la : Nat → Nat) (G : Nat → Nat → Int32) (P : Nat → Nat → Option Nat) (U : Nat → Nat → Int64) (V : Nat → Nat → Nat → Int32) (X : Nat → Nat → Nat → Int64) (O : Nat → Nat → Nat → Option Nat) (kd : Nat → Nat) (ln : Nat → Nat) (cnt : Nat) (this : Nat) (p0 : Nat) (p1 : Int32) (p2 : Int32) (l : Nat) (s : Nat) (w : Nat) (ws : List Wd) : ((Nat → Int32) × (Nat → Nat → Int32) × (Nat → Nat → Int32)) → Prop := (fun t => (rwW ((t.1) this) ((t.2.1) l) ((t.2.2) s) w = (gdF (some (wdl ((V 0) p0) (Int32.toNatClampNeg p1) (Int32.toNatClampNeg p2)))).foldl (addF (ln s)) ws) ∧ ((∀ z, z ≠ l → (t.2.1) z = (V 0) z)) ∧ ((∀ z, z ≠ s → (t.2.2) z = (V 1) z)) ∧ ((∀ z, z ≠ this → (t.1) z = (G 203) z)))
set_option maxHeartbeats 4000000 in
set_option maxRecDepth 100000 in
theorem fn_X10_addForm (κ : Nat → Nat) (wd : Nat) (la : Nat → Nat) (G : Nat → Nat → Int32) (P : Nat → Nat → Option Nat) (U : Nat → Nat → Int64) (V : Nat → Nat → Nat → Int32) (X : Nat → Nat → Nat → Int64) (O : Nat → Nat → Nat → Option Nat) (kd : Nat → Nat) (ln : Nat → Nat) (cnt : Nat) (this : Nat) (p0 : Nat) (p1 : Int32) (p2 : Int32) (l : Nat) (s : Nat) (w : Nat) (ws : List Wd) (hzG200 : rng (0) 24 (G 200)) (hzG203 : rng (0) 100 (G 203)) (hzP201 : PB κ ln wd 11 100 0 2400 0 (P 201)) (hzP202 : PB κ ln wd 11 101 0 100 0 (P 202)) (hzV1 : rng2 (0) 24 (V 1)) (hzRA : RA κ ln (G 200) (P 201) (P 202)) (hzRB : RB κ ln (G 200) (G 203) (P 202) (V 1)) (hzRI : RI (P 202)) (hzLN : LN κ ln) (hk_this : κ this = 11) (hk_p0 : κ p0 = 100) (hB : LB la cnt P) (hlt_this : this < cnt) (hlt_p0 : p0 < cnt) (hl : (P 201) this = some l) (hs : (P 202) this = some s) (hw : ((G 200) this).toInt = (w : Int)) (hws : rwW ((G 203) this) ((V 0) l) ((V 1) s) w = ws) (hst : 0 ≤ p1.toInt) (hm : 0 ≤ p2.toInt) (hmw : p2.toInt ≤ (w : Int)) (hlf : p1.toInt + p2.toInt ≤ ((ln p0 : Nat) : Int)) (hw24 : w ≤ 24) : pw (f_X10_addForm G P U V X O kd ln cnt this p0 p1 p2) (QF_X10_addForm κ wd la G P U V X O kd ln cnt this p0 p1 p2 l s w ws) := by
  unfold f_X10_addForm
  have zkm1 : (-1 : Int32).toInt = -1 := by decide +kernel
  have zk0 : (0 : Int32).toInt = 0 := by decide +kernel
  have r_p1 := i32r p1
  have r_p2 := i32r p2
  have hn1 : (P 201) this = some l := hl
  have lt_l2 := ((hB.1 201 fl_201) this l hn1).2.1
  have lb_l2 : la l = la this + 0 := lk_201.mp ((hB.1 201 fl_201) this l hn1).2.2
  have hk_l := ((hzP201 this).2 l hn1).1
  have hl1_l := ((hzP201 this).2 l hn1).2.1
  have hl2_l := ((hzP201 this).2 l hn1).2.2.1
  have hw_l := ((hzP201 this).2 l hn1).2.2.2
  have hz_l : (Int32.ofNat (ln l)).toInt = ((ln l : Nat) : Int) := ofN_eq (by first | exact Nat.le_trans hl2_l (by decide) | omega)
  have hn3 : (P 202) this = some s := hs
  have lt_s4 := ((hB.1 202 fl_202) this s hn3).2.1
  have lb_s4 : la s = la this + 0 := lk_202.mp ((hB.1 202 fl_202) this s hn3).2.2
  have hk_s := ((hzP202 this).2 s hn3).1
  have hl1_s := ((hzP202 this).2 s hn3).2.1
  have hl2_s := ((hzP202 this).2 s hn3).2.2.1
  have hw_s := ((hzP202 this).2 s hn3).2.2.2
  have hz_s : (Int32.ofNat (ln s)).toInt = ((ln s : Nat) : Int) := ofN_eq (by first | exact Nat.le_trans hl2_s (by decide) | omega)
  have rb5 := (hzRB this s hk_this hn3).1
  have ra6 := hzRA this l s hk_this hn1 hn3
  have bw7 := hzG200 this
  have hb203 := hzG203 this
  have c203 := clampI (x := (G 203) this) (by omega)
  have hwl : ws.length = Int32.toNatClampNeg ((G 203) this) := by rw [← hws]; exact rw_len
  have cp2 := clampI hm
  refine pw_jE (fun j22 ej22 => ?_)
  refine pw_ite (fun c1 => ?_) (fun c1 => ?_)
  · have c1 := (z_le _ _).mp c1
    refine pw_j3 ej22 (fun z22_0 ez22_0 z22_1 ez22_1 z22_2 ez22_2 => ?_)
    subst ez22_0 ez22_1 ez22_2
    have qq0 : rwW ((G 203) this) ((V 0) l) ((V 1) s) w = (gdF (some (wdl ((V 0) p0) (Int32.toNatClampNeg p1) (Int32.toNatClampNeg p2)))).foldl (addF (ln s)) ws := by rw [gd_0 (by rw [wdl_len]; omega)]; exact hws
    have qq1 : id ((∀ z, z ≠ l → (V 0) z = (V 0) z)) := show (∀ z, z ≠ l → (V 0) z = (V 0) z) from by exact fun _ _ => rfl
    have qq2 : id ((∀ z, z ≠ s → (V 1) z = (V 1) z)) := show (∀ z, z ≠ s → (V 1) z = (V 1) z) from by exact fun _ _ => rfl
    have qq3 : id ((∀ z, z ≠ this → (G 203) z = (G 203) z)) := show (∀ z, z ≠ this → (G 203) z = (G 203) z) from by exact fun _ _ => rfl
    exact pw_some ⟨qq0, qq1, qq2, qq3⟩
  · have c1 := z_nle c1
    refine pw_b1 (fun r8 hc8 => ?_)
    have hq8 := wp_at (ok_X10_find κ wd G P U V X O kd ln cnt this p0 p1 p2 hzG200 hzG203 hzP201 hzP202 hzV1 hzRA hzRB hzRI hzLN hk_this hk_p0) hc8
    obtain ⟨f8, f9⟩ : (((-1) ≤ r8.toInt ∧ r8.toInt < 100)) ∧ ((r8.toInt = -1 ∨ r8.toInt < ((G 203) this).toInt)) := hq8
    have h88_hl : (P 201) this = some l := by first | assumption | omega
    have h88_hs : (P 202) this = some s := by first | assumption | omega
    have h88_hw : ((G 200) this).toInt = (w : Int) := by first | assumption | omega
    have h88_hws : rwW ((G 203) this) ((V 0) l) ((V 1) s) w = ws := by first | assumption | omega
    have h88_hst : 0 ≤ p1.toInt := by first | assumption | omega
    have h88_hm : 0 ≤ p2.toInt := by first | assumption | omega
    have h88_hlf : p1.toInt + p2.toInt ≤ ((ln p0 : Nat) : Int) := by first | assumption | omega
    have hx8 := pwq (fn_X10_find κ wd la G P U V X O kd ln cnt this p0 p1 p2 (l) (s) (w) (ws) hzG200 hzG203 hzP201 hzP202 hzV1 hzRA hzRB hzRI hzLN hk_this hk_p0 hB hlt_this hlt_p0 h88_hl h88_hs h88_hw h88_hws h88_hst h88_hm h88_hlf) hc8
    have p8_0 : FIX ws (wdl ((V 0) p0) (Int32.toNatClampNeg p1) (Int32.toNatClampNeg p2)) r8.toInt := hx8
    clear hx8
    refine pw_ite (fun c12 => ?_) (fun c12 => ?_)
    · have c12 := congrArg Int32.toInt c12
      refine pw_b3 (fun c19_G203 c19_V0 c19_V1 hc19 => ?_)
      have hq19 := wp_at (ok_X10_add κ wd G P U V X O kd ln cnt this p0 p1 p2 hzG200 hzG203 hzP201 hzP202 hzV1 hzRA hzRB hzRI hzLN hk_this hk_p0) hc19
      obtain ⟨hg10, hg11, hRB12, f13, f14⟩ : (rng (0) 100 c19_G203) ∧ (rng2 (0) 24 c19_V1) ∧ (RB κ ln (G 200) c19_G203 (P 202) c19_V1) ∧ (id ((this ≠ wd → c19_G203 wd = (G 203) wd))) ∧ (((G 203) this).toInt ≤ (c19_G203 this).toInt) := hq19
      have hq19 := pwq (fr_X10_add la G P U V X O kd ln cnt this p0 p1 p2 hB) hc19
      obtain ⟨q19_G203, q19_V0, q19_V1⟩ : (∀ z, (la z < la this ∨ la this < la z) → c19_G203 z = (G 203) z) ∧ (∀ z, (la z < la this ∨ la this < la z) → c19_V0 z = (V 0) z) ∧ (∀ z, (la z < la this ∨ la this < la z) → c19_V1 z = (V 1) z) := hq19
      have tz19 : ∀ z, ((la z < la this ∨ la this < la z)) → ((la z < la this ∨ la this < la z)) := fun z hz => by omega
      have hfr15 : ∀ z, ((la z < la this ∨ la this < la z)) → c19_G203 z = (G 203) z := fun z hz => (q19_G203 z (tz19 z hz)).trans ((fun _ _ => rfl) z hz)
      have hfr16 : ∀ z, ((la z < la this ∨ la this < la z)) → c19_V0 z = (V 0) z := fun z hz => (q19_V0 z (tz19 z hz)).trans ((fun _ _ => rfl) z hz)
      have hfr17 : ∀ z, ((la z < la this ∨ la this < la z)) → c19_V1 z = (V 1) z := fun z hz => (q19_V1 z (tz19 z hz)).trans ((fun _ _ => rfl) z hz)
      have h819_hl : (P 201) this = some l := by first | assumption | omega
      have h819_hs : (P 202) this = some s := by first | assumption | omega
      have h819_hw : ((G 200) this).toInt = (w : Int) := by first | assumption | omega
      have h819_hst : 0 ≤ p1.toInt := by first | assumption | omega
      have h819_hm : 0 ≤ p2.toInt := by first | assumption | omega
      have h819_hmw : p2.toInt ≤ (w : Int) := by first | assumption | omega
      have h819_hlf : p1.toInt + p2.toInt ≤ ((ln p0 : Nat) : Int) := by first | assumption | omega
      have h819_hw24 : w ≤ 24 := by first | assumption | omega
      have hx19 := pwq (fn_X10_add2 κ wd la G P U V X O kd ln cnt this p0 p1 p2 (l) (s) (w) hzG200 hzG203 hzP201 hzP202 hzV1 hzRA hzRB hzRI hzLN hk_this hk_p0 hB hlt_this hlt_p0 h819_hl h819_hs h819_hw h819_hst h819_hm h819_hmw h819_hlf h819_hw24) hc19
      obtain ⟨p19_0, p19_1, p19_2, p19_3⟩ : (rwW (c19_G203 this) (c19_V0 l) (c19_V1 s) w = (if ((G 203) this).toInt < ((ln s : Nat) : Int) then rwW ((G 203) this) ((V 0) l) ((V 1) s) w ++ [wdl ((V 0) p0) (Int32.toNatClampNeg p1) (Int32.toNatClampNeg p2)] else rwW ((G 203) this) ((V 0) l) ((V 1) s) w)) ∧ (id ((∀ z, z ≠ l → c19_V0 z = (V 0) z))) ∧ (id ((∀ z, z ≠ s → c19_V1 z = (V 1) z))) ∧ (id ((∀ z, z ≠ this → c19_G203 z = (G 203) z))) := hx19
      refine pw_j3 ej22 (fun z22_0 ez22_0 z22_1 ez22_1 z22_2 ez22_2 => ?_)
      subst ez22_0 ez22_1 ez22_2
      have qq0 : rwW (c19_G203 this) (c19_V0 l) (c19_V1 s) w = (gdF (some (wdl ((V 0) p0) (Int32.toNatClampNeg p1) (Int32.toNatClampNeg p2)))).foldl (addF (ln s)) ws := by rw [gd_1 (by rw [wdl_len]; omega)]; rw [p19_0]; by_cases q9 : ((G 203) this).toInt < ((ln s : Nat) : Int); (rw [if_pos q9, hws, addF_new (p8_0.1 (by omega)) (by omega)]); (rw [if_neg q9, hws, addF_full (by omega)])
      have qq1 : id ((∀ z, z ≠ l → c19_V0 z = (V 0) z)) := show (∀ z, z ≠ l → c19_V0 z = (V 0) z) from by exact p19_1
      have qq2 : id ((∀ z, z ≠ s → c19_V1 z = (V 1) z)) := show (∀ z, z ≠ s → c19_V1 z = (V 1) z) from by exact p19_2
      have qq3 : id ((∀ z, z ≠ this → c19_G203 z = (G 203) z)) := show (∀ z, z ≠ this → c19_G203 z = (G 203) z) from by exact p19_3
      exact pw_some ⟨qq0, qq1, qq2, qq3⟩
    · have c12 := z_ne c12
      refine pw_j3 ej22 (fun z22_0 ez22_0 z22_1 ez22_1 z22_2 ez22_2 => ?_)
      subst ez22_0 ez22_1 ez22_2
      have qq0 : rwW ((G 203) this) ((V 0) l) ((V 1) s) w = (gdF (some (wdl ((V 0) p0) (Int32.toNatClampNeg p1) (Int32.toNatClampNeg p2)))).foldl (addF (ln s)) ws := by rw [gd_1 (by rw [wdl_len]; omega)]; rw [addF_in (List.mem_of_getElem? (p8_0.2 (by omega)).2.1)]; exact hws
      have qq1 : id ((∀ z, z ≠ l → (V 0) z = (V 0) z)) := show (∀ z, z ≠ l → (V 0) z = (V 0) z) from by exact fun _ _ => rfl
      have qq2 : id ((∀ z, z ≠ s → (V 1) z = (V 1) z)) := show (∀ z, z ≠ s → (V 1) z = (V 1) z) from by exact fun _ _ => rfl
      have qq3 : id ((∀ z, z ≠ this → (G 203) z = (G 203) z)) := show (∀ z, z ≠ this → (G 203) z = (G 203) z) from by exact fun _ _ => rfl
      exact pw_some ⟨qq0, qq1, qq2, qq3⟩
abbrev QF_X10_copy (κ : Nat → Nat) (wd : Nat) (la : Nat → Nat) (G : Nat → Nat → Int32) (P : Nat → Nat → Option Nat) (U : Nat → Nat → Int64) (V : Nat → Nat → Nat → Int32) (X : Nat → Nat → Nat → Int64) (O : Nat → Nat → Nat → Option Nat) (kd : Nat → Nat) (ln : Nat → Nat) (cnt : Nat) (this : Nat) (p0 : Nat) (l : Nat) (s : Nat) (lo : Nat) (so : Nat) (ws : List Wd) : ((Nat → Int32) × (Nat → Nat → Int32) × (Nat → Nat → Int32)) → Prop := (fun t => (rwW ((t.1) this) ((t.2.1) l) ((t.2.2) s) 24 = ws))
set_option maxHeartbeats 4000000 in
set_option maxRecDepth 100000 in
theorem fn_X10_copy (κ : Nat → Nat) (wd : Nat) (la : Nat → Nat) (G : Nat → Nat → Int32) (P : Nat → Nat → Option Nat) (U : Nat → Nat → Int64) (V : Nat → Nat → Nat → Int32) (X : Nat → Nat → Nat → Int64) (O : Nat → Nat → Nat → Option Nat) (kd : Nat → Nat) (ln : Nat → Nat) (cnt : Nat) (this : Nat) (p0 : Nat) (l : Nat) (s : Nat) (lo : Nat) (so : Nat) (ws : List Wd) (hzG200 : rng (0) 24 (G 200)) (hzG203 : rng (0) 100 (G 203)) (hzP201 : PB κ ln wd 11 100 0 2400 0 (P 201)) (hzP202 : PB κ ln wd 11 101 0 100 0 (P 202)) (hzV1 : rng2 (0) 24 (V 1)) (hzRA : RA κ ln (G 200) (P 201) (P 202)) (hzRB : RB κ ln (G 200) (G 203) (P 202) (V 1)) (hzRI : RI (P 202)) (hzLN : LN κ ln) (hk_this : κ this = 11) (hk_p0 : κ p0 = 11) (hB : LB la cnt P) (hlt_this : this < cnt) (hlt_p0 : p0 < cnt) (hl : (P 201) this = some l) (hs : (P 202) this = some s) (hw : ((G 200) this).toInt = ((24 : Nat) : Int)) (hlo : (P 201) p0 = some lo) (hso : (P 202) p0 = some so) (hwo : ((G 200) p0).toInt = ((24 : Nat) : Int)) (hws : rwW ((G 203) p0) ((V 0) lo) ((V 1) so) 24 = ws) (hcap : ((G 203) p0).toInt ≤ ((ln s : Nat) : Int)) (hne : la this ≠ la p0) : pw (f_X10_copy G P U V X O kd ln cnt this p0) (QF_X10_copy κ wd la G P U V X O kd ln cnt this p0 l s lo so ws) := by
  unfold f_X10_copy
  have zk0 : (0 : Int32).toInt = 0 := by decide +kernel
  have hn1 : (P 201) this = some l := hl
  have lt_l2 := ((hB.1 201 fl_201) this l hn1).2.1
  have lb_l2 : la l = la this + 0 := lk_201.mp ((hB.1 201 fl_201) this l hn1).2.2
  have hk_l := ((hzP201 this).2 l hn1).1
  have hl1_l := ((hzP201 this).2 l hn1).2.1
  have hl2_l := ((hzP201 this).2 l hn1).2.2.1
  have hw_l := ((hzP201 this).2 l hn1).2.2.2
  have hz_l : (Int32.ofNat (ln l)).toInt = ((ln l : Nat) : Int) := ofN_eq (by first | exact Nat.le_trans hl2_l (by decide) | omega)
  have hn3 : (P 202) this = some s := hs
  have lt_s4 := ((hB.1 202 fl_202) this s hn3).2.1
  have lb_s4 : la s = la this + 0 := lk_202.mp ((hB.1 202 fl_202) this s hn3).2.2
  have hk_s := ((hzP202 this).2 s hn3).1
  have hl1_s := ((hzP202 this).2 s hn3).2.1
  have hl2_s := ((hzP202 this).2 s hn3).2.2.1
  have hw_s := ((hzP202 this).2 s hn3).2.2.2
  have hz_s : (Int32.ofNat (ln s)).toInt = ((ln s : Nat) : Int) := ofN_eq (by first | exact Nat.le_trans hl2_s (by decide) | omega)
  have rb5 := (hzRB this s hk_this hn3).1
  have ra6 := hzRA this l s hk_this hn1 hn3
  have bw7 := hzG200 this
  have hn8 : (P 201) p0 = some lo := hlo
  have lt_lo9 := ((hB.1 201 fl_201) p0 lo hn8).2.1
  have lb_lo9 : la lo = la p0 + 0 := lk_201.mp ((hB.1 201 fl_201) p0 lo hn8).2.2
  have hk_lo := ((hzP201 p0).2 lo hn8).1
  have hl1_lo := ((hzP201 p0).2 lo hn8).2.1
  have hl2_lo := ((hzP201 p0).2 lo hn8).2.2.1
  have hw_lo := ((hzP201 p0).2 lo hn8).2.2.2
  have hz_lo : (Int32.ofNat (ln lo)).toInt = ((ln lo : Nat) : Int) := ofN_eq (by first | exact Nat.le_trans hl2_lo (by decide) | omega)
  have hn10 : (P 202) p0 = some so := hso
  have lt_so11 := ((hB.1 202 fl_202) p0 so hn10).2.1
  have lb_so11 : la so = la p0 + 0 := lk_202.mp ((hB.1 202 fl_202) p0 so hn10).2.2
  have hk_so := ((hzP202 p0).2 so hn10).1
  have hl1_so := ((hzP202 p0).2 so hn10).2.1
  have hl2_so := ((hzP202 p0).2 so hn10).2.2.1
  have hw_so := ((hzP202 p0).2 so hn10).2.2.2
  have hz_so : (Int32.ofNat (ln so)).toInt = ((ln so : Nat) : Int) := ofN_eq (by first | exact Nat.le_trans hl2_so (by decide) | omega)
  have rb12 := (hzRB p0 so hk_p0 hn10).1
  have ra13 := hzRA p0 lo so hk_p0 hn8 hn10
  have bw14 := hzG200 p0
  have hra := hzRA p0 lo so hk_p0 hlo hso
  have hrb := hzRB p0 so hk_p0 hso
  have hrb1 := hrb.1
  have hb203 := hzG203 p0
  have c203 := clampI (x := (G 203) p0) (by omega)
  have hwl : ws.length = Int32.toNatClampNeg ((G 203) p0) := by rw [← hws]; exact rw_len
  have n0 : p0 ≠ this := fun q => hne (by rw [q])
  have n1 : lo ≠ l := fun q => by have q9 := congrArg la q; omega
  have n2 : so ≠ s := fun q => by have q9 := congrArg la q; omega
  refine pw_vl (fun m2 em2 => ?_)
  have hfr15 : ∀ z, ((la z < la this ∨ la this < la z)) → m2 z = (G 203) z := fr_up (e0 := (G 203)) (fun _ _ => rfl) em2 (show ¬ ((la this < la this ∨ la this < la this)) from by omega)
  have hg16 : rng (0) 100 m2 := by rw [em2]; exact rng_vup hzG203 (by omega) (by omega)
  have sm2 : (m2 this).toInt = 0 := by rw [em2, va_up_self]; decide +kernel
  have b17 := hg16 this
  have hRB18 : RB κ ln (G 200) m2 (P 202) (V 1) := by rw [em2]; exact RB_cnt hzRB (fun s hs => by omega)
  have lp7 : ∀ (n7 : Nat) (y7_2 : Int32) (d7_G203 : Nat → Int32) (d7_V0 : Nat → Nat → Int32) (d7_V1 : Nat → Nat → Int32), rng (0) 100 d7_G203 → rng2 (0) 24 d7_V1 → RB κ ln (G 200) d7_G203 (P 202) d7_V1 → (∀ z, ((la z < la this ∨ la this < la z)) → d7_G203 z = (G 203) z) → (∀ z, ((la z < la this ∨ la this < la z)) → d7_V0 z = (V 0) z) → (∀ z, ((la z < la this ∨ la this < la z)) → d7_V1 z = (V 1) z) → (0 ≤ y7_2.toInt ∧ y7_2.toInt ≤ 100) → (this ≠ wd → d7_G203 wd = (G 203) wd) → y7_2.toInt ≤ ((G 203) p0).toInt → (d7_V0 lo = (V 0) lo ∧ d7_V1 so = (V 1) so ∧ d7_G203 p0 = (G 203) p0) → (rwW (d7_G203 this) (d7_V0 l) (d7_V1 s) 24 = ws.take (Int32.toNatClampNeg y7_2)) → pw (L_X10_copy_7 G P U V X O kd ln cnt this p0 n7 y7_2 d7_G203 d7_V0 d7_V1) (QF_X10_copy κ wd la G P U V X O kd ln cnt this p0 l s lo so ws) := by
    intro n7
    clear hRB18 b17 sm2 hg16 hfr15
    induction n7 with
    | zero => intros; exact pw_none
    | succ n7 ih7 =>
      intro y7_2 d7_G203 d7_V0 d7_V1 hg19 hg20 hRB21 hfr22 hfr23 hfr24 f25 f26 f27 io7 ir7
      show pw (B_X10_copy_7 G P U V X O kd ln cnt this p0 (L_X10_copy_7 G P U V X O kd ln cnt this p0 n7) y7_2 d7_G203 d7_V0 d7_V1) _
      unfold B_X10_copy_7
      have hio := io7
      have hg3 := congrArg Int32.toInt hio.2.2
      have b28 := hg19 p0
      have rb29 := (hRB21 p0 so hk_p0 hn10).1
      refine pw_ite (fun c12 => ?_) (fun c12 => ?_)
      · have c12 := (z_le _ _).mp c12
        have qq0 : rwW (d7_G203 this) (d7_V0 l) (d7_V1 s) 24 = ws := by have k2 := clampI (x := y7_2) (by omega); rw [ir7, List.take_of_length_le (by omega)]
        exact pw_some qq0
      · have c12 := z_nle c12
        have k2 := clampI (x := y7_2) (by omega)
        have hx : ws[Int32.toNatClampNeg y7_2]? = some (wdl ((V 0) lo) (24 * Int32.toNatClampNeg y7_2) (Int32.toNatClampNeg ((V 1) so (Int32.toNatClampNeg y7_2)))) := by rw [← hws]; exact rw_at (by omega)
        obtain ⟨hm1, hm2, hm3⟩ := mulW (x := y7_2) (g := (G 200) p0) (w := 24) (by omega) hwo (by decide)
        have hri := rowix (x := y7_2) (w := (G 200) p0) hra (by omega) (by omega)
        have hlk := hrb.2 (Int32.toNatClampNeg y7_2)
        have hlv := hzV1 so (Int32.toNatClampNeg y7_2)
        have hbt := hg19 this
        have hct := clampI (x := d7_G203 this) (by omega)
        have hlt := congrArg List.length ir7
        rw [rw_len, List.length_take] at hlt
        have hroom : (d7_G203 this).toInt < ((ln s : Nat) : Int) := by omega
        have hv1 : d7_V1 so (Int32.toNatClampNeg y7_2) = (V 1) so (Int32.toNatClampNeg y7_2) := congrFun hio.2.1 _
        have hv1i := congrArg Int32.toInt hv1
        refine pw_nne hn8 ?_
        have b32 := hzG200 p0
        have f33 := zmw (x := y7_2) (y := ((G 200) p0)) (by omega) (by omega) (by omega) (by omega)
        have ix34 := rowix (x := y7_2) (hzRA p0 lo so hk_p0 hn8 hn10) (hzG200 p0).1
        refine pw_nne hn10 ?_
        refine pw_if (fun hb31 => ?_)
        obtain ⟨hbl31, hbr31⟩ := hb31
        have b35 := hg20 so (Int32.toNatClampNeg y7_2)
        have rl36 := (hRB21 p0 so hk_p0 hn10).2 (Int32.toNatClampNeg y7_2)
        refine pw_b3 (fun c32_G203 c32_V0 c32_V1 hc32 => ?_)
        have hq32 := wp_at (ok_X10_add κ wd (va_up G 203 d7_G203) P U (va_up (va_up V 0 d7_V0) 1 d7_V1) X O kd ln cnt this lo (y7_2 * ((G 200) p0)) ((d7_V1 so) (Int32.toNatClampNeg y7_2)) hzG200 hg19 hzP201 hzP202 hg20 hzRA hRB21 hzRI hzLN hk_this hk_lo) hc32
        obtain ⟨hg37, hg38, hRB39, f40, f41⟩ : (rng (0) 100 c32_G203) ∧ (rng2 (0) 24 c32_V1) ∧ (RB κ ln (G 200) c32_G203 (P 202) c32_V1) ∧ (id ((this ≠ wd → c32_G203 wd = d7_G203 wd))) ∧ ((d7_G203 this).toInt ≤ (c32_G203 this).toInt) := hq32
        have hq32 := pwq (fr_X10_add la (va_up G 203 d7_G203) P U (va_up (va_up V 0 d7_V0) 1 d7_V1) X O kd ln cnt this lo (y7_2 * ((G 200) p0)) ((d7_V1 so) (Int32.toNatClampNeg y7_2)) hB) hc32
        obtain ⟨q32_G203, q32_V0, q32_V1⟩ : (∀ z, (la z < la this ∨ la this < la z) → c32_G203 z = d7_G203 z) ∧ (∀ z, (la z < la this ∨ la this < la z) → c32_V0 z = d7_V0 z) ∧ (∀ z, (la z < la this ∨ la this < la z) → c32_V1 z = d7_V1 z) := hq32
        have tz32 : ∀ z, ((la z < la this ∨ la this < la z)) → ((la z < la this ∨ la this < la z)) := fun z hz => by omega
        have hfr42 : ∀ z, ((la z < la this ∨ la this < la z)) → c32_G203 z = (G 203) z := fun z hz => (q32_G203 z (tz32 z hz)).trans (hfr22 z hz)
        have hfr43 : ∀ z, ((la z < la this ∨ la this < la z)) → c32_V0 z = (V 0) z := fun z hz => (q32_V0 z (tz32 z hz)).trans (hfr23 z hz)
        have hfr44 : ∀ z, ((la z < la this ∨ la this < la z)) → c32_V1 z = (V 1) z := fun z hz => (q32_V1 z (tz32 z hz)).trans (hfr24 z hz)
        have h832_hl : (P 201) this = some l := by exact hl
        have h832_hs : (P 202) this = some s := by exact hs
        have h832_hw : ((G 200) this).toInt = ((24) : Int) := by exact hw
        have h832_hst : 0 ≤ (y7_2 * ((G 200) p0)).toInt := by first | assumption | omega
        have h832_hm : 0 ≤ ((d7_V1 so) (Int32.toNatClampNeg y7_2)).toInt := by first | assumption | omega
        have h832_hmw : ((d7_V1 so) (Int32.toNatClampNeg y7_2)).toInt ≤ ((24) : Int) := by first | assumption | omega
        have h832_hlf : (y7_2 * ((G 200) p0)).toInt + ((d7_V1 so) (Int32.toNatClampNeg y7_2)).toInt ≤ ((ln lo : Nat) : Int) := by first | assumption | omega
        have h832_hw24 : (24) ≤ 24 := by decide
        have hx32 := pwq (fn_X10_add2 κ wd la (va_up G 203 d7_G203) P U (va_up (va_up V 0 d7_V0) 1 d7_V1) X O kd ln cnt this lo (y7_2 * ((G 200) p0)) ((d7_V1 so) (Int32.toNatClampNeg y7_2)) (l) (s) (24) hzG200 hg19 hzP201 hzP202 hg20 hzRA hRB21 hzRI hzLN hk_this hk_lo hB hlt_this lt_lo9 h832_hl h832_hs h832_hw h832_hst h832_hm h832_hmw h832_hlf h832_hw24) hc32
        obtain ⟨p32_0, p32_1, p32_2, p32_3⟩ : (rwW (c32_G203 this) (c32_V0 l) (c32_V1 s) (24) = (if (d7_G203 this).toInt < ((ln s : Nat) : Int) then rwW (d7_G203 this) (d7_V0 l) (d7_V1 s) (24) ++ [wdl (d7_V0 lo) (Int32.toNatClampNeg (y7_2 * ((G 200) p0))) (Int32.toNatClampNeg ((d7_V1 so) (Int32.toNatClampNeg y7_2)))] else rwW (d7_G203 this) (d7_V0 l) (d7_V1 s) (24))) ∧ (id ((∀ z, z ≠ l → c32_V0 z = d7_V0 z))) ∧ (id ((∀ z, z ≠ s → c32_V1 z = d7_V1 z))) ∧ (id ((∀ z, z ≠ this → c32_G203 z = d7_G203 z))) := hx32
        have f45 : (y7_2 + 1).toInt = y7_2.toInt + (1) := z_addc (by decide +kernel) (by omega) (by omega)
        have iv7_0 : (0 ≤ (y7_2 + 1).toInt ∧ (y7_2 + 1).toInt ≤ 100) := by first | omega | assumption | exact (fun _ => rfl) | exact frt (by assumption) (by assumption)
        have iv7_1 : (this ≠ wd → c32_G203 wd = (G 203) wd) := by first | omega | assumption | exact (fun _ => rfl) | exact frt (by assumption) (by assumption)
        have iv7_2 : (y7_2 + 1).toInt ≤ ((G 203) p0).toInt := by first | omega | assumption | exact (fun _ => rfl) | exact frt (by assumption) (by assumption)
        have iv7_3 : (c32_V0 lo = (V 0) lo ∧ c32_V1 so = (V 1) so ∧ c32_G203 p0 = (G 203) p0) := by obtain ⟨i1, i2, i3⟩ := io7; exact ⟨(p32_1 lo n1).trans i1, (p32_2 so n2).trans i2, (p32_3 p0 n0).trans i3⟩
        have iv7_4 : (rwW (c32_G203 this) (c32_V0 l) (c32_V1 s) 24 = ws.take (Int32.toNatClampNeg (y7_2 + 1))) := by have k3 := clampI (x := y7_2 + 1) (by omega); rw [show Int32.toNatClampNeg (y7_2 + 1) = Int32.toNatClampNeg y7_2 + 1 by omega, take_s hx, p32_0, if_pos hroom, ir7]; exact congrArg (fun z => ws.take (Int32.toNatClampNeg y7_2) ++ [z]) (by rw [hm1, io7.1, io7.2.1])
        exact ih7 (y7_2 + 1) c32_G203 c32_V0 c32_V1 hg37 hg38 hRB39 hfr42 hfr43 hfr44 iv7_0 iv7_1 iv7_2 iv7_3 iv7_4
  exact lp7 NN (0 : Int32) m2 (V 0) (V 1) hg16 hzV1 hRB18 hfr15 (fun _ _ => rfl) (fun _ _ => rfl) (show (0 ≤ (0 : Int32).toInt ∧ (0 : Int32).toInt ≤ 100) from by first | omega | exact (fun h => by rw [em2]; exact va_up_ne _ _ (fun q => h q.symm))) (show (this ≠ wd → m2 wd = (G 203) wd) from by first | omega | exact (fun h => by rw [em2]; exact va_up_ne _ _ (fun q => h q.symm))) (show (0 : Int32).toInt ≤ ((G 203) p0).toInt from by first | omega | exact (fun h => by rw [em2]; exact va_up_ne _ _ (fun q => h q.symm))) (show ((V 0) lo = (V 0) lo ∧ (V 1) so = (V 1) so ∧ m2 p0 = (G 203) p0) from by exact ⟨rfl, rfl, by rw [em2, va_up_ne _ _ n0]⟩) (show (rwW (m2 this) ((V 0) l) ((V 1) s) 24 = ws.take (Int32.toNatClampNeg (0 : Int32))) from by rw [show Int32.toNatClampNeg (0 : Int32) = 0 from rfl]; show rwW _ _ _ _ = []; refine List.length_eq_zero_iff.mp ?_; rw [rw_len, em2, va_up_self]; rfl)
