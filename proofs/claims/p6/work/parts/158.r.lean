abbrev QF_X7_take (κ : Nat → Nat) (wd : Nat) (la : Nat → Nat) (G : Nat → Nat → Int32) (P : Nat → Nat → Option Nat) (U : Nat → Nat → Int64) (V : Nat → Nat → Nat → Int32) (X : Nat → Nat → Nat → Int64) (O : Nat → Nat → Nat → Option Nat) (kd : Nat → Nat) (ln : Nat → Nat) (cnt : Nat) (this : Nat) : (Int32 × (Nat → Int32)) → Prop := (fun t => ((t.1) = (G 141) this) ∧ ((t.2) this = 0))
set_option maxHeartbeats 4000000 in
set_option maxRecDepth 100000 in
theorem fn_X7_take (κ : Nat → Nat) (wd : Nat) (la : Nat → Nat) (G : Nat → Nat → Int32) (P : Nat → Nat → Option Nat) (U : Nat → Nat → Int64) (V : Nat → Nat → Nat → Int32) (X : Nat → Nat → Nat → Int64) (O : Nat → Nat → Nat → Option Nat) (kd : Nat → Nat) (ln : Nat → Nat) (cnt : Nat) (this : Nat) (hzG141 : rng (0) 2000 (G 141)) (hzLN : LN κ ln) (hk_this : κ this = 8) (hB : LB la cnt P) (hlt_this : this < cnt) : pw (f_X7_take G P U V X O kd ln cnt this) (QF_X7_take κ wd la G P U V X O kd ln cnt this) := by
  unfold f_X7_take
  have zk0 : (0 : Int32).toInt = 0 := by decide +kernel
  have b1 := hzG141 this
  refine pw_vl (fun x4 ex4 => ?_)
  have f2 : x4.toInt = ((G 141) this).toInt := congrArg Int32.toInt ex4
  refine pw_vl (fun m7 em7 => ?_)
  have hfr3 : ∀ z, ((la z < la this ∨ la this < la z)) → m7 z = (G 141) z := fr_up (e0 := (G 141)) (fun _ _ => rfl) em7 (show ¬ ((la this < la this ∨ la this < la this)) from by omega)
  have hg4 : rng (0) 2000 m7 := by rw [em7]; exact rng_vup hzG141 (by omega) (by omega)
  have sm7 : (m7 this).toInt = 0 := by rw [em7, va_up_self]; decide +kernel
  have b5 := hg4 this
  have qq0 : x4 = (G 141) this := by exact ex4
  have qq1 : m7 this = 0 := by rw [em7, va_up_self]
  exact pw_some ⟨qq0, qq1⟩
abbrev QF_X9_turnParts (κ : Nat → Nat) (wd : Nat) (la : Nat → Nat) (G : Nat → Nat → Int32) (P : Nat → Nat → Option Nat) (U : Nat → Nat → Int64) (V : Nat → Nat → Nat → Int32) (X : Nat → Nat → Nat → Int64) (O : Nat → Nat → Nat → Option Nat) (kd : Nat → Nat) (ln : Nat → Nat) (cnt : Nat) (this : Nat) (p0 : Nat) : ((Nat → Int32) × (Nat → Int32) × (Nat → Option Nat) × (Nat → Option Nat) × (Nat → Int64) × (Nat → Nat → Int32) × (Nat → Nat → Int32) × (Nat → Nat → Int32) × (Nat → Nat → Int64)) → Prop := (fun t => ((∀ z, la z ≠ la p0 + 4 → (la z < 90 ∨ 98 < la z) → (t.2.2.2.2.2.1) z = (V 0) z ∧ (t.2.2.2.2.2.2.1) z = (V 1) z ∧ (t.2.1) z = (G 203) z)))
set_option maxHeartbeats 4000000 in
set_option maxRecDepth 100000 in
theorem fn_X9_turnParts (κ : Nat → Nat) (wd : Nat) (la : Nat → Nat) (G : Nat → Nat → Int32) (P : Nat → Nat → Option Nat) (U : Nat → Nat → Int64) (V : Nat → Nat → Nat → Int32) (X : Nat → Nat → Nat → Int64) (O : Nat → Nat → Nat → Option Nat) (kd : Nat → Nat) (ln : Nat → Nat) (cnt : Nat) (this : Nat) (p0 : Nat) (hzG102 : rng (0) 40 (G 102)) (hzG183 : rng (0) 40 (G 183)) (hzG200 : rng (0) 24 (G 200)) (hzG203 : rng (0) 100 (G 203)) (hzP20 : PB κ ln wd 2 100 0 16 0 (P 20)) (hzP21 : PB κ ln wd 2 100 0 16 0 (P 21)) (hzP22 : PB κ ln wd 2 100 0 16 0 (P 22)) (hzP23 : PB κ ln wd 2 100 0 16 0 (P 23)) (hzP101 : PB κ ln wd 6 300 40 40 0 (P 101)) (hzP103 : PB κ ln wd 6 11 0 2500 1 (P 103)) (hzP108 : PB κ ln wd 6 11 0 2500 1 (P 108)) (hzP109 : PB κ ln wd 6 111 40 40 0 (P 109)) (hzP110 : PB κ ln wd 6 200 40 40 0 (P 110)) (hzP181 : PB κ ln wd 10 100 40 40 0 (P 181)) (hzP182 : PB κ ln wd 10 100 40 40 0 (P 182)) (hzP201 : PB κ ln wd 11 100 0 2400 0 (P 201)) (hzP202 : PB κ ln wd 11 101 0 100 0 (P 202)) (hzV1 : rng2 (0) 24 (V 1)) (hzO0 : OB κ 2 (O 0)) (hzRA : RA κ ln (G 200) (P 201) (P 202)) (hzRB : RB κ ln (G 200) (G 203) (P 202) (V 1)) (hzRI : RI (P 202)) (hzRM103 : RM ln 40 (P 103) (P 202)) (hzRM108 : RM ln 40 (P 108) (P 202)) (hzLN : LN κ ln) (hk_this : κ this = 10) (hk_p0 : κ p0 = 6) (hB : LB la cnt P) (hlt_this : this < cnt) (hlt_p0 : p0 < cnt) (hld : 100000 ≤ la p0) (hlh : la this = 90) : pw (f_X9_turnParts G P U V X O kd ln cnt this p0) (QF_X9_turnParts κ wd la G P U V X O kd ln cnt this p0) := by
  unfold f_X9_turnParts
  have zk0 : (0 : Int32).toInt = 0 := by decide +kernel
  refine pw_nn (fun a1 hn_a1 => ?_)
  have lt_a11 := ((hB.1 103 fl_103) p0 a1 hn_a1).2.1
  have lb_a11 : la a1 = la p0 + 1 := lk_103.mp ((hB.1 103 fl_103) p0 a1 hn_a1).2.2
  have hk_a1 := ((hzP103 p0).2 a1 hn_a1).1
  have hl1_a1 := ((hzP103 p0).2 a1 hn_a1).2.1
  have hl2_a1 := ((hzP103 p0).2 a1 hn_a1).2.2.1
  have hw_a1 := ((hzP103 p0).2 a1 hn_a1).2.2.2
  obtain ⟨u2, hn_u2⟩ := PBs (hzP202 a1) hk_a1
  have lt_u23 := ((hB.1 202 fl_202) a1 u2 hn_u2).2.1
  have lb_u23 : la u2 = la a1 + 0 := lk_202.mp ((hB.1 202 fl_202) a1 u2 hn_u2).2.2
  have hk_u2 := ((hzP202 a1).2 u2 hn_u2).1
  have hl1_u2 := ((hzP202 a1).2 u2 hn_u2).2.1
  have hl2_u2 := ((hzP202 a1).2 u2 hn_u2).2.2.1
  have hw_u2 := ((hzP202 a1).2 u2 hn_u2).2.2.2
  have hz_u2 : (Int32.ofNat (ln u2)).toInt = ((ln u2 : Nat) : Int) := ofN_eq (by first | exact Nat.le_trans hl2_u2 (by decide) | omega)
  have rb4 := (hzRB a1 u2 hk_a1 hn_u2).1
  have rm5 := hzRM103 p0 a1 u2 hn_a1 hn_u2
  obtain ⟨u6, hn_u6⟩ := PBs (hzP201 a1) hk_a1
  have lt_u67 := ((hB.1 201 fl_201) a1 u6 hn_u6).2.1
  have lb_u67 : la u6 = la a1 + 0 := lk_201.mp ((hB.1 201 fl_201) a1 u6 hn_u6).2.2
  have hk_u6 := ((hzP201 a1).2 u6 hn_u6).1
  have hl1_u6 := ((hzP201 a1).2 u6 hn_u6).2.1
  have hl2_u6 := ((hzP201 a1).2 u6 hn_u6).2.2.1
  have hw_u6 := ((hzP201 a1).2 u6 hn_u6).2.2.2
  have hz_u6 : (Int32.ofNat (ln u6)).toInt = ((ln u6 : Nat) : Int) := ofN_eq (by first | exact Nat.le_trans hl2_u6 (by decide) | omega)
  have ra9 := hzRA a1 u6 u2 hk_a1 hn_u6 hn_u2
  have bw10 := hzG200 a1
  have lp7 : ∀ (n7 : Nat) (y7_3 : Int32) (d7_G183 : Nat → Int32) (d7_G203 : Nat → Int32) (d7_P181 : Nat → Option Nat) (d7_P182 : Nat → Option Nat) (d7_U184 : Nat → Int64) (d7_V0 : Nat → Nat → Int32) (d7_V1 : Nat → Nat → Int32) (d7_V11 : Nat → Nat → Int32) (d7_X0 : Nat → Nat → Int64), rng (0) 40 d7_G183 → rng (0) 100 d7_G203 → PB κ ln wd 10 100 40 40 0 d7_P181 → PB κ ln wd 10 100 40 40 0 d7_P182 → rng2 (0) 24 d7_V1 → RB κ ln (G 200) d7_G203 (P 202) d7_V1 → (∀ z, ((la z < la this ∨ la this + 8 < la z) ∧ (la z < la p0 ∨ la p0 + 5 < la z)) → d7_G183 z = (G 183) z) → (∀ z, ((la z < la this ∨ la this + 8 < la z) ∧ (la z < la p0 ∨ la p0 + 5 < la z)) → d7_G203 z = (G 203) z) → (∀ z, ((la z < la this ∨ la this + 8 < la z) ∧ (la z < la p0 ∨ la p0 + 5 < la z)) → d7_P181 z = (P 181) z) → LC 181 la cnt d7_P181 → (∀ z, ((la z < la this ∨ la this + 8 < la z) ∧ (la z < la p0 ∨ la p0 + 5 < la z)) → d7_P182 z = (P 182) z) → LC 182 la cnt d7_P182 → (∀ z, ((la z < la this ∨ la this + 8 < la z) ∧ (la z < la p0 ∨ la p0 + 5 < la z)) → d7_U184 z = (U 184) z) → (∀ z, ((la z < la this ∨ la this + 8 < la z) ∧ (la z < la p0 ∨ la p0 + 5 < la z)) → d7_V0 z = (V 0) z) → (∀ z, ((la z < la this ∨ la this + 8 < la z) ∧ (la z < la p0 ∨ la p0 + 5 < la z)) → d7_V1 z = (V 1) z) → (∀ z, ((la z < la this ∨ la this + 8 < la z) ∧ (la z < la p0 ∨ la p0 + 5 < la z)) → d7_V11 z = (V 11) z) → (∀ z, ((la z < la this ∨ la this + 8 < la z) ∧ (la z < la p0 ∨ la p0 + 5 < la z)) → d7_X0 z = (X 0) z) → (0 ≤ y7_3.toInt ∧ y7_3.toInt ≤ 100) → d7_G203 wd = (G 203) wd → (∀ z, la z ≠ la p0 + 4 → (la z < 90 ∨ 98 < la z) → d7_V0 z = (V 0) z ∧ d7_V1 z = (V 1) z ∧ d7_G203 z = (G 203) z) → pw (L_X9_turnParts_7 G P U V X O kd ln cnt this p0 a1 n7 y7_3 d7_G183 d7_G203 d7_P181 d7_P182 d7_U184 d7_V0 d7_V1 d7_V11 d7_X0) (QF_X9_turnParts κ wd la G P U V X O kd ln cnt this p0) := by
    intro n7
    induction n7 with
    | zero => intros; exact pw_none
    | succ n7 ih7 =>
      intro y7_3 d7_G183 d7_G203 d7_P181 d7_P182 d7_U184 d7_V0 d7_V1 d7_V11 d7_X0 hg12 hg13 hg14 hg15 hg16 hRB17 hfr18 hfr19 hfr20 hl21 hfr22 hl23 hfr24 hfr25 hfr26 hfr27 hfr28 f29 f30 ft7
      show pw (B_X9_turnParts_7 G P U V X O kd ln cnt this p0 a1 (L_X9_turnParts_7 G P U V X O kd ln cnt this p0 a1 n7) y7_3 d7_G183 d7_G203 d7_P181 d7_P182 d7_U184 d7_V0 d7_V1 d7_V11 d7_X0) _
      unfold B_X9_turnParts_7
      have b31 := hg13 a1
      have rb32 := (hRB17 a1 u2 hk_a1 hn_u2).1
      refine pw_ite (fun c12 => ?_) (fun c12 => ?_)
      · have c12 := (z_le _ _).mp c12
        have qq0 : (∀ z, la z ≠ la p0 + 4 → (la z < 90 ∨ 98 < la z) → d7_V0 z = (V 0) z ∧ d7_V1 z = (V 1) z ∧ d7_G203 z = (G 203) z) := by exact ft7
        exact pw_some qq0
      · have c12 := z_nle c12
        refine pw_nne hn_u6 ?_
        have b36 := hzG200 a1
        have f37 := zmw (x := y7_3) (y := ((G 200) a1)) (by omega) (by omega) (by omega) (by omega)
        have ix38 := rowix (x := y7_3) (hzRA a1 u6 u2 hk_a1 hn_u6 hn_u2) (hzG200 a1).1
        refine pw_nne hn_u2 ?_
        refine pw_if (fun hb32 => ?_)
        obtain ⟨hbl32, hbr32⟩ := hb32
        have b39 := hg16 u2 (Int32.toNatClampNeg y7_3)
        have rl40 := (hRB17 a1 u2 hk_a1 hn_u2).2 (Int32.toNatClampNeg y7_3)
        have hpr33_0 : (0 ≤ (y7_3 * ((G 200) a1)).toInt ∧ 0 ≤ ((d7_V1 u2) (Int32.toNatClampNeg y7_3)).toInt ∧ (y7_3 * ((G 200) a1)).toInt + ((d7_V1 u2) (Int32.toNatClampNeg y7_3)).toInt ≤ ((ln u6 : Nat) : Int)) := by first | assumption | omega
        refine pw_b6 (fun r33 c33_G183 c33_P181 c33_P182 c33_U184 c33_V0 hc33 => ?_)
        have hq33 := wp_at (ok_X9_runLaws κ wd (va_up (va_up G 183 d7_G183) 203 d7_G203) (va_up (va_up P 181 d7_P181) 182 d7_P182) (va_up U 184 d7_U184) (va_up (va_up (va_up V 0 d7_V0) 1 d7_V1) 11 d7_V11) (va_up X 0 d7_X0) O kd ln cnt this p0 u6 (y7_3 * ((G 200) a1)) ((d7_V1 u2) (Int32.toNatClampNeg y7_3)) hzG102 hg12 hzP20 hzP21 hzP22 hzP23 hzP101 hg14 hg15 hzO0 hzLN hk_this hk_p0 hk_u6 hpr33_0) hc33
        obtain ⟨hg41, hg42, hg43, f44⟩ : (rng (0) 40 c33_G183) ∧ (PB κ ln wd 10 100 40 40 0 c33_P181) ∧ (PB κ ln wd 10 100 40 40 0 c33_P182) ∧ ((0 ≤ r33.toInt ∧ r33.toInt ≤ 1)) := hq33
        have hq33 := pwq (fr_X9_runLaws la (va_up (va_up G 183 d7_G183) 203 d7_G203) (va_up (va_up P 181 d7_P181) 182 d7_P182) (va_up U 184 d7_U184) (va_up (va_up (va_up V 0 d7_V0) 1 d7_V1) 11 d7_V11) (va_up X 0 d7_X0) O kd ln cnt this p0 u6 (y7_3 * ((G 200) a1)) ((d7_V1 u2) (Int32.toNatClampNeg y7_3)) (LB_set (LB_set hB hl21) hl23) hlt_this) hc33
        obtain ⟨q33_G183, q33_P181, q33_P182, q33_U184, q33_V0, ql33_181, ql33_182⟩ : (∀ z, (la z < la this ∨ la this + 8 < la z) → c33_G183 z = d7_G183 z) ∧ (∀ z, (la z < la this ∨ la this + 8 < la z) → c33_P181 z = d7_P181 z) ∧ (∀ z, (la z < la this ∨ la this + 8 < la z) → c33_P182 z = d7_P182 z) ∧ (∀ z, (la z < la this ∨ la this + 8 < la z) → c33_U184 z = d7_U184 z) ∧ (∀ z, (la z < la this ∨ la this + 8 < la z) → c33_V0 z = d7_V0 z) ∧ LC 181 la cnt c33_P181 ∧ LC 182 la cnt c33_P182 := hq33
        have tz33 : ∀ z, ((la z < la this ∨ la this + 8 < la z) ∧ (la z < la p0 ∨ la p0 + 5 < la z)) → ((la z < la this ∨ la this + 8 < la z)) := fun z hz => by omega
        have hfr45 : ∀ z, ((la z < la this ∨ la this + 8 < la z) ∧ (la z < la p0 ∨ la p0 + 5 < la z)) → c33_G183 z = (G 183) z := fun z hz => (q33_G183 z (tz33 z hz)).trans (hfr18 z hz)
        have hfr46 : ∀ z, ((la z < la this ∨ la this + 8 < la z) ∧ (la z < la p0 ∨ la p0 + 5 < la z)) → c33_P181 z = (P 181) z := fun z hz => (q33_P181 z (tz33 z hz)).trans (hfr20 z hz)
        have hfr47 : ∀ z, ((la z < la this ∨ la this + 8 < la z) ∧ (la z < la p0 ∨ la p0 + 5 < la z)) → c33_P182 z = (P 182) z := fun z hz => (q33_P182 z (tz33 z hz)).trans (hfr22 z hz)
        have hfr48 : ∀ z, ((la z < la this ∨ la this + 8 < la z) ∧ (la z < la p0 ∨ la p0 + 5 < la z)) → c33_U184 z = (U 184) z := fun z hz => (q33_U184 z (tz33 z hz)).trans (hfr24 z hz)
        have hfr49 : ∀ z, ((la z < la this ∨ la this + 8 < la z) ∧ (la z < la p0 ∨ la p0 + 5 < la z)) → c33_V0 z = (V 0) z := fun z hz => (q33_V0 z (tz33 z hz)).trans (hfr25 z hz)
        refine pw_nn (fun a39 hn_a39 => ?_)
        have lt_a3950 := ((hB.1 109 fl_109) p0 a39 hn_a39).2.1
        have lb_a3950 : la a39 = la p0 + 0 := lk_109.mp ((hB.1 109 fl_109) p0 a39 hn_a39).2.2
        have hk_a39 := ((hzP109 p0).2 a39 hn_a39).1
        have hl1_a39 := ((hzP109 p0).2 a39 hn_a39).2.1
        have hl2_a39 := ((hzP109 p0).2 a39 hn_a39).2.2.1
        have hw_a39 := ((hzP109 p0).2 a39 hn_a39).2.2.2
        have hz_a39 : (Int32.ofNat (ln a39)).toInt = ((ln a39 : Nat) : Int) := ofN_eq (by first | exact Nat.le_trans hl2_a39 (by decide) | omega)
        refine pw_if (fun hb45 => ?_)
        obtain ⟨hbl45, hbr45⟩ := hb45
        refine pw_vl (fun m45 em45 => ?_)
        have hfr51 : ∀ z, ((la z < la this ∨ la this + 8 < la z) ∧ (la z < la p0 ∨ la p0 + 5 < la z)) → m45 z = (V 11) z := fr_up (e0 := (V 11)) hfr27 em45 (show ¬ ((la a39 < la this ∨ la this + 8 < la a39) ∧ (la a39 < la p0 ∨ la p0 + 5 < la a39)) from by omega)
        refine pw_nn (fun a47 hn_a47 => ?_)
        have lt_a4752 := ((hB.1 110 fl_110) p0 a47 hn_a47).2.1
        have lb_a4752 : la a47 = la p0 + 0 := lk_110.mp ((hB.1 110 fl_110) p0 a47 hn_a47).2.2
        have hk_a47 := ((hzP110 p0).2 a47 hn_a47).1
        have hl1_a47 := ((hzP110 p0).2 a47 hn_a47).2.1
        have hl2_a47 := ((hzP110 p0).2 a47 hn_a47).2.2.1
        have hw_a47 := ((hzP110 p0).2 a47 hn_a47).2.2.2
        have hz_a47 : (Int32.ofNat (ln a47)).toInt = ((ln a47 : Nat) : Int) := ofN_eq (by first | exact Nat.le_trans hl2_a47 (by decide) | omega)
        refine pw_if (fun hb55 => ?_)
        obtain ⟨hbl55, hbr55⟩ := hb55
        refine pw_vl (fun m55 em55 => ?_)
        have hfr53 : ∀ z, ((la z < la this ∨ la this + 8 < la z) ∧ (la z < la p0 ∨ la p0 + 5 < la z)) → m55 z = (X 0) z := fr_up (e0 := (X 0)) hfr28 em55 (show ¬ ((la a47 < la this ∨ la this + 8 < la a47) ∧ (la a47 < la p0 ∨ la p0 + 5 < la a47)) from by omega)
        refine pw_nn (fun a57 hn_a57 => ?_)
        have lt_a5754 := ((hB.1 108 fl_108) p0 a57 hn_a57).2.1
        have lb_a5754 : la a57 = la p0 + 4 := lk_108.mp ((hB.1 108 fl_108) p0 a57 hn_a57).2.2
        have hk_a57 := ((hzP108 p0).2 a57 hn_a57).1
        have hl1_a57 := ((hzP108 p0).2 a57 hn_a57).2.1
        have hl2_a57 := ((hzP108 p0).2 a57 hn_a57).2.2.1
        have hw_a57 := ((hzP108 p0).2 a57 hn_a57).2.2.2
        refine pw_nn (fun a61 hn_a61 => ?_)
        have lt_a6155 := (ql33_181 this a61 hn_a61).2.1
        have lb_a6155 : (la a61 = la this + 1 ∨ la a61 = la this + 2) := lk_181.mp (ql33_181 this a61 hn_a61).2.2
        have hk_a61 := ((hg42 this).2 a61 hn_a61).1
        have hl1_a61 := ((hg42 this).2 a61 hn_a61).2.1
        have hl2_a61 := ((hg42 this).2 a61 hn_a61).2.2.1
        have hw_a61 := ((hg42 this).2 a61 hn_a61).2.2.2
        have hz_a61 : (Int32.ofNat (ln a61)).toInt = ((ln a61 : Nat) : Int) := ofN_eq (by first | exact Nat.le_trans hl2_a61 (by decide) | omega)
        refine pw_jE (fun j78 ej78 => ?_)
        refine pw_ite (fun c67 => ?_) (fun c67 => ?_)
        · have c67 := congrArg Int32.toInt c67
          refine pw_j1 ej78 (fun t78_0 et78_0 => ?_)
          have et78_0 := et78_0.symm
          have f_t78_0 : t78_0.toInt = 0 := by rw [et78_0]; decide +kernel
          refine pw_b3 (fun c78_G203 c78_V0 c78_V1 hc78 => ?_)
          have hq78 := wp_at (ok_X10_add κ wd (va_up (va_up (va_up G 183 d7_G183) 203 d7_G203) 183 c33_G183) (va_up (va_up (va_up (va_up P 181 d7_P181) 182 d7_P182) 181 c33_P181) 182 c33_P182) (va_up (va_up U 184 d7_U184) 184 c33_U184) (va_up (va_up (va_up (va_up (va_up V 0 d7_V0) 1 d7_V1) 11 d7_V11) 0 c33_V0) 11 m45) (va_up (va_up X 0 d7_X0) 0 m55) O kd ln cnt a57 a61 (0 : Int32) t78_0 hzG200 hg13 hzP201 hzP202 hg16 hzRA hRB17 hzRI hzLN hk_a57 hk_a61) hc78
          obtain ⟨hg56, hg57, hRB58, f59, f60⟩ : (rng (0) 100 c78_G203) ∧ (rng2 (0) 24 c78_V1) ∧ (RB κ ln (G 200) c78_G203 (P 202) c78_V1) ∧ ((a57 ≠ wd → c78_G203 wd = d7_G203 wd)) ∧ ((d7_G203 a57).toInt ≤ (c78_G203 a57).toInt) := hq78
          have hq78 := pwq (fr_X10_add la (va_up (va_up (va_up G 183 d7_G183) 203 d7_G203) 183 c33_G183) (va_up (va_up (va_up (va_up P 181 d7_P181) 182 d7_P182) 181 c33_P181) 182 c33_P182) (va_up (va_up U 184 d7_U184) 184 c33_U184) (va_up (va_up (va_up (va_up (va_up V 0 d7_V0) 1 d7_V1) 11 d7_V11) 0 c33_V0) 11 m45) (va_up (va_up X 0 d7_X0) 0 m55) O kd ln cnt a57 a61 (0 : Int32) t78_0 (LB_set (LB_set (LB_set (LB_set hB hl21) hl23) ql33_181) ql33_182)) hc78
          obtain ⟨q78_G203, q78_V0, q78_V1⟩ : (∀ z, (la z < la a57 ∨ la a57 < la z) → c78_G203 z = d7_G203 z) ∧ (∀ z, (la z < la a57 ∨ la a57 < la z) → c78_V0 z = c33_V0 z) ∧ (∀ z, (la z < la a57 ∨ la a57 < la z) → c78_V1 z = d7_V1 z) := hq78
          have tz78 : ∀ z, ((la z < la this ∨ la this + 8 < la z) ∧ (la z < la p0 ∨ la p0 + 5 < la z)) → ((la z < la a57 ∨ la a57 < la z)) := fun z hz => by omega
          have hfr61 : ∀ z, ((la z < la this ∨ la this + 8 < la z) ∧ (la z < la p0 ∨ la p0 + 5 < la z)) → c78_G203 z = (G 203) z := fun z hz => (q78_G203 z (tz78 z hz)).trans (hfr19 z hz)
          have hfr62 : ∀ z, ((la z < la this ∨ la this + 8 < la z) ∧ (la z < la p0 ∨ la p0 + 5 < la z)) → c78_V0 z = (V 0) z := fun z hz => (q78_V0 z (tz78 z hz)).trans (hfr49 z hz)
          have hfr63 : ∀ z, ((la z < la this ∨ la this + 8 < la z) ∧ (la z < la p0 ∨ la p0 + 5 < la z)) → c78_V1 z = (V 1) z := fun z hz => (q78_V1 z (tz78 z hz)).trans (hfr26 z hz)
          have hgw := f59 (hw_a57 rfl)
          have f64 : (y7_3 + 1).toInt = y7_3.toInt + (1) := z_addc (by decide +kernel) (by omega) (by omega)
          have hgA : c78_G203 wd = (G 203) wd := hgw.trans (by assumption)
          have iv7_0 : (0 ≤ (y7_3 + 1).toInt ∧ (y7_3 + 1).toInt ≤ 100) := by first | omega | rfl | assumption
          have iv7_1 : c78_G203 wd = (G 203) wd := by first | rfl | assumption | omega
          have iv7_2 : (∀ z, la z ≠ la p0 + 4 → (la z < 90 ∨ 98 < la z) → c78_V0 z = (V 0) z ∧ c78_V1 z = (V 1) z ∧ c78_G203 z = (G 203) z) := by intro z h1 h2; obtain ⟨a1, a2, a3⟩ := ft7 z h1 h2; exact ⟨(q78_V0 z (by omega)).trans ((q33_V0 z (by omega)).trans a1), (q78_V1 z (by omega)).trans a2, (q78_G203 z (by omega)).trans a3⟩
          exact ih7 (y7_3 + 1) c33_G183 c78_G203 c33_P181 c33_P182 c33_U184 c78_V0 c78_V1 m45 m55 hg41 hg56 hg42 hg43 hg57 hRB58 hfr45 hfr61 hfr46 ql33_181 hfr47 ql33_182 hfr48 hfr62 hfr63 hfr51 hfr53 iv7_0 iv7_1 iv7_2
        · have c67 := z_ne c67
          have b65 := hg41 this
          refine pw_j1 ej78 (fun t78_0 et78_0 => ?_)
          have et78_0 := et78_0.symm
          have f_t78_0 : t78_0.toInt = (c33_G183 this).toInt := by rw [et78_0]
          refine pw_b3 (fun c78_G203 c78_V0 c78_V1 hc78 => ?_)
          have hq78 := wp_at (ok_X10_add κ wd (va_up (va_up (va_up G 183 d7_G183) 203 d7_G203) 183 c33_G183) (va_up (va_up (va_up (va_up P 181 d7_P181) 182 d7_P182) 181 c33_P181) 182 c33_P182) (va_up (va_up U 184 d7_U184) 184 c33_U184) (va_up (va_up (va_up (va_up (va_up V 0 d7_V0) 1 d7_V1) 11 d7_V11) 0 c33_V0) 11 m45) (va_up (va_up X 0 d7_X0) 0 m55) O kd ln cnt a57 a61 (0 : Int32) t78_0 hzG200 hg13 hzP201 hzP202 hg16 hzRA hRB17 hzRI hzLN hk_a57 hk_a61) hc78
          obtain ⟨hg66, hg67, hRB68, f69, f70⟩ : (rng (0) 100 c78_G203) ∧ (rng2 (0) 24 c78_V1) ∧ (RB κ ln (G 200) c78_G203 (P 202) c78_V1) ∧ ((a57 ≠ wd → c78_G203 wd = d7_G203 wd)) ∧ ((d7_G203 a57).toInt ≤ (c78_G203 a57).toInt) := hq78
          have hq78 := pwq (fr_X10_add la (va_up (va_up (va_up G 183 d7_G183) 203 d7_G203) 183 c33_G183) (va_up (va_up (va_up (va_up P 181 d7_P181) 182 d7_P182) 181 c33_P181) 182 c33_P182) (va_up (va_up U 184 d7_U184) 184 c33_U184) (va_up (va_up (va_up (va_up (va_up V 0 d7_V0) 1 d7_V1) 11 d7_V11) 0 c33_V0) 11 m45) (va_up (va_up X 0 d7_X0) 0 m55) O kd ln cnt a57 a61 (0 : Int32) t78_0 (LB_set (LB_set (LB_set (LB_set hB hl21) hl23) ql33_181) ql33_182)) hc78
          obtain ⟨q78_G203, q78_V0, q78_V1⟩ : (∀ z, (la z < la a57 ∨ la a57 < la z) → c78_G203 z = d7_G203 z) ∧ (∀ z, (la z < la a57 ∨ la a57 < la z) → c78_V0 z = c33_V0 z) ∧ (∀ z, (la z < la a57 ∨ la a57 < la z) → c78_V1 z = d7_V1 z) := hq78
          have tz78 : ∀ z, ((la z < la this ∨ la this + 8 < la z) ∧ (la z < la p0 ∨ la p0 + 5 < la z)) → ((la z < la a57 ∨ la a57 < la z)) := fun z hz => by omega
          have hfr71 : ∀ z, ((la z < la this ∨ la this + 8 < la z) ∧ (la z < la p0 ∨ la p0 + 5 < la z)) → c78_G203 z = (G 203) z := fun z hz => (q78_G203 z (tz78 z hz)).trans (hfr19 z hz)
          have hfr72 : ∀ z, ((la z < la this ∨ la this + 8 < la z) ∧ (la z < la p0 ∨ la p0 + 5 < la z)) → c78_V0 z = (V 0) z := fun z hz => (q78_V0 z (tz78 z hz)).trans (hfr49 z hz)
          have hfr73 : ∀ z, ((la z < la this ∨ la this + 8 < la z) ∧ (la z < la p0 ∨ la p0 + 5 < la z)) → c78_V1 z = (V 1) z := fun z hz => (q78_V1 z (tz78 z hz)).trans (hfr26 z hz)
          have hgw := f69 (hw_a57 rfl)
          have f74 : (y7_3 + 1).toInt = y7_3.toInt + (1) := z_addc (by decide +kernel) (by omega) (by omega)
          have hgA : c78_G203 wd = (G 203) wd := hgw.trans (by assumption)
          have iv7_0 : (0 ≤ (y7_3 + 1).toInt ∧ (y7_3 + 1).toInt ≤ 100) := by first | omega | rfl | assumption
          have iv7_1 : c78_G203 wd = (G 203) wd := by first | rfl | assumption | omega
          have iv7_2 : (∀ z, la z ≠ la p0 + 4 → (la z < 90 ∨ 98 < la z) → c78_V0 z = (V 0) z ∧ c78_V1 z = (V 1) z ∧ c78_G203 z = (G 203) z) := by intro z h1 h2; obtain ⟨a1, a2, a3⟩ := ft7 z h1 h2; exact ⟨(q78_V0 z (by omega)).trans ((q33_V0 z (by omega)).trans a1), (q78_V1 z (by omega)).trans a2, (q78_G203 z (by omega)).trans a3⟩
          exact ih7 (y7_3 + 1) c33_G183 c78_G203 c33_P181 c33_P182 c33_U184 c78_V0 c78_V1 m45 m55 hg41 hg66 hg42 hg43 hg67 hRB68 hfr45 hfr71 hfr46 ql33_181 hfr47 ql33_182 hfr48 hfr72 hfr73 hfr51 hfr53 iv7_0 iv7_1 iv7_2
  exact lp7 NN (0 : Int32) (G 183) (G 203) (P 181) (P 182) (U 184) (V 0) (V 1) (V 11) (X 0) hzG183 hzG203 hzP181 hzP182 hzV1 hzRB (fun _ _ => rfl) (fun _ _ => rfl) (fun _ _ => rfl) (hB.1 181 fl_181) (fun _ _ => rfl) (hB.1 182 fl_182) (fun _ _ => rfl) (fun _ _ => rfl) (fun _ _ => rfl) (fun _ _ => rfl) (fun _ _ => rfl) (show (0 ≤ (0 : Int32).toInt ∧ (0 : Int32).toInt ≤ 100) from by first | omega | rfl | assumption) (show (G 203) wd = (G 203) wd from by first | rfl | assumption | omega) (show (∀ z, la z ≠ la p0 + 4 → (la z < 90 ∨ 98 < la z) → (V 0) z = (V 0) z ∧ (V 1) z = (V 1) z ∧ (G 203) z = (G 203) z) from by intro z _ _; exact ⟨rfl, rfl, rfl⟩)
