abbrev QC_J7_rangeCheck_23922 (κ : Nat → Nat) (wd : Nat) (G : Nat → Nat → Int32) (P : Nat → Nat → Option Nat) (U : Nat → Nat → Int64) (V : Nat → Nat → Nat → Int32) (X : Nat → Nat → Nat → Int64) (O : Nat → Nat → Nat → Option Nat) (kd : Nat → Nat) (ln : Nat → Nat) (cnt : Nat) (p0 : Int32) (p1 : Int32) (p2 : Int32) : (Unit) → Prop := (fun t => True)
set_option maxHeartbeats 4000000 in
set_option maxRecDepth 100000 in
theorem ok_J7_rangeCheck_23922 (κ : Nat → Nat) (wd : Nat) (G : Nat → Nat → Int32) (P : Nat → Nat → Option Nat) (U : Nat → Nat → Int64) (V : Nat → Nat → Nat → Int32) (X : Nat → Nat → Nat → Int64) (O : Nat → Nat → Nat → Option Nat) (kd : Nat → Nat) (ln : Nat → Nat) (cnt : Nat) (p0 : Int32) (p1 : Int32) (p2 : Int32) (hzLN : LN κ ln) (hp0 : (0 ≤ p1.toInt ∧ p1.toInt ≤ p2.toInt ∧ p2.toInt ≤ p0.toInt)) : wp (f_J7_rangeCheck_23922 G P U V X O kd ln cnt p0 p1 p2) (QC_J7_rangeCheck_23922 κ wd G P U V X O kd ln cnt p0 p1 p2) := by
  unfold f_J7_rangeCheck_23922
  have zk0 : (0 : Int32).toInt = 0 := by decide +kernel
  have r_p0 := i32r p0
  have r_p1 := i32r p1
  have r_p2 := i32r p2
  refine wp_ite (fun c2 => ?_) (fun c2 => ?_)
  · have c2 := (z_le _ _).mp c2
    refine wp_ite (fun c47 => ?_) (fun c47 => ?_)
    · have c47 := (z_le _ _).mp c47
      refine wp_ite (fun c61 => ?_) (fun c61 => ?_)
      · have c61 := (z_le _ _).mp c61
        exact ⟨_, rfl, trivial⟩
      · have c61 := z_nle c61
        exfalso; omega
    · have c47 := z_nle c47
      exfalso; omega
  · have c2 := z_nle c2
    exfalso; omega
abbrev QC_J7_fill_eb02e (κ : Nat → Nat) (wd : Nat) (G : Nat → Nat → Int32) (P : Nat → Nat → Option Nat) (U : Nat → Nat → Int64) (V : Nat → Nat → Nat → Int32) (X : Nat → Nat → Nat → Int64) (O : Nat → Nat → Nat → Option Nat) (kd : Nat → Nat) (ln : Nat → Nat) (cnt : Nat) (p0 : Nat) (p1 : Int32) (p2 : Int32) (p3 : Int32) : ((Nat → Nat → Int32)) → Prop := (fun t => True)
set_option maxHeartbeats 4000000 in
set_option maxRecDepth 100000 in
theorem ok_J7_fill_eb02e (κ : Nat → Nat) (wd : Nat) (G : Nat → Nat → Int32) (P : Nat → Nat → Option Nat) (U : Nat → Nat → Int64) (V : Nat → Nat → Nat → Int32) (X : Nat → Nat → Nat → Int64) (O : Nat → Nat → Nat → Option Nat) (kd : Nat → Nat) (ln : Nat → Nat) (cnt : Nat) (p0 : Nat) (p1 : Int32) (p2 : Int32) (p3 : Int32) (hzLN : LN κ ln) (hk_p0 : κ p0 = 100) (hp0 : (0 ≤ p1.toInt ∧ p1.toInt ≤ p2.toInt ∧ p2.toInt ≤ ((ln p0 : Nat) : Int))) : wp (f_J7_fill_eb02e G P U V X O kd ln cnt p0 p1 p2 p3) (QC_J7_fill_eb02e κ wd G P U V X O kd ln cnt p0 p1 p2 p3) := by
  unfold f_J7_fill_eb02e
  have r_p1 := i32r p1
  have r_p2 := i32r p2
  have r_p3 := i32r p3
  have hz_p0 : (Int32.ofNat (ln p0)).toInt = ((ln p0 : Nat) : Int) := ofN_eq (hzLN p0 (by rw [hk_p0]; decide))
  have hzb_p0 := hzLN p0 (by rw [hk_p0]; decide)
  obtain ⟨u4, hc4, hq4⟩ := ok_J7_rangeCheck_23922 κ wd G P U V X O kd ln cnt (Int32.ofNat (ln p0)) p1 p2 hzLN (show (0 ≤ p1.toInt ∧ p1.toInt ≤ p2.toInt ∧ p2.toInt ≤ (Int32.ofNat (ln p0)).toInt) from by omega)
  refine wp_b0 hc4 ?_
  clear hc4
  have lp10 : ∀ (n10 : Nat) (y10_4 : Int32) (d10_V0 : Nat → Nat → Int32), (2500 - y10_4.toInt).toNat < n10 → (p1.toInt ≤ y10_4.toInt ∧ y10_4.toInt ≤ p2.toInt) → wp (L_J7_fill_eb02e_10 ln p0 p2 p3 n10 y10_4 d10_V0) (QC_J7_fill_eb02e κ wd G P U V X O kd ln cnt p0 p1 p2 p3) := by
    intro n10
    induction n10 with
    | zero => intro y10_4 d10_V0 hm; exact absurd hm (Nat.not_lt_zero _)
    | succ n10 ih10 =>
      intro y10_4 d10_V0 hm10 f1
      show wp (B_J7_fill_eb02e_10 ln p0 p2 p3 (L_J7_fill_eb02e_10 ln p0 p2 p3 n10) y10_4 d10_V0) _
      unfold B_J7_fill_eb02e_10
      refine wp_ite (fun c13 => ?_) (fun c13 => ?_)
      · have c13 := (z_le _ _).mp c13
        exact ⟨_, rfl, trivial⟩
      · have c13 := z_nle c13
        refine wp_if ⟨by omega, by omega⟩ ?_
        refine wp_vl (fun m20 em20 => ?_)
        clear em20
        have f2 : (y10_4 + 1).toInt = y10_4.toInt + (1) := z_addc (by decide +kernel) (by omega) (by omega)
        exact ih10 (y10_4 + 1) m20 (show (2500 - (y10_4 + 1).toInt).toNat < n10 from by omega) (show (p1.toInt ≤ (y10_4 + 1).toInt ∧ (y10_4 + 1).toInt ≤ p2.toInt) from by omega)
  exact lp10 NN p1 (V 0) (by have := NN_eq; omega) (show (p1.toInt ≤ p1.toInt ∧ p1.toInt ≤ p2.toInt) from by omega)
abbrev QC_X3_markFitting (κ : Nat → Nat) (wd : Nat) (G : Nat → Nat → Int32) (P : Nat → Nat → Option Nat) (U : Nat → Nat → Int64) (V : Nat → Nat → Nat → Int32) (X : Nat → Nat → Nat → Int64) (O : Nat → Nat → Nat → Option Nat) (kd : Nat → Nat) (ln : Nat → Nat) (cnt : Nat) (this : Nat) (p0 : Nat) (p1 : Int32) (p2 : Int32) (p3 : Int32) : ((Nat → Nat → Int32) × (Nat → Nat → Int32)) → Prop := (fun t => True)
set_option maxHeartbeats 4000000 in
set_option maxRecDepth 100000 in
theorem ok_X3_markFitting (κ : Nat → Nat) (wd : Nat) (G : Nat → Nat → Int32) (P : Nat → Nat → Option Nat) (U : Nat → Nat → Int64) (V : Nat → Nat → Nat → Int32) (X : Nat → Nat → Nat → Int64) (O : Nat → Nat → Nat → Option Nat) (kd : Nat → Nat) (ln : Nat → Nat) (cnt : Nat) (this : Nat) (p0 : Nat) (p1 : Int32) (p2 : Int32) (p3 : Int32) (hzG200 : rng (0) 24 (G 200)) (hzG203 : rng (0) 100 (G 203)) (hzP63 : PB κ ln wd 4 100 408 408 0 (P 63)) (hzP64 : PB κ ln wd 4 112 25 25 0 (P 64)) (hzP66 : PB κ ln wd 4 11 0 2500 0 (P 66)) (hzP201 : PB κ ln wd 11 100 0 2400 0 (P 201)) (hzP202 : PB κ ln wd 11 101 0 100 0 (P 202)) (hzV1 : rng2 (0) 24 (V 1)) (hzRA : RA κ ln (G 200) (P 201) (P 202)) (hzRB : RB κ ln (G 200) (G 203) (P 202) (V 1)) (hzRI : RI (P 202)) (hzLN : LN κ ln) (hk_this : κ this = 4) (hk_p0 : κ p0 = 100) (hp0 : (0 ≤ p2.toInt ∧ p2.toInt < p3.toInt ∧ p3.toInt ≤ 24)) (hp1 : (0 ≤ p1.toInt ∧ p1.toInt ≤ 2500)) : wp (f_X3_markFitting G P U V X O kd ln cnt this p0 p1 p2 p3) (QC_X3_markFitting κ wd G P U V X O kd ln cnt this p0 p1 p2 p3) := by
  unfold f_X3_markFitting
  have zkm1 : (-1 : Int32).toInt = -1 := by decide +kernel
  have zk0 : (0 : Int32).toInt = 0 := by decide +kernel
  have zk1 : (1 : Int32).toInt = 1 := by decide +kernel
  have zk17 : (17 : Int32).toInt = 17 := by decide +kernel
  have r_p1 := i32r p1
  have r_p2 := i32r p2
  have r_p3 := i32r p3
  refine wp_nn ((hzP64 this).1 hk_this) (fun a1 hn_a1 => ?_)
  have hk_a1 := ((hzP64 this).2 a1 hn_a1).1
  have hl1_a1 := ((hzP64 this).2 a1 hn_a1).2.1
  have hl2_a1 := ((hzP64 this).2 a1 hn_a1).2.2.1
  have hw_a1 := ((hzP64 this).2 a1 hn_a1).2.2.2
  have hz_a1 : (Int32.ofNat (ln a1)).toInt = ((ln a1 : Nat) : Int) := ofN_eq (by first | exact Nat.le_trans hl2_a1 (by decide) | omega)
  refine wp_if ⟨by omega, by omega⟩ ?_
  refine wp_vl (fun m6 em6 => ?_)
  clear em6
  refine wp_nn ((hzP63 this).1 hk_this) (fun a8 hn_a8 => ?_)
  have hk_a8 := ((hzP63 this).2 a8 hn_a8).1
  have hl1_a8 := ((hzP63 this).2 a8 hn_a8).2.1
  have hl2_a8 := ((hzP63 this).2 a8 hn_a8).2.2.1
  have hw_a8 := ((hzP63 this).2 a8 hn_a8).2.2.2
  have hz_a8 : (Int32.ofNat (ln a8)).toInt = ((ln a8 : Nat) : Int) := ofN_eq (by first | exact Nat.le_trans hl2_a8 (by decide) | omega)
  have f1 : (p2 * 17).toInt = p2.toInt * 17 := z_mulc (by decide +kernel) (by omega) (by omega)
  have f3 : ((p2 * 17) + 17).toInt = (p2 * 17).toInt + 17 := z_addc (by decide +kernel) (by omega) (by omega)
  obtain ⟨c23_V0, hc23, hq23⟩ := ok_J7_fill_eb02e κ wd G P U (va_up V 12 m6) X O kd ln cnt a8 (p2 * 17) ((p2 * 17) + 17) (-1 : Int32) hzLN hk_a8 (show (0 ≤ (p2 * 17).toInt ∧ (p2 * 17).toInt ≤ ((p2 * 17) + 17).toInt ∧ ((p2 * 17) + 17).toInt ≤ ((ln a8 : Nat) : Int)) from by omega)
  refine wp_b1 hc23 ?_
  clear hc23
  have lp29 : ∀ (n29 : Nat) (y29_5 : Int32) (d29_V0 : Nat → Nat → Int32) (d29_V12 : Nat → Nat → Int32), (100 - y29_5.toInt).toNat < n29 → (0 ≤ y29_5.toInt ∧ y29_5.toInt ≤ 100) → wp (L_X3_markFitting_29 G P U V X O kd ln cnt this p0 p1 p2 p3 n29 y29_5 d29_V0 d29_V12) (QC_X3_markFitting κ wd G P U V X O kd ln cnt this p0 p1 p2 p3) := by
    intro n29
    induction n29 with
    | zero => intro y29_5 d29_V0 d29_V12 hm; exact absurd hm (Nat.not_lt_zero _)
    | succ n29 ih29 =>
      intro y29_5 d29_V0 d29_V12 hm29 f4
      show wp (B_X3_markFitting_29 G P U V X O kd ln cnt this p0 p1 p2 p3 (L_X3_markFitting_29 G P U V X O kd ln cnt this p0 p1 p2 p3 n29) y29_5 d29_V0 d29_V12) _
      unfold B_X3_markFitting_29
      refine wp_nn ((hzP66 this).1 hk_this) (fun a32 hn_a32 => ?_)
      have hk_a32 := ((hzP66 this).2 a32 hn_a32).1
      have hl1_a32 := ((hzP66 this).2 a32 hn_a32).2.1
      have hl2_a32 := ((hzP66 this).2 a32 hn_a32).2.2.1
      have hw_a32 := ((hzP66 this).2 a32 hn_a32).2.2.2
      have b5 := hzG203 a32
      refine wp_ite (fun c38 => ?_) (fun c38 => ?_)
      · have c38 := (z_le _ _).mp c38
        exact ⟨_, rfl, trivial⟩
      · have c38 := z_nle c38
        refine wp_nne hn_a32 ?_
        refine wp_nn ((hzP202 a32).1 hk_a32) (fun a46 hn_a46 => ?_)
        have hk_a46 := ((hzP202 a32).2 a46 hn_a46).1
        have hl1_a46 := ((hzP202 a32).2 a46 hn_a46).2.1
        have hl2_a46 := ((hzP202 a32).2 a46 hn_a46).2.2.1
        have hw_a46 := ((hzP202 a32).2 a46 hn_a46).2.2.2
        have hz_a46 : (Int32.ofNat (ln a46)).toInt = ((ln a46 : Nat) : Int) := ofN_eq (by first | exact Nat.le_trans hl2_a46 (by decide) | omega)
        have rb6 := (hzRB a32 a46 hk_a32 hn_a46).1
        refine wp_if ⟨by omega, by omega⟩ ?_
        have b7 := hzV1 a46 (Int32.toNatClampNeg y29_5)
        have rl8 := (hzRB a32 a46 hk_a32 hn_a46).2 (Int32.toNatClampNeg y29_5)
        have f9 : (p2 + (((V 1) a46) (Int32.toNatClampNeg y29_5))).toInt = p2.toInt + (((V 1) a46) (Int32.toNatClampNeg y29_5)).toInt := z_add (by omega) (by omega)
        refine wp_vl (fun x53 ex53 => ?_)
        have f10 : x53.toInt = (p2 + (((V 1) a46) (Int32.toNatClampNeg y29_5))).toInt := congrArg Int32.toInt ex53
        clear ex53
        refine wp_jn (fun j118 => ∀ (c118_V0 : Nat → Nat → Int32) (c118_V12 : Nat → Nat → Int32), wp (j118 c118_V0 c118_V12) (QC_X3_markFitting κ wd G P U V X O kd ln cnt this p0 p1 p2 p3)) ?_ ?_
        · intro c118_V0 c118_V12
          show wp _ _
          have f11 : (y29_5 + 1).toInt = y29_5.toInt + (1) := z_addc (by decide +kernel) (by omega) (by omega)
          exact ih29 (y29_5 + 1) c118_V0 c118_V12 (show (100 - (y29_5 + 1).toInt).toNat < n29 from by omega) (show (0 ≤ (y29_5 + 1).toInt ∧ (y29_5 + 1).toInt ≤ 100) from by omega)
        intro j118 Jj118
        refine wp_ite (fun c59 => ?_) (fun c59 => ?_)
        · have c59 := (z_lt _ _).mp c59
          exact Jj118 d29_V0 d29_V12
        · have c59 := z_nlt c59
          refine wp_nne hn_a1 ?_
          refine wp_if ⟨by omega, by omega⟩ ?_
          refine wp_ite (fun c69 => ?_) (fun c69 => ?_)
          · have c69 := congrArg Int32.toInt c69
            exact Jj118 d29_V0 d29_V12
          · have c69 := z_ne c69
            refine wp_nne hn_a32 ?_
            have f12 : (p1 + p2).toInt = p1.toInt + p2.toInt := z_add (by omega) (by omega)
            obtain ⟨r82, hc82, hq82⟩ := ok_X10_standsIn κ wd G P U (va_up (va_up V 0 d29_V0) 12 d29_V12) X O kd ln cnt a32 y29_5 p0 (p1 + p2) hzG200 hzG203 hzP201 hzP202 hzV1 hzRA hzRB hzRI hzLN hk_a32 hk_p0 (show (0 ≤ y29_5.toInt ∧ y29_5.toInt < ((G 203) a32).toInt) from by omega)
            have f13 : (0 ≤ r82.toInt ∧ r82.toInt ≤ 1) := hq82
            refine wp_b1 hc82 ?_
            clear hc82
            refine wp_ite (fun c85 => ?_) (fun c85 => ?_)
            · have c85 := congrArg Int32.toInt c85
              exact Jj118 d29_V0 d29_V12
            · have c85 := z_ne c85
              refine wp_nne hn_a8 ?_
              refine wp_nne hn_a32 ?_
              refine wp_nne hn_a46 ?_
              refine wp_if ⟨by omega, by omega⟩ ?_
              have f17 : ((p2 * 17) + (((V 1) a46) (Int32.toNatClampNeg y29_5))).toInt = (p2 * 17).toInt + (((V 1) a46) (Int32.toNatClampNeg y29_5)).toInt := z_add (by omega) (by omega)
              refine wp_if ⟨by omega, by omega⟩ ?_
              refine wp_vl (fun m110 em110 => ?_)
              clear em110
              refine wp_nne hn_a1 ?_
              refine wp_if ⟨by omega, by omega⟩ ?_
              refine wp_vl (fun m117 em117 => ?_)
              clear em117
              exact Jj118 m110 m117
  exact lp29 NN (0 : Int32) c23_V0 m6 (by have := NN_eq; omega) (show (0 ≤ (0 : Int32).toInt ∧ (0 : Int32).toInt ≤ 100) from by omega)
abbrev QC_X3_note (κ : Nat → Nat) (wd : Nat) (G : Nat → Nat → Int32) (P : Nat → Nat → Option Nat) (U : Nat → Nat → Int64) (V : Nat → Nat → Nat → Int32) (X : Nat → Nat → Nat → Int64) (O : Nat → Nat → Nat → Option Nat) (kd : Nat → Nat) (ln : Nat → Nat) (cnt : Nat) (this : Nat) (p0 : Int32) : ((Nat → Int32) × (Nat → Nat → Int32) × (Nat → Nat → Int32)) → Prop := (fun t => (rng (0) 30 (t.1)) ∧ (rng2 (0) 24 (t.2.2)))
set_option maxHeartbeats 4000000 in
set_option maxRecDepth 100000 in
theorem ok_X3_note (κ : Nat → Nat) (wd : Nat) (G : Nat → Nat → Int32) (P : Nat → Nat → Option Nat) (U : Nat → Nat → Int64) (V : Nat → Nat → Nat → Int32) (X : Nat → Nat → Nat → Int64) (O : Nat → Nat → Nat → Option Nat) (kd : Nat → Nat) (ln : Nat → Nat) (cnt : Nat) (this : Nat) (p0 : Int32) (hzG60 : rng (0) 30 (G 60)) (hzP61 : PB κ ln wd 4 102 30 30 0 (P 61)) (hzP62 : PB κ ln wd 4 100 720 720 0 (P 62)) (hzP65 : PB κ ln wd 4 100 24 24 0 (P 65)) (hzV2 : rng2 (0) 24 (V 2)) (hzLN : LN κ ln) (hk_this : κ this = 4) (hp0 : (0 ≤ p0.toInt ∧ p0.toInt ≤ 24)) (hp1 : ((G 60) this).toInt < 30) : wp (f_X3_note G P U V X O kd ln cnt this p0) (QC_X3_note κ wd G P U V X O kd ln cnt this p0) := by
  unfold f_X3_note
  have zk0 : (0 : Int32).toInt = 0 := by decide +kernel
  have zk1 : (1 : Int32).toInt = 1 := by decide +kernel
  have zk24 : (24 : Int32).toInt = 24 := by decide +kernel
  have r_p0 := i32r p0
  refine wp_nn ((hzP65 this).1 hk_this) (fun a1 hn_a1 => ?_)
  have hk_a1 := ((hzP65 this).2 a1 hn_a1).1
  have hl1_a1 := ((hzP65 this).2 a1 hn_a1).2.1
  have hl2_a1 := ((hzP65 this).2 a1 hn_a1).2.2.1
  have hw_a1 := ((hzP65 this).2 a1 hn_a1).2.2.2
  have hz_a1 : (Int32.ofNat (ln a1)).toInt = ((ln a1 : Nat) : Int) := ofN_eq (by first | exact Nat.le_trans hl2_a1 (by decide) | omega)
  refine wp_nn ((hzP62 this).1 hk_this) (fun a6 hn_a6 => ?_)
  have hk_a6 := ((hzP62 this).2 a6 hn_a6).1
  have hl1_a6 := ((hzP62 this).2 a6 hn_a6).2.1
  have hl2_a6 := ((hzP62 this).2 a6 hn_a6).2.2.1
  have hw_a6 := ((hzP62 this).2 a6 hn_a6).2.2.2
  have hz_a6 : (Int32.ofNat (ln a6)).toInt = ((ln a6 : Nat) : Int) := ofN_eq (by first | exact Nat.le_trans hl2_a6 (by decide) | omega)
  have b1 := hzG60 this
  have f2 : (((G 60) this) * 24).toInt = ((G 60) this).toInt * 24 := z_mulc (by decide +kernel) (by omega) (by omega)
  refine wp_if ⟨by omega, by omega, by omega, by omega, by omega⟩ ?_
  refine wp_vl (fun m17 em17 => ?_)
  clear em17
  refine wp_nn ((hzP61 this).1 hk_this) (fun a21 hn_a21 => ?_)
  have hk_a21 := ((hzP61 this).2 a21 hn_a21).1
  have hl1_a21 := ((hzP61 this).2 a21 hn_a21).2.1
  have hl2_a21 := ((hzP61 this).2 a21 hn_a21).2.2.1
  have hw_a21 := ((hzP61 this).2 a21 hn_a21).2.2.2
  have hz_a21 : (Int32.ofNat (ln a21)).toInt = ((ln a21 : Nat) : Int) := ofN_eq (by first | exact Nat.le_trans hl2_a21 (by decide) | omega)
  refine wp_if ⟨by omega, by omega⟩ ?_
  refine wp_vl (fun m29 em29 => ?_)
  have hv4 : rng2 (0) 24 m29 := by rw [em29]; exact rng2_up hzV2 (by omega) (by omega)
  clear em29
  have f6 : (((G 60) this) + 1).toInt = ((G 60) this).toInt + 1 := z_addc (by decide +kernel) (by omega) (by omega)
  refine wp_vl (fun x37 ex37 => ?_)
  have f7 : x37.toInt = (((G 60) this) + 1).toInt := congrArg Int32.toInt ex37
  clear ex37
  refine wp_vl (fun m37 em37 => ?_)
  have hg8 : rng (0) 30 m37 := by rw [em37]; exact rng_vup hzG60 (by omega) (by omega)
  have sm37 : (m37 this).toInt = x37.toInt := by rw [em37, va_up_self]
  have b9 := hg8 this
  clear em37
  exact ⟨_, rfl, ⟨hg8, hv4⟩⟩
abbrev QC_X3_walk (κ : Nat → Nat) (wd : Nat) (G : Nat → Nat → Int32) (P : Nat → Nat → Option Nat) (U : Nat → Nat → Int64) (V : Nat → Nat → Nat → Int32) (X : Nat → Nat → Nat → Int64) (O : Nat → Nat → Nat → Option Nat) (kd : Nat → Nat) (ln : Nat → Nat) (cnt : Nat) (this : Nat) (p0 : Int32) (p1 : Int32) (p2 : Int32) : ((Nat → Int32) × (Nat → Nat → Int32) × (Nat → Nat → Int32)) → Prop := (fun t => (rng (0) 30 (t.1)) ∧ (rng2 (0) 24 (t.2.2)))
set_option maxHeartbeats 4000000 in
set_option maxRecDepth 100000 in
theorem ok_X3_walk (dn : Nat) : ∀ (κ : Nat → Nat) (wd : Nat) (G : Nat → Nat → Int32) (P : Nat → Nat → Option Nat) (U : Nat → Nat → Int64) (V : Nat → Nat → Nat → Int32) (X : Nat → Nat → Nat → Int64) (O : Nat → Nat → Nat → Option Nat) (kd : Nat → Nat) (ln : Nat → Nat) (cnt : Nat) (this : Nat) (p0 : Int32) (p1 : Int32) (p2 : Int32) (hzG60 : rng (0) 30 (G 60)) (hzP61 : PB κ ln wd 4 102 30 30 0 (P 61)) (hzP62 : PB κ ln wd 4 100 720 720 0 (P 62)) (hzP63 : PB κ ln wd 4 100 408 408 0 (P 63)) (hzP65 : PB κ ln wd 4 100 24 24 0 (P 65)) (hzV2 : rng2 (0) 24 (V 2)) (hzLN : LN κ ln) (hk_this : κ this = 4) (hp0 : (p1.toInt - p0.toInt) < dn) (hp1 : (0 ≤ p0.toInt ∧ p0.toInt ≤ p1.toInt ∧ p1.toInt ≤ 24)) (hp2 : (0 ≤ p2.toInt ∧ p2.toInt ≤ 24)), wp (f_X3_walk dn G P U V X O kd ln cnt this p0 p1 p2) (QC_X3_walk κ wd G P U V X O kd ln cnt this p0 p1 p2) := by
  induction dn with
  | zero => intro κ wd G P U V X O kd ln cnt this p0 p1 p2 hzG60 hzP61 hzP62 hzP63 hzP65 hzV2 hzLN hk_this hp0 hp1 hp2; exact absurd hp0 (by omega)
  | succ dn ihd =>
  intro κ wd G P U V X O kd ln cnt this p0 p1 p2 hzG60 hzP61 hzP62 hzP63 hzP65 hzV2 hzLN hk_this hp0 hp1 hp2
  show wp (F_X3_walk (f_X3_walk dn) G P U V X O kd ln cnt this p0 p1 p2) _
  unfold F_X3_walk
  have zkm1 : (-1 : Int32).toInt = -1 := by decide +kernel
  have zk1 : (1 : Int32).toInt = 1 := by decide +kernel
  have zk17 : (17 : Int32).toInt = 17 := by decide +kernel
  have zk24 : (24 : Int32).toInt = 24 := by decide +kernel
  have zk30 : (30 : Int32).toInt = 30 := by decide +kernel
  have r_p0 := i32r p0
  have r_p1 := i32r p1
  have r_p2 := i32r p2
  have b1 := hzG60 this
  refine wp_ite (fun c6 => ?_) (fun c6 => ?_)
  · have c6 := (z_lt _ _).mp c6
    refine wp_ite (fun c12 => ?_) (fun c12 => ?_)
    · have c12 := (z_lt _ _).mp c12
      refine wp_jn (fun k91 => ∀ (c91_G60 : Nat → Int32) (c91_V0 : Nat → Nat → Int32) (c91_V2 : Nat → Nat → Int32), rng (0) 30 c91_G60 → rng2 (0) 24 c91_V2 → wp (k91 c91_G60 c91_V0 c91_V2) (QC_X3_walk κ wd G P U V X O kd ln cnt this p0 p1 p2)) ?_ ?_
      · intro c91_G60 c91_V0 c91_V2 hg2 hg3
        show wp _ _
        exact ⟨_, rfl, ⟨hg2, hg3⟩⟩
      intro k91 Jk91
      have lp24 : ∀ (n24 : Nat) (y24_4 : Int32) (d24_G60 : Nat → Int32) (d24_V0 : Nat → Nat → Int32) (d24_V2 : Nat → Nat → Int32), (17 - y24_4.toInt).toNat < n24 → rng (0) 30 d24_G60 → rng2 (0) 24 d24_V2 → (1 ≤ y24_4.toInt ∧ y24_4.toInt ≤ 17) → wp (L_X3_walk_24 (f_X3_walk dn) G P U V X O kd ln cnt this p0 p1 p2 k91 n24 y24_4 d24_G60 d24_V0 d24_V2) (QC_X3_walk κ wd G P U V X O kd ln cnt this p0 p1 p2) := by
        intro n24
        induction n24 with
        | zero => intro y24_4 d24_G60 d24_V0 d24_V2 hm; exact absurd hm (Nat.not_lt_zero _)
        | succ n24 ih24 =>
          intro y24_4 d24_G60 d24_V0 d24_V2 hm24 hg4 hg5 f6
          show wp (B_X3_walk_24 (f_X3_walk dn) G P U V X O kd ln cnt this p0 p1 p2 k91 (L_X3_walk_24 (f_X3_walk dn) G P U V X O kd ln cnt this p0 p1 p2 k91 n24) y24_4 d24_G60 d24_V0 d24_V2) _
          unfold B_X3_walk_24
          refine wp_ite (fun c28 => ?_) (fun c28 => ?_)
          · have c28 := (z_le _ _).mp c28
            exact Jk91 d24_G60 d24_V0 d24_V2 hg4 hg5
          · have c28 := z_nle c28
            have f7 : (p0 + y24_4).toInt = p0.toInt + y24_4.toInt := z_add (by omega) (by omega)
            refine wp_ite (fun c36 => ?_) (fun c36 => ?_)
            · have c36 := (z_lt _ _).mp c36
              exact Jk91 d24_G60 d24_V0 d24_V2 hg4 hg5
            · have c36 := z_nlt c36
              refine wp_ite (fun c42 => ?_) (fun c42 => ?_)
              · have c42 := (z_le _ _).mp c42
                exact Jk91 d24_G60 d24_V0 d24_V2 hg4 hg5
              · have c42 := z_nle c42
                refine wp_nn ((hzP63 this).1 hk_this) (fun a46 hn_a46 => ?_)
                have hk_a46 := ((hzP63 this).2 a46 hn_a46).1
                have hl1_a46 := ((hzP63 this).2 a46 hn_a46).2.1
                have hl2_a46 := ((hzP63 this).2 a46 hn_a46).2.2.1
                have hw_a46 := ((hzP63 this).2 a46 hn_a46).2.2.2
                have hz_a46 : (Int32.ofNat (ln a46)).toInt = ((ln a46 : Nat) : Int) := ofN_eq (by first | exact Nat.le_trans hl2_a46 (by decide) | omega)
                have f8 : (p0 * 17).toInt = p0.toInt * 17 := z_mulc (by decide +kernel) (by omega) (by omega)
                have f9 : ((p0 * 17) + y24_4).toInt = (p0 * 17).toInt + y24_4.toInt := z_add (by omega) (by omega)
                refine wp_if ⟨by omega, by omega⟩ ?_
                refine wp_vl (fun x57 ex57 => ?_)
                have f10 : x57.toInt = ((d24_V0 a46) (Int32.toNatClampNeg ((p0 * 17) + y24_4))).toInt := congrArg Int32.toInt ex57
                clear ex57
                refine wp_jn (fun j85 => ∀ (c85_G60 : Nat → Int32) (c85_V0 : Nat → Nat → Int32) (c85_V2 : Nat → Nat → Int32), rng (0) 30 c85_G60 → rng2 (0) 24 c85_V2 → wp (j85 c85_G60 c85_V0 c85_V2) (QC_X3_walk κ wd G P U V X O kd ln cnt this p0 p1 p2)) ?_ ?_
                · intro c85_G60 c85_V0 c85_V2 hg11 hg12
                  show wp _ _
                  have f13 : (y24_4 + 1).toInt = y24_4.toInt + (1) := z_addc (by decide +kernel) (by omega) (by omega)
                  exact ih24 (y24_4 + 1) c85_G60 c85_V0 c85_V2 (show (17 - (y24_4 + 1).toInt).toNat < n24 from by omega) hg11 hg12 (show (1 ≤ (y24_4 + 1).toInt ∧ (y24_4 + 1).toInt ≤ 17) from by omega)
                intro j85 Jj85
                refine wp_ite (fun c62 => ?_) (fun c62 => ?_)
                · have c62 := congrArg Int32.toInt c62
                  exact Jj85 d24_G60 d24_V0 d24_V2 hg4 hg5
                · have c62 := z_ne c62
                  refine wp_nn ((hzP65 this).1 hk_this) (fun a66 hn_a66 => ?_)
                  have hk_a66 := ((hzP65 this).2 a66 hn_a66).1
                  have hl1_a66 := ((hzP65 this).2 a66 hn_a66).2.1
                  have hl2_a66 := ((hzP65 this).2 a66 hn_a66).2.2.1
                  have hw_a66 := ((hzP65 this).2 a66 hn_a66).2.2.2
                  have hz_a66 : (Int32.ofNat (ln a66)).toInt = ((ln a66 : Nat) : Int) := ofN_eq (by first | exact Nat.le_trans hl2_a66 (by decide) | omega)
                  refine wp_if ⟨by omega, by omega⟩ ?_
                  refine wp_vl (fun m72 em72 => ?_)
                  clear em72
                  have f15 : (p2 + 1).toInt = p2.toInt + 1 := z_addc (by decide +kernel) (by omega) (by omega)
                  obtain ⟨⟨c82_G60, c82_V0, c82_V2⟩, hc82, hq82⟩ := ihd κ wd (va_up G 60 d24_G60) P U (va_up (va_up (va_up V 0 d24_V0) 2 d24_V2) 0 m72) X O kd ln cnt this (p0 + y24_4) p1 (p2 + 1) hg4 hzP61 hzP62 hzP63 hzP65 hg5 hzLN hk_this (show (p1.toInt - (p0 + y24_4).toInt) < dn from by omega) (show (0 ≤ (p0 + y24_4).toInt ∧ (p0 + y24_4).toInt ≤ p1.toInt ∧ p1.toInt ≤ 24) from by omega) (show (0 ≤ (p2 + 1).toInt ∧ (p2 + 1).toInt ≤ 24) from by omega)
                  obtain ⟨hg16, hg17⟩ : (rng (0) 30 c82_G60) ∧ (rng2 (0) 24 c82_V2) := hq82
                  refine wp_b3 hc82 ?_
                  clear hc82
                  exact Jj85 c82_G60 c82_V0 c82_V2 hg16 hg17
      exact lp24 NN (1 : Int32) (G 60) (V 0) (V 2) (by have := NN_eq; omega) hzG60 hzV2 (show (1 ≤ (1 : Int32).toInt ∧ (1 : Int32).toInt ≤ 17) from by omega)
    · have c12 := z_nlt c12
      obtain ⟨⟨c17_G60, c17_V0, c17_V2⟩, hc17, hq17⟩ := ok_X3_note κ wd G P U V X O kd ln cnt this p2 hzG60 hzP61 hzP62 hzP65 hzV2 hzLN hk_this (show (0 ≤ p2.toInt ∧ p2.toInt ≤ 24) from by omega) (show ((G 60) this).toInt < 30 from by omega)
      obtain ⟨hg18, hg19⟩ : (rng (0) 30 c17_G60) ∧ (rng2 (0) 24 c17_V2) := hq17
      refine wp_b3 hc17 ?_
      clear hc17
      exact ⟨_, rfl, ⟨hg18, hg19⟩⟩
  · have c6 := z_nlt c6
    exact ⟨_, rfl, ⟨hzG60, hzV2⟩⟩
abbrev QC_X3_find (κ : Nat → Nat) (wd : Nat) (G : Nat → Nat → Int32) (P : Nat → Nat → Option Nat) (U : Nat → Nat → Int64) (V : Nat → Nat → Nat → Int32) (X : Nat → Nat → Nat → Int64) (O : Nat → Nat → Nat → Option Nat) (kd : Nat → Nat) (ln : Nat → Nat) (cnt : Nat) (this : Nat) (p0 : Nat) (p1 : Nat) (p2 : Int32) (p3 : Int32) : ((Nat → Int32) × (Nat → Option Nat) × (Nat → Nat → Int32) × (Nat → Nat → Int32) × (Nat → Nat → Int32)) → Prop := (fun t => (rng (0) 30 (t.1)) ∧ (PB κ ln wd 4 11 0 2500 0 (t.2.1)) ∧ (rng2 (0) 24 (t.2.2.2.1)))
set_option maxHeartbeats 4000000 in
set_option maxRecDepth 100000 in
theorem ok_X3_find (κ : Nat → Nat) (wd : Nat) (G : Nat → Nat → Int32) (P : Nat → Nat → Option Nat) (U : Nat → Nat → Int64) (V : Nat → Nat → Nat → Int32) (X : Nat → Nat → Nat → Int64) (O : Nat → Nat → Nat → Option Nat) (kd : Nat → Nat) (ln : Nat → Nat) (cnt : Nat) (this : Nat) (p0 : Nat) (p1 : Nat) (p2 : Int32) (p3 : Int32) (hzG60 : rng (0) 30 (G 60)) (hzG200 : rng (0) 24 (G 200)) (hzG203 : rng (0) 100 (G 203)) (hzP61 : PB κ ln wd 4 102 30 30 0 (P 61)) (hzP62 : PB κ ln wd 4 100 720 720 0 (P 62)) (hzP63 : PB κ ln wd 4 100 408 408 0 (P 63)) (hzP64 : PB κ ln wd 4 112 25 25 0 (P 64)) (hzP65 : PB κ ln wd 4 100 24 24 0 (P 65)) (hzP66 : PB κ ln wd 4 11 0 2500 0 (P 66)) (hzP201 : PB κ ln wd 11 100 0 2400 0 (P 201)) (hzP202 : PB κ ln wd 11 101 0 100 0 (P 202)) (hzV1 : rng2 (0) 24 (V 1)) (hzV2 : rng2 (0) 24 (V 2)) (hzRA : RA κ ln (G 200) (P 201) (P 202)) (hzRB : RB κ ln (G 200) (G 203) (P 202) (V 1)) (hzRI : RI (P 202)) (hzLN : LN κ ln) (hk_this : κ this = 4) (hk_p0 : κ p0 = 11) (hk_p1 : κ p1 = 100) (hp0 : (0 ≤ p2.toInt ∧ p2.toInt ≤ 2500)) : wp (f_X3_find G P U V X O kd ln cnt this p0 p1 p2 p3) (QC_X3_find κ wd G P U V X O kd ln cnt this p0 p1 p2 p3) := by
  unfold f_X3_find
  have zk0 : (0 : Int32).toInt = 0 := by decide +kernel
  have zk1 : (1 : Int32).toInt = 1 := by decide +kernel
  have zk24 : (24 : Int32).toInt = 24 := by decide +kernel
  have r_p2 := i32r p2
  have r_p3 := i32r p3
  have hlp := hzLN p0 (by rw [hk_p0]; decide)
  refine wp_vl (fun m2 em2 => ?_)
  have hg1 : rng (0) 30 m2 := by rw [em2]; exact rng_vup hzG60 (by omega) (by omega)
  have sm2 : (m2 this).toInt = 0 := by rw [em2, va_up_self]; decide +kernel
  have b2 := hg1 this
  clear em2
  refine wp_vl (fun m7 em7 => ?_)
  have hp3 : PB κ ln wd 4 11 0 2500 0 m7 := by rw [em7]; exact PB_up hzP66 hk_p0 (by omega) (by omega) (fun h9 => absurd h9 (by decide))
  have sm7 : m7 this = some p0 := by rw [em7]; exact va_up_self _ _ _
  clear em7
  refine wp_nne sm7 ?_
  have b4 := hzG203 p0
  refine wp_jn (fun j33 => wp (j33 ()) (QC_X3_find κ wd G P U V X O kd ln cnt this p0 p1 p2 p3)) ?_ ?_
  · show wp _ _
    exact ⟨_, rfl, ⟨hg1, hp3, hzV2⟩⟩
  intro j33 Jj33
  refine wp_ite (fun c17 => ?_) (fun c17 => ?_)
  · have c17 := congrArg Int32.toInt c17
    exact Jj33
  · have c17 := z_ne c17
    refine wp_ite (fun c23 => ?_) (fun c23 => ?_)
    · have c23 := (z_lt _ _).mp c23
      exact Jj33
    · have c23 := z_nlt c23
      refine wp_ite (fun c30 => ?_) (fun c30 => ?_)
      · have c30 := (z_le _ _).mp c30
        refine wp_nn ((hzP64 this).1 hk_this) (fun a35 hn_a35 => ?_)
        have hk_a35 := ((hzP64 this).2 a35 hn_a35).1
        have hl1_a35 := ((hzP64 this).2 a35 hn_a35).2.1
        have hl2_a35 := ((hzP64 this).2 a35 hn_a35).2.2.1
        have hw_a35 := ((hzP64 this).2 a35 hn_a35).2.2.2
        have hz_a35 : (Int32.ofNat (ln a35)).toInt = ((ln a35 : Nat) : Int) := ofN_eq (by first | exact Nat.le_trans hl2_a35 (by decide) | omega)
        refine wp_if ⟨by omega, by omega⟩ ?_
        refine wp_vl (fun m41 em41 => ?_)
        clear em41
        have f5 : (p3 - 1).toInt = p3.toInt - 1 := z_subc (by decide +kernel) (by omega) (by omega)
        refine wp_vl (fun x46 ex46 => ?_)
        have f6 : x46.toInt = (p3 - 1).toInt := congrArg Int32.toInt ex46
        clear ex46
        refine wp_jn (fun k69 => ∀ (c69_V0 : Nat → Nat → Int32) (c69_V12 : Nat → Nat → Int32), wp (k69 c69_V0 c69_V12) (QC_X3_find κ wd G P U V X O kd ln cnt this p0 p1 p2 p3)) ?_ ?_
        · intro c69_V0 c69_V12
          show wp _ _
          refine wp_nne hn_a35 ?_
          refine wp_if ⟨by omega, by omega⟩ ?_
          refine wp_jn (fun j86 => ∀ (c86_G60 : Nat → Int32) (c86_V0 : Nat → Nat → Int32) (c86_V2 : Nat → Nat → Int32), rng (0) 30 c86_G60 → rng2 (0) 24 c86_V2 → wp (j86 c86_G60 c86_V0 c86_V2) (QC_X3_find κ wd G P U V X O kd ln cnt this p0 p1 p2 p3)) ?_ ?_
          · intro c86_G60 c86_V0 c86_V2 hg7 hg8
            show wp _ _
            exact ⟨_, rfl, ⟨hg7, hp3, hg8⟩⟩
          intro j86 Jj86
          refine wp_ite (fun c75 => ?_) (fun c75 => ?_)
          · have c75 := congrArg Int32.toInt c75
            exact Jj86 m2 c69_V0 (V 2) hg1 hzV2
          · have c75 := z_ne c75
            obtain ⟨⟨c83_G60, c83_V0, c83_V2⟩, hc83, hq83⟩ := ok_X3_walk 40 κ wd (va_up G 60 m2) (va_up P 66 m7) U (va_up (va_up V 0 c69_V0) 12 c69_V12) X O kd ln cnt this (0 : Int32) p3 (0 : Int32) hg1 hzP61 hzP62 hzP63 hzP65 hzV2 hzLN hk_this (show (p3.toInt - (0 : Int32).toInt) < 40 from by omega) (show (0 ≤ (0 : Int32).toInt ∧ (0 : Int32).toInt ≤ p3.toInt ∧ p3.toInt ≤ 24) from by omega) (show (0 ≤ (0 : Int32).toInt ∧ (0 : Int32).toInt ≤ 24) from by omega)
            obtain ⟨hg9, hg10⟩ : (rng (0) 30 c83_G60) ∧ (rng2 (0) 24 c83_V2) := hq83
            refine wp_b3 hc83 ?_
            clear hc83
            exact Jj86 c83_G60 c83_V0 c83_V2 hg9 hg10
        intro k69 Jk69
        have lp48 : ∀ (n48 : Nat) (y48_5 : Int32) (d48_V0 : Nat → Nat → Int32) (d48_V12 : Nat → Nat → Int32), (y48_5.toInt + 1).toNat < n48 → ((-1) ≤ y48_5.toInt ∧ y48_5.toInt < p3.toInt) → wp (L_X3_find_48 G P U V X O kd ln cnt this p1 p2 p3 m2 m7 k69 n48 y48_5 d48_V0 d48_V12) (QC_X3_find κ wd G P U V X O kd ln cnt this p0 p1 p2 p3) := by
          intro n48
          induction n48 with
          | zero => intro y48_5 d48_V0 d48_V12 hm; exact absurd hm (Nat.not_lt_zero _)
          | succ n48 ih48 =>
            intro y48_5 d48_V0 d48_V12 hm48 f11
            show wp (B_X3_find_48 G P U V X O kd ln cnt this p1 p2 p3 m2 m7 k69 (L_X3_find_48 G P U V X O kd ln cnt this p1 p2 p3 m2 m7 k69 n48) y48_5 d48_V0 d48_V12) _
            unfold B_X3_find_48
            refine wp_ite (fun c50 => ?_) (fun c50 => ?_)
            · have c50 := (z_lt _ _).mp c50
              exact Jk69 d48_V0 d48_V12
            · have c50 := z_nlt c50
              obtain ⟨⟨c60_V0, c60_V12⟩, hc60, hq60⟩ := ok_X3_markFitting κ wd (va_up G 60 m2) (va_up P 66 m7) U (va_up (va_up V 0 d48_V0) 12 d48_V12) X O kd ln cnt this p1 p2 y48_5 p3 hzG200 hzG203 hzP63 hzP64 hp3 hzP201 hzP202 hzV1 hzRA hzRB hzRI hzLN hk_this hk_p1 (show (0 ≤ y48_5.toInt ∧ y48_5.toInt < p3.toInt ∧ p3.toInt ≤ 24) from by omega) (show (0 ≤ p2.toInt ∧ p2.toInt ≤ 2500) from by omega)
              refine wp_b2 hc60 ?_
              clear hc60
              have f12 : (y48_5 + (-1)).toInt = y48_5.toInt + (-1) := z_addc (by decide +kernel) (by omega) (by omega)
              obtain ⟨z13, ez13⟩ : ∃ z : Int32, z = (y48_5 + (-1)) := ⟨_, rfl⟩
              have fz13 : z13.toInt = y48_5.toInt + (-1) := by rw [ez13]; exact f12
              rw [← ez13]
              clear f12 ez13
              exact ih48 z13 c60_V0 c60_V12 (show (z13.toInt + 1).toNat < n48 from by omega) (show ((-1) ≤ z13.toInt ∧ z13.toInt < p3.toInt) from by omega)
        exact lp48 NN x46 (V 0) m41 (by have := NN_eq; omega) (show ((-1) ≤ x46.toInt ∧ x46.toInt < p3.toInt) from by omega)
      · have c30 := z_nle c30
        exact Jj33
abbrev QC_X5_isKept (κ : Nat → Nat) (wd : Nat) (G : Nat → Nat → Int32) (P : Nat → Nat → Option Nat) (U : Nat → Nat → Int64) (V : Nat → Nat → Nat → Int32) (X : Nat → Nat → Nat → Int64) (O : Nat → Nat → Nat → Option Nat) (kd : Nat → Nat) (ln : Nat → Nat) (cnt : Nat) (this : Nat) (p0 : Int32) : (Int32) → Prop := (fun t => ((0 ≤ t.toInt ∧ t.toInt ≤ 1)))
set_option maxHeartbeats 4000000 in
set_option maxRecDepth 100000 in
theorem ok_X5_isKept (κ : Nat → Nat) (wd : Nat) (G : Nat → Nat → Int32) (P : Nat → Nat → Option Nat) (U : Nat → Nat → Int64) (V : Nat → Nat → Nat → Int32) (X : Nat → Nat → Nat → Int64) (O : Nat → Nat → Nat → Option Nat) (kd : Nat → Nat) (ln : Nat → Nat) (cnt : Nat) (this : Nat) (p0 : Int32) (hzP106 : PB κ ln wd 6 110 40 40 0 (P 106)) (hzLN : LN κ ln) (hk_this : κ this = 6) : wp (f_X5_isKept G P U V X O kd ln cnt this p0) (QC_X5_isKept κ wd G P U V X O kd ln cnt this p0) := by
  unfold f_X5_isKept
  have zk0 : (0 : Int32).toInt = 0 := by decide +kernel
  have zk1 : (1 : Int32).toInt = 1 := by decide +kernel
  have zk40 : (40 : Int32).toInt = 40 := by decide +kernel
  have r_p0 := i32r p0
  refine wp_jn (fun j24 => ∀ (t24_0 : Int32), (0 ≤ t24_0.toInt ∧ t24_0.toInt ≤ 1) → wp (j24 t24_0) (QC_X5_isKept κ wd G P U V X O kd ln cnt this p0)) ?_ ?_
  · intro t24_0 f1
    show wp _ _
    refine wp_if ⟨by omega, by omega⟩ ?_
    exact ⟨_, rfl, (show 0 ≤ t24_0.toInt ∧ t24_0.toInt ≤ 1 from ⟨by omega, by omega⟩)⟩
  intro j24 Jj24
  refine wp_jn (fun j23 => wp (j23 ()) (QC_X5_isKept κ wd G P U V X O kd ln cnt this p0)) ?_ ?_
  · show wp _ _
    exact Jj24 (0 : Int32) (show (0 ≤ (0 : Int32).toInt ∧ (0 : Int32).toInt ≤ 1) from by omega)
  intro j23 Jj23
  refine wp_ite (fun c1 => ?_) (fun c1 => ?_)
  · have c1 := (z_lt _ _).mp c1
    exact Jj23
  · have c1 := z_nlt c1
    refine wp_ite (fun c7 => ?_) (fun c7 => ?_)
    · have c7 := (z_le _ _).mp c7
      exact Jj23
    · have c7 := z_nle c7
      refine wp_nn ((hzP106 this).1 hk_this) (fun a11 hn_a11 => ?_)
      have hk_a11 := ((hzP106 this).2 a11 hn_a11).1
      have hl1_a11 := ((hzP106 this).2 a11 hn_a11).2.1
      have hl2_a11 := ((hzP106 this).2 a11 hn_a11).2.2.1
      have hw_a11 := ((hzP106 this).2 a11 hn_a11).2.2.2
      have hz_a11 : (Int32.ofNat (ln a11)).toInt = ((ln a11 : Nat) : Int) := ofN_eq (by first | exact Nat.le_trans hl2_a11 (by decide) | omega)
      refine wp_if ⟨by omega, by omega⟩ ?_
      refine wp_ite (fun c16 => ?_) (fun c16 => ?_)
      · have c16 := congrArg Int32.toInt c16
        exact Jj23
      · have c16 := z_ne c16
        exact Jj24 (1 : Int32) (show (0 ≤ (1 : Int32).toInt ∧ (1 : Int32).toInt ≤ 1) from by omega)
abbrev QC_X11_partings (κ : Nat → Nat) (wd : Nat) (G : Nat → Nat → Int32) (P : Nat → Nat → Option Nat) (U : Nat → Nat → Int64) (V : Nat → Nat → Nat → Int32) (X : Nat → Nat → Nat → Int64) (O : Nat → Nat → Nat → Option Nat) (kd : Nat → Nat) (ln : Nat → Nat) (cnt : Nat) (this : Nat) (p0 : Int32) : (Int32 × (Nat → Int32) × (Nat → Int32) × (Nat → Option Nat) × (Nat → Nat → Int32) × (Nat → Nat → Int32) × (Nat → Nat → Int32)) → Prop := (fun t => (rng (0) 30 (t.2.1)) ∧ (rng (0) 2000 (t.2.2.1)) ∧ (PB κ ln wd 4 11 0 2500 0 (t.2.2.2.1)) ∧ (rng2 (0) 24 (t.2.2.2.2.2.1)) ∧ ((∀ tp, (P 220) this = some tp → ((t.2.2.1) tp).toInt = 0)))
set_option maxHeartbeats 4000000 in
set_option maxRecDepth 100000 in
theorem ok_X11_partings (κ : Nat → Nat) (wd : Nat) (G : Nat → Nat → Int32) (P : Nat → Nat → Option Nat) (U : Nat → Nat → Int64) (V : Nat → Nat → Nat → Int32) (X : Nat → Nat → Nat → Int64) (O : Nat → Nat → Nat → Option Nat) (kd : Nat → Nat) (ln : Nat → Nat) (cnt : Nat) (this : Nat) (p0 : Int32) (hzG60 : rng (0) 30 (G 60)) (hzG141 : rng (0) 2000 (G 141)) (hzG200 : rng (0) 24 (G 200)) (hzG203 : rng (0) 100 (G 203)) (hzG222 : rng (0) 6 (G 222)) (hzP61 : PB κ ln wd 4 102 30 30 0 (P 61)) (hzP62 : PB κ ln wd 4 100 720 720 0 (P 62)) (hzP63 : PB κ ln wd 4 100 408 408 0 (P 63)) (hzP64 : PB κ ln wd 4 112 25 25 0 (P 64)) (hzP65 : PB κ ln wd 4 100 24 24 0 (P 65)) (hzP66 : PB κ ln wd 4 11 0 2500 0 (P 66)) (hzP103 : PB κ ln wd 6 11 0 2500 1 (P 103)) (hzP104 : PB κ ln wd 6 11 0 2500 1 (P 104)) (hzP106 : PB κ ln wd 6 110 40 40 0 (P 106)) (hzP140 : PB κ ln wd 8 100 2000 2000 0 (P 140)) (hzP201 : PB κ ln wd 11 100 0 2400 0 (P 201)) (hzP202 : PB κ ln wd 11 101 0 100 0 (P 202)) (hzP220 : PB κ ln wd 12 8 0 2500 0 (P 220)) (hzP221 : PB κ ln wd 12 302 6 6 0 (P 221)) (hzP228 : PB κ ln wd 12 4 0 2500 0 (P 228)) (hzV1 : rng2 (0) 24 (V 1)) (hzV2 : rng2 (0) 24 (V 2)) (hzO2 : OB κ 6 (O 2)) (hzRA : RA κ ln (G 200) (P 201) (P 202)) (hzRB : RB κ ln (G 200) (G 203) (P 202) (V 1)) (hzRI : RI (P 202)) (hzRM103 : RM ln 40 (P 103) (P 202)) (hzRM104 : RM ln 40 (P 104) (P 202)) (hzLN : LN κ ln) (hk_this : κ this = 12) : wp (f_X11_partings G P U V X O kd ln cnt this p0) (QC_X11_partings κ wd G P U V X O kd ln cnt this p0) := by
  unfold f_X11_partings
  have zkm11 : (-11 : Int32).toInt = -11 := by decide +kernel
  have zkm10 : (-10 : Int32).toInt = -10 := by decide +kernel
  have zkm2 : (-2 : Int32).toInt = -2 := by decide +kernel
  have zkm1 : (-1 : Int32).toInt = -1 := by decide +kernel
  have zk0 : (0 : Int32).toInt = 0 := by decide +kernel
  have r_p0 := i32r p0
  obtain ⟨u1, hn_u1⟩ := PBs (hzP220 this) hk_this
  have hk_u1 := ((hzP220 this).2 u1 hn_u1).1
  have hl1_u1 := ((hzP220 this).2 u1 hn_u1).2.1
  have hl2_u1 := ((hzP220 this).2 u1 hn_u1).2.2.1
  have hw_u1 := ((hzP220 this).2 u1 hn_u1).2.2.2
  refine wp_nne hn_u1 ?_
  obtain ⟨⟨r4, c4_G141⟩, hc4, hq4⟩ := ok_X7_take κ wd G P U V X O kd ln cnt u1 hzG141 hzLN hk_u1
  obtain ⟨hg2, f3, f4, f5⟩ : (rng (0) 2000 c4_G141) ∧ (r4.toInt = ((G 141) u1).toInt) ∧ ((c4_G141 u1).toInt = 0) ∧ ((0 ≤ r4.toInt ∧ r4.toInt ≤ 2000)) := hq4
  refine wp_b2 hc4 ?_
  clear hc4
  obtain ⟨r10, hc10, hq10⟩ := ok_X11_reformAt κ wd (va_up G 141 c4_G141) P U V X O kd ln cnt this p0 hzG222 hzP221 hzO2 hzLN hk_this
  obtain ⟨hk6, f7⟩ : ((∀ b, r10 = some b → κ b = 6)) ∧ ((∀ b, r10 = some b → 0 ≤ p0.toInt ∧ p0.toInt < ((G 222) this).toInt)) := hq10
  refine wp_b1 hc10 ?_
  clear hc10
  refine wp_jn (fun j29 => wp (j29 ()) (QC_X11_partings κ wd G P U V X O kd ln cnt this p0)) ?_ ?_
  · show wp _ _
    exact ⟨_, rfl, ⟨hzG60, hg2, hzP66, hzV2, (show (∀ tp, (P 220) this = some tp → (c4_G141 tp).toInt = 0) from by intro tp htp; obtain rfl : u1 = tp := Option.some.inj (hn_u1.symm.trans htp); omega)⟩⟩
  intro j29 Jj29
  refine wp_oc (fun c15 => ?_) (fun b15 c15 => ?_)
  · skip
    exact Jj29
  · skip
    have hk_b15 := hk6 b15 c15
    refine wp_nne hn_u1 ?_
    obtain ⟨r23, hc23, hq23⟩ := ok_X7_isWord κ wd (va_up G 141 c4_G141) P U V X O kd ln cnt u1 r4 hzP140 hzLN hk_u1
    obtain ⟨f8, f9⟩ : ((0 ≤ r23.toInt ∧ r23.toInt ≤ 1)) ∧ ((r23.toInt = 1 → 1 ≤ r4.toInt ∧ r4.toInt ≤ 24)) := hq23
    refine wp_b1 hc23 ?_
    clear hc23
    refine wp_ite (fun c26 => ?_) (fun c26 => ?_)
    · have c26 := congrArg Int32.toInt c26
      exact Jj29
    · have c26 := z_ne c26
      refine wp_nn ((hzP104 b15).1 hk_b15) (fun a33 hn_a33 => ?_)
      have hk_a33 := ((hzP104 b15).2 a33 hn_a33).1
      have hl1_a33 := ((hzP104 b15).2 a33 hn_a33).2.1
      have hl2_a33 := ((hzP104 b15).2 a33 hn_a33).2.2.1
      have hw_a33 := ((hzP104 b15).2 a33 hn_a33).2.2.2
      refine wp_nne hn_u1 ?_
      refine wp_nn ((hzP140 u1).1 hk_u1) (fun a40 hn_a40 => ?_)
      have hk_a40 := ((hzP140 u1).2 a40 hn_a40).1
      have hl1_a40 := ((hzP140 u1).2 a40 hn_a40).2.1
      have hl2_a40 := ((hzP140 u1).2 a40 hn_a40).2.2.1
      have hw_a40 := ((hzP140 u1).2 a40 hn_a40).2.2.2
      have hz_a40 : (Int32.ofNat (ln a40)).toInt = ((ln a40 : Nat) : Int) := ofN_eq (by first | exact Nat.le_trans hl2_a40 (by decide) | omega)
      obtain ⟨r45, hc45, hq45⟩ := ok_X10_find κ wd (va_up G 141 c4_G141) P U V X O kd ln cnt a33 a40 (0 : Int32) r4 hzG200 hzG203 hzP201 hzP202 hzV1 hzRA hzRB hzRI hzLN hk_a33 hk_a40
      obtain ⟨f10, f11⟩ : (((-1) ≤ r45.toInt ∧ r45.toInt < 100)) ∧ ((r45.toInt = -1 ∨ r45.toInt < ((G 203) a33).toInt)) := hq45
      refine wp_b1 hc45 ?_
      clear hc45
      refine wp_ite (fun c53 => ?_) (fun c53 => ?_)
      · have c53 := congrArg Int32.toInt c53
        refine wp_nn ((hzP228 this).1 hk_this) (fun a74 hn_a74 => ?_)
        have hk_a74 := ((hzP228 this).2 a74 hn_a74).1
        have hl1_a74 := ((hzP228 this).2 a74 hn_a74).2.1
        have hl2_a74 := ((hzP228 this).2 a74 hn_a74).2.2.1
        have hw_a74 := ((hzP228 this).2 a74 hn_a74).2.2.2
        refine wp_nn ((hzP103 b15).1 hk_b15) (fun a78 hn_a78 => ?_)
        have hk_a78 := ((hzP103 b15).2 a78 hn_a78).1
        have hl1_a78 := ((hzP103 b15).2 a78 hn_a78).2.1
        have hl2_a78 := ((hzP103 b15).2 a78 hn_a78).2.2.1
        have hw_a78 := ((hzP103 b15).2 a78 hn_a78).2.2.2
        refine wp_nne hn_u1 ?_
        refine wp_nne hn_a40 ?_
        obtain ⟨⟨c90_G60, c90_P66, c90_V0, c90_V2, c90_V12⟩, hc90, hq90⟩ := ok_X3_find κ wd (va_up G 141 c4_G141) P U V X O kd ln cnt a74 a78 a40 (0 : Int32) r4 hzG60 hzG200 hzG203 hzP61 hzP62 hzP63 hzP64 hzP65 hzP66 hzP201 hzP202 hzV1 hzV2 hzRA hzRB hzRI hzLN hk_a74 hk_a78 hk_a40 (show (0 ≤ (0 : Int32).toInt ∧ (0 : Int32).toInt ≤ 2500) from by omega)
        obtain ⟨hg12, hg13, hg14⟩ : (rng (0) 30 c90_G60) ∧ (PB κ ln wd 4 11 0 2500 0 c90_P66) ∧ (rng2 (0) 24 c90_V2) := hq90
        refine wp_b5 hc90 ?_
        clear hc90
        refine wp_nne hn_a74 ?_
        have b15 := hg12 a74
        exact ⟨_, rfl, ⟨hg12, hg2, hg13, hg14, (show (∀ tp, (P 220) this = some tp → (c4_G141 tp).toInt = 0) from by intro tp htp; obtain rfl : u1 = tp := Option.some.inj (hn_u1.symm.trans htp); omega)⟩⟩
      · have c53 := z_ne c53
        obtain ⟨r59, hc59, hq59⟩ := ok_X5_isKept κ wd (va_up G 141 c4_G141) P U V X O kd ln cnt b15 r45 hzP106 hzLN hk_b15
        have f16 : (0 ≤ r59.toInt ∧ r59.toInt ≤ 1) := hq59
        refine wp_b1 hc59 ?_
        clear hc59
        refine wp_jn (fun j72 => ∀ (t72_0 : Int32), wp (j72 t72_0) (QC_X11_partings κ wd G P U V X O kd ln cnt this p0)) ?_ ?_
        · intro t72_0
          show wp _ _
          exact ⟨_, rfl, ⟨hzG60, hg2, hzP66, hzV2, (show (∀ tp, (P 220) this = some tp → (c4_G141 tp).toInt = 0) from by intro tp htp; obtain rfl : u1 = tp := Option.some.inj (hn_u1.symm.trans htp); omega)⟩⟩
        intro j72 Jj72
        refine wp_ite (fun c62 => ?_) (fun c62 => ?_)
        · have c62 := congrArg Int32.toInt c62
          exact Jj72 (-11 : Int32)
        · have c62 := z_ne c62
          exact Jj72 (-10 : Int32)
abbrev QC_X5_addLaw (κ : Nat → Nat) (wd : Nat) (G : Nat → Nat → Int32) (P : Nat → Nat → Option Nat) (U : Nat → Nat → Int64) (V : Nat → Nat → Nat → Int32) (X : Nat → Nat → Nat → Int64) (O : Nat → Nat → Nat → Option Nat) (kd : Nat → Nat) (ln : Nat → Nat) (cnt : Nat) (this : Nat) (p0 : Nat) : ((Nat → Int32) × (Nat → Nat → Option Nat)) → Prop := (fun t => (rng (0) 40 (t.1)) ∧ (OB κ 2 (t.2)) ∧ ((((G 102) this).toInt < 40 → ((t.1) this).toInt = ((G 102) this).toInt + 1)) ∧ ((40 ≤ ((G 102) this).toInt → ((t.1) this).toInt = ((G 102) this).toInt)))
set_option maxHeartbeats 4000000 in
set_option maxRecDepth 100000 in
theorem ok_X5_addLaw (κ : Nat → Nat) (wd : Nat) (G : Nat → Nat → Int32) (P : Nat → Nat → Option Nat) (U : Nat → Nat → Int64) (V : Nat → Nat → Nat → Int32) (X : Nat → Nat → Nat → Int64) (O : Nat → Nat → Nat → Option Nat) (kd : Nat → Nat) (ln : Nat → Nat) (cnt : Nat) (this : Nat) (p0 : Nat) (hzG102 : rng (0) 40 (G 102)) (hzP101 : PB κ ln wd 6 300 40 40 0 (P 101)) (hzO0 : OB κ 2 (O 0)) (hzLN : LN κ ln) (hk_this : κ this = 6) (hk_p0 : κ p0 = 2) : wp (f_X5_addLaw G P U V X O kd ln cnt this p0) (QC_X5_addLaw κ wd G P U V X O kd ln cnt this p0) := by
  unfold f_X5_addLaw
  have zk1 : (1 : Int32).toInt = 1 := by decide +kernel
  have zk40 : (40 : Int32).toInt = 40 := by decide +kernel
  have b1 := hzG102 this
  refine wp_jn (fun j29 => ∀ (c29_G102 : Nat → Int32) (c29_O0 : Nat → Nat → Option Nat), rng (0) 40 c29_G102 → OB κ 2 c29_O0 → ((c29_G102 this).toInt = ((G 102) this).toInt + 1 ∧ ((G 102) this).toInt < 40) ∨ (40 ≤ ((G 102) this).toInt ∧ (c29_G102 this).toInt = ((G 102) this).toInt) → wp (j29 c29_G102 c29_O0) (QC_X5_addLaw κ wd G P U V X O kd ln cnt this p0)) ?_ ?_
  · intro c29_G102 c29_O0 hg2 hg3 f4
    show wp _ _
    exact ⟨_, rfl, ⟨hg2, hg3, (show (((G 102) this).toInt < 40 → (c29_G102 this).toInt = ((G 102) this).toInt + 1) from by omega), (show (40 ≤ ((G 102) this).toInt → (c29_G102 this).toInt = ((G 102) this).toInt) from by omega)⟩⟩
  intro j29 Jj29
  refine wp_ite (fun c6 => ?_) (fun c6 => ?_)
  · have c6 := (z_le _ _).mp c6
    exact Jj29 (G 102) (O 0) hzG102 hzO0 (show (((G 102) this).toInt = ((G 102) this).toInt + 1 ∧ ((G 102) this).toInt < 40) ∨ (40 ≤ ((G 102) this).toInt ∧ ((G 102) this).toInt = ((G 102) this).toInt) from by omega)
  · have c6 := z_nle c6
    refine wp_nn ((hzP101 this).1 hk_this) (fun a10 hn_a10 => ?_)
    have hk_a10 := ((hzP101 this).2 a10 hn_a10).1
    have hl1_a10 := ((hzP101 this).2 a10 hn_a10).2.1
    have hl2_a10 := ((hzP101 this).2 a10 hn_a10).2.2.1
    have hw_a10 := ((hzP101 this).2 a10 hn_a10).2.2.2
    have hz_a10 : (Int32.ofNat (ln a10)).toInt = ((ln a10 : Nat) : Int) := ofN_eq (by first | exact Nat.le_trans hl2_a10 (by decide) | omega)
    refine wp_if ⟨by omega, by omega⟩ ?_
    refine wp_vl (fun m18 em18 => ?_)
    have ho6 : OB κ 2 m18 := by rw [em18]; exact OB_up hzO0 hk_p0
    clear em18
    have f8 : (((G 102) this) + 1).toInt = ((G 102) this).toInt + 1 := z_addc (by decide +kernel) (by omega) (by omega)
    refine wp_vl (fun x26 ex26 => ?_)
    have f9 : x26.toInt = (((G 102) this) + 1).toInt := congrArg Int32.toInt ex26
    clear ex26
    refine wp_vl (fun m26 em26 => ?_)
    have hg10 : rng (0) 40 m26 := by rw [em26]; exact rng_vup hzG102 (by omega) (by omega)
    have sm26 : (m26 this).toInt = x26.toInt := by rw [em26, va_up_self]
    have b11 := hg10 this
    clear em26
    exact Jj29 m26 m18 hg10 ho6 (show ((m26 this).toInt = ((G 102) this).toInt + 1 ∧ ((G 102) this).toInt < 40) ∨ (40 ≤ ((G 102) this).toInt ∧ (m26 this).toInt = ((G 102) this).toInt) from by omega)
abbrev QC_X5_addEntry (κ : Nat → Nat) (wd : Nat) (G : Nat → Nat → Int32) (P : Nat → Nat → Option Nat) (U : Nat → Nat → Int64) (V : Nat → Nat → Nat → Int32) (X : Nat → Nat → Nat → Int64) (O : Nat → Nat → Nat → Option Nat) (kd : Nat → Nat) (ln : Nat → Nat) (cnt : Nat) (this : Nat) (p0 : Nat) (p1 : Int32) (p2 : Int32) (p3 : Int32) : ((Nat → Int32) × (Nat → Int32) × (Nat → Nat → Int32) × (Nat → Nat → Int32) × (Nat → Nat → Int32)) → Prop := (fun t => (rng (0) 100 (t.2.1)) ∧ (rng2 (0) 24 (t.2.2.2.1)) ∧ (RB κ ln (G 200) (t.2.1) (P 202) (t.2.2.2.1)) ∧ ((t.2.1) wd = (G 203) wd))
set_option maxHeartbeats 4000000 in
set_option maxRecDepth 100000 in
theorem ok_X5_addEntry (κ : Nat → Nat) (wd : Nat) (G : Nat → Nat → Int32) (P : Nat → Nat → Option Nat) (U : Nat → Nat → Int64) (V : Nat → Nat → Nat → Int32) (X : Nat → Nat → Nat → Int64) (O : Nat → Nat → Nat → Option Nat) (kd : Nat → Nat) (ln : Nat → Nat) (cnt : Nat) (this : Nat) (p0 : Nat) (p1 : Int32) (p2 : Int32) (p3 : Int32) (hzG200 : rng (0) 24 (G 200)) (hzG203 : rng (0) 100 (G 203)) (hzP104 : PB κ ln wd 6 11 0 2500 1 (P 104)) (hzP106 : PB κ ln wd 6 110 40 40 0 (P 106)) (hzP201 : PB κ ln wd 11 100 0 2400 0 (P 201)) (hzP202 : PB κ ln wd 11 101 0 100 0 (P 202)) (hzV1 : rng2 (0) 24 (V 1)) (hzRA : RA κ ln (G 200) (P 201) (P 202)) (hzRB : RB κ ln (G 200) (G 203) (P 202) (V 1)) (hzRI : RI (P 202)) (hzRM104 : RM ln 40 (P 104) (P 202)) (hzLN : LN κ ln) (hk_this : κ this = 6) (hk_p0 : κ p0 = 100) : wp (f_X5_addEntry G P U V X O kd ln cnt this p0 p1 p2 p3) (QC_X5_addEntry κ wd G P U V X O kd ln cnt this p0 p1 p2 p3) := by
  unfold f_X5_addEntry
  have zk0 : (0 : Int32).toInt = 0 := by decide +kernel
  have zk1 : (1 : Int32).toInt = 1 := by decide +kernel
  have r_p1 := i32r p1
  have r_p2 := i32r p2
  have r_p3 := i32r p3
  refine wp_nn ((hzP104 this).1 hk_this) (fun a1 hn_a1 => ?_)
  have hk_a1 := ((hzP104 this).2 a1 hn_a1).1
  have hl1_a1 := ((hzP104 this).2 a1 hn_a1).2.1
  have hl2_a1 := ((hzP104 this).2 a1 hn_a1).2.2.1
  have hw_a1 := ((hzP104 this).2 a1 hn_a1).2.2.2
  obtain ⟨u1, hn_u1⟩ := PBs (hzP202 a1) hk_a1
  have hk_u1 := ((hzP202 a1).2 u1 hn_u1).1
  have hl1_u1 := ((hzP202 a1).2 u1 hn_u1).2.1
  have hl2_u1 := ((hzP202 a1).2 u1 hn_u1).2.2.1
  have hw_u1 := ((hzP202 a1).2 u1 hn_u1).2.2.2
  have hz_u1 : (Int32.ofNat (ln u1)).toInt = ((ln u1 : Nat) : Int) := ofN_eq (by first | exact Nat.le_trans hl2_u1 (by decide) | omega)
  have rb2 := (hzRB a1 u1 hk_a1 hn_u1).1
  have rm3 := hzRM104 this a1 u1 hn_a1 hn_u1
  obtain ⟨r4, hc4, hq4⟩ := ok_X10_isFull κ wd G P U V X O kd ln cnt a1 hzG200 hzG203 hzP201 hzP202 hzV1 hzRA hzRB hzRI hzLN hk_a1
  obtain ⟨f4, f5⟩ : ((0 ≤ r4.toInt ∧ r4.toInt ≤ 1)) ∧ ((∀ s, (P 202) a1 = some s → r4.toInt = 0 → ((G 203) a1).toInt < ((ln s : Nat) : Int))) := hq4
  refine wp_b1 hc4 ?_
  clear hc4
  have hful := f5 _ hn_u1
  refine wp_jn (fun j53 => ∀ (c53_G107 : Nat → Int32) (c53_G203 : Nat → Int32) (c53_V0 : Nat → Nat → Int32) (c53_V1 : Nat → Nat → Int32) (c53_V10 : Nat → Nat → Int32), rng (0) 100 c53_G203 → rng2 (0) 24 c53_V1 → RB κ ln (G 200) c53_G203 (P 202) c53_V1 → c53_G203 wd = (G 203) wd → wp (j53 c53_G107 c53_G203 c53_V0 c53_V1 c53_V10) (QC_X5_addEntry κ wd G P U V X O kd ln cnt this p0 p1 p2 p3)) ?_ ?_
  · intro c53_G107 c53_G203 c53_V0 c53_V1 c53_V10 hg6 hg7 hRB8 f9
    show wp _ _
    exact ⟨_, rfl, ⟨hg6, hg7, hRB8, (show c53_G203 wd = (G 203) wd from by assumption)⟩⟩
  intro j53 Jj53
  refine wp_ite (fun c7 => ?_) (fun c7 => ?_)
  · have c7 := congrArg Int32.toInt c7
    refine wp_nn ((hzP106 this).1 hk_this) (fun a11 hn_a11 => ?_)
    have hk_a11 := ((hzP106 this).2 a11 hn_a11).1
    have hl1_a11 := ((hzP106 this).2 a11 hn_a11).2.1
    have hl2_a11 := ((hzP106 this).2 a11 hn_a11).2.2.1
    have hw_a11 := ((hzP106 this).2 a11 hn_a11).2.2.2
    have hz_a11 : (Int32.ofNat (ln a11)).toInt = ((ln a11 : Nat) : Int) := ofN_eq (by first | exact Nat.le_trans hl2_a11 (by decide) | omega)
    refine wp_nne hn_a1 ?_
    have b10 := hzG203 a1
    refine wp_if ⟨by omega, by omega⟩ ?_
    refine wp_vl (fun m23 em23 => ?_)
    clear em23
    refine wp_jn (fun j39 => ∀ (t39_0 : Int32), wp (j39 t39_0) (QC_X5_addEntry κ wd G P U V X O kd ln cnt this p0 p1 p2 p3)) ?_ ?_
    · intro t39_0
      show wp _ _
      refine wp_vl (fun x40 ex40 => ?_)
      have f13 : x40.toInt = (((G 107) this) + t39_0).toInt := congrArg Int32.toInt ex40
      clear ex40
      refine wp_vl (fun m40 em40 => ?_)
      have sm40 : (m40 this).toInt = x40.toInt := by rw [em40, va_up_self]
      clear em40
      refine wp_nne hn_a1 ?_
      obtain ⟨⟨c50_G203, c50_V0, c50_V1⟩, hc50, hq50⟩ := ok_X10_add κ wd (va_up G 107 m40) P U (va_up V 10 m23) X O kd ln cnt a1 p0 p1 p2 hzG200 hzG203 hzP201 hzP202 hzV1 hzRA hzRB hzRI hzLN hk_a1 hk_p0
      obtain ⟨hg14, hg15, hRB16, f17, f18⟩ : (rng (0) 100 c50_G203) ∧ (rng2 (0) 24 c50_V1) ∧ (RB κ ln (G 200) c50_G203 (P 202) c50_V1) ∧ ((a1 ≠ wd → c50_G203 wd = (G 203) wd)) ∧ (((G 203) a1).toInt ≤ (c50_G203 a1).toInt) := hq50
      refine wp_b3 hc50 ?_
      clear hc50
      have hgw := f17 (hw_a1 rfl)
      exact Jj53 m40 c50_G203 c50_V0 c50_V1 m23 hg14 hg15 hRB16 (show c50_G203 wd = (G 203) wd from by first | rfl | exact hgw)
    intro j39 Jj39
    refine wp_ite (fun c31 => ?_) (fun c31 => ?_)
    · have c31 := congrArg Int32.toInt c31
      exact Jj39 (0 : Int32)
    · have c31 := z_ne c31
      exact Jj39 (1 : Int32)
  · have c7 := z_ne c7
    exact Jj53 (G 107) (G 203) (V 0) (V 1) (V 10) hzG203 hzV1 hzRB (show (G 203) wd = (G 203) wd from by first | rfl | exact hgw)
abbrev QC_X5_addKept (κ : Nat → Nat) (wd : Nat) (G : Nat → Nat → Int32) (P : Nat → Nat → Option Nat) (U : Nat → Nat → Int64) (V : Nat → Nat → Nat → Int32) (X : Nat → Nat → Nat → Int64) (O : Nat → Nat → Nat → Option Nat) (kd : Nat → Nat) (ln : Nat → Nat) (cnt : Nat) (this : Nat) (p0 : Nat) (p1 : Int32) (p2 : Int32) : ((Nat → Int32) × (Nat → Int32) × (Nat → Nat → Int32) × (Nat → Nat → Int32) × (Nat → Nat → Int32)) → Prop := (fun t => (rng (0) 100 (t.2.1)) ∧ (rng2 (0) 24 (t.2.2.2.1)) ∧ (RB κ ln (G 200) (t.2.1) (P 202) (t.2.2.2.1)) ∧ ((t.2.1) wd = (G 203) wd))
set_option maxHeartbeats 4000000 in
set_option maxRecDepth 100000 in
theorem ok_X5_addKept (κ : Nat → Nat) (wd : Nat) (G : Nat → Nat → Int32) (P : Nat → Nat → Option Nat) (U : Nat → Nat → Int64) (V : Nat → Nat → Nat → Int32) (X : Nat → Nat → Nat → Int64) (O : Nat → Nat → Nat → Option Nat) (kd : Nat → Nat) (ln : Nat → Nat) (cnt : Nat) (this : Nat) (p0 : Nat) (p1 : Int32) (p2 : Int32) (hzG200 : rng (0) 24 (G 200)) (hzG203 : rng (0) 100 (G 203)) (hzP104 : PB κ ln wd 6 11 0 2500 1 (P 104)) (hzP105 : PB κ ln wd 6 11 0 2500 1 (P 105)) (hzP106 : PB κ ln wd 6 110 40 40 0 (P 106)) (hzP201 : PB κ ln wd 11 100 0 2400 0 (P 201)) (hzP202 : PB κ ln wd 11 101 0 100 0 (P 202)) (hzV1 : rng2 (0) 24 (V 1)) (hzRA : RA κ ln (G 200) (P 201) (P 202)) (hzRB : RB κ ln (G 200) (G 203) (P 202) (V 1)) (hzRI : RI (P 202)) (hzRM104 : RM ln 40 (P 104) (P 202)) (hzLN : LN κ ln) (hk_this : κ this = 6) (hk_p0 : κ p0 = 100) : wp (f_X5_addKept G P U V X O kd ln cnt this p0 p1 p2) (QC_X5_addKept κ wd G P U V X O kd ln cnt this p0 p1 p2) := by
  unfold f_X5_addKept
  have zk0 : (0 : Int32).toInt = 0 := by decide +kernel
  have zk1 : (1 : Int32).toInt = 1 := by decide +kernel
  have r_p1 := i32r p1
  have r_p2 := i32r p2
  obtain ⟨⟨c5_G107, c5_G203, c5_V0, c5_V1, c5_V10⟩, hc5, hq5⟩ := ok_X5_addEntry κ wd G P U V X O kd ln cnt this p0 p1 p2 (1 : Int32) hzG200 hzG203 hzP104 hzP106 hzP201 hzP202 hzV1 hzRA hzRB hzRI hzRM104 hzLN hk_this hk_p0
  obtain ⟨hg1, hg2, hRB3, f4⟩ : (rng (0) 100 c5_G203) ∧ (rng2 (0) 24 c5_V1) ∧ (RB κ ln (G 200) c5_G203 (P 202) c5_V1) ∧ (c5_G203 wd = (G 203) wd) := hq5
  refine wp_b5 hc5 ?_
  clear hc5
  have hgw1 := f4
  refine wp_nn ((hzP105 this).1 hk_this) (fun a9 hn_a9 => ?_)
  have hk_a9 := ((hzP105 this).2 a9 hn_a9).1
  have hl1_a9 := ((hzP105 this).2 a9 hn_a9).2.1
  have hl2_a9 := ((hzP105 this).2 a9 hn_a9).2.2.1
  have hw_a9 := ((hzP105 this).2 a9 hn_a9).2.2.2
  obtain ⟨⟨c15_G203, c15_V0, c15_V1⟩, hc15, hq15⟩ := ok_X10_add κ wd (va_up (va_up G 107 c5_G107) 203 c5_G203) P U (va_up (va_up (va_up V 0 c5_V0) 1 c5_V1) 10 c5_V10) X O kd ln cnt a9 p0 p1 (0 : Int32) hzG200 hg1 hzP201 hzP202 hg2 hzRA hRB3 hzRI hzLN hk_a9 hk_p0
  obtain ⟨hg5, hg6, hRB7, f8, f9⟩ : (rng (0) 100 c15_G203) ∧ (rng2 (0) 24 c15_V1) ∧ (RB κ ln (G 200) c15_G203 (P 202) c15_V1) ∧ ((a9 ≠ wd → c15_G203 wd = c5_G203 wd)) ∧ ((c5_G203 a9).toInt ≤ (c15_G203 a9).toInt) := hq15
  refine wp_b3 hc15 ?_
  clear hc15
  have hgw2 := f8 (hw_a9 rfl)
  exact ⟨_, rfl, ⟨hg5, hg6, hRB7, (show c15_G203 wd = (G 203) wd from by exact hgw2.trans hgw1)⟩⟩
abbrev QC_X5_addListed (κ : Nat → Nat) (wd : Nat) (G : Nat → Nat → Int32) (P : Nat → Nat → Option Nat) (U : Nat → Nat → Int64) (V : Nat → Nat → Nat → Int32) (X : Nat → Nat → Nat → Int64) (O : Nat → Nat → Nat → Option Nat) (kd : Nat → Nat) (ln : Nat → Nat) (cnt : Nat) (this : Nat) (p0 : Nat) (p1 : Int32) (p2 : Int32) : ((Nat → Int32) × (Nat → Int32) × (Nat → Nat → Int32) × (Nat → Nat → Int32) × (Nat → Nat → Int32)) → Prop := (fun t => (rng (0) 100 (t.2.1)) ∧ (rng2 (0) 24 (t.2.2.2.1)) ∧ (RB κ ln (G 200) (t.2.1) (P 202) (t.2.2.2.1)) ∧ ((t.2.1) wd = (G 203) wd))
set_option maxHeartbeats 4000000 in
set_option maxRecDepth 100000 in
theorem ok_X5_addListed (κ : Nat → Nat) (wd : Nat) (G : Nat → Nat → Int32) (P : Nat → Nat → Option Nat) (U : Nat → Nat → Int64) (V : Nat → Nat → Nat → Int32) (X : Nat → Nat → Nat → Int64) (O : Nat → Nat → Nat → Option Nat) (kd : Nat → Nat) (ln : Nat → Nat) (cnt : Nat) (this : Nat) (p0 : Nat) (p1 : Int32) (p2 : Int32) (hzG200 : rng (0) 24 (G 200)) (hzG203 : rng (0) 100 (G 203)) (hzP104 : PB κ ln wd 6 11 0 2500 1 (P 104)) (hzP106 : PB κ ln wd 6 110 40 40 0 (P 106)) (hzP201 : PB κ ln wd 11 100 0 2400 0 (P 201)) (hzP202 : PB κ ln wd 11 101 0 100 0 (P 202)) (hzV1 : rng2 (0) 24 (V 1)) (hzRA : RA κ ln (G 200) (P 201) (P 202)) (hzRB : RB κ ln (G 200) (G 203) (P 202) (V 1)) (hzRI : RI (P 202)) (hzRM104 : RM ln 40 (P 104) (P 202)) (hzLN : LN κ ln) (hk_this : κ this = 6) (hk_p0 : κ p0 = 100) : wp (f_X5_addListed G P U V X O kd ln cnt this p0 p1 p2) (QC_X5_addListed κ wd G P U V X O kd ln cnt this p0 p1 p2) := by
  unfold f_X5_addListed
  have zk0 : (0 : Int32).toInt = 0 := by decide +kernel
  have r_p1 := i32r p1
  have r_p2 := i32r p2
  obtain ⟨⟨c5_G107, c5_G203, c5_V0, c5_V1, c5_V10⟩, hc5, hq5⟩ := ok_X5_addEntry κ wd G P U V X O kd ln cnt this p0 p1 p2 (0 : Int32) hzG200 hzG203 hzP104 hzP106 hzP201 hzP202 hzV1 hzRA hzRB hzRI hzRM104 hzLN hk_this hk_p0
  obtain ⟨hg1, hg2, hRB3, f4⟩ : (rng (0) 100 c5_G203) ∧ (rng2 (0) 24 c5_V1) ∧ (RB κ ln (G 200) c5_G203 (P 202) c5_V1) ∧ (c5_G203 wd = (G 203) wd) := hq5
  refine wp_b5 hc5 ?_
  clear hc5
  exact ⟨_, rfl, ⟨hg1, hg2, hRB3, (show c5_G203 wd = (G 203) wd from by assumption)⟩⟩
abbrev QC_X5_clear (κ : Nat → Nat) (wd : Nat) (G : Nat → Nat → Int32) (P : Nat → Nat → Option Nat) (U : Nat → Nat → Int64) (V : Nat → Nat → Nat → Int32) (X : Nat → Nat → Nat → Int64) (O : Nat → Nat → Nat → Option Nat) (kd : Nat → Nat) (ln : Nat → Nat) (cnt : Nat) (this : Nat) (p0 : Int32) : ((Nat → Int32) × (Nat → Int32) × (Nat → Int32) × (Nat → Int32)) → Prop := (fun t => (rng (0) 40 (t.2.1)) ∧ (rng (0) 100 (t.2.2.2)) ∧ (RB κ ln (G 200) (t.2.2.2) (P 202) (V 1)) ∧ ((t.2.2.2) wd = (G 203) wd) ∧ (((t.2.1) this).toInt = 0))
set_option maxHeartbeats 4000000 in
set_option maxRecDepth 100000 in
theorem ok_X5_clear (κ : Nat → Nat) (wd : Nat) (G : Nat → Nat → Int32) (P : Nat → Nat → Option Nat) (U : Nat → Nat → Int64) (V : Nat → Nat → Nat → Int32) (X : Nat → Nat → Nat → Int64) (O : Nat → Nat → Nat → Option Nat) (kd : Nat → Nat) (ln : Nat → Nat) (cnt : Nat) (this : Nat) (p0 : Int32) (hzG102 : rng (0) 40 (G 102)) (hzG200 : rng (0) 24 (G 200)) (hzG203 : rng (0) 100 (G 203)) (hzP103 : PB κ ln wd 6 11 0 2500 1 (P 103)) (hzP104 : PB κ ln wd 6 11 0 2500 1 (P 104)) (hzP105 : PB κ ln wd 6 11 0 2500 1 (P 105)) (hzP108 : PB κ ln wd 6 11 0 2500 1 (P 108)) (hzP201 : PB κ ln wd 11 100 0 2400 0 (P 201)) (hzP202 : PB κ ln wd 11 101 0 100 0 (P 202)) (hzV1 : rng2 (0) 24 (V 1)) (hzRA : RA κ ln (G 200) (P 201) (P 202)) (hzRB : RB κ ln (G 200) (G 203) (P 202) (V 1)) (hzRI : RI (P 202)) (hzRM103 : RM ln 40 (P 103) (P 202)) (hzRM104 : RM ln 40 (P 104) (P 202)) (hzRM108 : RM ln 40 (P 108) (P 202)) (hzLN : LN κ ln) (hk_this : κ this = 6) : wp (f_X5_clear G P U V X O kd ln cnt this p0) (QC_X5_clear κ wd G P U V X O kd ln cnt this p0) := by
  unfold f_X5_clear
  have zk0 : (0 : Int32).toInt = 0 := by decide +kernel
  have r_p0 := i32r p0
  refine wp_vl (fun m2 em2 => ?_)
  have sm2 : (m2 this).toInt = p0.toInt := by rw [em2, va_up_self]
  clear em2
  refine wp_vl (fun m7 em7 => ?_)
  have hg1 : rng (0) 40 m7 := by rw [em7]; exact rng_vup hzG102 (by omega) (by omega)
  have sm7 : (m7 this).toInt = 0 := by rw [em7, va_up_self]; decide +kernel
  have b2 := hg1 this
  clear em7
  refine wp_nn ((hzP103 this).1 hk_this) (fun a11 hn_a11 => ?_)
  have hk_a11 := ((hzP103 this).2 a11 hn_a11).1
  have hl1_a11 := ((hzP103 this).2 a11 hn_a11).2.1
  have hl2_a11 := ((hzP103 this).2 a11 hn_a11).2.2.1
  have hw_a11 := ((hzP103 this).2 a11 hn_a11).2.2.2
  refine wp_vl (fun m15 em15 => ?_)
  have hg3 : rng (0) 100 m15 := by rw [em15]; exact rng_vup hzG203 (by omega) (by omega)
  have sm15 : (m15 a11).toInt = 0 := by rw [em15, va_up_self]; decide +kernel
  have b4 := hg3 a11
  have hRB5 : RB κ ln (G 200) m15 (P 202) (V 1) := by rw [em15]; exact RB_cnt hzRB (fun s hs => by omega)
  refine wp_nn ((hzP104 this).1 hk_this) (fun a19 hn_a19 => ?_)
  have hk_a19 := ((hzP104 this).2 a19 hn_a19).1
  have hl1_a19 := ((hzP104 this).2 a19 hn_a19).2.1
  have hl2_a19 := ((hzP104 this).2 a19 hn_a19).2.2.1
  have hw_a19 := ((hzP104 this).2 a19 hn_a19).2.2.2
  refine wp_vl (fun m23 em23 => ?_)
  have hg6 : rng (0) 100 m23 := by rw [em23]; exact rng_vup hg3 (by omega) (by omega)
  have sm23 : (m23 a19).toInt = 0 := by rw [em23, va_up_self]; decide +kernel
  have b7 := hg6 a19
  have hRB8 : RB κ ln (G 200) m23 (P 202) (V 1) := by rw [em23]; exact RB_cnt hRB5 (fun s hs => by omega)
  refine wp_nn ((hzP105 this).1 hk_this) (fun a27 hn_a27 => ?_)
  have hk_a27 := ((hzP105 this).2 a27 hn_a27).1
  have hl1_a27 := ((hzP105 this).2 a27 hn_a27).2.1
  have hl2_a27 := ((hzP105 this).2 a27 hn_a27).2.2.1
  have hw_a27 := ((hzP105 this).2 a27 hn_a27).2.2.2
  refine wp_vl (fun m31 em31 => ?_)
  have hg9 : rng (0) 100 m31 := by rw [em31]; exact rng_vup hg6 (by omega) (by omega)
  have sm31 : (m31 a27).toInt = 0 := by rw [em31, va_up_self]; decide +kernel
  have b10 := hg9 a27
  have hRB11 : RB κ ln (G 200) m31 (P 202) (V 1) := by rw [em31]; exact RB_cnt hRB8 (fun s hs => by omega)
  refine wp_vl (fun m36 em36 => ?_)
  have sm36 : (m36 this).toInt = 0 := by rw [em36, va_up_self]; decide +kernel
  clear em36
  refine wp_nn ((hzP108 this).1 hk_this) (fun a40 hn_a40 => ?_)
  have hk_a40 := ((hzP108 this).2 a40 hn_a40).1
  have hl1_a40 := ((hzP108 this).2 a40 hn_a40).2.1
  have hl2_a40 := ((hzP108 this).2 a40 hn_a40).2.2.1
  have hw_a40 := ((hzP108 this).2 a40 hn_a40).2.2.2
  refine wp_vl (fun m44 em44 => ?_)
  have hg12 : rng (0) 100 m44 := by rw [em44]; exact rng_vup hg9 (by omega) (by omega)
  have sm44 : (m44 a40).toInt = 0 := by rw [em44, va_up_self]; decide +kernel
  have b13 := hg12 a40
  have hRB14 : RB κ ln (G 200) m44 (P 202) (V 1) := by rw [em44]; exact RB_cnt hRB11 (fun s hs => by omega)
  exact ⟨_, rfl, ⟨hg1, hg12, hRB14, (show m44 wd = (G 203) wd from by rw [em44, va_up_ne _ _ (fun q => hw_a40 rfl q.symm), em31, va_up_ne _ _ (fun q => hw_a27 rfl q.symm), em23, va_up_ne _ _ (fun q => hw_a19 rfl q.symm), em15, va_up_ne _ _ (fun q => hw_a11 rfl q.symm)]), (show (m7 this).toInt = 0 from by omega)⟩⟩
abbrev QC_X9_addEntry (κ : Nat → Nat) (wd : Nat) (G : Nat → Nat → Int32) (P : Nat → Nat → Option Nat) (U : Nat → Nat → Int64) (V : Nat → Nat → Nat → Int32) (X : Nat → Nat → Nat → Int64) (O : Nat → Nat → Nat → Option Nat) (kd : Nat → Nat) (ln : Nat → Nat) (cnt : Nat) (this : Nat) (p0 : Nat) (p1 : Int32) (p2 : Nat) : ((Nat → Int32) × (Nat → Nat → Int32) × (Nat → Nat → Int32)) → Prop := (fun t => (rng (0) 100 (t.1)) ∧ (rng2 (0) 24 (t.2.2)) ∧ (RB κ ln (G 200) (t.1) (P 202) (t.2.2)) ∧ ((p2 ≠ wd → (t.1) wd = (G 203) wd)))
set_option maxHeartbeats 4000000 in
set_option maxRecDepth 100000 in
theorem ok_X9_addEntry (κ : Nat → Nat) (wd : Nat) (G : Nat → Nat → Int32) (P : Nat → Nat → Option Nat) (U : Nat → Nat → Int64) (V : Nat → Nat → Nat → Int32) (X : Nat → Nat → Nat → Int64) (O : Nat → Nat → Nat → Option Nat) (kd : Nat → Nat) (ln : Nat → Nat) (cnt : Nat) (this : Nat) (p0 : Nat) (p1 : Int32) (p2 : Nat) (hzG200 : rng (0) 24 (G 200)) (hzG203 : rng (0) 100 (G 203)) (hzP104 : PB κ ln wd 6 11 0 2500 1 (P 104)) (hzP105 : PB κ ln wd 6 11 0 2500 1 (P 105)) (hzP106 : PB κ ln wd 6 110 40 40 0 (P 106)) (hzP201 : PB κ ln wd 11 100 0 2400 0 (P 201)) (hzP202 : PB κ ln wd 11 101 0 100 0 (P 202)) (hzV1 : rng2 (0) 24 (V 1)) (hzRA : RA κ ln (G 200) (P 201) (P 202)) (hzRB : RB κ ln (G 200) (G 203) (P 202) (V 1)) (hzRI : RI (P 202)) (hzRM104 : RM ln 40 (P 104) (P 202)) (hzLN : LN κ ln) (hk_this : κ this = 10) (hk_p0 : κ p0 = 6) (hk_p2 : κ p2 = 11) (hp0 : (0 ≤ p1.toInt ∧ p1.toInt ≤ 100)) : wp (f_X9_addEntry G P U V X O kd ln cnt this p0 p1 p2) (QC_X9_addEntry κ wd G P U V X O kd ln cnt this p0 p1 p2) := by
  unfold f_X9_addEntry
  have zk0 : (0 : Int32).toInt = 0 := by decide +kernel
  have r_p1 := i32r p1
  obtain ⟨r2, hc2, hq2⟩ := ok_X5_isKept κ wd G P U V X O kd ln cnt p0 p1 hzP106 hzLN hk_p0
  have f1 : (0 ≤ r2.toInt ∧ r2.toInt ≤ 1) := hq2
  refine wp_b1 hc2 ?_
  clear hc2
  refine wp_jn (fun j19 => ∀ (t19_0 : Nat), κ t19_0 = 11 → wp (j19 t19_0) (QC_X9_addEntry κ wd G P U V X O kd ln cnt this p0 p1 p2)) ?_ ?_
  · intro t19_0 hk2
    show wp _ _
    have b3 := hzG203 t19_0
    refine wp_jn (fun j53 => ∀ (c53_G203 : Nat → Int32) (c53_V0 : Nat → Nat → Int32) (c53_V1 : Nat → Nat → Int32), rng (0) 100 c53_G203 → rng2 (0) 24 c53_V1 → RB κ ln (G 200) c53_G203 (P 202) c53_V1 → (p2 ≠ wd → c53_G203 wd = (G 203) wd) → wp (j53 c53_G203 c53_V0 c53_V1) (QC_X9_addEntry κ wd G P U V X O kd ln cnt this p0 p1 p2)) ?_ ?_
    · intro c53_G203 c53_V0 c53_V1 hg4 hg5 hRB6 f7
      show wp _ _
      exact ⟨_, rfl, ⟨hg4, hg5, hRB6, (show (p2 ≠ wd → c53_G203 wd = (G 203) wd) from by assumption)⟩⟩
    intro j53 Jj53
    refine wp_ite (fun c27 => ?_) (fun c27 => ?_)
    · have c27 := (z_le _ _).mp c27
      exact Jj53 (G 203) (V 0) (V 1) hzG203 hzV1 hzRB (show (p2 ≠ wd → (G 203) wd = (G 203) wd) from by first | omega | assumption | exact (fun _ => rfl) | exact frt (by assumption) (by assumption))
    · have c27 := z_nle c27
      refine wp_nn ((hzP201 t19_0).1 hk2) (fun a33 hn_a33 => ?_)
      have hk_a33 := ((hzP201 t19_0).2 a33 hn_a33).1
      have hl1_a33 := ((hzP201 t19_0).2 a33 hn_a33).2.1
      have hl2_a33 := ((hzP201 t19_0).2 a33 hn_a33).2.2.1
      have hw_a33 := ((hzP201 t19_0).2 a33 hn_a33).2.2.2
      have hz_a33 : (Int32.ofNat (ln a33)).toInt = ((ln a33 : Nat) : Int) := ofN_eq (by first | exact Nat.le_trans hl2_a33 (by decide) | omega)
      have b8 := hzG200 t19_0
      have f9 := zmw (x := p1) (y := ((G 200) t19_0)) (by omega) (by omega) (by omega) (by omega)
      refine wp_nn ((hzP202 t19_0).1 hk2) (fun a45 hn_a45 => ?_)
      have hk_a45 := ((hzP202 t19_0).2 a45 hn_a45).1
      have hl1_a45 := ((hzP202 t19_0).2 a45 hn_a45).2.1
      have hl2_a45 := ((hzP202 t19_0).2 a45 hn_a45).2.2.1
      have hw_a45 := ((hzP202 t19_0).2 a45 hn_a45).2.2.2
      have hz_a45 : (Int32.ofNat (ln a45)).toInt = ((ln a45 : Nat) : Int) := ofN_eq (by first | exact Nat.le_trans hl2_a45 (by decide) | omega)
      have rb10 := (hzRB t19_0 a45 hk2 hn_a45).1
      have ra11 := hzRA t19_0 a33 a45 hk2 hn_a33 hn_a45
      have bw12 := hzG200 t19_0
      refine wp_if ⟨by omega, by omega⟩ ?_
      have b13 := hzV1 a45 (Int32.toNatClampNeg p1)
      have rl14 := (hzRB t19_0 a45 hk2 hn_a45).2 (Int32.toNatClampNeg p1)
      obtain ⟨⟨c50_G203, c50_V0, c50_V1⟩, hc50, hq50⟩ := ok_X10_addForm κ wd G P U V X O kd ln cnt p2 a33 (p1 * ((G 200) t19_0)) (((V 1) a45) (Int32.toNatClampNeg p1)) hzG200 hzG203 hzP201 hzP202 hzV1 hzRA hzRB hzRI hzLN hk_p2 hk_a33
      obtain ⟨hg15, hg16, hRB17, f18, f19⟩ : (rng (0) 100 c50_G203) ∧ (rng2 (0) 24 c50_V1) ∧ (RB κ ln (G 200) c50_G203 (P 202) c50_V1) ∧ ((p2 ≠ wd → c50_G203 wd = (G 203) wd)) ∧ (((G 203) p2).toInt ≤ (c50_G203 p2).toInt) := hq50
      refine wp_b3 hc50 ?_
      clear hc50
      exact Jj53 c50_G203 c50_V0 c50_V1 hg15 hg16 hRB17 (show (p2 ≠ wd → c50_G203 wd = (G 203) wd) from by first | omega | assumption | exact (fun _ => rfl) | exact frt (by assumption) (by assumption))
  intro j19 Jj19
  refine wp_ite (fun c5 => ?_) (fun c5 => ?_)
  · have c5 := congrArg Int32.toInt c5
    refine wp_nn ((hzP105 p0).1 hk_p0) (fun a16 hn_a16 => ?_)
    have hk_a16 := ((hzP105 p0).2 a16 hn_a16).1
    have hl1_a16 := ((hzP105 p0).2 a16 hn_a16).2.1
    have hl2_a16 := ((hzP105 p0).2 a16 hn_a16).2.2.1
    have hw_a16 := ((hzP105 p0).2 a16 hn_a16).2.2.2
    exact Jj19 a16 hk_a16
  · have c5 := z_ne c5
    refine wp_nn ((hzP104 p0).1 hk_p0) (fun a9 hn_a9 => ?_)
    have hk_a9 := ((hzP104 p0).2 a9 hn_a9).1
    have hl1_a9 := ((hzP104 p0).2 a9 hn_a9).2.1
    have hl2_a9 := ((hzP104 p0).2 a9 hn_a9).2.2.1
    have hw_a9 := ((hzP104 p0).2 a9 hn_a9).2.2.2
    exact Jj19 a9 hk_a9
abbrev QC_X9_apply (κ : Nat → Nat) (wd : Nat) (G : Nat → Nat → Int32) (P : Nat → Nat → Option Nat) (U : Nat → Nat → Int64) (V : Nat → Nat → Nat → Int32) (X : Nat → Nat → Nat → Int64) (O : Nat → Nat → Nat → Option Nat) (kd : Nat → Nat) (ln : Nat → Nat) (cnt : Nat) (this : Nat) (p0 : Nat) : (Int32 × (Nat → Int32) × (Nat → Option Nat) × (Nat → Option Nat) × (Nat → Nat → Int32)) → Prop := (fun t => (rng (0) 40 (t.2.1)) ∧ (PB κ ln wd 10 100 40 40 0 (t.2.2.1)) ∧ (PB κ ln wd 10 100 40 40 0 (t.2.2.2.1)) ∧ ((0 ≤ (t.1).toInt ∧ (t.1).toInt ≤ 1)))
set_option maxHeartbeats 4000000 in
set_option maxRecDepth 100000 in
theorem ok_X9_apply (κ : Nat → Nat) (wd : Nat) (G : Nat → Nat → Int32) (P : Nat → Nat → Option Nat) (U : Nat → Nat → Int64) (V : Nat → Nat → Nat → Int32) (X : Nat → Nat → Nat → Int64) (O : Nat → Nat → Nat → Option Nat) (kd : Nat → Nat) (ln : Nat → Nat) (cnt : Nat) (this : Nat) (p0 : Nat) (hzG183 : rng (0) 40 (G 183)) (hzP20 : PB κ ln wd 2 100 0 16 0 (P 20)) (hzP21 : PB κ ln wd 2 100 0 16 0 (P 21)) (hzP22 : PB κ ln wd 2 100 0 16 0 (P 22)) (hzP23 : PB κ ln wd 2 100 0 16 0 (P 23)) (hzP181 : PB κ ln wd 10 100 40 40 0 (P 181)) (hzP182 : PB κ ln wd 10 100 40 40 0 (P 182)) (hzLN : LN κ ln) (hk_this : κ this = 10) (hk_p0 : κ p0 = 2) : wp (f_X9_apply G P U V X O kd ln cnt this p0) (QC_X9_apply κ wd G P U V X O kd ln cnt this p0) := by
  unfold f_X9_apply
  have zk0 : (0 : Int32).toInt = 0 := by decide +kernel
  have zk1 : (1 : Int32).toInt = 1 := by decide +kernel
  have zk24 : (24 : Int32).toInt = 24 := by decide +kernel
  refine wp_jn (fun k113 => ∀ (x113_2 : Int32) (x113_3 : Int32) (c113_V0 : Nat → Nat → Int32), (0 ≤ x113_2.toInt ∧ x113_2.toInt ≤ 1) → (0 ≤ x113_3.toInt ∧ x113_3.toInt ≤ 40) → wp (k113 x113_2 x113_3 c113_V0) (QC_X9_apply κ wd G P U V X O kd ln cnt this p0)) ?_ ?_
  · intro x113_2 x113_3 c113_V0 f1 f2
    show wp _ _
    refine wp_jn (fun j142 => ∀ (c142_G183 : Nat → Int32) (c142_P181 : Nat → Option Nat) (c142_P182 : Nat → Option Nat), rng (0) 40 c142_G183 → PB κ ln wd 10 100 40 40 0 c142_P181 → PB κ ln wd 10 100 40 40 0 c142_P182 → wp (j142 c142_G183 c142_P181 c142_P182) (QC_X9_apply κ wd G P U V X O kd ln cnt this p0)) ?_ ?_
    · intro c142_G183 c142_P181 c142_P182 hg3 hg4 hg5
      show wp _ _
      refine wp_if ⟨by omega, by omega⟩ ?_
      exact ⟨_, rfl, ⟨hg3, hg4, hg5, (show 0 ≤ x113_2.toInt ∧ x113_2.toInt ≤ 1 from ⟨by omega, by omega⟩)⟩⟩
    intro j142 Jj142
    refine wp_ite (fun c114 => ?_) (fun c114 => ?_)
    · have c114 := congrArg Int32.toInt c114
      exact Jj142 (G 183) (P 181) (P 182) hzG183 hzP181 hzP182
    · have c114 := z_ne c114
      refine wp_nn ((hzP181 this).1 hk_this) (fun a118 hn_a118 => ?_)
      have hk_a118 := ((hzP181 this).2 a118 hn_a118).1
      have hl1_a118 := ((hzP181 this).2 a118 hn_a118).2.1
      have hl2_a118 := ((hzP181 this).2 a118 hn_a118).2.2.1
      have hw_a118 := ((hzP181 this).2 a118 hn_a118).2.2.2
      have hz_a118 : (Int32.ofNat (ln a118)).toInt = ((ln a118 : Nat) : Int) := ofN_eq (by first | exact Nat.le_trans hl2_a118 (by decide) | omega)
      refine wp_nn ((hzP182 this).1 hk_this) (fun a125 hn_a125 => ?_)
      have hk_a125 := ((hzP182 this).2 a125 hn_a125).1
      have hl1_a125 := ((hzP182 this).2 a125 hn_a125).2.1
      have hl2_a125 := ((hzP182 this).2 a125 hn_a125).2.2.1
      have hw_a125 := ((hzP182 this).2 a125 hn_a125).2.2.2
      have hz_a125 : (Int32.ofNat (ln a125)).toInt = ((ln a125 : Nat) : Int) := ofN_eq (by first | exact Nat.le_trans hl2_a125 (by decide) | omega)
      refine wp_vl (fun m128 em128 => ?_)
      have hp6 : PB κ ln wd 10 100 40 40 0 m128 := by rw [em128]; exact PB_up hzP181 hk_a125 (by omega) (by omega) (fun h9 => absurd h9 (by decide))
      have sm128 : m128 this = some a125 := by rw [em128]; exact va_up_self _ _ _
      clear em128
      refine wp_vl (fun m134 em134 => ?_)
      have hp7 : PB κ ln wd 10 100 40 40 0 m134 := by rw [em134]; exact PB_up hzP182 hk_a118 (by omega) (by omega) (fun h9 => absurd h9 (by decide))
      have sm134 : m134 this = some a118 := by rw [em134]; exact va_up_self _ _ _
      clear em134
      refine wp_vl (fun m139 em139 => ?_)
      have hg8 : rng (0) 40 m139 := by rw [em139]; exact rng_vup hzG183 (by omega) (by omega)
      have sm139 : (m139 this).toInt = x113_3.toInt := by rw [em139, va_up_self]
      have b9 := hg8 this
      clear em139
      exact Jj142 m139 m128 m134 hg8 hp6 hp7
  intro k113 Jk113
  have lp7 : ∀ (n7 : Nat) (y7_2 : Int32) (y7_3 : Int32) (y7_4 : Int32) (d7_V0 : Nat → Nat → Int32), (40 - y7_4.toInt).toNat < n7 → (0 ≤ y7_2.toInt ∧ y7_2.toInt ≤ 1) → (0 ≤ y7_3.toInt ∧ y7_3.toInt ≤ 40) → (0 ≤ y7_4.toInt ∧ y7_4.toInt ≤ 40) → wp (L_X9_apply_7 G P U V X O kd ln cnt this p0 k113 n7 y7_2 y7_3 y7_4 d7_V0) (QC_X9_apply κ wd G P U V X O kd ln cnt this p0) := by
    intro n7
    induction n7 with
    | zero => intro y7_2 y7_3 y7_4 d7_V0 hm; exact absurd hm (Nat.not_lt_zero _)
    | succ n7 ih7 =>
      intro y7_2 y7_3 y7_4 d7_V0 hm7 f10 f11 f12
      show wp (B_X9_apply_7 G P U V X O kd ln cnt this p0 k113 (L_X9_apply_7 G P U V X O kd ln cnt this p0 k113 n7) y7_2 y7_3 y7_4 d7_V0) _
      unfold B_X9_apply_7
      have b13 := hzG183 this
      refine wp_ite (fun c13 => ?_) (fun c13 => ?_)
      · have c13 := (z_le _ _).mp c13
        exact Jk113 y7_2 y7_3 d7_V0 (show (0 ≤ y7_2.toInt ∧ y7_2.toInt ≤ 1) from by omega) (show (0 ≤ y7_3.toInt ∧ y7_3.toInt ≤ 40) from by omega)
      · have c13 := z_nle c13
        refine wp_ite (fun c19 => ?_) (fun c19 => ?_)
        · have c19 := (z_lt _ _).mp c19
          exact Jk113 y7_2 y7_3 d7_V0 (show (0 ≤ y7_2.toInt ∧ y7_2.toInt ≤ 1) from by omega) (show (0 ≤ y7_3.toInt ∧ y7_3.toInt ≤ 40) from by omega)
        · have c19 := z_nlt c19
          refine wp_nn ((hzP181 this).1 hk_this) (fun a24 hn_a24 => ?_)
          have hk_a24 := ((hzP181 this).2 a24 hn_a24).1
          have hl1_a24 := ((hzP181 this).2 a24 hn_a24).2.1
          have hl2_a24 := ((hzP181 this).2 a24 hn_a24).2.2.1
          have hw_a24 := ((hzP181 this).2 a24 hn_a24).2.2.2
          have hz_a24 : (Int32.ofNat (ln a24)).toInt = ((ln a24 : Nat) : Int) := ofN_eq (by first | exact Nat.le_trans hl2_a24 (by decide) | omega)
          refine wp_nn ((hzP182 this).1 hk_this) (fun a34 hn_a34 => ?_)
          have hk_a34 := ((hzP182 this).2 a34 hn_a34).1
          have hl1_a34 := ((hzP182 this).2 a34 hn_a34).2.1
          have hl2_a34 := ((hzP182 this).2 a34 hn_a34).2.2.1
          have hw_a34 := ((hzP182 this).2 a34 hn_a34).2.2.2
          have hz_a34 : (Int32.ofNat (ln a34)).toInt = ((ln a34 : Nat) : Int) := ofN_eq (by first | exact Nat.le_trans hl2_a34 (by decide) | omega)
          obtain ⟨r38, hc38, hq38⟩ := ok_X1_standsAt κ wd G P U (va_up V 0 d7_V0) X O kd ln cnt p0 a24 y7_4 ((G 183) this) a34 y7_3 hzP20 hzP22 hzP23 hzLN hk_p0 hk_a24 hk_a34 (show (0 ≤ y7_4.toInt ∧ y7_4.toInt ≤ 40) from by omega) (show (0 ≤ ((G 183) this).toInt ∧ ((G 183) this).toInt ≤ 40) from by omega) (show (0 ≤ y7_3.toInt ∧ y7_3.toInt ≤ 40) from by omega)
          obtain ⟨f15, f16⟩ : ((0 ≤ r38.toInt ∧ r38.toInt ≤ 1)) ∧ ((r38.toInt = 1 → ∀ f, (P 20) p0 = some f → y7_4.toInt + ((ln f : Nat) : Int) ≤ ((G 183) this).toInt)) := hq38
          refine wp_b1 hc38 ?_
          clear hc38
          have hst38 := f16
          refine wp_jn (fun j107 => ∀ (x107_2 : Int32) (x107_3 : Int32) (x107_4 : Int32) (c107_V0 : Nat → Nat → Int32), (0 ≤ x107_2.toInt ∧ x107_2.toInt ≤ 1) → (0 ≤ x107_3.toInt ∧ x107_3.toInt ≤ 40) → (x107_4.toInt < 40 ∧ y7_4.toInt ≤ x107_4.toInt) → wp (j107 x107_2 x107_3 x107_4 c107_V0) (QC_X9_apply κ wd G P U V X O kd ln cnt this p0)) ?_ ?_
          · intro x107_2 x107_3 x107_4 c107_V0 f17 f18 f19
            show wp _ _
            have f20 : (x107_4 + 1).toInt = x107_4.toInt + (1) := z_addc (by decide +kernel) (by omega) (by omega)
            exact ih7 x107_2 x107_3 (x107_4 + 1) c107_V0 (show (40 - (x107_4 + 1).toInt).toNat < n7 from by omega) (show (0 ≤ x107_2.toInt ∧ x107_2.toInt ≤ 1) from by omega) (show (0 ≤ x107_3.toInt ∧ x107_3.toInt ≤ 40) from by omega) (show (0 ≤ (x107_4 + 1).toInt ∧ (x107_4 + 1).toInt ≤ 40) from by omega)
          intro j107 Jj107
          refine wp_ite (fun c41 => ?_) (fun c41 => ?_)
          · have c41 := congrArg Int32.toInt c41
            refine wp_nne hn_a34 ?_
            refine wp_nne hn_a24 ?_
            refine wp_if ⟨by omega, by omega⟩ ?_
            refine wp_if ⟨by omega, by omega⟩ ?_
            refine wp_vl (fun m103 em103 => ?_)
            clear em103
            have f21 : (y7_3 + 1).toInt = y7_3.toInt + (1) := z_addc (by decide +kernel) (by omega) (by omega)
            exact Jj107 y7_2 (y7_3 + 1) y7_4 m103 (show (0 ≤ y7_2.toInt ∧ y7_2.toInt ≤ 1) from by omega) (show (0 ≤ (y7_3 + 1).toInt ∧ (y7_3 + 1).toInt ≤ 40) from by omega) (show (y7_4.toInt < 40 ∧ y7_4.toInt ≤ y7_4.toInt) from by omega)
          · have c41 := z_ne c41
            refine wp_nn ((hzP21 p0).1 hk_p0) (fun a45 hn_a45 => ?_)
            have hk_a45 := ((hzP21 p0).2 a45 hn_a45).1
            have hl1_a45 := ((hzP21 p0).2 a45 hn_a45).2.1
            have hl2_a45 := ((hzP21 p0).2 a45 hn_a45).2.2.1
            have hw_a45 := ((hzP21 p0).2 a45 hn_a45).2.2.2
            have hz_a45 : (Int32.ofNat (ln a45)).toInt = ((ln a45 : Nat) : Int) := ofN_eq (by first | exact Nat.le_trans hl2_a45 (by decide) | omega)
            refine wp_nne hn_a34 ?_
            refine wp_nne hn_a45 ?_
            have hzb_a45 := hzLN a45 (by rw [hk_a45]; decide)
            refine wp_if ⟨by omega, by omega, by omega, by omega, by omega⟩ ?_
            refine wp_vl (fun m59 em59 => ?_)
            clear em59
            refine wp_nne hn_a45 ?_
            have f22 : (y7_3 + (Int32.ofNat (ln a45))).toInt = y7_3.toInt + (Int32.ofNat (ln a45)).toInt := z_add (by omega) (by omega)
            refine wp_vl (fun x69 ex69 => ?_)
            have f23 : x69.toInt = (y7_3 + (Int32.ofNat (ln a45))).toInt := congrArg Int32.toInt ex69
            clear ex69
            refine wp_nn ((hzP20 p0).1 hk_p0) (fun a73 hn_a73 => ?_)
            have hk_a73 := ((hzP20 p0).2 a73 hn_a73).1
            have hl1_a73 := ((hzP20 p0).2 a73 hn_a73).2.1
            have hl2_a73 := ((hzP20 p0).2 a73 hn_a73).2.2.1
            have hw_a73 := ((hzP20 p0).2 a73 hn_a73).2.2.2
            have hz_a73 : (Int32.ofNat (ln a73)).toInt = ((ln a73 : Nat) : Int) := ofN_eq (by first | exact Nat.le_trans hl2_a73 (by decide) | omega)
            have hst := hst38 (by omega) _ hn_a73
            have hzb_a73 := hzLN a73 (by rw [hk_a73]; decide)
            have mm24 := z_max (Int32.ofNat (ln a73)) 1
            have f25 : ((if (Int32.ofNat (ln a73)) < 1 then 1 else (Int32.ofNat (ln a73))) - 1).toInt = (if (Int32.ofNat (ln a73)) < 1 then 1 else (Int32.ofNat (ln a73))).toInt - 1 := z_subc (by decide +kernel) (by omega) (by omega)
            have f26 : (y7_4 + ((if (Int32.ofNat (ln a73)) < 1 then 1 else (Int32.ofNat (ln a73))) - 1)).toInt = y7_4.toInt + ((if (Int32.ofNat (ln a73)) < 1 then 1 else (Int32.ofNat (ln a73))) - 1).toInt := z_add (by omega) (by omega)
            refine wp_vl (fun x84 ex84 => ?_)
            have f27 : x84.toInt = (y7_4 + ((if (Int32.ofNat (ln a73)) < 1 then 1 else (Int32.ofNat (ln a73))) - 1)).toInt := congrArg Int32.toInt ex84
            clear ex84
            exact Jj107 (1 : Int32) x69 x84 m59 (show (0 ≤ (1 : Int32).toInt ∧ (1 : Int32).toInt ≤ 1) from by omega) (show (0 ≤ x69.toInt ∧ x69.toInt ≤ 40) from by omega) (show (x84.toInt < 40 ∧ y7_4.toInt ≤ x84.toInt) from by omega)
  exact lp7 NN (0 : Int32) (0 : Int32) (0 : Int32) (V 0) (by have := NN_eq; omega) (show (0 ≤ (0 : Int32).toInt ∧ (0 : Int32).toInt ≤ 1) from by omega) (show (0 ≤ (0 : Int32).toInt ∧ (0 : Int32).toInt ≤ 40) from by omega) (show (0 ≤ (0 : Int32).toInt ∧ (0 : Int32).toInt ≤ 40) from by omega)
abbrev QC_X9_runLaws (κ : Nat → Nat) (wd : Nat) (G : Nat → Nat → Int32) (P : Nat → Nat → Option Nat) (U : Nat → Nat → Int64) (V : Nat → Nat → Nat → Int32) (X : Nat → Nat → Nat → Int64) (O : Nat → Nat → Nat → Option Nat) (kd : Nat → Nat) (ln : Nat → Nat) (cnt : Nat) (this : Nat) (p0 : Nat) (p1 : Nat) (p2 : Int32) (p3 : Int32) : (Int32 × (Nat → Int32) × (Nat → Option Nat) × (Nat → Option Nat) × (Nat → Int64) × (Nat → Nat → Int32)) → Prop := (fun t => (rng (0) 40 (t.2.1)) ∧ (PB κ ln wd 10 100 40 40 0 (t.2.2.1)) ∧ (PB κ ln wd 10 100 40 40 0 (t.2.2.2.1)) ∧ ((0 ≤ (t.1).toInt ∧ (t.1).toInt ≤ 1)))
set_option maxHeartbeats 4000000 in
set_option maxRecDepth 100000 in
theorem ok_X9_runLaws (κ : Nat → Nat) (wd : Nat) (G : Nat → Nat → Int32) (P : Nat → Nat → Option Nat) (U : Nat → Nat → Int64) (V : Nat → Nat → Nat → Int32) (X : Nat → Nat → Nat → Int64) (O : Nat → Nat → Nat → Option Nat) (kd : Nat → Nat) (ln : Nat → Nat) (cnt : Nat) (this : Nat) (p0 : Nat) (p1 : Nat) (p2 : Int32) (p3 : Int32) (hzG102 : rng (0) 40 (G 102)) (hzG183 : rng (0) 40 (G 183)) (hzP20 : PB κ ln wd 2 100 0 16 0 (P 20)) (hzP21 : PB κ ln wd 2 100 0 16 0 (P 21)) (hzP22 : PB κ ln wd 2 100 0 16 0 (P 22)) (hzP23 : PB κ ln wd 2 100 0 16 0 (P 23)) (hzP101 : PB κ ln wd 6 300 40 40 0 (P 101)) (hzP181 : PB κ ln wd 10 100 40 40 0 (P 181)) (hzP182 : PB κ ln wd 10 100 40 40 0 (P 182)) (hzO0 : OB κ 2 (O 0)) (hzLN : LN κ ln) (hk_this : κ this = 10) (hk_p0 : κ p0 = 6) (hk_p1 : κ p1 = 100) (hp0 : (0 ≤ p2.toInt ∧ 0 ≤ p3.toInt ∧ p2.toInt + p3.toInt ≤ ((ln p1 : Nat) : Int))) : wp (f_X9_runLaws G P U V X O kd ln cnt this p0 p1 p2 p3) (QC_X9_runLaws κ wd G P U V X O kd ln cnt this p0 p1 p2 p3) := by
  unfold f_X9_runLaws
  have zk0 : (0 : Int32).toInt = 0 := by decide +kernel
  have zk1 : (1 : Int32).toInt = 1 := by decide +kernel
  have zk24 : (24 : Int32).toInt = 24 := by decide +kernel
  have r_p2 := i32r p2
  have r_p3 := i32r p3
  refine wp_vl (fun m2 em2 => ?_)
  clear em2
  have mm1 := z_min 24 p3
  refine wp_vl (fun x13 ex13 => ?_)
  have f2 : x13.toInt = (if 24 < p3 then 24 else p3).toInt := congrArg Int32.toInt ex13
  clear ex13
  refine wp_vl (fun m13 em13 => ?_)
  have hg3 : rng (0) 40 m13 := by rw [em13]; exact rng_vup hzG183 (by omega) (by omega)
  have sm13 : (m13 this).toInt = x13.toInt := by rw [em13, va_up_self]
  have b4 := hg3 this
  clear em13
  refine wp_nn ((hzP181 this).1 hk_this) (fun a19 hn_a19 => ?_)
  have hk_a19 := ((hzP181 this).2 a19 hn_a19).1
  have hl1_a19 := ((hzP181 this).2 a19 hn_a19).2.1
  have hl2_a19 := ((hzP181 this).2 a19 hn_a19).2.2.1
  have hw_a19 := ((hzP181 this).2 a19 hn_a19).2.2.2
  have hz_a19 : (Int32.ofNat (ln a19)).toInt = ((ln a19 : Nat) : Int) := ofN_eq (by first | exact Nat.le_trans hl2_a19 (by decide) | omega)
  refine wp_if ⟨by omega, by omega, by omega, by omega, by omega⟩ ?_
  refine wp_vl (fun m27 em27 => ?_)
  clear em27
  refine wp_jn (fun k93 => ∀ (c93_G183 : Nat → Int32) (c93_P181 : Nat → Option Nat) (c93_P182 : Nat → Option Nat) (c93_U184 : Nat → Int64) (c93_V0 : Nat → Nat → Int32), rng (0) 40 c93_G183 → PB κ ln wd 10 100 40 40 0 c93_P181 → PB κ ln wd 10 100 40 40 0 c93_P182 → wp (k93 c93_G183 c93_P181 c93_P182 c93_U184 c93_V0) (QC_X9_runLaws κ wd G P U V X O kd ln cnt this p0 p1 p2 p3)) ?_ ?_
  · intro c93_G183 c93_P181 c93_P182 c93_U184 c93_V0 hg6 hg7 hg8
    show wp _ _
    have b9 := hg6 this
    refine wp_jn (fun j107 => ∀ (t107_0 : Int32), (0 ≤ t107_0.toInt ∧ t107_0.toInt ≤ 1) → wp (j107 t107_0) (QC_X9_runLaws κ wd G P U V X O kd ln cnt this p0 p1 p2 p3)) ?_ ?_
    · intro t107_0 f10
      show wp _ _
      refine wp_if ⟨by omega, by omega⟩ ?_
      exact ⟨_, rfl, ⟨hg6, hg7, hg8, (show 0 ≤ t107_0.toInt ∧ t107_0.toInt ≤ 1 from ⟨by omega, by omega⟩)⟩⟩
    intro j107 Jj107
    refine wp_ite (fun c99 => ?_) (fun c99 => ?_)
    · have c99 := (z_lt _ _).mp c99
      exact Jj107 (0 : Int32) (show (0 ≤ (0 : Int32).toInt ∧ (0 : Int32).toInt ≤ 1) from by omega)
    · have c99 := z_nlt c99
      exact Jj107 (1 : Int32) (show (0 ≤ (1 : Int32).toInt ∧ (1 : Int32).toInt ≤ 1) from by omega)
  intro k93 Jk93
  have lp33 : ∀ (n33 : Nat) (y33_5 : Int32) (d33_G183 : Nat → Int32) (d33_P181 : Nat → Option Nat) (d33_P182 : Nat → Option Nat) (d33_U184 : Nat → Int64) (d33_V0 : Nat → Nat → Int32), (40 - y33_5.toInt).toNat < n33 → rng (0) 40 d33_G183 → PB κ ln wd 10 100 40 40 0 d33_P181 → PB κ ln wd 10 100 40 40 0 d33_P182 → (0 ≤ y33_5.toInt ∧ y33_5.toInt ≤ 40) → wp (L_X9_runLaws_33 G P U V X O kd ln cnt this p0 k93 n33 y33_5 d33_G183 d33_P181 d33_P182 d33_U184 d33_V0) (QC_X9_runLaws κ wd G P U V X O kd ln cnt this p0 p1 p2 p3) := by
    intro n33
    induction n33 with
    | zero => intro y33_5 d33_G183 d33_P181 d33_P182 d33_U184 d33_V0 hm; exact absurd hm (Nat.not_lt_zero _)
    | succ n33 ih33 =>
      intro y33_5 d33_G183 d33_P181 d33_P182 d33_U184 d33_V0 hm33 hg11 hg12 hg13 f14
      show wp (B_X9_runLaws_33 G P U V X O kd ln cnt this p0 k93 (L_X9_runLaws_33 G P U V X O kd ln cnt this p0 k93 n33) y33_5 d33_G183 d33_P181 d33_P182 d33_U184 d33_V0) _
      unfold B_X9_runLaws_33
      have b15 := hzG102 p0
      refine wp_ite (fun c39 => ?_) (fun c39 => ?_)
      · have c39 := (z_le _ _).mp c39
        exact Jk93 d33_G183 d33_P181 d33_P182 d33_U184 d33_V0 hg11 hg12 hg13
      · have c39 := z_nle c39
        have b16 := hg11 this
        refine wp_ite (fun c48 => ?_) (fun c48 => ?_)
        · have c48 := (z_lt _ _).mp c48
          exact Jk93 d33_G183 d33_P181 d33_P182 d33_U184 d33_V0 hg11 hg12 hg13
        · have c48 := z_nlt c48
          refine wp_nn ((hzP101 p0).1 hk_p0) (fun a52 hn_a52 => ?_)
          have hk_a52 := ((hzP101 p0).2 a52 hn_a52).1
          have hl1_a52 := ((hzP101 p0).2 a52 hn_a52).2.1
          have hl2_a52 := ((hzP101 p0).2 a52 hn_a52).2.2.1
          have hw_a52 := ((hzP101 p0).2 a52 hn_a52).2.2.2
          have hz_a52 : (Int32.ofNat (ln a52)).toInt = ((ln a52 : Nat) : Int) := ofN_eq (by first | exact Nat.le_trans hl2_a52 (by decide) | omega)
          refine wp_if ⟨by omega, by omega⟩ ?_
          refine wp_vl (fun o57 eo57 => ?_)
          have hk_o57 : ∀ b, o57 = some b → κ b = 2 := fun b hq => hzO0 _ _ b (eo57.symm.trans hq)
          clear eo57
          refine wp_jn (fun j87 => ∀ (c87_G183 : Nat → Int32) (c87_P181 : Nat → Option Nat) (c87_P182 : Nat → Option Nat) (c87_U184 : Nat → Int64) (c87_V0 : Nat → Nat → Int32), rng (0) 40 c87_G183 → PB κ ln wd 10 100 40 40 0 c87_P181 → PB κ ln wd 10 100 40 40 0 c87_P182 → wp (j87 c87_G183 c87_P181 c87_P182 c87_U184 c87_V0) (QC_X9_runLaws κ wd G P U V X O kd ln cnt this p0 p1 p2 p3)) ?_ ?_
          · intro c87_G183 c87_P181 c87_P182 c87_U184 c87_V0 hg17 hg18 hg19
            show wp _ _
            have f20 : (y33_5 + 1).toInt = y33_5.toInt + (1) := z_addc (by decide +kernel) (by omega) (by omega)
            exact ih33 (y33_5 + 1) c87_G183 c87_P181 c87_P182 c87_U184 c87_V0 (show (40 - (y33_5 + 1).toInt).toNat < n33 from by omega) hg17 hg18 hg19 (show (0 ≤ (y33_5 + 1).toInt ∧ (y33_5 + 1).toInt ≤ 40) from by omega)
          intro j87 Jj87
          refine wp_oc (fun c62 => ?_) (fun b62 c62 => ?_)
          · skip
            exact Jj87 d33_G183 d33_P181 d33_P182 d33_U184 d33_V0 hg11 hg12 hg13
          · skip
            have hk_b62 := hk_o57 b62 c62
            obtain ⟨⟨r68, c68_G183, c68_P181, c68_P182, c68_V0⟩, hc68, hq68⟩ := ok_X9_apply κ wd (va_up G 183 d33_G183) (va_up (va_up P 181 d33_P181) 182 d33_P182) (va_up U 184 d33_U184) (va_up V 0 d33_V0) X O kd ln cnt this b62 hg11 hzP20 hzP21 hzP22 hzP23 hg12 hg13 hzLN hk_this hk_b62
            obtain ⟨hg21, hg22, hg23, f24⟩ : (rng (0) 40 c68_G183) ∧ (PB κ ln wd 10 100 40 40 0 c68_P181) ∧ (PB κ ln wd 10 100 40 40 0 c68_P182) ∧ ((0 ≤ r68.toInt ∧ r68.toInt ≤ 1)) := hq68
            refine wp_b5 hc68 ?_
            clear hc68
            refine wp_ite (fun c71 => ?_) (fun c71 => ?_)
            · have c71 := congrArg Int32.toInt c71
              exact Jj87 c68_G183 c68_P181 c68_P182 d33_U184 c68_V0 hg21 hg22 hg23
            · have c71 := z_ne c71
              refine wp_vl (fun x84 ex84 => ?_)
              clear ex84
              refine wp_vl (fun m84 em84 => ?_)
              clear em84
              exact Jj87 c68_G183 c68_P181 c68_P182 m84 c68_V0 hg21 hg22 hg23
  exact lp33 NN (0 : Int32) m13 (P 181) (P 182) m2 m27 (by have := NN_eq; omega) hg3 hzP181 hzP182 (show (0 ≤ (0 : Int32).toInt ∧ (0 : Int32).toInt ≤ 40) from by omega)
abbrev QC_X9_turnParting (κ : Nat → Nat) (wd : Nat) (G : Nat → Nat → Int32) (P : Nat → Nat → Option Nat) (U : Nat → Nat → Int64) (V : Nat → Nat → Nat → Int32) (X : Nat → Nat → Nat → Int64) (O : Nat → Nat → Nat → Option Nat) (kd : Nat → Nat) (ln : Nat → Nat) (cnt : Nat) (this : Nat) (p0 : Nat) (p1 : Int32) (p2 : Nat) : (Int64 × (Nat → Int32) × (Nat → Nat → Int32) × (Nat → Nat → Int32)) → Prop := (fun t => (rng (0) 100 (t.2.1)) ∧ (rng2 (0) 24 (t.2.2.2)) ∧ (RB κ ln (G 200) (t.2.1) (P 202) (t.2.2.2)) ∧ ((p2 ≠ wd → (t.2.1) wd = (G 203) wd)))
set_option maxHeartbeats 4000000 in
set_option maxRecDepth 100000 in
theorem ok_X9_turnParting (κ : Nat → Nat) (wd : Nat) (G : Nat → Nat → Int32) (P : Nat → Nat → Option Nat) (U : Nat → Nat → Int64) (V : Nat → Nat → Nat → Int32) (X : Nat → Nat → Nat → Int64) (O : Nat → Nat → Nat → Option Nat) (kd : Nat → Nat) (ln : Nat → Nat) (cnt : Nat) (this : Nat) (p0 : Nat) (p1 : Int32) (p2 : Nat) (hzG60 : rng (0) 30 (G 60)) (hzG200 : rng (0) 24 (G 200)) (hzG203 : rng (0) 100 (G 203)) (hzP61 : PB κ ln wd 4 102 30 30 0 (P 61)) (hzP62 : PB κ ln wd 4 100 720 720 0 (P 62)) (hzP108 : PB κ ln wd 6 11 0 2500 1 (P 108)) (hzP109 : PB κ ln wd 6 111 40 40 0 (P 109)) (hzP110 : PB κ ln wd 6 200 40 40 0 (P 110)) (hzP180 : PB κ ln wd 10 4 0 2500 0 (P 180)) (hzP185 : PB κ ln wd 10 100 24 24 0 (P 185)) (hzP201 : PB κ ln wd 11 100 0 2400 0 (P 201)) (hzP202 : PB κ ln wd 11 101 0 100 0 (P 202)) (hzV1 : rng2 (0) 24 (V 1)) (hzV2 : rng2 (0) 24 (V 2)) (hzRA : RA κ ln (G 200) (P 201) (P 202)) (hzRB : RB κ ln (G 200) (G 203) (P 202) (V 1)) (hzRI : RI (P 202)) (hzRM108 : RM ln 40 (P 108) (P 202)) (hzLN : LN κ ln) (hk_this : κ this = 10) (hk_p0 : κ p0 = 6) (hk_p2 : κ p2 = 11) (hp0 : (0 ≤ p1.toInt ∧ p1.toInt < 30)) : wp (f_X9_turnParting G P U V X O kd ln cnt this p0 p1 p2) (QC_X9_turnParting κ wd G P U V X O kd ln cnt this p0 p1 p2) := by
  unfold f_X9_turnParting
  have zk0 : (0 : Int32).toInt = 0 := by decide +kernel
  have zk24 : (24 : Int32).toInt = 24 := by decide +kernel
  have r_p1 := i32r p1
  refine wp_nn ((hzP108 p0).1 hk_p0) (fun a1 hn_a1 => ?_)
  have hk_a1 := ((hzP108 p0).2 a1 hn_a1).1
  have hl1_a1 := ((hzP108 p0).2 a1 hn_a1).2.1
  have hl2_a1 := ((hzP108 p0).2 a1 hn_a1).2.2.1
  have hw_a1 := ((hzP108 p0).2 a1 hn_a1).2.2.2
  obtain ⟨u1, hn_u1⟩ := PBs (hzP202 a1) hk_a1
  have hk_u1 := ((hzP202 a1).2 u1 hn_u1).1
  have hl1_u1 := ((hzP202 a1).2 u1 hn_u1).2.1
  have hl2_u1 := ((hzP202 a1).2 u1 hn_u1).2.2.1
  have hw_u1 := ((hzP202 a1).2 u1 hn_u1).2.2.2
  have hz_u1 : (Int32.ofNat (ln u1)).toInt = ((ln u1 : Nat) : Int) := ofN_eq (by first | exact Nat.le_trans hl2_u1 (by decide) | omega)
  have rb2 := (hzRB a1 u1 hk_a1 hn_u1).1
  have rm3 := hzRM108 p0 a1 u1 hn_a1 hn_u1
  obtain ⟨u4, hn_u4⟩ := PBs (hzP201 a1) hk_a1
  have hk_u4 := ((hzP201 a1).2 u4 hn_u4).1
  have hl1_u4 := ((hzP201 a1).2 u4 hn_u4).2.1
  have hl2_u4 := ((hzP201 a1).2 u4 hn_u4).2.2.1
  have hw_u4 := ((hzP201 a1).2 u4 hn_u4).2.2.2
  have hz_u4 : (Int32.ofNat (ln u4)).toInt = ((ln u4 : Nat) : Int) := ofN_eq (by first | exact Nat.le_trans hl2_u4 (by decide) | omega)
  have ra6 := hzRA a1 u4 u1 hk_a1 hn_u4 hn_u1
  have bw7 := hzG200 a1
  refine wp_jn (fun k149 => ∀ (x149_5 : Int64) (x149_7 : Int32) (c149_V0 : Nat → Nat → Int32), wp (k149 x149_5 x149_7 c149_V0) (QC_X9_turnParting κ wd G P U V X O kd ln cnt this p0 p1 p2)) ?_ ?_
  · intro x149_5 x149_7 c149_V0
    show wp _ _
    refine wp_jn (fun j167 => ∀ (c167_G203 : Nat → Int32) (c167_V0 : Nat → Nat → Int32) (c167_V1 : Nat → Nat → Int32), rng (0) 100 c167_G203 → rng2 (0) 24 c167_V1 → RB κ ln (G 200) c167_G203 (P 202) c167_V1 → (p2 ≠ wd → c167_G203 wd = (G 203) wd) → wp (j167 c167_G203 c167_V0 c167_V1) (QC_X9_turnParting κ wd G P U V X O kd ln cnt this p0 p1 p2)) ?_ ?_
    · intro c167_G203 c167_V0 c167_V1 hg9 hg10 hRB11 f12
      show wp _ _
      exact ⟨_, rfl, ⟨hg9, hg10, hRB11, (show (p2 ≠ wd → c167_G203 wd = (G 203) wd) from by first | exact (fun _ => rfl) | assumption)⟩⟩
    intro j167 Jj167
    refine wp_ite (fun c153 => ?_) (fun c153 => ?_)
    · have c153 := (z_lt _ _).mp c153
      exact Jj167 (G 203) c149_V0 (V 1) hzG203 hzV1 hzRB (show (p2 ≠ wd → (G 203) wd = (G 203) wd) from by first | omega | assumption | exact (fun _ => rfl) | exact frt (by assumption) (by assumption))
    · have c153 := z_nlt c153
      refine wp_nn ((hzP185 this).1 hk_this) (fun a158 hn_a158 => ?_)
      have hk_a158 := ((hzP185 this).2 a158 hn_a158).1
      have hl1_a158 := ((hzP185 this).2 a158 hn_a158).2.1
      have hl2_a158 := ((hzP185 this).2 a158 hn_a158).2.2.1
      have hw_a158 := ((hzP185 this).2 a158 hn_a158).2.2.2
      have hz_a158 : (Int32.ofNat (ln a158)).toInt = ((ln a158 : Nat) : Int) := ofN_eq (by first | exact Nat.le_trans hl2_a158 (by decide) | omega)
      obtain ⟨⟨c164_G203, c164_V0, c164_V1⟩, hc164, hq164⟩ := ok_X10_addForm κ wd G P U (va_up V 0 c149_V0) X O kd ln cnt p2 a158 (0 : Int32) x149_7 hzG200 hzG203 hzP201 hzP202 hzV1 hzRA hzRB hzRI hzLN hk_p2 hk_a158
      obtain ⟨hg13, hg14, hRB15, f16, f17⟩ : (rng (0) 100 c164_G203) ∧ (rng2 (0) 24 c164_V1) ∧ (RB κ ln (G 200) c164_G203 (P 202) c164_V1) ∧ ((p2 ≠ wd → c164_G203 wd = (G 203) wd)) ∧ (((G 203) p2).toInt ≤ (c164_G203 p2).toInt) := hq164
      refine wp_b3 hc164 ?_
      clear hc164
      exact Jj167 c164_G203 c164_V0 c164_V1 hg13 hg14 hRB15 (show (p2 ≠ wd → c164_G203 wd = (G 203) wd) from by first | omega | assumption | exact (fun _ => rfl) | exact frt (by assumption) (by assumption))
  intro k149 Jk149
  refine wp_jn (fun k56 => ∀ (x56_5 : Int64) (c56_V0 : Nat → Nat → Int32), wp (k56 x56_5 c56_V0) (QC_X9_turnParting κ wd G P U V X O kd ln cnt this p0 p1 p2)) ?_ ?_
  · intro x56_5 c56_V0
    show wp _ _
    exact ⟨_, rfl, ⟨hzG203, hzV1, hzRB, (show (p2 ≠ wd → (G 203) wd = (G 203) wd) from by first | exact (fun _ => rfl) | assumption)⟩⟩
  intro k56 Jk56
  have lp15 : ∀ (n15 : Nat) (y15_5 : Int64) (y15_7 : Int32) (y15_8 : Int32) (d15_V0 : Nat → Nat → Int32), (24 - y15_8.toInt).toNat < n15 → (0 ≤ y15_8.toInt ∧ y15_8.toInt ≤ 24) → (0 ≤ y15_7.toInt ∧ y15_7.toInt ≤ 24 * y15_8.toInt) → wp (L_X9_turnParting_15 G P U V X O kd ln cnt this p0 p1 a1 k149 k56 n15 y15_5 y15_7 y15_8 d15_V0) (QC_X9_turnParting κ wd G P U V X O kd ln cnt this p0 p1 p2) := by
    intro n15
    induction n15 with
    | zero => intro y15_5 y15_7 y15_8 d15_V0 hm; exact absurd hm (Nat.not_lt_zero _)
    | succ n15 ih15 =>
      intro y15_5 y15_7 y15_8 d15_V0 hm15 f18 f19
      show wp (B_X9_turnParting_15 G P U V X O kd ln cnt this p0 p1 a1 k149 k56 (L_X9_turnParting_15 G P U V X O kd ln cnt this p0 p1 a1 k149 k56 n15) y15_5 y15_7 y15_8 d15_V0) _
      unfold B_X9_turnParting_15
      refine wp_nn ((hzP180 this).1 hk_this) (fun a18 hn_a18 => ?_)
      have hk_a18 := ((hzP180 this).2 a18 hn_a18).1
      have hl1_a18 := ((hzP180 this).2 a18 hn_a18).2.1
      have hl2_a18 := ((hzP180 this).2 a18 hn_a18).2.2.1
      have hw_a18 := ((hzP180 this).2 a18 hn_a18).2.2.2
      refine wp_nn ((hzP61 a18).1 hk_a18) (fun a21 hn_a21 => ?_)
      have hk_a21 := ((hzP61 a18).2 a21 hn_a21).1
      have hl1_a21 := ((hzP61 a18).2 a21 hn_a21).2.1
      have hl2_a21 := ((hzP61 a18).2 a21 hn_a21).2.2.1
      have hw_a21 := ((hzP61 a18).2 a21 hn_a21).2.2.2
      have hz_a21 : (Int32.ofNat (ln a21)).toInt = ((ln a21 : Nat) : Int) := ofN_eq (by first | exact Nat.le_trans hl2_a21 (by decide) | omega)
      refine wp_if ⟨by omega, by omega⟩ ?_
      have b20 := hzV2 a21 (Int32.toNatClampNeg p1)
      refine wp_ite (fun c26 => ?_) (fun c26 => ?_)
      · have c26 := (z_le _ _).mp c26
        exact Jk149 y15_5 y15_7 d15_V0
      · have c26 := z_nle c26
        refine wp_nne hn_a18 ?_
        obtain ⟨r36, hc36, hq36⟩ := ok_X3_pick κ wd G P U (va_up V 0 d15_V0) X O kd ln cnt a18 p1 y15_8 hzG60 hzP61 hzP62 hzV2 hzLN hk_a18
        refine wp_b1 hc36 ?_
        clear hc36
        refine wp_ite (fun c43 => ?_) (fun c43 => ?_)
        · have c43 := (z_lt _ _).mp c43
          exact Jk56 y15_5 d15_V0
        · have c43 := z_nlt c43
          have b21 := hzG203 a1
          refine wp_ite (fun c53 => ?_) (fun c53 => ?_)
          · have c53 := (z_lt _ _).mp c53
            refine wp_nn ((hzP110 p0).1 hk_p0) (fun a62 hn_a62 => ?_)
            have hk_a62 := ((hzP110 p0).2 a62 hn_a62).1
            have hl1_a62 := ((hzP110 p0).2 a62 hn_a62).2.1
            have hl2_a62 := ((hzP110 p0).2 a62 hn_a62).2.2.1
            have hw_a62 := ((hzP110 p0).2 a62 hn_a62).2.2.2
            have hz_a62 : (Int32.ofNat (ln a62)).toInt = ((ln a62 : Nat) : Int) := ofN_eq (by first | exact Nat.le_trans hl2_a62 (by decide) | omega)
            refine wp_if ⟨by omega, by omega⟩ ?_
            refine wp_vl (fun x69 ex69 => ?_)
            clear ex69
            refine wp_nn ((hzP109 p0).1 hk_p0) (fun a72 hn_a72 => ?_)
            have hk_a72 := ((hzP109 p0).2 a72 hn_a72).1
            have hl1_a72 := ((hzP109 p0).2 a72 hn_a72).2.1
            have hl2_a72 := ((hzP109 p0).2 a72 hn_a72).2.2.1
            have hw_a72 := ((hzP109 p0).2 a72 hn_a72).2.2.2
            have hz_a72 : (Int32.ofNat (ln a72)).toInt = ((ln a72 : Nat) : Int) := ofN_eq (by first | exact Nat.le_trans hl2_a72 (by decide) | omega)
            refine wp_if ⟨by omega, by omega⟩ ?_
            refine wp_ite (fun c78 => ?_) (fun c78 => ?_)
            · have c78 := congrArg Int32.toInt c78
              exact ⟨_, rfl, ⟨hzG203, hzV1, hzRB, (show (p2 ≠ wd → (G 203) wd = (G 203) wd) from by first | exact (fun _ => rfl) | assumption)⟩⟩
            · have c78 := z_ne c78
              refine wp_nne hn_u1 ?_
              refine wp_if ⟨by omega, by omega⟩ ?_
              have b26 := hzV1 u1 (Int32.toNatClampNeg r36)
              have rl27 := (hzRB a1 u1 hk_a1 hn_u1).2 (Int32.toNatClampNeg r36)
              have f28 : (y15_7 + (((V 1) u1) (Int32.toNatClampNeg r36))).toInt = y15_7.toInt + (((V 1) u1) (Int32.toNatClampNeg r36)).toInt := z_add (by omega) (by omega)
              refine wp_jn (fun j130 => ∀ (c130_V0 : Nat → Nat → Int32), wp (j130 c130_V0) (QC_X9_turnParting κ wd G P U V X O kd ln cnt this p0 p1 p2)) ?_ ?_
              · intro c130_V0
                show wp _ _
                refine wp_nne hn_u1 ?_
                refine wp_if ⟨by omega, by omega⟩ ?_
                refine wp_vl (fun x141 ex141 => ?_)
                have f32 : x141.toInt = (y15_7 + (((V 1) u1) (Int32.toNatClampNeg r36))).toInt := congrArg Int32.toInt ex141
                clear ex141
                have f33 : (y15_8 + 1).toInt = y15_8.toInt + (1) := z_addc (by decide +kernel) (by omega) (by omega)
                exact ih15 x69 x141 (y15_8 + 1) c130_V0 (show (24 - (y15_8 + 1).toInt).toNat < n15 from by omega) (show (0 ≤ (y15_8 + 1).toInt ∧ (y15_8 + 1).toInt ≤ 24) from by omega) (show (0 ≤ x141.toInt ∧ x141.toInt ≤ 24 * (y15_8 + 1).toInt) from by omega)
              intro j130 Jj130
              refine wp_ite (fun c97 => ?_) (fun c97 => ?_)
              · have c97 := (z_lt _ _).mp c97
                exact Jj130 d15_V0
              · have c97 := z_nlt c97
                refine wp_nne hn_u4 ?_
                have b34 := hzG200 a1
                have f35 := zmw (x := r36) (y := ((G 200) a1)) (by omega) (by omega) (by omega) (by omega)
                have ix36 := rowix (x := r36) (hzRA a1 u4 u1 hk_a1 hn_u4 hn_u1) (hzG200 a1).1
                refine wp_nn ((hzP185 this).1 hk_this) (fun a114 hn_a114 => ?_)
                have hk_a114 := ((hzP185 this).2 a114 hn_a114).1
                have hl1_a114 := ((hzP185 this).2 a114 hn_a114).2.1
                have hl2_a114 := ((hzP185 this).2 a114 hn_a114).2.2.1
                have hw_a114 := ((hzP185 this).2 a114 hn_a114).2.2.2
                have hz_a114 : (Int32.ofNat (ln a114)).toInt = ((ln a114 : Nat) : Int) := ofN_eq (by first | exact Nat.le_trans hl2_a114 (by decide) | omega)
                refine wp_nne hn_u1 ?_
                refine wp_if ⟨by omega, by omega⟩ ?_
                refine wp_if ⟨by omega, by omega, by omega, by omega, by omega⟩ ?_
                refine wp_vl (fun m127 em127 => ?_)
                clear em127
                exact Jj130 m127
          · have c53 := z_nlt c53
            exact Jk56 y15_5 d15_V0
  exact lp15 NN 0 (0 : Int32) (0 : Int32) (V 0) (by have := NN_eq; omega) (show (0 ≤ (0 : Int32).toInt ∧ (0 : Int32).toInt ≤ 24) from by omega) (show (0 ≤ (0 : Int32).toInt ∧ (0 : Int32).toInt ≤ 24 * (0 : Int32).toInt) from by omega)
abbrev QC_X9_turnWord (κ : Nat → Nat) (wd : Nat) (G : Nat → Nat → Int32) (P : Nat → Nat → Option Nat) (U : Nat → Nat → Int64) (V : Nat → Nat → Nat → Int32) (X : Nat → Nat → Nat → Int64) (O : Nat → Nat → Nat → Option Nat) (kd : Nat → Nat) (ln : Nat → Nat) (cnt : Nat) (this : Nat) (p0 : Nat) (p1 : Nat) (p2 : Int32) (p3 : Nat) : (Int64 × (Nat → Int32) × (Nat → Int32) × (Nat → Int32) × (Nat → Option Nat) × (Nat → Option Nat) × (Nat → Option Nat) × (Nat → Int64) × (Nat → Nat → Int32) × (Nat → Nat → Int32) × (Nat → Nat → Int32) × (Nat → Nat → Int32)) → Prop := (fun t => (rng (0) 30 (t.2.1)) ∧ (rng (0) 40 (t.2.2.1)) ∧ (rng (0) 100 (t.2.2.2.1)) ∧ (PB κ ln wd 4 11 0 2500 0 (t.2.2.2.2.1)) ∧ (PB κ ln wd 10 100 40 40 0 (t.2.2.2.2.2.1)) ∧ (PB κ ln wd 10 100 40 40 0 (t.2.2.2.2.2.2.1)) ∧ (rng2 (0) 24 (t.2.2.2.2.2.2.2.2.2.1)) ∧ (rng2 (0) 24 (t.2.2.2.2.2.2.2.2.2.2.1)) ∧ (RB κ ln (G 200) (t.2.2.2.1) (P 202) (t.2.2.2.2.2.2.2.2.2.1)) ∧ ((p3 ≠ wd → (t.2.2.2.1) wd = (G 203) wd)))
set_option maxHeartbeats 4000000 in
set_option maxRecDepth 100000 in
theorem ok_X9_turnWord (κ : Nat → Nat) (wd : Nat) (G : Nat → Nat → Int32) (P : Nat → Nat → Option Nat) (U : Nat → Nat → Int64) (V : Nat → Nat → Nat → Int32) (X : Nat → Nat → Nat → Int64) (O : Nat → Nat → Nat → Option Nat) (kd : Nat → Nat) (ln : Nat → Nat) (cnt : Nat) (this : Nat) (p0 : Nat) (p1 : Nat) (p2 : Int32) (p3 : Nat) (hzG60 : rng (0) 30 (G 60)) (hzG102 : rng (0) 40 (G 102)) (hzG183 : rng (0) 40 (G 183)) (hzG200 : rng (0) 24 (G 200)) (hzG203 : rng (0) 100 (G 203)) (hzP20 : PB κ ln wd 2 100 0 16 0 (P 20)) (hzP21 : PB κ ln wd 2 100 0 16 0 (P 21)) (hzP22 : PB κ ln wd 2 100 0 16 0 (P 22)) (hzP23 : PB κ ln wd 2 100 0 16 0 (P 23)) (hzP61 : PB κ ln wd 4 102 30 30 0 (P 61)) (hzP62 : PB κ ln wd 4 100 720 720 0 (P 62)) (hzP63 : PB κ ln wd 4 100 408 408 0 (P 63)) (hzP64 : PB κ ln wd 4 112 25 25 0 (P 64)) (hzP65 : PB κ ln wd 4 100 24 24 0 (P 65)) (hzP66 : PB κ ln wd 4 11 0 2500 0 (P 66)) (hzP101 : PB κ ln wd 6 300 40 40 0 (P 101)) (hzP103 : PB κ ln wd 6 11 0 2500 1 (P 103)) (hzP104 : PB κ ln wd 6 11 0 2500 1 (P 104)) (hzP105 : PB κ ln wd 6 11 0 2500 1 (P 105)) (hzP106 : PB κ ln wd 6 110 40 40 0 (P 106)) (hzP108 : PB κ ln wd 6 11 0 2500 1 (P 108)) (hzP109 : PB κ ln wd 6 111 40 40 0 (P 109)) (hzP110 : PB κ ln wd 6 200 40 40 0 (P 110)) (hzP180 : PB κ ln wd 10 4 0 2500 0 (P 180)) (hzP181 : PB κ ln wd 10 100 40 40 0 (P 181)) (hzP182 : PB κ ln wd 10 100 40 40 0 (P 182)) (hzP185 : PB κ ln wd 10 100 24 24 0 (P 185)) (hzP201 : PB κ ln wd 11 100 0 2400 0 (P 201)) (hzP202 : PB κ ln wd 11 101 0 100 0 (P 202)) (hzV1 : rng2 (0) 24 (V 1)) (hzV2 : rng2 (0) 24 (V 2)) (hzO0 : OB κ 2 (O 0)) (hzRA : RA κ ln (G 200) (P 201) (P 202)) (hzRB : RB κ ln (G 200) (G 203) (P 202) (V 1)) (hzRI : RI (P 202)) (hzRM103 : RM ln 40 (P 103) (P 202)) (hzRM104 : RM ln 40 (P 104) (P 202)) (hzRM108 : RM ln 40 (P 108) (P 202)) (hzLN : LN κ ln) (hk_this : κ this = 10) (hk_p0 : κ p0 = 6) (hk_p1 : κ p1 = 11) (hk_p3 : κ p3 = 11) (hp0 : (0 ≤ p2.toInt ∧ p2.toInt < ((G 203) p1).toInt)) : wp (f_X9_turnWord G P U V X O kd ln cnt this p0 p1 p2 p3) (QC_X9_turnWord κ wd G P U V X O kd ln cnt this p0 p1 p2 p3) := by
  unfold f_X9_turnWord
  have zkm1 : (-1 : Int32).toInt = -1 := by decide +kernel
  have zk0 : (0 : Int32).toInt = 0 := by decide +kernel
  have r_p2 := i32r p2
  obtain ⟨u1, hn_u1⟩ := PBs (hzP201 p1) hk_p1
  have hk_u1 := ((hzP201 p1).2 u1 hn_u1).1
  have hl1_u1 := ((hzP201 p1).2 u1 hn_u1).2.1
  have hl2_u1 := ((hzP201 p1).2 u1 hn_u1).2.2.1
  have hw_u1 := ((hzP201 p1).2 u1 hn_u1).2.2.2
  have hz_u1 : (Int32.ofNat (ln u1)).toInt = ((ln u1 : Nat) : Int) := ofN_eq (by first | exact Nat.le_trans hl2_u1 (by decide) | omega)
  obtain ⟨u2, hn_u2⟩ := PBs (hzP202 p1) hk_p1
  have hk_u2 := ((hzP202 p1).2 u2 hn_u2).1
  have hl1_u2 := ((hzP202 p1).2 u2 hn_u2).2.1
  have hl2_u2 := ((hzP202 p1).2 u2 hn_u2).2.2.1
  have hw_u2 := ((hzP202 p1).2 u2 hn_u2).2.2.2
  have hz_u2 : (Int32.ofNat (ln u2)).toInt = ((ln u2 : Nat) : Int) := ofN_eq (by first | exact Nat.le_trans hl2_u2 (by decide) | omega)
  have rb3 := (hzRB p1 u2 hk_p1 hn_u2).1
  have ra4 := hzRA p1 u1 u2 hk_p1 hn_u1 hn_u2
  have bw5 := hzG200 p1
  have hb0 := hzG203 p1
  have b6 := hzG200 p1
  have f7 := zmw (x := p2) (y := ((G 200) p1)) (by omega) (by omega) (by omega) (by omega)
  have ix8 := rowix (x := p2) (hzRA p1 u1 u2 hk_p1 hn_u1 hn_u2) (hzG200 p1).1
  refine wp_vl (fun x6 ex6 => ?_)
  have f9 : x6.toInt = (p2 * ((G 200) p1)).toInt := congrArg Int32.toInt ex6
  clear ex6
  refine wp_nne hn_u2 ?_
  refine wp_if ⟨by omega, by omega⟩ ?_
  have b10 := hzV1 u2 (Int32.toNatClampNeg p2)
  have rl11 := (hzRB p1 u2 hk_p1 hn_u2).2 (Int32.toNatClampNeg p2)
  refine wp_vl (fun x14 ex14 => ?_)
  have f12 : x14.toInt = (((V 1) u2) (Int32.toNatClampNeg p2)).toInt := congrArg Int32.toInt ex14
  clear ex14
  refine wp_nn ((hzP104 p0).1 hk_p0) (fun a17 hn_a17 => ?_)
  have hk_a17 := ((hzP104 p0).2 a17 hn_a17).1
  have hl1_a17 := ((hzP104 p0).2 a17 hn_a17).2.1
  have hl2_a17 := ((hzP104 p0).2 a17 hn_a17).2.2.1
  have hw_a17 := ((hzP104 p0).2 a17 hn_a17).2.2.2
  refine wp_nne hn_u1 ?_
  obtain ⟨r28, hc28, hq28⟩ := ok_X10_find κ wd G P U V X O kd ln cnt a17 u1 x6 x14 hzG200 hzG203 hzP201 hzP202 hzV1 hzRA hzRB hzRI hzLN hk_a17 hk_u1
  obtain ⟨f13, f14⟩ : (((-1) ≤ r28.toInt ∧ r28.toInt < 100)) ∧ ((r28.toInt = -1 ∨ r28.toInt < ((G 203) a17).toInt)) := hq28
  refine wp_b1 hc28 ?_
  clear hc28
  refine wp_ite (fun c36 => ?_) (fun c36 => ?_)
  · have c36 := congrArg Int32.toInt c36
    refine wp_nn ((hzP180 this).1 hk_this) (fun a51 hn_a51 => ?_)
    have hk_a51 := ((hzP180 this).2 a51 hn_a51).1
    have hl1_a51 := ((hzP180 this).2 a51 hn_a51).2.1
    have hl2_a51 := ((hzP180 this).2 a51 hn_a51).2.2.1
    have hw_a51 := ((hzP180 this).2 a51 hn_a51).2.2.2
    refine wp_nn ((hzP103 p0).1 hk_p0) (fun a55 hn_a55 => ?_)
    have hk_a55 := ((hzP103 p0).2 a55 hn_a55).1
    have hl1_a55 := ((hzP103 p0).2 a55 hn_a55).2.1
    have hl2_a55 := ((hzP103 p0).2 a55 hn_a55).2.2.1
    have hw_a55 := ((hzP103 p0).2 a55 hn_a55).2.2.2
    refine wp_nne hn_u1 ?_
    obtain ⟨⟨c66_G60, c66_P66, c66_V0, c66_V2, c66_V12⟩, hc66, hq66⟩ := ok_X3_find κ wd G P U V X O kd ln cnt a51 a55 u1 x6 x14 hzG60 hzG200 hzG203 hzP61 hzP62 hzP63 hzP64 hzP65 hzP66 hzP201 hzP202 hzV1 hzV2 hzRA hzRB hzRI hzLN hk_a51 hk_a55 hk_u1 (show (0 ≤ x6.toInt ∧ x6.toInt ≤ 2500) from by omega)
    obtain ⟨hg15, hg16, hg17⟩ : (rng (0) 30 c66_G60) ∧ (PB κ ln wd 4 11 0 2500 0 c66_P66) ∧ (rng2 (0) 24 c66_V2) := hq66
    refine wp_b5 hc66 ?_
    clear hc66
    refine wp_nne hn_a51 ?_
    have b18 := hg15 a51
    refine wp_ite (fun c76 => ?_) (fun c76 => ?_)
    · have c76 := congrArg Int32.toInt c76
      refine wp_nne hn_u1 ?_
      obtain ⟨⟨r89, c89_G183, c89_P181, c89_P182, c89_U184, c89_V0⟩, hc89, hq89⟩ := ok_X9_runLaws κ wd (va_up G 60 c66_G60) (va_up P 66 c66_P66) U (va_up (va_up (va_up V 0 c66_V0) 2 c66_V2) 12 c66_V12) X O kd ln cnt this p0 u1 x6 x14 hzG102 hzG183 hzP20 hzP21 hzP22 hzP23 hzP101 hzP181 hzP182 hzO0 hzLN hk_this hk_p0 hk_u1 (show (0 ≤ x6.toInt ∧ 0 ≤ x14.toInt ∧ x6.toInt + x14.toInt ≤ ((ln u1 : Nat) : Int)) from by omega)
      obtain ⟨hg19, hg20, hg21, f22⟩ : (rng (0) 40 c89_G183) ∧ (PB κ ln wd 10 100 40 40 0 c89_P181) ∧ (PB κ ln wd 10 100 40 40 0 c89_P182) ∧ ((0 ≤ r89.toInt ∧ r89.toInt ≤ 1)) := hq89
      refine wp_b6 hc89 ?_
      clear hc89
      refine wp_jn (fun j109 => ∀ (c109_G203 : Nat → Int32) (c109_V0 : Nat → Nat → Int32) (c109_V1 : Nat → Nat → Int32), rng (0) 100 c109_G203 → rng2 (0) 24 c109_V1 → RB κ ln (G 200) c109_G203 (P 202) c109_V1 → (p3 ≠ wd → c109_G203 wd = (G 203) wd) → wp (j109 c109_G203 c109_V0 c109_V1) (QC_X9_turnWord κ wd G P U V X O kd ln cnt this p0 p1 p2 p3)) ?_ ?_
      · intro c109_G203 c109_V0 c109_V1 hg23 hg24 hRB25 f26
        show wp _ _
        exact ⟨_, rfl, ⟨hg15, hg19, hg23, hg16, hg20, hg21, hg24, hg17, hRB25, (show (p3 ≠ wd → c109_G203 wd = (G 203) wd) from by first | exact (fun _ => rfl) | assumption | exact frt (by assumption) (by assumption))⟩⟩
      intro j109 Jj109
      refine wp_ite (fun c92 => ?_) (fun c92 => ?_)
      · have c92 := congrArg Int32.toInt c92
        exact Jj109 (G 203) c89_V0 (V 1) hzG203 hzV1 hzRB (show (p3 ≠ wd → (G 203) wd = (G 203) wd) from by first | omega | assumption | exact (fun _ => rfl) | exact frt (by assumption) (by assumption))
      · have c92 := z_ne c92
        refine wp_nn ((hg20 this).1 hk_this) (fun a98 hn_a98 => ?_)
        have hk_a98 := ((hg20 this).2 a98 hn_a98).1
        have hl1_a98 := ((hg20 this).2 a98 hn_a98).2.1
        have hl2_a98 := ((hg20 this).2 a98 hn_a98).2.2.1
        have hw_a98 := ((hg20 this).2 a98 hn_a98).2.2.2
        have hz_a98 : (Int32.ofNat (ln a98)).toInt = ((ln a98 : Nat) : Int) := ofN_eq (by first | exact Nat.le_trans hl2_a98 (by decide) | omega)
        have b27 := hg19 this
        obtain ⟨⟨c106_G203, c106_V0, c106_V1⟩, hc106, hq106⟩ := ok_X10_addForm κ wd (va_up (va_up G 60 c66_G60) 183 c89_G183) (va_up (va_up (va_up P 66 c66_P66) 181 c89_P181) 182 c89_P182) (va_up U 184 c89_U184) (va_up (va_up (va_up (va_up V 0 c66_V0) 2 c66_V2) 12 c66_V12) 0 c89_V0) X O kd ln cnt p3 a98 (0 : Int32) (c89_G183 this) hzG200 hzG203 hzP201 hzP202 hzV1 hzRA hzRB hzRI hzLN hk_p3 hk_a98
        obtain ⟨hg28, hg29, hRB30, f31, f32⟩ : (rng (0) 100 c106_G203) ∧ (rng2 (0) 24 c106_V1) ∧ (RB κ ln (G 200) c106_G203 (P 202) c106_V1) ∧ ((p3 ≠ wd → c106_G203 wd = (G 203) wd)) ∧ (((G 203) p3).toInt ≤ (c106_G203 p3).toInt) := hq106
        refine wp_b3 hc106 ?_
        clear hc106
        exact Jj109 c106_G203 c106_V0 c106_V1 hg28 hg29 hRB30 (show (p3 ≠ wd → c106_G203 wd = (G 203) wd) from by first | omega | assumption | exact (fun _ => rfl) | exact frt (by assumption) (by assumption))
    · have c76 := z_ne c76
      have lp120 : ∀ (n120 : Nat) (y120_8 : Int64) (y120_10 : Int32) (d120_G203 : Nat → Int32) (d120_V0 : Nat → Nat → Int32) (d120_V1 : Nat → Nat → Int32), (30 - y120_10.toInt).toNat < n120 → rng (0) 100 d120_G203 → rng2 (0) 24 d120_V1 → RB κ ln (G 200) d120_G203 (P 202) d120_V1 → (0 ≤ y120_10.toInt ∧ y120_10.toInt ≤ 30) → (p3 ≠ wd → d120_G203 wd = (G 203) wd) → wp (L_X9_turnWord_120 G P U V X O kd ln cnt this p0 p3 c66_G60 c66_P66 c66_V2 c66_V12 n120 y120_8 y120_10 d120_G203 d120_V0 d120_V1) (QC_X9_turnWord κ wd G P U V X O kd ln cnt this p0 p1 p2 p3) := by
        intro n120
        induction n120 with
        | zero => intro y120_8 y120_10 d120_G203 d120_V0 d120_V1 hm; exact absurd hm (Nat.not_lt_zero _)
        | succ n120 ih120 =>
          intro y120_8 y120_10 d120_G203 d120_V0 d120_V1 hm120 hg33 hg34 hRB35 f36 f37
          show wp (B_X9_turnWord_120 G P U V X O kd ln cnt this p0 p3 c66_G60 c66_P66 c66_V2 c66_V12 (L_X9_turnWord_120 G P U V X O kd ln cnt this p0 p3 c66_G60 c66_P66 c66_V2 c66_V12 n120) y120_8 y120_10 d120_G203 d120_V0 d120_V1) _
          unfold B_X9_turnWord_120
          refine wp_nne hn_a51 ?_
          refine wp_ite (fun c129 => ?_) (fun c129 => ?_)
          · have c129 := (z_le _ _).mp c129
            exact ⟨_, rfl, ⟨hg15, hzG183, hg33, hg16, hzP181, hzP182, hg34, hg17, hRB35, (show (p3 ≠ wd → d120_G203 wd = (G 203) wd) from by first | exact (fun _ => rfl) | assumption | exact frt (by assumption) (by assumption))⟩⟩
          · have c129 := z_nle c129
            obtain ⟨⟨r140, c140_G203, c140_V0, c140_V1⟩, hc140, hq140⟩ := ok_X9_turnParting κ wd (va_up (va_up G 60 c66_G60) 203 d120_G203) (va_up P 66 c66_P66) U (va_up (va_up (va_up (va_up V 0 d120_V0) 1 d120_V1) 2 c66_V2) 12 c66_V12) X O kd ln cnt this p0 y120_10 p3 hg15 hzG200 hg33 hzP61 hzP62 hzP108 hzP109 hzP110 hzP180 hzP185 hzP201 hzP202 hg34 hg17 hzRA hRB35 hzRI hzRM108 hzLN hk_this hk_p0 hk_p3 (show (0 ≤ y120_10.toInt ∧ y120_10.toInt < 30) from by omega)
            obtain ⟨hg39, hg40, hRB41, f42⟩ : (rng (0) 100 c140_G203) ∧ (rng2 (0) 24 c140_V1) ∧ (RB κ ln (G 200) c140_G203 (P 202) c140_V1) ∧ ((p3 ≠ wd → c140_G203 wd = d120_G203 wd)) := hq140
            refine wp_b4 hc140 ?_
            clear hc140
            refine wp_vl (fun x144 ex144 => ?_)
            clear ex144
            have f43 : (y120_10 + 1).toInt = y120_10.toInt + (1) := z_addc (by decide +kernel) (by omega) (by omega)
            exact ih120 x144 (y120_10 + 1) c140_G203 c140_V0 c140_V1 (show (30 - (y120_10 + 1).toInt).toNat < n120 from by omega) hg39 hg40 hRB41 (show (0 ≤ (y120_10 + 1).toInt ∧ (y120_10 + 1).toInt ≤ 30) from by first | omega | assumption | exact (fun _ => rfl) | exact frt (by assumption) (by assumption)) (show (p3 ≠ wd → c140_G203 wd = (G 203) wd) from by first | omega | assumption | exact (fun _ => rfl) | exact frt (by assumption) (by assumption))
      exact lp120 NN 0 (0 : Int32) (G 203) c66_V0 (V 1) (by have := NN_eq; omega) hzG203 hzV1 hzRB (show (0 ≤ (0 : Int32).toInt ∧ (0 : Int32).toInt ≤ 30) from by first | omega | assumption | exact (fun _ => rfl) | exact frt (by assumption) (by assumption)) (show (p3 ≠ wd → (G 203) wd = (G 203) wd) from by first | omega | assumption | exact (fun _ => rfl) | exact frt (by assumption) (by assumption))
  · have c36 := z_ne c36
    obtain ⟨⟨c45_G203, c45_V0, c45_V1⟩, hc45, hq45⟩ := ok_X9_addEntry κ wd G P U V X O kd ln cnt this p0 r28 p3 hzG200 hzG203 hzP104 hzP105 hzP106 hzP201 hzP202 hzV1 hzRA hzRB hzRI hzRM104 hzLN hk_this hk_p0 hk_p3 (show (0 ≤ r28.toInt ∧ r28.toInt ≤ 100) from by omega)
    obtain ⟨hg44, hg45, hRB46, f47⟩ : (rng (0) 100 c45_G203) ∧ (rng2 (0) 24 c45_V1) ∧ (RB κ ln (G 200) c45_G203 (P 202) c45_V1) ∧ ((p3 ≠ wd → c45_G203 wd = (G 203) wd)) := hq45
    refine wp_b3 hc45 ?_
    clear hc45
    exact ⟨_, rfl, ⟨hzG60, hzG183, hg44, hzP66, hzP181, hzP182, hg45, hzV2, hRB46, (show (p3 ≠ wd → c45_G203 wd = (G 203) wd) from by first | exact (fun _ => rfl) | assumption | exact frt (by assumption) (by assumption))⟩⟩
abbrev QC_X9_turnForms (κ : Nat → Nat) (wd : Nat) (G : Nat → Nat → Int32) (P : Nat → Nat → Option Nat) (U : Nat → Nat → Int64) (V : Nat → Nat → Nat → Int32) (X : Nat → Nat → Nat → Int64) (O : Nat → Nat → Nat → Option Nat) (kd : Nat → Nat) (ln : Nat → Nat) (cnt : Nat) (this : Nat) (p0 : Option Nat) (p1 : Nat) (p2 : Nat) : (Int64 × (Nat → Int32) × (Nat → Int32) × (Nat → Int32) × (Nat → Option Nat) × (Nat → Option Nat) × (Nat → Option Nat) × (Nat → Int64) × (Nat → Nat → Int32) × (Nat → Nat → Int32) × (Nat → Nat → Int32) × (Nat → Nat → Int32)) → Prop := (fun t => (rng (0) 30 (t.2.1)) ∧ (rng (0) 40 (t.2.2.1)) ∧ (rng (0) 100 (t.2.2.2.1)) ∧ (PB κ ln wd 4 11 0 2500 0 (t.2.2.2.2.1)) ∧ (PB κ ln wd 10 100 40 40 0 (t.2.2.2.2.2.1)) ∧ (PB κ ln wd 10 100 40 40 0 (t.2.2.2.2.2.2.1)) ∧ (rng2 (0) 24 (t.2.2.2.2.2.2.2.2.2.1)) ∧ (rng2 (0) 24 (t.2.2.2.2.2.2.2.2.2.2.1)) ∧ (RB κ ln (G 200) (t.2.2.2.1) (P 202) (t.2.2.2.2.2.2.2.2.2.1)) ∧ ((p2 ≠ wd → (t.2.2.2.1) wd = (G 203) wd)))
set_option maxHeartbeats 4000000 in
set_option maxRecDepth 100000 in
theorem ok_X9_turnForms (κ : Nat → Nat) (wd : Nat) (G : Nat → Nat → Int32) (P : Nat → Nat → Option Nat) (U : Nat → Nat → Int64) (V : Nat → Nat → Nat → Int32) (X : Nat → Nat → Nat → Int64) (O : Nat → Nat → Nat → Option Nat) (kd : Nat → Nat) (ln : Nat → Nat) (cnt : Nat) (this : Nat) (p0 : Option Nat) (p1 : Nat) (p2 : Nat) (hzG60 : rng (0) 30 (G 60)) (hzG102 : rng (0) 40 (G 102)) (hzG183 : rng (0) 40 (G 183)) (hzG200 : rng (0) 24 (G 200)) (hzG203 : rng (0) 100 (G 203)) (hzP20 : PB κ ln wd 2 100 0 16 0 (P 20)) (hzP21 : PB κ ln wd 2 100 0 16 0 (P 21)) (hzP22 : PB κ ln wd 2 100 0 16 0 (P 22)) (hzP23 : PB κ ln wd 2 100 0 16 0 (P 23)) (hzP61 : PB κ ln wd 4 102 30 30 0 (P 61)) (hzP62 : PB κ ln wd 4 100 720 720 0 (P 62)) (hzP63 : PB κ ln wd 4 100 408 408 0 (P 63)) (hzP64 : PB κ ln wd 4 112 25 25 0 (P 64)) (hzP65 : PB κ ln wd 4 100 24 24 0 (P 65)) (hzP66 : PB κ ln wd 4 11 0 2500 0 (P 66)) (hzP101 : PB κ ln wd 6 300 40 40 0 (P 101)) (hzP103 : PB κ ln wd 6 11 0 2500 1 (P 103)) (hzP104 : PB κ ln wd 6 11 0 2500 1 (P 104)) (hzP105 : PB κ ln wd 6 11 0 2500 1 (P 105)) (hzP106 : PB κ ln wd 6 110 40 40 0 (P 106)) (hzP108 : PB κ ln wd 6 11 0 2500 1 (P 108)) (hzP109 : PB κ ln wd 6 111 40 40 0 (P 109)) (hzP110 : PB κ ln wd 6 200 40 40 0 (P 110)) (hzP180 : PB κ ln wd 10 4 0 2500 0 (P 180)) (hzP181 : PB κ ln wd 10 100 40 40 0 (P 181)) (hzP182 : PB κ ln wd 10 100 40 40 0 (P 182)) (hzP185 : PB κ ln wd 10 100 24 24 0 (P 185)) (hzP201 : PB κ ln wd 11 100 0 2400 0 (P 201)) (hzP202 : PB κ ln wd 11 101 0 100 0 (P 202)) (hzV1 : rng2 (0) 24 (V 1)) (hzV2 : rng2 (0) 24 (V 2)) (hzO0 : OB κ 2 (O 0)) (hzRA : RA κ ln (G 200) (P 201) (P 202)) (hzRB : RB κ ln (G 200) (G 203) (P 202) (V 1)) (hzRI : RI (P 202)) (hzRM103 : RM ln 40 (P 103) (P 202)) (hzRM104 : RM ln 40 (P 104) (P 202)) (hzRM108 : RM ln 40 (P 108) (P 202)) (hzLN : LN κ ln) (hk_this : κ this = 10) (hk_p0 : ∀ b, p0 = some b → κ b = 6) (hk_p1 : κ p1 = 11) (hk_p2 : κ p2 = 11) : wp (f_X9_turnForms G P U V X O kd ln cnt this p0 p1 p2) (QC_X9_turnForms κ wd G P U V X O kd ln cnt this p0 p1 p2) := by
  unfold f_X9_turnForms
  have zk0 : (0 : Int32).toInt = 0 := by decide +kernel
  refine wp_jn (fun k39 => ∀ (x39_4 : Int64) (c39_G60 : Nat → Int32) (c39_G183 : Nat → Int32) (c39_G203 : Nat → Int32) (c39_P66 : Nat → Option Nat) (c39_P181 : Nat → Option Nat) (c39_P182 : Nat → Option Nat) (c39_U184 : Nat → Int64) (c39_V0 : Nat → Nat → Int32) (c39_V1 : Nat → Nat → Int32) (c39_V2 : Nat → Nat → Int32) (c39_V12 : Nat → Nat → Int32), rng (0) 30 c39_G60 → rng (0) 40 c39_G183 → rng (0) 100 c39_G203 → PB κ ln wd 4 11 0 2500 0 c39_P66 → PB κ ln wd 10 100 40 40 0 c39_P181 → PB κ ln wd 10 100 40 40 0 c39_P182 → rng2 (0) 24 c39_V1 → rng2 (0) 24 c39_V2 → RB κ ln (G 200) c39_G203 (P 202) c39_V1 → (p2 ≠ wd → c39_G203 wd = (G 203) wd) → wp (k39 x39_4 c39_G60 c39_G183 c39_G203 c39_P66 c39_P181 c39_P182 c39_U184 c39_V0 c39_V1 c39_V2 c39_V12) (QC_X9_turnForms κ wd G P U V X O kd ln cnt this p0 p1 p2)) ?_ ?_
  · intro x39_4 c39_G60 c39_G183 c39_G203 c39_P66 c39_P181 c39_P182 c39_U184 c39_V0 c39_V1 c39_V2 c39_V12 hg1 hg2 hg3 hg4 hg5 hg6 hg7 hg8 hRB9 f10
    show wp _ _
    exact ⟨_, rfl, ⟨hg1, hg2, hg3, hg4, hg5, hg6, hg7, hg8, hRB9, (show (p2 ≠ wd → c39_G203 wd = (G 203) wd) from by assumption)⟩⟩
  intro k39 Jk39
  have lp6 : ∀ (n6 : Nat) (y6_4 : Int64) (y6_6 : Int32) (d6_G60 : Nat → Int32) (d6_G183 : Nat → Int32) (d6_G203 : Nat → Int32) (d6_P66 : Nat → Option Nat) (d6_P181 : Nat → Option Nat) (d6_P182 : Nat → Option Nat) (d6_U184 : Nat → Int64) (d6_V0 : Nat → Nat → Int32) (d6_V1 : Nat → Nat → Int32) (d6_V2 : Nat → Nat → Int32) (d6_V12 : Nat → Nat → Int32), (100 - y6_6.toInt).toNat < n6 → rng (0) 30 d6_G60 → rng (0) 40 d6_G183 → rng (0) 100 d6_G203 → PB κ ln wd 4 11 0 2500 0 d6_P66 → PB κ ln wd 10 100 40 40 0 d6_P181 → PB κ ln wd 10 100 40 40 0 d6_P182 → rng2 (0) 24 d6_V1 → rng2 (0) 24 d6_V2 → RB κ ln (G 200) d6_G203 (P 202) d6_V1 → (0 ≤ y6_6.toInt ∧ y6_6.toInt ≤ 100) → (p2 ≠ wd → d6_G203 wd = (G 203) wd) → wp (L_X9_turnForms_6 G P U V X O kd ln cnt this p0 p1 p2 k39 n6 y6_4 y6_6 d6_G60 d6_G183 d6_G203 d6_P66 d6_P181 d6_P182 d6_U184 d6_V0 d6_V1 d6_V2 d6_V12) (QC_X9_turnForms κ wd G P U V X O kd ln cnt this p0 p1 p2) := by
    intro n6
    induction n6 with
    | zero => intro y6_4 y6_6 d6_G60 d6_G183 d6_G203 d6_P66 d6_P181 d6_P182 d6_U184 d6_V0 d6_V1 d6_V2 d6_V12 hm; exact absurd hm (Nat.not_lt_zero _)
    | succ n6 ih6 =>
      intro y6_4 y6_6 d6_G60 d6_G183 d6_G203 d6_P66 d6_P181 d6_P182 d6_U184 d6_V0 d6_V1 d6_V2 d6_V12 hm6 hg11 hg12 hg13 hg14 hg15 hg16 hg17 hg18 hRB19 f20 f21
      show wp (B_X9_turnForms_6 G P U V X O kd ln cnt this p0 p1 p2 k39 (L_X9_turnForms_6 G P U V X O kd ln cnt this p0 p1 p2 k39 n6) y6_4 y6_6 d6_G60 d6_G183 d6_G203 d6_P66 d6_P181 d6_P182 d6_U184 d6_V0 d6_V1 d6_V2 d6_V12) _
      unfold B_X9_turnForms_6
      refine wp_oc (fun c7 => ?_) (fun b7 c7 => ?_)
      · skip
        exact Jk39 y6_4 d6_G60 d6_G183 d6_G203 d6_P66 d6_P181 d6_P182 d6_U184 d6_V0 d6_V1 d6_V2 d6_V12 hg11 hg12 hg13 hg14 hg15 hg16 hg17 hg18 hRB19 (show (p2 ≠ wd → d6_G203 wd = (G 203) wd) from by first | omega | assumption | exact (fun _ => rfl) | exact frt (by assumption) (by assumption))
      · skip
        have hk_b7 := hk_p0 b7 c7
        have b22 := hg13 p1
        refine wp_ite (fun c16 => ?_) (fun c16 => ?_)
        · have c16 := (z_le _ _).mp c16
          exact Jk39 y6_4 d6_G60 d6_G183 d6_G203 d6_P66 d6_P181 d6_P182 d6_U184 d6_V0 d6_V1 d6_V2 d6_V12 hg11 hg12 hg13 hg14 hg15 hg16 hg17 hg18 hRB19 (show (p2 ≠ wd → d6_G203 wd = (G 203) wd) from by first | omega | assumption | exact (fun _ => rfl) | exact frt (by assumption) (by assumption))
        · have c16 := z_nle c16
          obtain ⟨⟨r27, c27_G60, c27_G183, c27_G203, c27_P66, c27_P181, c27_P182, c27_U184, c27_V0, c27_V1, c27_V2, c27_V12⟩, hc27, hq27⟩ := ok_X9_turnWord κ wd (va_up (va_up (va_up G 60 d6_G60) 183 d6_G183) 203 d6_G203) (va_up (va_up (va_up P 66 d6_P66) 181 d6_P181) 182 d6_P182) (va_up U 184 d6_U184) (va_up (va_up (va_up (va_up V 0 d6_V0) 1 d6_V1) 2 d6_V2) 12 d6_V12) X O kd ln cnt this b7 p1 y6_6 p2 hg11 hzG102 hg12 hzG200 hg13 hzP20 hzP21 hzP22 hzP23 hzP61 hzP62 hzP63 hzP64 hzP65 hg14 hzP101 hzP103 hzP104 hzP105 hzP106 hzP108 hzP109 hzP110 hzP180 hg15 hg16 hzP185 hzP201 hzP202 hg17 hg18 hzO0 hzRA hRB19 hzRI hzRM103 hzRM104 hzRM108 hzLN hk_this hk_b7 hk_p1 hk_p2 (show (0 ≤ y6_6.toInt ∧ y6_6.toInt < (d6_G203 p1).toInt) from by omega)
          obtain ⟨hg23, hg24, hg25, hg26, hg27, hg28, hg29, hg30, hRB31, f32⟩ : (rng (0) 30 c27_G60) ∧ (rng (0) 40 c27_G183) ∧ (rng (0) 100 c27_G203) ∧ (PB κ ln wd 4 11 0 2500 0 c27_P66) ∧ (PB κ ln wd 10 100 40 40 0 c27_P181) ∧ (PB κ ln wd 10 100 40 40 0 c27_P182) ∧ (rng2 (0) 24 c27_V1) ∧ (rng2 (0) 24 c27_V2) ∧ (RB κ ln (G 200) c27_G203 (P 202) c27_V1) ∧ ((p2 ≠ wd → c27_G203 wd = d6_G203 wd)) := hq27
          refine wp_b12 hc27 ?_
          clear hc27
          refine wp_vl (fun x31 ex31 => ?_)
          clear ex31
          have f33 : (y6_6 + 1).toInt = y6_6.toInt + (1) := z_addc (by decide +kernel) (by omega) (by omega)
          exact ih6 x31 (y6_6 + 1) c27_G60 c27_G183 c27_G203 c27_P66 c27_P181 c27_P182 c27_U184 c27_V0 c27_V1 c27_V2 c27_V12 (show (100 - (y6_6 + 1).toInt).toNat < n6 from by omega) hg23 hg24 hg25 hg26 hg27 hg28 hg29 hg30 hRB31 (show (0 ≤ (y6_6 + 1).toInt ∧ (y6_6 + 1).toInt ≤ 100) from by first | omega | assumption | exact (fun _ => rfl) | exact frt (by assumption) (by assumption)) (show (p2 ≠ wd → c27_G203 wd = (G 203) wd) from by first | omega | assumption | exact (fun _ => rfl) | exact frt (by assumption) (by assumption))
  exact lp6 NN 0 (0 : Int32) (G 60) (G 183) (G 203) (P 66) (P 181) (P 182) (U 184) (V 0) (V 1) (V 2) (V 12) (by have := NN_eq; omega) hzG60 hzG183 hzG203 hzP66 hzP181 hzP182 hzV1 hzV2 hzRB (show (0 ≤ (0 : Int32).toInt ∧ (0 : Int32).toInt ≤ 100) from by first | omega | assumption | exact (fun _ => rfl) | exact frt (by assumption) (by assumption)) (show (p2 ≠ wd → (G 203) wd = (G 203) wd) from by first | omega | assumption | exact (fun _ => rfl) | exact frt (by assumption) (by assumption))
abbrev QC_X9_through (κ : Nat → Nat) (wd : Nat) (G : Nat → Nat → Int32) (P : Nat → Nat → Option Nat) (U : Nat → Nat → Int64) (V : Nat → Nat → Nat → Int32) (X : Nat → Nat → Nat → Int64) (O : Nat → Nat → Nat → Option Nat) (kd : Nat → Nat) (ln : Nat → Nat) (cnt : Nat) (this : Nat) (p0 : Nat) (p1 : Int32) (p2 : Int32) (p3 : Nat) (p4 : Int32) (p5 : Int32) : (Nat × (Nat → Int32) × (Nat → Int32) × (Nat → Int32) × (Nat → Option Nat) × (Nat → Option Nat) × (Nat → Option Nat) × (Nat → Option Nat) × (Nat → Option Nat) × (Nat → Int64) × (Nat → Nat → Int32) × (Nat → Nat → Int32) × (Nat → Nat → Int32) × (Nat → Nat → Int32)) → Prop := (fun t => (rng (0) 30 (t.2.1)) ∧ (rng (0) 40 (t.2.2.1)) ∧ (rng (0) 100 (t.2.2.2.1)) ∧ (PB κ ln wd 4 11 0 2500 0 (t.2.2.2.2.1)) ∧ (PB κ ln wd 10 100 40 40 0 (t.2.2.2.2.2.1)) ∧ (PB κ ln wd 10 100 40 40 0 (t.2.2.2.2.2.2.1)) ∧ (PB κ ln wd 10 11 0 2500 1 (t.2.2.2.2.2.2.2.1)) ∧ (PB κ ln wd 10 11 0 2500 1 (t.2.2.2.2.2.2.2.2.1)) ∧ (rng2 (0) 24 (t.2.2.2.2.2.2.2.2.2.2.2.1)) ∧ (rng2 (0) 24 (t.2.2.2.2.2.2.2.2.2.2.2.2.1)) ∧ (RB κ ln (G 200) (t.2.2.2.1) (P 202) (t.2.2.2.2.2.2.2.2.2.2.2.1)) ∧ (κ (t.1) = 11) ∧ ((t.2.2.2.1) wd = (G 203) wd))
set_option maxHeartbeats 4000000 in
set_option maxRecDepth 100000 in
theorem ok_X9_through (κ : Nat → Nat) (wd : Nat) (G : Nat → Nat → Int32) (P : Nat → Nat → Option Nat) (U : Nat → Nat → Int64) (V : Nat → Nat → Nat → Int32) (X : Nat → Nat → Nat → Int64) (O : Nat → Nat → Nat → Option Nat) (kd : Nat → Nat) (ln : Nat → Nat) (cnt : Nat) (this : Nat) (p0 : Nat) (p1 : Int32) (p2 : Int32) (p3 : Nat) (p4 : Int32) (p5 : Int32) (hzG60 : rng (0) 30 (G 60)) (hzG102 : rng (0) 40 (G 102)) (hzG183 : rng (0) 40 (G 183)) (hzG200 : rng (0) 24 (G 200)) (hzG203 : rng (0) 100 (G 203)) (hzP20 : PB κ ln wd 2 100 0 16 0 (P 20)) (hzP21 : PB κ ln wd 2 100 0 16 0 (P 21)) (hzP22 : PB κ ln wd 2 100 0 16 0 (P 22)) (hzP23 : PB κ ln wd 2 100 0 16 0 (P 23)) (hzP61 : PB κ ln wd 4 102 30 30 0 (P 61)) (hzP62 : PB κ ln wd 4 100 720 720 0 (P 62)) (hzP63 : PB κ ln wd 4 100 408 408 0 (P 63)) (hzP64 : PB κ ln wd 4 112 25 25 0 (P 64)) (hzP65 : PB κ ln wd 4 100 24 24 0 (P 65)) (hzP66 : PB κ ln wd 4 11 0 2500 0 (P 66)) (hzP101 : PB κ ln wd 6 300 40 40 0 (P 101)) (hzP103 : PB κ ln wd 6 11 0 2500 1 (P 103)) (hzP104 : PB κ ln wd 6 11 0 2500 1 (P 104)) (hzP105 : PB κ ln wd 6 11 0 2500 1 (P 105)) (hzP106 : PB κ ln wd 6 110 40 40 0 (P 106)) (hzP108 : PB κ ln wd 6 11 0 2500 1 (P 108)) (hzP109 : PB κ ln wd 6 111 40 40 0 (P 109)) (hzP110 : PB κ ln wd 6 200 40 40 0 (P 110)) (hzP180 : PB κ ln wd 10 4 0 2500 0 (P 180)) (hzP181 : PB κ ln wd 10 100 40 40 0 (P 181)) (hzP182 : PB κ ln wd 10 100 40 40 0 (P 182)) (hzP185 : PB κ ln wd 10 100 24 24 0 (P 185)) (hzP186 : PB κ ln wd 10 11 0 2500 1 (P 186)) (hzP187 : PB κ ln wd 10 11 0 2500 1 (P 187)) (hzP201 : PB κ ln wd 11 100 0 2400 0 (P 201)) (hzP202 : PB κ ln wd 11 101 0 100 0 (P 202)) (hzV1 : rng2 (0) 24 (V 1)) (hzV2 : rng2 (0) 24 (V 2)) (hzO0 : OB κ 2 (O 0)) (hzO2 : OB κ 6 (O 2)) (hzRA : RA κ ln (G 200) (P 201) (P 202)) (hzRB : RB κ ln (G 200) (G 203) (P 202) (V 1)) (hzRI : RI (P 202)) (hzRM103 : RM ln 40 (P 103) (P 202)) (hzRM104 : RM ln 40 (P 104) (P 202)) (hzRM108 : RM ln 40 (P 108) (P 202)) (hzLN : LN κ ln) (hk_this : κ this = 10) (hk_p0 : κ p0 = 302) (hk_p3 : κ p3 = 100) : wp (f_X9_through G P U V X O kd ln cnt this p0 p1 p2 p3 p4 p5) (QC_X9_through κ wd G P U V X O kd ln cnt this p0 p1 p2 p3 p4 p5) := by
  unfold f_X9_through
  have zk0 : (0 : Int32).toInt = 0 := by decide +kernel
  have r_p1 := i32r p1
  have r_p2 := i32r p2
  have r_p4 := i32r p4
  have r_p5 := i32r p5
  refine wp_nn ((hzP187 this).1 hk_this) (fun a1 hn_a1 => ?_)
  have hk_a1 := ((hzP187 this).2 a1 hn_a1).1
  have hl1_a1 := ((hzP187 this).2 a1 hn_a1).2.1
  have hl2_a1 := ((hzP187 this).2 a1 hn_a1).2.2.1
  have hw_a1 := ((hzP187 this).2 a1 hn_a1).2.2.2
  refine wp_vl (fun m5 em5 => ?_)
  have hg1 : rng (0) 100 m5 := by rw [em5]; exact rng_vup hzG203 (by omega) (by omega)
  have sm5 : (m5 a1).toInt = 0 := by rw [em5, va_up_self]; decide +kernel
  have b2 := hg1 a1
  have hRB3 : RB κ ln (G 200) m5 (P 202) (V 1) := by rw [em5]; exact RB_cnt hzRB (fun s hs => by omega)
  refine wp_nne hn_a1 ?_
  obtain ⟨⟨c18_G203, c18_V0, c18_V1⟩, hc18, hq18⟩ := ok_X10_addForm κ wd (va_up G 203 m5) P U V X O kd ln cnt a1 p3 p4 p5 hzG200 hg1 hzP201 hzP202 hzV1 hzRA hRB3 hzRI hzLN hk_a1 hk_p3
  obtain ⟨hg4, hg5, hRB6, f7, f8⟩ : (rng (0) 100 c18_G203) ∧ (rng2 (0) 24 c18_V1) ∧ (RB κ ln (G 200) c18_G203 (P 202) c18_V1) ∧ ((a1 ≠ wd → c18_G203 wd = m5 wd)) ∧ ((m5 a1).toInt ≤ (c18_G203 a1).toInt) := hq18
  refine wp_b3 hc18 ?_
  clear hc18
  have hgw18 := f7 (hw_a1 rfl)
  have mm9 := z_max p1 0
  refine wp_vl (fun x26 ex26 => ?_)
  have f10 : x26.toInt = (if p1 < 0 then 0 else p1).toInt := congrArg Int32.toInt ex26
  clear ex26
  have hg0 : c18_G203 wd = (G 203) wd := by rw [hgw18, em5, va_up_ne _ _ (fun q => hw_a1 rfl q.symm)]
  refine wp_jn (fun k92 => ∀ (c92_G60 : Nat → Int32) (c92_G183 : Nat → Int32) (c92_G203 : Nat → Int32) (c92_P66 : Nat → Option Nat) (c92_P181 : Nat → Option Nat) (c92_P182 : Nat → Option Nat) (c92_P186 : Nat → Option Nat) (c92_P187 : Nat → Option Nat) (c92_U184 : Nat → Int64) (c92_V0 : Nat → Nat → Int32) (c92_V1 : Nat → Nat → Int32) (c92_V2 : Nat → Nat → Int32) (c92_V12 : Nat → Nat → Int32), rng (0) 30 c92_G60 → rng (0) 40 c92_G183 → rng (0) 100 c92_G203 → PB κ ln wd 4 11 0 2500 0 c92_P66 → PB κ ln wd 10 100 40 40 0 c92_P181 → PB κ ln wd 10 100 40 40 0 c92_P182 → PB κ ln wd 10 11 0 2500 1 c92_P186 → PB κ ln wd 10 11 0 2500 1 c92_P187 → rng2 (0) 24 c92_V1 → rng2 (0) 24 c92_V2 → RB κ ln (G 200) c92_G203 (P 202) c92_V1 → c92_G203 wd = (G 203) wd → wp (k92 c92_G60 c92_G183 c92_G203 c92_P66 c92_P181 c92_P182 c92_P186 c92_P187 c92_U184 c92_V0 c92_V1 c92_V2 c92_V12) (QC_X9_through κ wd G P U V X O kd ln cnt this p0 p1 p2 p3 p4 p5)) ?_ ?_
  · intro c92_G60 c92_G183 c92_G203 c92_P66 c92_P181 c92_P182 c92_P186 c92_P187 c92_U184 c92_V0 c92_V1 c92_V2 c92_V12 hg11 hg12 hg13 hg14 hg15 hg16 hg17 hg18 hg19 hg20 hRB21 f22
    show wp _ _
    refine wp_nn ((hg18 this).1 hk_this) (fun a93 hn_a93 => ?_)
    have hk_a93 := ((hg18 this).2 a93 hn_a93).1
    have hl1_a93 := ((hg18 this).2 a93 hn_a93).2.1
    have hl2_a93 := ((hg18 this).2 a93 hn_a93).2.2.1
    have hw_a93 := ((hg18 this).2 a93 hn_a93).2.2.2
    exact ⟨_, rfl, ⟨hg11, hg12, hg13, hg14, hg15, hg16, hg17, hg18, hg19, hg20, hRB21, hk_a93, (show c92_G203 wd = (G 203) wd from by assumption)⟩⟩
  intro k92 Jk92
  have lp28 : ∀ (n28 : Nat) (y28_7 : Int32) (d28_G60 : Nat → Int32) (d28_G183 : Nat → Int32) (d28_G203 : Nat → Int32) (d28_P66 : Nat → Option Nat) (d28_P181 : Nat → Option Nat) (d28_P182 : Nat → Option Nat) (d28_P186 : Nat → Option Nat) (d28_P187 : Nat → Option Nat) (d28_U184 : Nat → Int64) (d28_V0 : Nat → Nat → Int32) (d28_V1 : Nat → Nat → Int32) (d28_V2 : Nat → Nat → Int32) (d28_V12 : Nat → Nat → Int32), (2500 - y28_7.toInt).toNat < n28 → rng (0) 30 d28_G60 → rng (0) 40 d28_G183 → rng (0) 100 d28_G203 → PB κ ln wd 4 11 0 2500 0 d28_P66 → PB κ ln wd 10 100 40 40 0 d28_P181 → PB κ ln wd 10 100 40 40 0 d28_P182 → PB κ ln wd 10 11 0 2500 1 d28_P186 → PB κ ln wd 10 11 0 2500 1 d28_P187 → rng2 (0) 24 d28_V1 → rng2 (0) 24 d28_V2 → RB κ ln (G 200) d28_G203 (P 202) d28_V1 → 0 ≤ y28_7.toInt → d28_G203 wd = (G 203) wd → wp (L_X9_through_28 G P U V X O kd ln cnt this p0 p2 k92 n28 y28_7 d28_G60 d28_G183 d28_G203 d28_P66 d28_P181 d28_P182 d28_P186 d28_P187 d28_U184 d28_V0 d28_V1 d28_V2 d28_V12) (QC_X9_through κ wd G P U V X O kd ln cnt this p0 p1 p2 p3 p4 p5) := by
    intro n28
    induction n28 with
    | zero => intro y28_7 d28_G60 d28_G183 d28_G203 d28_P66 d28_P181 d28_P182 d28_P186 d28_P187 d28_U184 d28_V0 d28_V1 d28_V2 d28_V12 hm; exact absurd hm (Nat.not_lt_zero _)
    | succ n28 ih28 =>
      intro y28_7 d28_G60 d28_G183 d28_G203 d28_P66 d28_P181 d28_P182 d28_P186 d28_P187 d28_U184 d28_V0 d28_V1 d28_V2 d28_V12 hm28 hg23 hg24 hg25 hg26 hg27 hg28 hg29 hg30 hg31 hg32 hRB33 f34 f35
      show wp (B_X9_through_28 G P U V X O kd ln cnt this p0 p2 k92 (L_X9_through_28 G P U V X O kd ln cnt this p0 p2 k92 n28) y28_7 d28_G60 d28_G183 d28_G203 d28_P66 d28_P181 d28_P182 d28_P186 d28_P187 d28_U184 d28_V0 d28_V1 d28_V2 d28_V12) _
      unfold B_X9_through_28
      refine wp_ite (fun c31 => ?_) (fun c31 => ?_)
      · have c31 := (z_le _ _).mp c31
        exact Jk92 d28_G60 d28_G183 d28_G203 d28_P66 d28_P181 d28_P182 d28_P186 d28_P187 d28_U184 d28_V0 d28_V1 d28_V2 d28_V12 hg23 hg24 hg25 hg26 hg27 hg28 hg29 hg30 hg31 hg32 hRB33 (show d28_G203 wd = (G 203) wd from by assumption)
      · have c31 := z_nle c31
        have hz_p0 : (Int32.ofNat (ln p0)).toInt = ((ln p0 : Nat) : Int) := ofN_eq (hzLN p0 (by rw [hk_p0]; decide))
        have hzb_p0 := hzLN p0 (by rw [hk_p0]; decide)
        refine wp_ite (fun c38 => ?_) (fun c38 => ?_)
        · have c38 := (z_le _ _).mp c38
          exact Jk92 d28_G60 d28_G183 d28_G203 d28_P66 d28_P181 d28_P182 d28_P186 d28_P187 d28_U184 d28_V0 d28_V1 d28_V2 d28_V12 hg23 hg24 hg25 hg26 hg27 hg28 hg29 hg30 hg31 hg32 hRB33 (show d28_G203 wd = (G 203) wd from by assumption)
        · have c38 := z_nle c38
          refine wp_nn ((hg29 this).1 hk_this) (fun a42 hn_a42 => ?_)
          have hk_a42 := ((hg29 this).2 a42 hn_a42).1
          have hl1_a42 := ((hg29 this).2 a42 hn_a42).2.1
          have hl2_a42 := ((hg29 this).2 a42 hn_a42).2.2.1
          have hw_a42 := ((hg29 this).2 a42 hn_a42).2.2.2
          refine wp_nn ((hg30 this).1 hk_this) (fun a49 hn_a49 => ?_)
          have hk_a49 := ((hg30 this).2 a49 hn_a49).1
          have hl1_a49 := ((hg30 this).2 a49 hn_a49).2.1
          have hl2_a49 := ((hg30 this).2 a49 hn_a49).2.2.1
          have hw_a49 := ((hg30 this).2 a49 hn_a49).2.2.2
          refine wp_vl (fun m52 em52 => ?_)
          have hp36 : PB κ ln wd 10 11 0 2500 1 m52 := by rw [em52]; exact PB_up hg29 hk_a49 (by omega) (by omega) (fun _ => hw_a49 rfl)
          have sm52 : m52 this = some a49 := by rw [em52]; exact va_up_self _ _ _
          clear em52
          refine wp_vl (fun m58 em58 => ?_)
          have hp37 : PB κ ln wd 10 11 0 2500 1 m58 := by rw [em58]; exact PB_up hg30 hk_a42 (by omega) (by omega) (fun _ => hw_a42 rfl)
          have sm58 : m58 this = some a42 := by rw [em58]; exact va_up_self _ _ _
          clear em58
          refine wp_nne sm58 ?_
          refine wp_vl (fun m66 em66 => ?_)
          have hg38 : rng (0) 100 m66 := by rw [em66]; exact rng_vup hg25 (by omega) (by omega)
          have sm66 : (m66 a42).toInt = 0 := by rw [em66, va_up_self]; decide +kernel
          have b39 := hg38 a42
          have hRB40 : RB κ ln (G 200) m66 (P 202) d28_V1 := by rw [em66]; exact RB_cnt hRB33 (fun s hs => by omega)
          refine wp_if ⟨by omega, by omega⟩ ?_
          refine wp_vl (fun o73 eo73 => ?_)
          have hk_o73 : ∀ b, o73 = some b → κ b = 6 := fun b hq => hzO2 _ _ b (eo73.symm.trans hq)
          clear eo73
          refine wp_nne sm52 ?_
          refine wp_nne sm58 ?_
          obtain ⟨⟨r82, c82_G60, c82_G183, c82_G203, c82_P66, c82_P181, c82_P182, c82_U184, c82_V0, c82_V1, c82_V2, c82_V12⟩, hc82, hq82⟩ := ok_X9_turnForms κ wd (va_up (va_up (va_up (va_up G 60 d28_G60) 183 d28_G183) 203 d28_G203) 203 m66) (va_up (va_up (va_up (va_up (va_up (va_up (va_up P 66 d28_P66) 181 d28_P181) 182 d28_P182) 186 d28_P186) 187 d28_P187) 186 m52) 187 m58) (va_up U 184 d28_U184) (va_up (va_up (va_up (va_up V 0 d28_V0) 1 d28_V1) 2 d28_V2) 12 d28_V12) X O kd ln cnt this o73 a49 a42 hg23 hzG102 hg24 hzG200 hg38 hzP20 hzP21 hzP22 hzP23 hzP61 hzP62 hzP63 hzP64 hzP65 hg26 hzP101 hzP103 hzP104 hzP105 hzP106 hzP108 hzP109 hzP110 hzP180 hg27 hg28 hzP185 hzP201 hzP202 hg31 hg32 hzO0 hzRA hRB40 hzRI hzRM103 hzRM104 hzRM108 hzLN hk_this hk_o73 hk_a49 hk_a42
          obtain ⟨hg41, hg42, hg43, hg44, hg45, hg46, hg47, hg48, hRB49, f50⟩ : (rng (0) 30 c82_G60) ∧ (rng (0) 40 c82_G183) ∧ (rng (0) 100 c82_G203) ∧ (PB κ ln wd 4 11 0 2500 0 c82_P66) ∧ (PB κ ln wd 10 100 40 40 0 c82_P181) ∧ (PB κ ln wd 10 100 40 40 0 c82_P182) ∧ (rng2 (0) 24 c82_V1) ∧ (rng2 (0) 24 c82_V2) ∧ (RB κ ln (G 200) c82_G203 (P 202) c82_V1) ∧ ((a42 ≠ wd → c82_G203 wd = m66 wd)) := hq82
          refine wp_b12 hc82 ?_
          clear hc82
          have hgw82 := f50 (hw_a42 rfl)
          have f51 : (y28_7 + 1).toInt = y28_7.toInt + (1) := z_addc (by decide +kernel) (by omega) (by omega)
          have hgA : c82_G203 wd = (G 203) wd := by rw [hgw82, em66, va_up_ne _ _ (fun q => hw_a42 rfl q.symm)]; assumption
          exact ih28 (y28_7 + 1) c82_G60 c82_G183 c82_G203 c82_P66 c82_P181 c82_P182 m52 m58 c82_U184 c82_V0 c82_V1 c82_V2 c82_V12 (show (2500 - (y28_7 + 1).toInt).toNat < n28 from by omega) hg41 hg42 hg43 hg44 hg45 hg46 hp36 hp37 hg47 hg48 hRB49 (show 0 ≤ (y28_7 + 1).toInt from by first | omega | assumption) (show c82_G203 wd = (G 203) wd from by first | assumption | omega)
  exact lp28 NN x26 (G 60) (G 183) c18_G203 (P 66) (P 181) (P 182) (P 186) (P 187) (U 184) c18_V0 c18_V1 (V 2) (V 12) (by have := NN_eq; omega) hzG60 hzG183 hg4 hzP66 hzP181 hzP182 hzP186 hzP187 hg5 hzV2 hRB6 (show 0 ≤ x26.toInt from by first | omega | assumption) (show c18_G203 wd = (G 203) wd from by first | assumption | omega)
abbrev QC_X9_turnParts (κ : Nat → Nat) (wd : Nat) (G : Nat → Nat → Int32) (P : Nat → Nat → Option Nat) (U : Nat → Nat → Int64) (V : Nat → Nat → Nat → Int32) (X : Nat → Nat → Nat → Int64) (O : Nat → Nat → Nat → Option Nat) (kd : Nat → Nat) (ln : Nat → Nat) (cnt : Nat) (this : Nat) (p0 : Nat) : ((Nat → Int32) × (Nat → Int32) × (Nat → Option Nat) × (Nat → Option Nat) × (Nat → Int64) × (Nat → Nat → Int32) × (Nat → Nat → Int32) × (Nat → Nat → Int32) × (Nat → Nat → Int64)) → Prop := (fun t => (rng (0) 40 (t.1)) ∧ (rng (0) 100 (t.2.1)) ∧ (PB κ ln wd 10 100 40 40 0 (t.2.2.1)) ∧ (PB κ ln wd 10 100 40 40 0 (t.2.2.2.1)) ∧ (rng2 (0) 24 (t.2.2.2.2.2.2.1)) ∧ (RB κ ln (G 200) (t.2.1) (P 202) (t.2.2.2.2.2.2.1)) ∧ ((t.2.1) wd = (G 203) wd))
set_option maxHeartbeats 4000000 in
set_option maxRecDepth 100000 in
theorem ok_X9_turnParts (κ : Nat → Nat) (wd : Nat) (G : Nat → Nat → Int32) (P : Nat → Nat → Option Nat) (U : Nat → Nat → Int64) (V : Nat → Nat → Nat → Int32) (X : Nat → Nat → Nat → Int64) (O : Nat → Nat → Nat → Option Nat) (kd : Nat → Nat) (ln : Nat → Nat) (cnt : Nat) (this : Nat) (p0 : Nat) (hzG102 : rng (0) 40 (G 102)) (hzG183 : rng (0) 40 (G 183)) (hzG200 : rng (0) 24 (G 200)) (hzG203 : rng (0) 100 (G 203)) (hzP20 : PB κ ln wd 2 100 0 16 0 (P 20)) (hzP21 : PB κ ln wd 2 100 0 16 0 (P 21)) (hzP22 : PB κ ln wd 2 100 0 16 0 (P 22)) (hzP23 : PB κ ln wd 2 100 0 16 0 (P 23)) (hzP101 : PB κ ln wd 6 300 40 40 0 (P 101)) (hzP103 : PB κ ln wd 6 11 0 2500 1 (P 103)) (hzP108 : PB κ ln wd 6 11 0 2500 1 (P 108)) (hzP109 : PB κ ln wd 6 111 40 40 0 (P 109)) (hzP110 : PB κ ln wd 6 200 40 40 0 (P 110)) (hzP181 : PB κ ln wd 10 100 40 40 0 (P 181)) (hzP182 : PB κ ln wd 10 100 40 40 0 (P 182)) (hzP201 : PB κ ln wd 11 100 0 2400 0 (P 201)) (hzP202 : PB κ ln wd 11 101 0 100 0 (P 202)) (hzV1 : rng2 (0) 24 (V 1)) (hzO0 : OB κ 2 (O 0)) (hzRA : RA κ ln (G 200) (P 201) (P 202)) (hzRB : RB κ ln (G 200) (G 203) (P 202) (V 1)) (hzRI : RI (P 202)) (hzRM103 : RM ln 40 (P 103) (P 202)) (hzRM108 : RM ln 40 (P 108) (P 202)) (hzLN : LN κ ln) (hk_this : κ this = 10) (hk_p0 : κ p0 = 6) : wp (f_X9_turnParts G P U V X O kd ln cnt this p0) (QC_X9_turnParts κ wd G P U V X O kd ln cnt this p0) := by
  unfold f_X9_turnParts
  have zk0 : (0 : Int32).toInt = 0 := by decide +kernel
  refine wp_nn ((hzP103 p0).1 hk_p0) (fun a1 hn_a1 => ?_)
  have hk_a1 := ((hzP103 p0).2 a1 hn_a1).1
  have hl1_a1 := ((hzP103 p0).2 a1 hn_a1).2.1
  have hl2_a1 := ((hzP103 p0).2 a1 hn_a1).2.2.1
  have hw_a1 := ((hzP103 p0).2 a1 hn_a1).2.2.2
  obtain ⟨u1, hn_u1⟩ := PBs (hzP202 a1) hk_a1
  have hk_u1 := ((hzP202 a1).2 u1 hn_u1).1
  have hl1_u1 := ((hzP202 a1).2 u1 hn_u1).2.1
  have hl2_u1 := ((hzP202 a1).2 u1 hn_u1).2.2.1
  have hw_u1 := ((hzP202 a1).2 u1 hn_u1).2.2.2
  have hz_u1 : (Int32.ofNat (ln u1)).toInt = ((ln u1 : Nat) : Int) := ofN_eq (by first | exact Nat.le_trans hl2_u1 (by decide) | omega)
  have rb2 := (hzRB a1 u1 hk_a1 hn_u1).1
  have rm3 := hzRM103 p0 a1 u1 hn_a1 hn_u1
  obtain ⟨u4, hn_u4⟩ := PBs (hzP201 a1) hk_a1
  have hk_u4 := ((hzP201 a1).2 u4 hn_u4).1
  have hl1_u4 := ((hzP201 a1).2 u4 hn_u4).2.1
  have hl2_u4 := ((hzP201 a1).2 u4 hn_u4).2.2.1
  have hw_u4 := ((hzP201 a1).2 u4 hn_u4).2.2.2
  have hz_u4 : (Int32.ofNat (ln u4)).toInt = ((ln u4 : Nat) : Int) := ofN_eq (by first | exact Nat.le_trans hl2_u4 (by decide) | omega)
  have ra6 := hzRA a1 u4 u1 hk_a1 hn_u4 hn_u1
  have bw7 := hzG200 a1
  have lp7 : ∀ (n7 : Nat) (y7_3 : Int32) (d7_G183 : Nat → Int32) (d7_G203 : Nat → Int32) (d7_P181 : Nat → Option Nat) (d7_P182 : Nat → Option Nat) (d7_U184 : Nat → Int64) (d7_V0 : Nat → Nat → Int32) (d7_V1 : Nat → Nat → Int32) (d7_V11 : Nat → Nat → Int32) (d7_X0 : Nat → Nat → Int64), (100 - y7_3.toInt).toNat < n7 → rng (0) 40 d7_G183 → rng (0) 100 d7_G203 → PB κ ln wd 10 100 40 40 0 d7_P181 → PB κ ln wd 10 100 40 40 0 d7_P182 → rng2 (0) 24 d7_V1 → RB κ ln (G 200) d7_G203 (P 202) d7_V1 → (0 ≤ y7_3.toInt ∧ y7_3.toInt ≤ 100) → d7_G203 wd = (G 203) wd → wp (L_X9_turnParts_7 G P U V X O kd ln cnt this p0 a1 n7 y7_3 d7_G183 d7_G203 d7_P181 d7_P182 d7_U184 d7_V0 d7_V1 d7_V11 d7_X0) (QC_X9_turnParts κ wd G P U V X O kd ln cnt this p0) := by
    intro n7
    induction n7 with
    | zero => intro y7_3 d7_G183 d7_G203 d7_P181 d7_P182 d7_U184 d7_V0 d7_V1 d7_V11 d7_X0 hm; exact absurd hm (Nat.not_lt_zero _)
    | succ n7 ih7 =>
      intro y7_3 d7_G183 d7_G203 d7_P181 d7_P182 d7_U184 d7_V0 d7_V1 d7_V11 d7_X0 hm7 hg9 hg10 hg11 hg12 hg13 hRB14 f15 f16
      show wp (B_X9_turnParts_7 G P U V X O kd ln cnt this p0 a1 (L_X9_turnParts_7 G P U V X O kd ln cnt this p0 a1 n7) y7_3 d7_G183 d7_G203 d7_P181 d7_P182 d7_U184 d7_V0 d7_V1 d7_V11 d7_X0) _
      unfold B_X9_turnParts_7
      have b17 := hg10 a1
      have rb18 := (hRB14 a1 u1 hk_a1 hn_u1).1
      refine wp_ite (fun c12 => ?_) (fun c12 => ?_)
      · have c12 := (z_le _ _).mp c12
        exact ⟨_, rfl, ⟨hg9, hg10, hg11, hg12, hg13, hRB14, (show d7_G203 wd = (G 203) wd from by assumption)⟩⟩
      · have c12 := z_nle c12
        refine wp_nne hn_u4 ?_
        have b22 := hzG200 a1
        have f23 := zmw (x := y7_3) (y := ((G 200) a1)) (by omega) (by omega) (by omega) (by omega)
        have ix24 := rowix (x := y7_3) (hzRA a1 u4 u1 hk_a1 hn_u4 hn_u1) (hzG200 a1).1
        refine wp_nne hn_u1 ?_
        refine wp_if ⟨by omega, by omega⟩ ?_
        have b25 := hg13 u1 (Int32.toNatClampNeg y7_3)
        have rl26 := (hRB14 a1 u1 hk_a1 hn_u1).2 (Int32.toNatClampNeg y7_3)
        obtain ⟨⟨r33, c33_G183, c33_P181, c33_P182, c33_U184, c33_V0⟩, hc33, hq33⟩ := ok_X9_runLaws κ wd (va_up (va_up G 183 d7_G183) 203 d7_G203) (va_up (va_up P 181 d7_P181) 182 d7_P182) (va_up U 184 d7_U184) (va_up (va_up (va_up V 0 d7_V0) 1 d7_V1) 11 d7_V11) (va_up X 0 d7_X0) O kd ln cnt this p0 u4 (y7_3 * ((G 200) a1)) ((d7_V1 u1) (Int32.toNatClampNeg y7_3)) hzG102 hg9 hzP20 hzP21 hzP22 hzP23 hzP101 hg11 hg12 hzO0 hzLN hk_this hk_p0 hk_u4 (show (0 ≤ (y7_3 * ((G 200) a1)).toInt ∧ 0 ≤ ((d7_V1 u1) (Int32.toNatClampNeg y7_3)).toInt ∧ (y7_3 * ((G 200) a1)).toInt + ((d7_V1 u1) (Int32.toNatClampNeg y7_3)).toInt ≤ ((ln u4 : Nat) : Int)) from by omega)
        obtain ⟨hg27, hg28, hg29, f30⟩ : (rng (0) 40 c33_G183) ∧ (PB κ ln wd 10 100 40 40 0 c33_P181) ∧ (PB κ ln wd 10 100 40 40 0 c33_P182) ∧ ((0 ≤ r33.toInt ∧ r33.toInt ≤ 1)) := hq33
        refine wp_b6 hc33 ?_
        clear hc33
        refine wp_nn ((hzP109 p0).1 hk_p0) (fun a39 hn_a39 => ?_)
        have hk_a39 := ((hzP109 p0).2 a39 hn_a39).1
        have hl1_a39 := ((hzP109 p0).2 a39 hn_a39).2.1
        have hl2_a39 := ((hzP109 p0).2 a39 hn_a39).2.2.1
        have hw_a39 := ((hzP109 p0).2 a39 hn_a39).2.2.2
        have hz_a39 : (Int32.ofNat (ln a39)).toInt = ((ln a39 : Nat) : Int) := ofN_eq (by first | exact Nat.le_trans hl2_a39 (by decide) | omega)
        refine wp_if ⟨by omega, by omega⟩ ?_
        refine wp_vl (fun m45 em45 => ?_)
        clear em45
        refine wp_nn ((hzP110 p0).1 hk_p0) (fun a47 hn_a47 => ?_)
        have hk_a47 := ((hzP110 p0).2 a47 hn_a47).1
        have hl1_a47 := ((hzP110 p0).2 a47 hn_a47).2.1
        have hl2_a47 := ((hzP110 p0).2 a47 hn_a47).2.2.1
        have hw_a47 := ((hzP110 p0).2 a47 hn_a47).2.2.2
        have hz_a47 : (Int32.ofNat (ln a47)).toInt = ((ln a47 : Nat) : Int) := ofN_eq (by first | exact Nat.le_trans hl2_a47 (by decide) | omega)
        refine wp_if ⟨by omega, by omega⟩ ?_
        refine wp_vl (fun m55 em55 => ?_)
        clear em55
        refine wp_nn ((hzP108 p0).1 hk_p0) (fun a57 hn_a57 => ?_)
        have hk_a57 := ((hzP108 p0).2 a57 hn_a57).1
        have hl1_a57 := ((hzP108 p0).2 a57 hn_a57).2.1
        have hl2_a57 := ((hzP108 p0).2 a57 hn_a57).2.2.1
        have hw_a57 := ((hzP108 p0).2 a57 hn_a57).2.2.2
        refine wp_nn ((hg28 this).1 hk_this) (fun a61 hn_a61 => ?_)
        have hk_a61 := ((hg28 this).2 a61 hn_a61).1
        have hl1_a61 := ((hg28 this).2 a61 hn_a61).2.1
        have hl2_a61 := ((hg28 this).2 a61 hn_a61).2.2.1
        have hw_a61 := ((hg28 this).2 a61 hn_a61).2.2.2
        have hz_a61 : (Int32.ofNat (ln a61)).toInt = ((ln a61 : Nat) : Int) := ofN_eq (by first | exact Nat.le_trans hl2_a61 (by decide) | omega)
        refine wp_jn (fun j78 => ∀ (t78_0 : Int32), wp (j78 t78_0) (QC_X9_turnParts κ wd G P U V X O kd ln cnt this p0)) ?_ ?_
        · intro t78_0
          show wp _ _
          obtain ⟨⟨c78_G203, c78_V0, c78_V1⟩, hc78, hq78⟩ := ok_X10_add κ wd (va_up (va_up G 183 c33_G183) 203 d7_G203) (va_up (va_up P 181 c33_P181) 182 c33_P182) (va_up U 184 c33_U184) (va_up (va_up (va_up V 0 c33_V0) 1 d7_V1) 11 m45) (va_up X 0 m55) O kd ln cnt a57 a61 (0 : Int32) t78_0 hzG200 hg10 hzP201 hzP202 hg13 hzRA hRB14 hzRI hzLN hk_a57 hk_a61
          obtain ⟨hg31, hg32, hRB33, f34, f35⟩ : (rng (0) 100 c78_G203) ∧ (rng2 (0) 24 c78_V1) ∧ (RB κ ln (G 200) c78_G203 (P 202) c78_V1) ∧ ((a57 ≠ wd → c78_G203 wd = d7_G203 wd)) ∧ ((d7_G203 a57).toInt ≤ (c78_G203 a57).toInt) := hq78
          refine wp_b3 hc78 ?_
          clear hc78
          have hgw := f34 (hw_a57 rfl)
          have f36 : (y7_3 + 1).toInt = y7_3.toInt + (1) := z_addc (by decide +kernel) (by omega) (by omega)
          have hgA : c78_G203 wd = (G 203) wd := hgw.trans (by assumption)
          exact ih7 (y7_3 + 1) c33_G183 c78_G203 c33_P181 c33_P182 c33_U184 c78_V0 c78_V1 m45 m55 (show (100 - (y7_3 + 1).toInt).toNat < n7 from by omega) hg27 hg31 hg28 hg29 hg32 hRB33 (show (0 ≤ (y7_3 + 1).toInt ∧ (y7_3 + 1).toInt ≤ 100) from by first | omega | rfl | assumption) (show c78_G203 wd = (G 203) wd from by first | rfl | assumption | omega)
        intro j78 Jj78
        refine wp_ite (fun c67 => ?_) (fun c67 => ?_)
        · have c67 := congrArg Int32.toInt c67
          exact Jj78 (0 : Int32)
        · have c67 := z_ne c67
          have b37 := hg27 this
          exact Jj78 (c33_G183 this)
  exact lp7 NN (0 : Int32) (G 183) (G 203) (P 181) (P 182) (U 184) (V 0) (V 1) (V 11) (X 0) (by have := NN_eq; omega) hzG183 hzG203 hzP181 hzP182 hzV1 hzRB (show (0 ≤ (0 : Int32).toInt ∧ (0 : Int32).toInt ≤ 100) from by first | omega | rfl | assumption) (show (G 203) wd = (G 203) wd from by first | rfl | assumption | omega)
abbrev QC_X11_turn (κ : Nat → Nat) (wd : Nat) (G : Nat → Nat → Int32) (P : Nat → Nat → Option Nat) (U : Nat → Nat → Int64) (V : Nat → Nat → Nat → Int32) (X : Nat → Nat → Nat → Int64) (O : Nat → Nat → Nat → Option Nat) (kd : Nat → Nat) (ln : Nat → Nat) (cnt : Nat) (this : Nat) (p0 : Int32) (p1 : Int32) : (Int32 × (Nat → Int32) × (Nat → Int32) × (Nat → Int32) × (Nat → Int32) × (Nat → Option Nat) × (Nat → Option Nat) × (Nat → Option Nat) × (Nat → Option Nat) × (Nat → Option Nat) × (Nat → Int64) × (Nat → Nat → Int32) × (Nat → Nat → Int32) × (Nat → Nat → Int32) × (Nat → Nat → Int32)) → Prop := (fun t => (rng (0) 30 (t.2.1)) ∧ (rng (0) 2000 (t.2.2.1)) ∧ (rng (0) 40 (t.2.2.2.1)) ∧ (rng (0) 100 (t.2.2.2.2.1)) ∧ (PB κ ln wd 4 11 0 2500 0 (t.2.2.2.2.2.1)) ∧ (PB κ ln wd 10 100 40 40 0 (t.2.2.2.2.2.2.1)) ∧ (PB κ ln wd 10 100 40 40 0 (t.2.2.2.2.2.2.2.1)) ∧ (PB κ ln wd 10 11 0 2500 1 (t.2.2.2.2.2.2.2.2.1)) ∧ (PB κ ln wd 10 11 0 2500 1 (t.2.2.2.2.2.2.2.2.2.1)) ∧ (rng2 (0) 24 (t.2.2.2.2.2.2.2.2.2.2.2.2.1)) ∧ (rng2 (0) 24 (t.2.2.2.2.2.2.2.2.2.2.2.2.2.1)) ∧ (RB κ ln (G 200) (t.2.2.2.2.1) (P 202) (t.2.2.2.2.2.2.2.2.2.2.2.2.1)) ∧ (FL wd (t.2.2.2.2.1) (V 3)) ∧ ((∀ tp, (P 220) this = some tp → ((t.2.2.1) tp).toInt = 0)))
set_option maxHeartbeats 4000000 in
set_option maxRecDepth 100000 in
theorem ok_X11_turn (κ : Nat → Nat) (wd : Nat) (G : Nat → Nat → Int32) (P : Nat → Nat → Option Nat) (U : Nat → Nat → Int64) (V : Nat → Nat → Nat → Int32) (X : Nat → Nat → Nat → Int64) (O : Nat → Nat → Nat → Option Nat) (kd : Nat → Nat) (ln : Nat → Nat) (cnt : Nat) (this : Nat) (p0 : Int32) (p1 : Int32) (hzG60 : rng (0) 30 (G 60)) (hzG102 : rng (0) 40 (G 102)) (hzG141 : rng (0) 2000 (G 141)) (hzG183 : rng (0) 40 (G 183)) (hzG200 : rng (0) 24 (G 200)) (hzG203 : rng (0) 100 (G 203)) (hzG222 : rng (0) 6 (G 222)) (hzP20 : PB κ ln wd 2 100 0 16 0 (P 20)) (hzP21 : PB κ ln wd 2 100 0 16 0 (P 21)) (hzP22 : PB κ ln wd 2 100 0 16 0 (P 22)) (hzP23 : PB κ ln wd 2 100 0 16 0 (P 23)) (hzP61 : PB κ ln wd 4 102 30 30 0 (P 61)) (hzP62 : PB κ ln wd 4 100 720 720 0 (P 62)) (hzP63 : PB κ ln wd 4 100 408 408 0 (P 63)) (hzP64 : PB κ ln wd 4 112 25 25 0 (P 64)) (hzP65 : PB κ ln wd 4 100 24 24 0 (P 65)) (hzP66 : PB κ ln wd 4 11 0 2500 0 (P 66)) (hzP101 : PB κ ln wd 6 300 40 40 0 (P 101)) (hzP103 : PB κ ln wd 6 11 0 2500 1 (P 103)) (hzP104 : PB κ ln wd 6 11 0 2500 1 (P 104)) (hzP105 : PB κ ln wd 6 11 0 2500 1 (P 105)) (hzP106 : PB κ ln wd 6 110 40 40 0 (P 106)) (hzP108 : PB κ ln wd 6 11 0 2500 1 (P 108)) (hzP109 : PB κ ln wd 6 111 40 40 0 (P 109)) (hzP110 : PB κ ln wd 6 200 40 40 0 (P 110)) (hzP140 : PB κ ln wd 8 100 2000 2000 0 (P 140)) (hzP180 : PB κ ln wd 10 4 0 2500 0 (P 180)) (hzP181 : PB κ ln wd 10 100 40 40 0 (P 181)) (hzP182 : PB κ ln wd 10 100 40 40 0 (P 182)) (hzP185 : PB κ ln wd 10 100 24 24 0 (P 185)) (hzP186 : PB κ ln wd 10 11 0 2500 1 (P 186)) (hzP187 : PB κ ln wd 10 11 0 2500 1 (P 187)) (hzP201 : PB κ ln wd 11 100 0 2400 0 (P 201)) (hzP202 : PB κ ln wd 11 101 0 100 0 (P 202)) (hzP220 : PB κ ln wd 12 8 0 2500 0 (P 220)) (hzP221 : PB κ ln wd 12 302 6 6 0 (P 221)) (hzP226 : PB κ ln wd 12 10 0 2500 0 (P 226)) (hzP227 : PB κ ln wd 12 11 0 2500 1 (P 227)) (hzV1 : rng2 (0) 24 (V 1)) (hzV2 : rng2 (0) 24 (V 2)) (hzV3 : rng2 (0) 100 (V 3)) (hzO0 : OB κ 2 (O 0)) (hzO2 : OB κ 6 (O 2)) (hzRA : RA κ ln (G 200) (P 201) (P 202)) (hzRB : RB κ ln (G 200) (G 203) (P 202) (V 1)) (hzRI : RI (P 202)) (hzRM103 : RM ln 40 (P 103) (P 202)) (hzRM104 : RM ln 40 (P 104) (P 202)) (hzRM108 : RM ln 40 (P 108) (P 202)) (hzLN : LN κ ln) (hzFL : FL wd (G 203) (V 3)) (hk_this : κ this = 12) : wp (f_X11_turn G P U V X O kd ln cnt this p0 p1) (QC_X11_turn κ wd G P U V X O kd ln cnt this p0 p1) := by
  unfold f_X11_turn
  have zkm2 : (-2 : Int32).toInt = -2 := by decide +kernel
  have zk0 : (0 : Int32).toInt = 0 := by decide +kernel
  have r_p0 := i32r p0
  have r_p1 := i32r p1
  obtain ⟨u1, hn_u1⟩ := PBs (hzP220 this) hk_this
  have hk_u1 := ((hzP220 this).2 u1 hn_u1).1
  have hl1_u1 := ((hzP220 this).2 u1 hn_u1).2.1
  have hl2_u1 := ((hzP220 this).2 u1 hn_u1).2.2.1
  have hw_u1 := ((hzP220 this).2 u1 hn_u1).2.2.2
  refine wp_nne hn_u1 ?_
  obtain ⟨⟨r4, c4_G141⟩, hc4, hq4⟩ := ok_X7_take κ wd G P U V X O kd ln cnt u1 hzG141 hzLN hk_u1
  obtain ⟨hg2, f3, f4, f5⟩ : (rng (0) 2000 c4_G141) ∧ (r4.toInt = ((G 141) u1).toInt) ∧ ((c4_G141 u1).toInt = 0) ∧ ((0 ≤ r4.toInt ∧ r4.toInt ≤ 2000)) := hq4
  refine wp_b2 hc4 ?_
  clear hc4
  obtain ⟨r11, hc11, hq11⟩ := ok_X11_areStages κ wd (va_up G 141 c4_G141) P U V X O kd ln cnt this p0 p1 hzG222 hzLN hk_this
  have f6 : (0 ≤ r11.toInt ∧ r11.toInt ≤ 1) := hq11
  refine wp_b1 hc11 ?_
  clear hc11
  refine wp_jn (fun j28 => wp (j28 ()) (QC_X11_turn κ wd G P U V X O kd ln cnt this p0 p1)) ?_ ?_
  · show wp _ _
    exact ⟨_, rfl, ⟨hzG60, hg2, hzG183, hzG203, hzP66, hzP181, hzP182, hzP186, hzP187, hzV1, hzV2, hzRB, hzFL, (show (∀ tp, (P 220) this = some tp → (c4_G141 tp).toInt = 0) from by intro tp htp; obtain rfl : u1 = tp := Option.some.inj (hn_u1.symm.trans htp); omega)⟩⟩
  intro j28 Jj28
  refine wp_ite (fun c14 => ?_) (fun c14 => ?_)
  · have c14 := congrArg Int32.toInt c14
    exact Jj28
  · have c14 := z_ne c14
    refine wp_nne hn_u1 ?_
    obtain ⟨r22, hc22, hq22⟩ := ok_X7_isWord κ wd (va_up G 141 c4_G141) P U V X O kd ln cnt u1 r4 hzP140 hzLN hk_u1
    obtain ⟨f7, f8⟩ : ((0 ≤ r22.toInt ∧ r22.toInt ≤ 1)) ∧ ((r22.toInt = 1 → 1 ≤ r4.toInt ∧ r4.toInt ≤ 24)) := hq22
    refine wp_b1 hc22 ?_
    clear hc22
    refine wp_ite (fun c25 => ?_) (fun c25 => ?_)
    · have c25 := congrArg Int32.toInt c25
      exact Jj28
    · have c25 := z_ne c25
      refine wp_nn ((hzP227 this).1 hk_this) (fun a32 hn_a32 => ?_)
      have hk_a32 := ((hzP227 this).2 a32 hn_a32).1
      have hl1_a32 := ((hzP227 this).2 a32 hn_a32).2.1
      have hl2_a32 := ((hzP227 this).2 a32 hn_a32).2.2.1
      have hw_a32 := ((hzP227 this).2 a32 hn_a32).2.2.2
      refine wp_nn ((hzP226 this).1 hk_this) (fun a36 hn_a36 => ?_)
      have hk_a36 := ((hzP226 this).2 a36 hn_a36).1
      have hl1_a36 := ((hzP226 this).2 a36 hn_a36).2.1
      have hl2_a36 := ((hzP226 this).2 a36 hn_a36).2.2.1
      have hw_a36 := ((hzP226 this).2 a36 hn_a36).2.2.2
      refine wp_nn ((hzP221 this).1 hk_this) (fun a40 hn_a40 => ?_)
      have hk_a40 := ((hzP221 this).2 a40 hn_a40).1
      have hl1_a40 := ((hzP221 this).2 a40 hn_a40).2.1
      have hl2_a40 := ((hzP221 this).2 a40 hn_a40).2.2.1
      have hw_a40 := ((hzP221 this).2 a40 hn_a40).2.2.2
      have hz_a40 : (Int32.ofNat (ln a40)).toInt = ((ln a40 : Nat) : Int) := ofN_eq (by first | exact Nat.le_trans hl2_a40 (by decide) | omega)
      refine wp_nne hn_u1 ?_
      refine wp_nn ((hzP140 u1).1 hk_u1) (fun a49 hn_a49 => ?_)
      have hk_a49 := ((hzP140 u1).2 a49 hn_a49).1
      have hl1_a49 := ((hzP140 u1).2 a49 hn_a49).2.1
      have hl2_a49 := ((hzP140 u1).2 a49 hn_a49).2.2.1
      have hw_a49 := ((hzP140 u1).2 a49 hn_a49).2.2.2
      have hz_a49 : (Int32.ofNat (ln a49)).toInt = ((ln a49 : Nat) : Int) := ofN_eq (by first | exact Nat.le_trans hl2_a49 (by decide) | omega)
      obtain ⟨⟨r54, c54_G60, c54_G183, c54_G203, c54_P66, c54_P181, c54_P182, c54_P186, c54_P187, c54_U184, c54_V0, c54_V1, c54_V2, c54_V12⟩, hc54, hq54⟩ := ok_X9_through κ wd (va_up G 141 c4_G141) P U V X O kd ln cnt a36 a40 p0 p1 a49 (0 : Int32) r4 hzG60 hzG102 hzG183 hzG200 hzG203 hzP20 hzP21 hzP22 hzP23 hzP61 hzP62 hzP63 hzP64 hzP65 hzP66 hzP101 hzP103 hzP104 hzP105 hzP106 hzP108 hzP109 hzP110 hzP180 hzP181 hzP182 hzP185 hzP186 hzP187 hzP201 hzP202 hzV1 hzV2 hzO0 hzO2 hzRA hzRB hzRI hzRM103 hzRM104 hzRM108 hzLN hk_a36 hk_a40 hk_a49
      obtain ⟨hg9, hg10, hg11, hg12, hg13, hg14, hg15, hg16, hg17, hg18, hRB19, hk20, f21⟩ : (rng (0) 30 c54_G60) ∧ (rng (0) 40 c54_G183) ∧ (rng (0) 100 c54_G203) ∧ (PB κ ln wd 4 11 0 2500 0 c54_P66) ∧ (PB κ ln wd 10 100 40 40 0 c54_P181) ∧ (PB κ ln wd 10 100 40 40 0 c54_P182) ∧ (PB κ ln wd 10 11 0 2500 1 c54_P186) ∧ (PB κ ln wd 10 11 0 2500 1 c54_P187) ∧ (rng2 (0) 24 c54_V1) ∧ (rng2 (0) 24 c54_V2) ∧ (RB κ ln (G 200) c54_G203 (P 202) c54_V1) ∧ (κ r54 = 11) ∧ (c54_G203 wd = (G 203) wd) := hq54
      refine wp_b14 hc54 ?_
      clear hc54
      have hFL22 : FL wd c54_G203 (V 3) := by exact FL_eq hzFL f21
      obtain ⟨⟨c57_G203, c57_V0, c57_V1⟩, hc57, hq57⟩ := ok_X10_copy κ wd (va_up (va_up (va_up (va_up G 141 c4_G141) 60 c54_G60) 183 c54_G183) 203 c54_G203) (va_up (va_up (va_up (va_up (va_up P 66 c54_P66) 181 c54_P181) 182 c54_P182) 186 c54_P186) 187 c54_P187) (va_up U 184 c54_U184) (va_up (va_up (va_up (va_up V 0 c54_V0) 1 c54_V1) 2 c54_V2) 12 c54_V12) X O kd ln cnt a32 r54 hzG200 hg11 hzP201 hzP202 hg17 hzRA hRB19 hzRI hzLN hk_a32 hk20
      obtain ⟨hg23, hg24, hRB25, f26⟩ : (rng (0) 100 c57_G203) ∧ (rng2 (0) 24 c57_V1) ∧ (RB κ ln (G 200) c57_G203 (P 202) c57_V1) ∧ ((a32 ≠ wd → c57_G203 wd = c54_G203 wd)) := hq57
      refine wp_b3 hc57 ?_
      clear hc57
      have hFL27 : FL wd c57_G203 (V 3) := by exact FL_eq hFL22 (f26 (hw_a32 rfl))
      refine wp_nne hn_a32 ?_
      have b28 := hg23 a32
      exact ⟨_, rfl, ⟨hg9, hg2, hg10, hg23, hg12, hg13, hg14, hg15, hg16, hg24, hg18, hRB25, hFL27, (show (∀ tp, (P 220) this = some tp → (c4_G141 tp).toInt = 0) from by intro tp htp; obtain rfl : u1 = tp := Option.some.inj (hn_u1.symm.trans htp); omega)⟩⟩
