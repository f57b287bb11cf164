abbrev QC_X0_collide (κ : Nat → Nat) (wd : Nat) (G : Nat → Nat → Int32) (P : Nat → Nat → Option Nat) (U : Nat → Nat → Int64) (V : Nat → Nat → Nat → Int32) (X : Nat → Nat → Nat → Int64) (O : Nat → Nat → Nat → Option Nat) (kd : Nat → Nat) (ln : Nat → Nat) (cnt : Nat) (this : Nat) (p0 : Int32) (p1 : Int32) (p2 : Int32) : (Int32) → Prop := (fun t => ((0 ≤ t.toInt ∧ t.toInt ≤ 1)))
set_option maxHeartbeats 4000000 in
set_option maxRecDepth 100000 in
theorem ok_X0_collide (κ : Nat → Nat) (wd : Nat) (G : Nat → Nat → Int32) (P : Nat → Nat → Option Nat) (U : Nat → Nat → Int64) (V : Nat → Nat → Nat → Int32) (X : Nat → Nat → Nat → Int64) (O : Nat → Nat → Nat → Option Nat) (kd : Nat → Nat) (ln : Nat → Nat) (cnt : Nat) (this : Nat) (p0 : Int32) (p1 : Int32) (p2 : Int32) (hzG200 : rng (0) 24 (G 200)) (hzG203 : rng (0) 100 (G 203)) (hzP1 : PB κ ln wd 1 301 700 700 0 (P 1)) (hzP5 : PB κ ln wd 1 11 0 2500 0 (P 5)) (hzP201 : PB κ ln wd 11 100 0 2400 0 (P 201)) (hzP202 : PB κ ln wd 11 101 0 100 0 (P 202)) (hzV1 : rng2 (0) 24 (V 1)) (hzO1 : OB κ 11 (O 1)) (hzRA : RA κ ln (G 200) (P 201) (P 202)) (hzRB : RB κ ln (G 200) (G 203) (P 202) (V 1)) (hzRI : RI (P 202)) (hzLN : LN κ ln) (hk_this : κ this = 1) (hp0 : (0 ≤ p0.toInt ∧ p0.toInt ≤ 6)) (hp1 : (0 ≤ p1.toInt ∧ p1.toInt < 100)) (hp2 : (0 ≤ p2.toInt ∧ p2.toInt < 100)) : wp (f_X0_collide G P U V X O kd ln cnt this p0 p1 p2) (QC_X0_collide κ wd G P U V X O kd ln cnt this p0 p1 p2) := by
  unfold f_X0_collide
  have zkm1 : (-1 : Int32).toInt = -1 := by decide +kernel
  have zk0 : (0 : Int32).toInt = 0 := by decide +kernel
  have zk1 : (1 : Int32).toInt = 1 := by decide +kernel
  have r_p0 := i32r p0
  have r_p1 := i32r p1
  have r_p2 := i32r p2
  obtain ⟨r3, hc3, hq3⟩ := ok_X0_formsAt κ wd G P U V X O kd ln cnt this p0 p1 hzP1 hzP5 hzO1 hzLN hk_this (show (0 ≤ p0.toInt ∧ p0.toInt ≤ 6) from by omega) (show (0 ≤ p1.toInt ∧ p1.toInt < 100) from by omega)
  have hk1 : κ r3 = 11 := hq3
  refine wp_b1 hc3 ?_
  clear hc3
  obtain ⟨r11, hc11, hq11⟩ := ok_X0_formsAt κ wd G P U V X O kd ln cnt this p0 p2 hzP1 hzP5 hzO1 hzLN hk_this (show (0 ≤ p0.toInt ∧ p0.toInt ≤ 6) from by omega) (show (0 ≤ p2.toInt ∧ p2.toInt < 100) from by omega)
  have hk2 : κ r11 = 11 := hq11
  refine wp_b1 hc11 ?_
  clear hc11
  have lp19 : ∀ (n19 : Nat) (y19_6 : Int32), (100 - y19_6.toInt).toNat < n19 → (0 ≤ y19_6.toInt ∧ y19_6.toInt ≤ 100) → wp (L_X0_collide_19 G P U V X O kd ln cnt r3 r11 n19 y19_6) (QC_X0_collide κ wd G P U V X O kd ln cnt this p0 p1 p2) := by
    intro n19
    induction n19 with
    | zero => intro y19_6 hm; exact absurd hm (Nat.not_lt_zero _)
    | succ n19 ih19 =>
      intro y19_6 hm19 f3
      show wp (B_X0_collide_19 G P U V X O kd ln cnt r3 r11 (L_X0_collide_19 G P U V X O kd ln cnt r3 r11 n19) y19_6) _
      unfold B_X0_collide_19
      have b4 := hzG203 r3
      refine wp_ite (fun c26 => ?_) (fun c26 => ?_)
      · have c26 := (z_le _ _).mp c26
        exact ⟨_, rfl, (show 0 ≤ (0 : Int32).toInt ∧ (0 : Int32).toInt ≤ 1 from ⟨by omega, by omega⟩)⟩
      · have c26 := z_nle c26
        refine wp_nn ((hzP201 r3).1 hk1) (fun a33 hn_a33 => ?_)
        have hk_a33 := ((hzP201 r3).2 a33 hn_a33).1
        have hl1_a33 := ((hzP201 r3).2 a33 hn_a33).2.1
        have hl2_a33 := ((hzP201 r3).2 a33 hn_a33).2.2.1
        have hw_a33 := ((hzP201 r3).2 a33 hn_a33).2.2.2
        have hz_a33 : (Int32.ofNat (ln a33)).toInt = ((ln a33 : Nat) : Int) := ofN_eq (by first | exact Nat.le_trans hl2_a33 (by decide) | omega)
        have b5 := hzG200 r3
        have f6 := zmw (x := y19_6) (y := ((G 200) r3)) (by omega) (by omega) (by omega) (by omega)
        refine wp_nn ((hzP202 r3).1 hk1) (fun a46 hn_a46 => ?_)
        have hk_a46 := ((hzP202 r3).2 a46 hn_a46).1
        have hl1_a46 := ((hzP202 r3).2 a46 hn_a46).2.1
        have hl2_a46 := ((hzP202 r3).2 a46 hn_a46).2.2.1
        have hw_a46 := ((hzP202 r3).2 a46 hn_a46).2.2.2
        have hz_a46 : (Int32.ofNat (ln a46)).toInt = ((ln a46 : Nat) : Int) := ofN_eq (by first | exact Nat.le_trans hl2_a46 (by decide) | omega)
        have rb7 := (hzRB r3 a46 hk1 hn_a46).1
        have ra8 := hzRA r3 a33 a46 hk1 hn_a33 hn_a46
        have bw9 := hzG200 r3
        refine wp_if ⟨by omega, by omega⟩ ?_
        have b10 := hzV1 a46 (Int32.toNatClampNeg y19_6)
        have rl11 := (hzRB r3 a46 hk1 hn_a46).2 (Int32.toNatClampNeg y19_6)
        obtain ⟨r52, hc52, hq52⟩ := ok_X10_find κ wd G P U V X O kd ln cnt r11 a33 (y19_6 * ((G 200) r3)) (((V 1) a46) (Int32.toNatClampNeg y19_6)) hzG200 hzG203 hzP201 hzP202 hzV1 hzRA hzRB hzRI hzLN hk2 hk_a33
        obtain ⟨f12, f13⟩ : (((-1) ≤ r52.toInt ∧ r52.toInt < 100)) ∧ ((r52.toInt = -1 ∨ r52.toInt < ((G 203) r11).toInt)) := hq52
        refine wp_b1 hc52 ?_
        clear hc52
        refine wp_ite (fun c56 => ?_) (fun c56 => ?_)
        · have c56 := congrArg Int32.toInt c56
          have f14 : (y19_6 + 1).toInt = y19_6.toInt + (1) := z_addc (by decide +kernel) (by omega) (by omega)
          exact ih19 (y19_6 + 1) (show (100 - (y19_6 + 1).toInt).toNat < n19 from by omega) (show (0 ≤ (y19_6 + 1).toInt ∧ (y19_6 + 1).toInt ≤ 100) from by omega)
        · have c56 := z_ne c56
          exact ⟨_, rfl, (show 0 ≤ (1 : Int32).toInt ∧ (1 : Int32).toInt ≤ 1 from ⟨by omega, by omega⟩)⟩
  exact lp19 NN (0 : Int32) (by have := NN_eq; omega) (show (0 ≤ (0 : Int32).toInt ∧ (0 : Int32).toInt ≤ 100) from by omega)
abbrev QC_X0_formsRhyme (κ : Nat → Nat) (wd : Nat) (G : Nat → Nat → Int32) (P : Nat → Nat → Option Nat) (U : Nat → Nat → Int64) (V : Nat → Nat → Nat → Int32) (X : Nat → Nat → Nat → Int64) (O : Nat → Nat → Nat → Option Nat) (kd : Nat → Nat) (ln : Nat → Nat) (cnt : Nat) (this : Nat) (p0 : Int32) (p1 : Int32) (p2 : Int32) : (Int32) → Prop := (fun t => ((0 ≤ t.toInt ∧ t.toInt ≤ 1)))
set_option maxHeartbeats 4000000 in
set_option maxRecDepth 100000 in
theorem ok_X0_formsRhyme (κ : Nat → Nat) (wd : Nat) (G : Nat → Nat → Int32) (P : Nat → Nat → Option Nat) (U : Nat → Nat → Int64) (V : Nat → Nat → Nat → Int32) (X : Nat → Nat → Nat → Int64) (O : Nat → Nat → Nat → Option Nat) (kd : Nat → Nat) (ln : Nat → Nat) (cnt : Nat) (this : Nat) (p0 : Int32) (p1 : Int32) (p2 : Int32) (hzG200 : rng (0) 24 (G 200)) (hzG203 : rng (0) 100 (G 203)) (hzP1 : PB κ ln wd 1 301 700 700 0 (P 1)) (hzP5 : PB κ ln wd 1 11 0 2500 0 (P 5)) (hzP201 : PB κ ln wd 11 100 0 2400 0 (P 201)) (hzP202 : PB κ ln wd 11 101 0 100 0 (P 202)) (hzV1 : rng2 (0) 24 (V 1)) (hzO1 : OB κ 11 (O 1)) (hzRA : RA κ ln (G 200) (P 201) (P 202)) (hzRB : RB κ ln (G 200) (G 203) (P 202) (V 1)) (hzRI : RI (P 202)) (hzLN : LN κ ln) (hk_this : κ this = 1) (hp0 : (0 ≤ p0.toInt ∧ p0.toInt ≤ 6)) (hp1 : (0 ≤ p1.toInt ∧ p1.toInt < 100)) (hp2 : (0 ≤ p2.toInt ∧ p2.toInt < 100)) : wp (f_X0_formsRhyme G P U V X O kd ln cnt this p0 p1 p2) (QC_X0_formsRhyme κ wd G P U V X O kd ln cnt this p0 p1 p2) := by
  unfold f_X0_formsRhyme
  have zk0 : (0 : Int32).toInt = 0 := by decide +kernel
  have zk1 : (1 : Int32).toInt = 1 := by decide +kernel
  have r_p0 := i32r p0
  have r_p1 := i32r p1
  have r_p2 := i32r p2
  obtain ⟨r3, hc3, hq3⟩ := ok_X0_formsAt κ wd G P U V X O kd ln cnt this p0 p1 hzP1 hzP5 hzO1 hzLN hk_this (show (0 ≤ p0.toInt ∧ p0.toInt ≤ 6) from by omega) (show (0 ≤ p1.toInt ∧ p1.toInt < 100) from by omega)
  have hk1 : κ r3 = 11 := hq3
  refine wp_b1 hc3 ?_
  clear hc3
  obtain ⟨r11, hc11, hq11⟩ := ok_X0_formsAt κ wd G P U V X O kd ln cnt this p0 p2 hzP1 hzP5 hzO1 hzLN hk_this (show (0 ≤ p0.toInt ∧ p0.toInt ≤ 6) from by omega) (show (0 ≤ p2.toInt ∧ p2.toInt < 100) from by omega)
  have hk2 : κ r11 = 11 := hq11
  refine wp_b1 hc11 ?_
  clear hc11
  have lp19 : ∀ (n19 : Nat) (y19_6 : Int32), (100 - y19_6.toInt).toNat < n19 → (0 ≤ y19_6.toInt ∧ y19_6.toInt ≤ 100) → wp (L_X0_formsRhyme_19 G P U V X O kd ln cnt r3 r11 n19 y19_6) (QC_X0_formsRhyme κ wd G P U V X O kd ln cnt this p0 p1 p2) := by
    intro n19
    induction n19 with
    | zero => intro y19_6 hm; exact absurd hm (Nat.not_lt_zero _)
    | succ n19 ih19 =>
      intro y19_6 hm19 f3
      show wp (B_X0_formsRhyme_19 G P U V X O kd ln cnt r3 r11 (L_X0_formsRhyme_19 G P U V X O kd ln cnt r3 r11 n19) y19_6) _
      unfold B_X0_formsRhyme_19
      have b4 := hzG203 r3
      refine wp_ite (fun c26 => ?_) (fun c26 => ?_)
      · have c26 := (z_le _ _).mp c26
        exact ⟨_, rfl, (show 0 ≤ (0 : Int32).toInt ∧ (0 : Int32).toInt ≤ 1 from ⟨by omega, by omega⟩)⟩
      · have c26 := z_nle c26
        refine wp_jn (fun k64 => wp (k64 ()) (QC_X0_formsRhyme κ wd G P U V X O kd ln cnt this p0 p1 p2)) ?_ ?_
        · show wp _ _
          have f5 : (y19_6 + 1).toInt = y19_6.toInt + (1) := z_addc (by decide +kernel) (by omega) (by omega)
          exact ih19 (y19_6 + 1) (show (100 - (y19_6 + 1).toInt).toNat < n19 from by omega) (show (0 ≤ (y19_6 + 1).toInt ∧ (y19_6 + 1).toInt ≤ 100) from by omega)
        intro k64 Jk64
        have lp32 : ∀ (n32 : Nat) (y32_7 : Int32), (100 - y32_7.toInt).toNat < n32 → (0 ≤ y32_7.toInt ∧ y32_7.toInt ≤ 100) → wp (L_X0_formsRhyme_32 G P U V X O kd ln cnt r3 r11 y19_6 k64 n32 y32_7) (QC_X0_formsRhyme κ wd G P U V X O kd ln cnt this p0 p1 p2) := by
          intro n32
          induction n32 with
          | zero => intro y32_7 hm; exact absurd hm (Nat.not_lt_zero _)
          | succ n32 ih32 =>
            intro y32_7 hm32 f6
            show wp (B_X0_formsRhyme_32 G P U V X O kd ln cnt r3 r11 y19_6 k64 (L_X0_formsRhyme_32 G P U V X O kd ln cnt r3 r11 y19_6 k64 n32) y32_7) _
            unfold B_X0_formsRhyme_32
            have b7 := hzG203 r11
            refine wp_ite (fun c39 => ?_) (fun c39 => ?_)
            · have c39 := (z_le _ _).mp c39
              exact Jk64
            · have c39 := z_nle c39
              obtain ⟨r50, hc50, hq50⟩ := ok_X10_endsAlike κ wd G P U V X O kd ln cnt r3 y19_6 r11 y32_7 hzG200 hzG203 hzP201 hzP202 hzV1 hzRA hzRB hzRI hzLN hk1 hk2 (show (0 ≤ y19_6.toInt ∧ y19_6.toInt < ((G 203) r3).toInt) from by omega) (show (0 ≤ y32_7.toInt ∧ y32_7.toInt < ((G 203) r11).toInt) from by omega)
              have f8 : (0 ≤ r50.toInt ∧ r50.toInt ≤ 1) := hq50
              refine wp_b1 hc50 ?_
              clear hc50
              refine wp_ite (fun c53 => ?_) (fun c53 => ?_)
              · have c53 := congrArg Int32.toInt c53
                have f9 : (y32_7 + 1).toInt = y32_7.toInt + (1) := z_addc (by decide +kernel) (by omega) (by omega)
                exact ih32 (y32_7 + 1) (show (100 - (y32_7 + 1).toInt).toNat < n32 from by omega) (show (0 ≤ (y32_7 + 1).toInt ∧ (y32_7 + 1).toInt ≤ 100) from by omega)
              · have c53 := z_ne c53
                exact ⟨_, rfl, (show 0 ≤ (1 : Int32).toInt ∧ (1 : Int32).toInt ≤ 1 from ⟨by omega, by omega⟩)⟩
        exact lp32 NN (0 : Int32) (by have := NN_eq; omega) (show (0 ≤ (0 : Int32).toInt ∧ (0 : Int32).toInt ≤ 100) from by omega)
  exact lp19 NN (0 : Int32) (by have := NN_eq; omega) (show (0 ≤ (0 : Int32).toInt ∧ (0 : Int32).toInt ≤ 100) from by omega)
abbrev QC_X0_hasForm (κ : Nat → Nat) (wd : Nat) (G : Nat → Nat → Int32) (P : Nat → Nat → Option Nat) (U : Nat → Nat → Int64) (V : Nat → Nat → Nat → Int32) (X : Nat → Nat → Nat → Int64) (O : Nat → Nat → Nat → Option Nat) (kd : Nat → Nat) (ln : Nat → Nat) (cnt : Nat) (this : Nat) (p0 : Int32) (p1 : Nat) (p2 : Int32) (p3 : Int32) : (Int32) → Prop := (fun t => ((0 ≤ t.toInt ∧ t.toInt ≤ 1)))
set_option maxHeartbeats 4000000 in
set_option maxRecDepth 100000 in
theorem ok_X0_hasForm (κ : Nat → Nat) (wd : Nat) (G : Nat → Nat → Int32) (P : Nat → Nat → Option Nat) (U : Nat → Nat → Int64) (V : Nat → Nat → Nat → Int32) (X : Nat → Nat → Nat → Int64) (O : Nat → Nat → Nat → Option Nat) (kd : Nat → Nat) (ln : Nat → Nat) (cnt : Nat) (this : Nat) (p0 : Int32) (p1 : Nat) (p2 : Int32) (p3 : Int32) (hzG200 : rng (0) 24 (G 200)) (hzG203 : rng (0) 100 (G 203)) (hzP0 : PB κ ln wd 1 11 0 2500 0 (P 0)) (hzP1 : PB κ ln wd 1 301 700 700 0 (P 1)) (hzP5 : PB κ ln wd 1 11 0 2500 0 (P 5)) (hzP201 : PB κ ln wd 11 100 0 2400 0 (P 201)) (hzP202 : PB κ ln wd 11 101 0 100 0 (P 202)) (hzV1 : rng2 (0) 24 (V 1)) (hzO1 : OB κ 11 (O 1)) (hzRA : RA κ ln (G 200) (P 201) (P 202)) (hzRB : RB κ ln (G 200) (G 203) (P 202) (V 1)) (hzRI : RI (P 202)) (hzLN : LN κ ln) (hzW0 : W0 wd (P 0)) (hk_this : κ this = 1) (hk_p1 : κ p1 = 100) (hp0 : (0 ≤ p0.toInt ∧ p0.toInt ≤ 6)) : wp (f_X0_hasForm G P U V X O kd ln cnt this p0 p1 p2 p3) (QC_X0_hasForm κ wd G P U V X O kd ln cnt this p0 p1 p2 p3) := by
  unfold f_X0_hasForm
  have zkm1 : (-1 : Int32).toInt = -1 := by decide +kernel
  have zk0 : (0 : Int32).toInt = 0 := by decide +kernel
  have zk1 : (1 : Int32).toInt = 1 := by decide +kernel
  have r_p0 := i32r p0
  have r_p2 := i32r p2
  have r_p3 := i32r p3
  have lp3 : ∀ (n3 : Nat) (y3_5 : Int32), (100 - y3_5.toInt).toNat < n3 → (0 ≤ y3_5.toInt ∧ y3_5.toInt ≤ 100) → wp (L_X0_hasForm_3 G P U V X O kd ln cnt this p0 p1 p2 p3 n3 y3_5) (QC_X0_hasForm κ wd G P U V X O kd ln cnt this p0 p1 p2 p3) := by
    intro n3
    induction n3 with
    | zero => intro y3_5 hm; exact absurd hm (Nat.not_lt_zero _)
    | succ n3 ih3 =>
      intro y3_5 hm3 f1
      show wp (B_X0_hasForm_3 G P U V X O kd ln cnt this p0 p1 p2 p3 (L_X0_hasForm_3 G P U V X O kd ln cnt this p0 p1 p2 p3 n3) y3_5) _
      unfold B_X0_hasForm_3
      refine wp_nn ((hzP0 this).1 hk_this) (fun a6 hn_a6 => ?_)
      obtain rfl : wd = a6 := (hzW0 _ _ hn_a6).symm
      have hk_wd := ((hzP0 this).2 wd hn_a6).1
      have hl1_wd := ((hzP0 this).2 wd hn_a6).2.1
      have hl2_wd := ((hzP0 this).2 wd hn_a6).2.2.1
      have hw_wd := ((hzP0 this).2 wd hn_a6).2.2.2
      have b2 := hzG203 wd
      refine wp_ite (fun c12 => ?_) (fun c12 => ?_)
      · have c12 := (z_le _ _).mp c12
        exact ⟨_, rfl, (show 0 ≤ (0 : Int32).toInt ∧ (0 : Int32).toInt ≤ 1 from ⟨by omega, by omega⟩)⟩
      · have c12 := z_nle c12
        obtain ⟨r19, hc19, hq19⟩ := ok_X0_formsAt κ wd G P U V X O kd ln cnt this p0 y3_5 hzP1 hzP5 hzO1 hzLN hk_this (show (0 ≤ p0.toInt ∧ p0.toInt ≤ 6) from by omega) (show (0 ≤ y3_5.toInt ∧ y3_5.toInt < 100) from by omega)
        have hk3 : κ r19 = 11 := hq19
        refine wp_b1 hc19 ?_
        clear hc19
        obtain ⟨r26, hc26, hq26⟩ := ok_X10_find κ wd G P U V X O kd ln cnt r19 p1 p2 p3 hzG200 hzG203 hzP201 hzP202 hzV1 hzRA hzRB hzRI hzLN hk3 hk_p1
        obtain ⟨f4, f5⟩ : (((-1) ≤ r26.toInt ∧ r26.toInt < 100)) ∧ ((r26.toInt = -1 ∨ r26.toInt < ((G 203) r19).toInt)) := hq26
        refine wp_b1 hc26 ?_
        clear hc26
        refine wp_ite (fun c30 => ?_) (fun c30 => ?_)
        · have c30 := congrArg Int32.toInt c30
          have f6 : (y3_5 + 1).toInt = y3_5.toInt + (1) := z_addc (by decide +kernel) (by omega) (by omega)
          exact ih3 (y3_5 + 1) (show (100 - (y3_5 + 1).toInt).toNat < n3 from by omega) (show (0 ≤ (y3_5 + 1).toInt ∧ (y3_5 + 1).toInt ≤ 100) from by omega)
        · have c30 := z_ne c30
          exact ⟨_, rfl, (show 0 ≤ (1 : Int32).toInt ∧ (1 : Int32).toInt ≤ 1 from ⟨by omega, by omega⟩)⟩
  exact lp3 NN (0 : Int32) (by have := NN_eq; omega) (show (0 ≤ (0 : Int32).toInt ∧ (0 : Int32).toInt ≤ 100) from by omega)
abbrev QC_X0_isSuch (κ : Nat → Nat) (wd : Nat) (G : Nat → Nat → Int32) (P : Nat → Nat → Option Nat) (U : Nat → Nat → Int64) (V : Nat → Nat → Nat → Int32) (X : Nat → Nat → Nat → Int64) (O : Nat → Nat → Nat → Option Nat) (kd : Nat → Nat) (ln : Nat → Nat) (cnt : Nat) (this : Nat) (p0 : Int32) (p1 : Int32) (p2 : Int32) : (Int32) → Prop := (fun t => ((0 ≤ t.toInt ∧ t.toInt ≤ 1)))
set_option maxHeartbeats 4000000 in
set_option maxRecDepth 100000 in
theorem ok_X0_isSuch (κ : Nat → Nat) (wd : Nat) (G : Nat → Nat → Int32) (P : Nat → Nat → Option Nat) (U : Nat → Nat → Int64) (V : Nat → Nat → Nat → Int32) (X : Nat → Nat → Nat → Int64) (O : Nat → Nat → Nat → Option Nat) (kd : Nat → Nat) (ln : Nat → Nat) (cnt : Nat) (this : Nat) (p0 : Int32) (p1 : Int32) (p2 : Int32) (hzG200 : rng (0) 24 (G 200)) (hzG203 : rng (0) 100 (G 203)) (hzP0 : PB κ ln wd 1 11 0 2500 0 (P 0)) (hzP1 : PB κ ln wd 1 301 700 700 0 (P 1)) (hzP5 : PB κ ln wd 1 11 0 2500 0 (P 5)) (hzP201 : PB κ ln wd 11 100 0 2400 0 (P 201)) (hzP202 : PB κ ln wd 11 101 0 100 0 (P 202)) (hzV1 : rng2 (0) 24 (V 1)) (hzO1 : OB κ 11 (O 1)) (hzRA : RA κ ln (G 200) (P 201) (P 202)) (hzRB : RB κ ln (G 200) (G 203) (P 202) (V 1)) (hzRI : RI (P 202)) (hzLN : LN κ ln) (hzW0 : W0 wd (P 0)) (hk_this : κ this = 1) (hp0 : (0 ≤ p0.toInt ∧ p0.toInt ≤ 6)) (hp1 : (0 ≤ p1.toInt ∧ p1.toInt < ((G 203) wd).toInt)) : wp (f_X0_isSuch G P U V X O kd ln cnt this p0 p1 p2) (QC_X0_isSuch κ wd G P U V X O kd ln cnt this p0 p1 p2) := by
  unfold f_X0_isSuch
  have zkm1 : (-1 : Int32).toInt = -1 := by decide +kernel
  have zk0 : (0 : Int32).toInt = 0 := by decide +kernel
  have zk1 : (1 : Int32).toInt = 1 := by decide +kernel
  have r_p0 := i32r p0
  have r_p1 := i32r p1
  have r_p2 := i32r p2
  have hbw := hzG203 wd
  obtain ⟨r3, hc3, hq3⟩ := ok_X0_formsAt κ wd G P U V X O kd ln cnt this p0 p1 hzP1 hzP5 hzO1 hzLN hk_this (show (0 ≤ p0.toInt ∧ p0.toInt ≤ 6) from by omega) (show (0 ≤ p1.toInt ∧ p1.toInt < 100) from by omega)
  have hk1 : κ r3 = 11 := hq3
  refine wp_b1 hc3 ?_
  clear hc3
  refine wp_ite (fun c9_0 => ?_) (fun c9_0 => ?_)
  · have c9_0 := congrArg Int32.toInt c9_0
    have b2 := hzG203 r3
    refine wp_jn (fun j50 => ∀ (t50_0 : Int32), (0 ≤ t50_0.toInt ∧ t50_0.toInt ≤ 1) → wp (j50 t50_0) (QC_X0_isSuch κ wd G P U V X O kd ln cnt this p0 p1 p2)) ?_ ?_
    · intro t50_0 f3
      show wp _ _
      refine wp_if ⟨by omega, by omega⟩ ?_
      exact ⟨_, rfl, (show 0 ≤ t50_0.toInt ∧ t50_0.toInt ≤ 1 from ⟨by omega, by omega⟩)⟩
    intro j50 Jj50
    refine wp_ite (fun c42 => ?_) (fun c42 => ?_)
    · have c42 := (z_le _ _).mp c42
      exact Jj50 (0 : Int32) (show (0 ≤ (0 : Int32).toInt ∧ (0 : Int32).toInt ≤ 1) from by omega)
    · have c42 := z_nle c42
      exact Jj50 (1 : Int32) (show (0 ≤ (1 : Int32).toInt ∧ (1 : Int32).toInt ≤ 1) from by omega)
  · have c9_0 := z_ne c9_0
    refine wp_ite (fun c9_1 => ?_) (fun c9_1 => ?_)
    · have c9_1 := congrArg Int32.toInt c9_1
      have b4 := hzG203 r3
      refine wp_jn (fun j64 => ∀ (t64_0 : Int32), (0 ≤ t64_0.toInt ∧ t64_0.toInt ≤ 1) → wp (j64 t64_0) (QC_X0_isSuch κ wd G P U V X O kd ln cnt this p0 p1 p2)) ?_ ?_
      · intro t64_0 f5
        show wp _ _
        refine wp_if ⟨by omega, by omega⟩ ?_
        exact ⟨_, rfl, (show 0 ≤ t64_0.toInt ∧ t64_0.toInt ≤ 1 from ⟨by omega, by omega⟩)⟩
      intro j64 Jj64
      refine wp_ite (fun c56 => ?_) (fun c56 => ?_)
      · have c56 := congrArg Int32.toInt c56
        exact Jj64 (1 : Int32) (show (0 ≤ (1 : Int32).toInt ∧ (1 : Int32).toInt ≤ 1) from by omega)
      · have c56 := z_ne c56
        exact Jj64 (0 : Int32) (show (0 ≤ (0 : Int32).toInt ∧ (0 : Int32).toInt ≤ 1) from by omega)
    · have c9_1 := z_ne c9_1
      have b6 := hzG203 r3
      refine wp_jn (fun j113 => ∀ (t113_0 : Int32), (0 ≤ t113_0.toInt ∧ t113_0.toInt ≤ 1) → wp (j113 t113_0) (QC_X0_isSuch κ wd G P U V X O kd ln cnt this p0 p1 p2)) ?_ ?_
      · intro t113_0 f7
        show wp _ _
        refine wp_if ⟨by omega, by omega⟩ ?_
        exact ⟨_, rfl, (show 0 ≤ t113_0.toInt ∧ t113_0.toInt ≤ 1 from ⟨by omega, by omega⟩)⟩
      intro j113 Jj113
      refine wp_jn (fun j112 => wp (j112 ()) (QC_X0_isSuch κ wd G P U V X O kd ln cnt this p0 p1 p2)) ?_ ?_
      · show wp _ _
        exact Jj113 (0 : Int32) (show (0 ≤ (0 : Int32).toInt ∧ (0 : Int32).toInt ≤ 1) from by omega)
      intro j112 Jj112
      refine wp_ite (fun c71 => ?_) (fun c71 => ?_)
      · have c71 := congrArg Int32.toInt c71
        refine wp_nn ((hzP0 this).1 hk_this) (fun a77 hn_a77 => ?_)
        obtain rfl : wd = a77 := (hzW0 _ _ hn_a77).symm
        have hk_wd := ((hzP0 this).2 wd hn_a77).1
        have hl1_wd := ((hzP0 this).2 wd hn_a77).2.1
        have hl2_wd := ((hzP0 this).2 wd hn_a77).2.2.1
        have hw_wd := ((hzP0 this).2 wd hn_a77).2.2.2
        refine wp_nn ((hzP201 wd).1 hk_wd) (fun a80 hn_a80 => ?_)
        have hk_a80 := ((hzP201 wd).2 a80 hn_a80).1
        have hl1_a80 := ((hzP201 wd).2 a80 hn_a80).2.1
        have hl2_a80 := ((hzP201 wd).2 a80 hn_a80).2.2.1
        have hw_a80 := ((hzP201 wd).2 a80 hn_a80).2.2.2
        have hz_a80 : (Int32.ofNat (ln a80)).toInt = ((ln a80 : Nat) : Int) := ofN_eq (by first | exact Nat.le_trans hl2_a80 (by decide) | omega)
        refine wp_nne hn_a77 ?_
        have b8 := hzG200 wd
        have f9 := zmw (x := p1) (y := ((G 200) wd)) (by omega) (by omega) (by omega) (by omega)
        refine wp_nne hn_a77 ?_
        refine wp_nn ((hzP202 wd).1 hk_wd) (fun a96 hn_a96 => ?_)
        have hk_a96 := ((hzP202 wd).2 a96 hn_a96).1
        have hl1_a96 := ((hzP202 wd).2 a96 hn_a96).2.1
        have hl2_a96 := ((hzP202 wd).2 a96 hn_a96).2.2.1
        have hw_a96 := ((hzP202 wd).2 a96 hn_a96).2.2.2
        have hz_a96 : (Int32.ofNat (ln a96)).toInt = ((ln a96 : Nat) : Int) := ofN_eq (by first | exact Nat.le_trans hl2_a96 (by decide) | omega)
        have rb10 := (hzRB wd a96 hk_wd hn_a96).1
        have ra11 := hzRA wd a80 a96 hk_wd hn_a80 hn_a96
        have bw12 := hzG200 wd
        refine wp_if ⟨by omega, by omega⟩ ?_
        have b13 := hzV1 a96 (Int32.toNatClampNeg p1)
        have rl14 := (hzRB wd a96 hk_wd hn_a96).2 (Int32.toNatClampNeg p1)
        obtain ⟨r101, hc101, hq101⟩ := ok_X10_find κ wd G P U V X O kd ln cnt r3 a80 (p1 * ((G 200) wd)) (((V 1) a96) (Int32.toNatClampNeg p1)) hzG200 hzG203 hzP201 hzP202 hzV1 hzRA hzRB hzRI hzLN hk1 hk_a80
        obtain ⟨f15, f16⟩ : (((-1) ≤ r101.toInt ∧ r101.toInt < 100)) ∧ ((r101.toInt = -1 ∨ r101.toInt < ((G 203) r3).toInt)) := hq101
        refine wp_b1 hc101 ?_
        clear hc101
        refine wp_ite (fun c105 => ?_) (fun c105 => ?_)
        · have c105 := congrArg Int32.toInt c105
          exact Jj112
        · have c105 := z_ne c105
          exact Jj113 (1 : Int32) (show (0 ≤ (1 : Int32).toInt ∧ (1 : Int32).toInt ≤ 1) from by omega)
      · have c71 := z_ne c71
        exact Jj112
abbrev QC_X0_usesLaw (κ : Nat → Nat) (wd : Nat) (G : Nat → Nat → Int32) (P : Nat → Nat → Option Nat) (U : Nat → Nat → Int64) (V : Nat → Nat → Nat → Int32) (X : Nat → Nat → Nat → Int64) (O : Nat → Nat → Nat → Option Nat) (kd : Nat → Nat) (ln : Nat → Nat) (cnt : Nat) (this : Nat) (p0 : Int32) (p1 : Int32) (p2 : Int32) : (Int32) → Prop := (fun t => ((0 ≤ t.toInt ∧ t.toInt ≤ 1)))
set_option maxHeartbeats 4000000 in
set_option maxRecDepth 100000 in
theorem ok_X0_usesLaw (κ : Nat → Nat) (wd : Nat) (G : Nat → Nat → Int32) (P : Nat → Nat → Option Nat) (U : Nat → Nat → Int64) (V : Nat → Nat → Nat → Int32) (X : Nat → Nat → Nat → Int64) (O : Nat → Nat → Nat → Option Nat) (kd : Nat → Nat) (ln : Nat → Nat) (cnt : Nat) (this : Nat) (p0 : Int32) (p1 : Int32) (p2 : Int32) (hzP2 : PB κ ln wd 1 201 600 600 0 (P 2)) (hzLN : LN κ ln) (hk_this : κ this = 1) (hp0 : (0 ≤ p0.toInt ∧ p0.toInt ≤ 5)) (hp1 : (0 ≤ p1.toInt ∧ p1.toInt < 100)) : wp (f_X0_usesLaw G P U V X O kd ln cnt this p0 p1 p2) (QC_X0_usesLaw κ wd G P U V X O kd ln cnt this p0 p1 p2) := by
  unfold f_X0_usesLaw
  have zk0 : (0 : Int32).toInt = 0 := by decide +kernel
  have zk1 : (1 : Int32).toInt = 1 := by decide +kernel
  have zk100 : (100 : Int32).toInt = 100 := by decide +kernel
  have r_p0 := i32r p0
  have r_p1 := i32r p1
  have r_p2 := i32r p2
  refine wp_nn ((hzP2 this).1 hk_this) (fun a1 hn_a1 => ?_)
  have hk_a1 := ((hzP2 this).2 a1 hn_a1).1
  have hl1_a1 := ((hzP2 this).2 a1 hn_a1).2.1
  have hl2_a1 := ((hzP2 this).2 a1 hn_a1).2.2.1
  have hw_a1 := ((hzP2 this).2 a1 hn_a1).2.2.2
  have hz_a1 : (Int32.ofNat (ln a1)).toInt = ((ln a1 : Nat) : Int) := ofN_eq (by first | exact Nat.le_trans hl2_a1 (by decide) | omega)
  have f1 : (p0 * 100).toInt = p0.toInt * 100 := z_mulc (by decide +kernel) (by omega) (by omega)
  have f2 : ((p0 * 100) + p1).toInt = (p0 * 100).toInt + p1.toInt := z_add (by omega) (by omega)
  refine wp_if ⟨by omega, by omega⟩ ?_
  refine wp_jn (fun j25 => ∀ (t25_0 : Int32), (0 ≤ t25_0.toInt ∧ t25_0.toInt ≤ 1) → wp (j25 t25_0) (QC_X0_usesLaw κ wd G P U V X O kd ln cnt this p0 p1 p2)) ?_ ?_
  · intro t25_0 f3
    show wp _ _
    refine wp_if ⟨by omega, by omega⟩ ?_
    exact ⟨_, rfl, (show 0 ≤ t25_0.toInt ∧ t25_0.toInt ≤ 1 from ⟨by omega, by omega⟩)⟩
  intro j25 Jj25
  refine wp_ite (fun c17 => ?_) (fun c17 => ?_)
  · have c17 := congrArg Int32.toInt c17
    exact Jj25 (1 : Int32) (show (0 ≤ (1 : Int32).toInt ∧ (1 : Int32).toInt ≤ 1) from by omega)
  · have c17 := z_ne c17
    exact Jj25 (0 : Int32) (show (0 ≤ (0 : Int32).toInt ∧ (0 : Int32).toInt ≤ 1) from by omega)
abbrev QC_X11_isStage (κ : Nat → Nat) (wd : Nat) (G : Nat → Nat → Int32) (P : Nat → Nat → Option Nat) (U : Nat → Nat → Int64) (V : Nat → Nat → Nat → Int32) (X : Nat → Nat → Nat → Int64) (O : Nat → Nat → Nat → Option Nat) (kd : Nat → Nat) (ln : Nat → Nat) (cnt : Nat) (this : Nat) (p0 : Int32) : (Int32) → Prop := (fun t => ((0 ≤ t.toInt ∧ t.toInt ≤ 1)) ∧ ((t.toInt = 1 → 0 ≤ p0.toInt ∧ p0.toInt ≤ ((G 222) this).toInt)))
set_option maxHeartbeats 4000000 in
set_option maxRecDepth 100000 in
theorem ok_X11_isStage (κ : Nat → Nat) (wd : Nat) (G : Nat → Nat → Int32) (P : Nat → Nat → Option Nat) (U : Nat → Nat → Int64) (V : Nat → Nat → Nat → Int32) (X : Nat → Nat → Nat → Int64) (O : Nat → Nat → Nat → Option Nat) (kd : Nat → Nat) (ln : Nat → Nat) (cnt : Nat) (this : Nat) (p0 : Int32) (hzG222 : rng (0) 6 (G 222)) (hzLN : LN κ ln) (hk_this : κ this = 12) : wp (f_X11_isStage G P U V X O kd ln cnt this p0) (QC_X11_isStage κ wd G P U V X O kd ln cnt this p0) := by
  unfold f_X11_isStage
  have zk0 : (0 : Int32).toInt = 0 := by decide +kernel
  have zk1 : (1 : Int32).toInt = 1 := by decide +kernel
  have r_p0 := i32r p0
  refine wp_jn (fun j17 => ∀ (t17_0 : Int32), (0 ≤ t17_0.toInt ∧ t17_0.toInt ≤ 1) → (t17_0.toInt = 1 → 0 ≤ p0.toInt ∧ p0.toInt ≤ ((G 222) this).toInt) → wp (j17 t17_0) (QC_X11_isStage κ wd G P U V X O kd ln cnt this p0)) ?_ ?_
  · intro t17_0 f1 f2
    show wp _ _
    refine wp_if ⟨by omega, by omega⟩ ?_
    exact ⟨_, rfl, ⟨(show 0 ≤ t17_0.toInt ∧ t17_0.toInt ≤ 1 from ⟨by omega, by omega⟩), (show (t17_0.toInt = 1 → 0 ≤ p0.toInt ∧ p0.toInt ≤ ((G 222) this).toInt) from by omega)⟩⟩
  intro j17 Jj17
  refine wp_jn (fun j16 => wp (j16 ()) (QC_X11_isStage κ wd G P U V X O kd ln cnt this p0)) ?_ ?_
  · show wp _ _
    exact Jj17 (0 : Int32) (show (0 ≤ (0 : Int32).toInt ∧ (0 : Int32).toInt ≤ 1) from by omega) (show ((0 : Int32).toInt = 1 → 0 ≤ p0.toInt ∧ p0.toInt ≤ ((G 222) this).toInt) from by omega)
  intro j16 Jj16
  refine wp_ite (fun c1 => ?_) (fun c1 => ?_)
  · have c1 := (z_lt _ _).mp c1
    exact Jj16
  · have c1 := z_nlt c1
    have b3 := hzG222 this
    refine wp_ite (fun c9 => ?_) (fun c9 => ?_)
    · have c9 := (z_lt _ _).mp c9
      exact Jj16
    · have c9 := z_nlt c9
      exact Jj17 (1 : Int32) (show (0 ≤ (1 : Int32).toInt ∧ (1 : Int32).toInt ≤ 1) from by omega) (show ((1 : Int32).toInt = 1 → 0 ≤ p0.toInt ∧ p0.toInt ≤ ((G 222) this).toInt) from by omega)
abbrev QC_X11_areStages (κ : Nat → Nat) (wd : Nat) (G : Nat → Nat → Int32) (P : Nat → Nat → Option Nat) (U : Nat → Nat → Int64) (V : Nat → Nat → Nat → Int32) (X : Nat → Nat → Nat → Int64) (O : Nat → Nat → Nat → Option Nat) (kd : Nat → Nat) (ln : Nat → Nat) (cnt : Nat) (this : Nat) (p0 : Int32) (p1 : Int32) : (Int32) → Prop := (fun t => ((0 ≤ t.toInt ∧ t.toInt ≤ 1)))
set_option maxHeartbeats 4000000 in
set_option maxRecDepth 100000 in
theorem ok_X11_areStages (κ : Nat → Nat) (wd : Nat) (G : Nat → Nat → Int32) (P : Nat → Nat → Option Nat) (U : Nat → Nat → Int64) (V : Nat → Nat → Nat → Int32) (X : Nat → Nat → Nat → Int64) (O : Nat → Nat → Nat → Option Nat) (kd : Nat → Nat) (ln : Nat → Nat) (cnt : Nat) (this : Nat) (p0 : Int32) (p1 : Int32) (hzG222 : rng (0) 6 (G 222)) (hzLN : LN κ ln) (hk_this : κ this = 12) : wp (f_X11_areStages G P U V X O kd ln cnt this p0 p1) (QC_X11_areStages κ wd G P U V X O kd ln cnt this p0 p1) := by
  unfold f_X11_areStages
  have zk0 : (0 : Int32).toInt = 0 := by decide +kernel
  have zk1 : (1 : Int32).toInt = 1 := by decide +kernel
  have r_p0 := i32r p0
  have r_p1 := i32r p1
  obtain ⟨r2, hc2, hq2⟩ := ok_X11_isStage κ wd G P U V X O kd ln cnt this p0 hzG222 hzLN hk_this
  obtain ⟨f1, f2⟩ : ((0 ≤ r2.toInt ∧ r2.toInt ≤ 1)) ∧ ((r2.toInt = 1 → 0 ≤ p0.toInt ∧ p0.toInt ≤ ((G 222) this).toInt)) := hq2
  refine wp_b1 hc2 ?_
  clear hc2
  refine wp_jn (fun j26 => ∀ (t26_0 : Int32), (0 ≤ t26_0.toInt ∧ t26_0.toInt ≤ 1) → wp (j26 t26_0) (QC_X11_areStages κ wd G P U V X O kd ln cnt this p0 p1)) ?_ ?_
  · intro t26_0 f3
    show wp _ _
    refine wp_if ⟨by omega, by omega⟩ ?_
    exact ⟨_, rfl, (show 0 ≤ t26_0.toInt ∧ t26_0.toInt ≤ 1 from ⟨by omega, by omega⟩)⟩
  intro j26 Jj26
  refine wp_jn (fun j25 => wp (j25 ()) (QC_X11_areStages κ wd G P U V X O kd ln cnt this p0 p1)) ?_ ?_
  · show wp _ _
    exact Jj26 (0 : Int32) (show (0 ≤ (0 : Int32).toInt ∧ (0 : Int32).toInt ≤ 1) from by omega)
  intro j25 Jj25
  refine wp_ite (fun c5 => ?_) (fun c5 => ?_)
  · have c5 := congrArg Int32.toInt c5
    exact Jj25
  · have c5 := z_ne c5
    obtain ⟨r10, hc10, hq10⟩ := ok_X11_isStage κ wd G P U V X O kd ln cnt this p1 hzG222 hzLN hk_this
    obtain ⟨f4, f5⟩ : ((0 ≤ r10.toInt ∧ r10.toInt ≤ 1)) ∧ ((r10.toInt = 1 → 0 ≤ p1.toInt ∧ p1.toInt ≤ ((G 222) this).toInt)) := hq10
    refine wp_b1 hc10 ?_
    clear hc10
    refine wp_ite (fun c13 => ?_) (fun c13 => ?_)
    · have c13 := congrArg Int32.toInt c13
      exact Jj25
    · have c13 := z_ne c13
      refine wp_ite (fun c18 => ?_) (fun c18 => ?_)
      · have c18 := (z_lt _ _).mp c18
        exact Jj25
      · have c18 := z_nlt c18
        exact Jj26 (1 : Int32) (show (0 ≤ (1 : Int32).toInt ∧ (1 : Int32).toInt ≤ 1) from by omega)
abbrev QC_X2_charge (κ : Nat → Nat) (wd : Nat) (G : Nat → Nat → Int32) (P : Nat → Nat → Option Nat) (U : Nat → Nat → Int64) (V : Nat → Nat → Nat → Int32) (X : Nat → Nat → Nat → Int64) (O : Nat → Nat → Nat → Option Nat) (kd : Nat → Nat) (ln : Nat → Nat) (cnt : Nat) (this : Nat) (p0 : Int32) (p1 : Int32) : ((Nat → Nat → Int32)) → Prop := (fun t => True)
set_option maxHeartbeats 4000000 in
set_option maxRecDepth 100000 in
theorem ok_X2_charge (κ : Nat → Nat) (wd : Nat) (G : Nat → Nat → Int32) (P : Nat → Nat → Option Nat) (U : Nat → Nat → Int64) (V : Nat → Nat → Nat → Int32) (X : Nat → Nat → Nat → Int64) (O : Nat → Nat → Nat → Option Nat) (kd : Nat → Nat) (ln : Nat → Nat) (cnt : Nat) (this : Nat) (p0 : Int32) (p1 : Int32) (hzG44 : rng (0) 40 (G 44)) (hzG45 : rng (0) 7 (G 45)) (hzP40 : PB κ ln wd 3 107 280 280 0 (P 40)) (hzLN : LN κ ln) (hk_this : κ this = 3) (hp0 : 0 ≤ p0.toInt) (hp1 : 0 ≤ p1.toInt) : wp (f_X2_charge G P U V X O kd ln cnt this p0 p1) (QC_X2_charge κ wd G P U V X O kd ln cnt this p0 p1) := by
  unfold f_X2_charge
  have zk1 : (1 : Int32).toInt = 1 := by decide +kernel
  have zk7 : (7 : Int32).toInt = 7 := by decide +kernel
  have r_p0 := i32r p0
  have r_p1 := i32r p1
  have b1 := hzG44 this
  refine wp_jn (fun j31 => ∀ (c31_V7 : Nat → Nat → Int32), wp (j31 c31_V7) (QC_X2_charge κ wd G P U V X O kd ln cnt this p0 p1)) ?_ ?_
  · intro c31_V7
    show wp _ _
    exact ⟨_, rfl, trivial⟩
  intro j31 Jj31
  refine wp_ite (fun c5 => ?_) (fun c5 => ?_)
  · have c5 := (z_le _ _).mp c5
    exact Jj31 (V 7)
  · have c5 := z_nle c5
    have b2 := hzG45 this
    refine wp_ite (fun c13 => ?_) (fun c13 => ?_)
    · have c13 := (z_le _ _).mp c13
      exact Jj31 (V 7)
    · have c13 := z_nle c13
      refine wp_nn ((hzP40 this).1 hk_this) (fun a17 hn_a17 => ?_)
      have hk_a17 := ((hzP40 this).2 a17 hn_a17).1
      have hl1_a17 := ((hzP40 this).2 a17 hn_a17).2.1
      have hl2_a17 := ((hzP40 this).2 a17 hn_a17).2.2.1
      have hw_a17 := ((hzP40 this).2 a17 hn_a17).2.2.2
      have hz_a17 : (Int32.ofNat (ln a17)).toInt = ((ln a17 : Nat) : Int) := ofN_eq (by first | exact Nat.le_trans hl2_a17 (by decide) | omega)
      have f3 : (p0 * 7).toInt = p0.toInt * 7 := z_mulc (by decide +kernel) (by omega) (by omega)
      have f4 : ((p0 * 7) + p1).toInt = (p0 * 7).toInt + p1.toInt := z_add (by omega) (by omega)
      refine wp_if ⟨by omega, by omega⟩ ?_
      refine wp_if ⟨by omega, by omega⟩ ?_
      refine wp_vl (fun m30 em30 => ?_)
      clear em30
      exact Jj31 m30
abbrev QC_X11_chargeWord (κ : Nat → Nat) (wd : Nat) (G : Nat → Nat → Int32) (P : Nat → Nat → Option Nat) (U : Nat → Nat → Int64) (V : Nat → Nat → Nat → Int32) (X : Nat → Nat → Nat → Int64) (O : Nat → Nat → Nat → Option Nat) (kd : Nat → Nat) (ln : Nat → Nat) (cnt : Nat) (this : Nat) : ((Nat → Nat → Int32)) → Prop := (fun t => True)
set_option maxHeartbeats 4000000 in
set_option maxRecDepth 100000 in
theorem ok_X11_chargeWord (κ : Nat → Nat) (wd : Nat) (G : Nat → Nat → Int32) (P : Nat → Nat → Option Nat) (U : Nat → Nat → Int64) (V : Nat → Nat → Nat → Int32) (X : Nat → Nat → Nat → Int64) (O : Nat → Nat → Nat → Option Nat) (kd : Nat → Nat) (ln : Nat → Nat) (cnt : Nat) (this : Nat) (hzG44 : rng (0) 40 (G 44)) (hzG45 : rng (0) 7 (G 45)) (hzG160 : rng (0) 2000 (G 160)) (hzG161 : rng (0) 2000 (G 161)) (hzG162 : rng (0) 2000 (G 162)) (hzG200 : rng (0) 24 (G 200)) (hzG203 : rng (0) 100 (G 203)) (hzG222 : rng (0) 6 (G 222)) (hzP0 : PB κ ln wd 1 11 0 2500 0 (P 0)) (hzP1 : PB κ ln wd 1 301 700 700 0 (P 1)) (hzP5 : PB κ ln wd 1 11 0 2500 0 (P 5)) (hzP40 : PB κ ln wd 3 107 280 280 0 (P 40)) (hzP140 : PB κ ln wd 8 100 2000 2000 0 (P 140)) (hzP201 : PB κ ln wd 11 100 0 2400 0 (P 201)) (hzP202 : PB κ ln wd 11 101 0 100 0 (P 202)) (hzP220 : PB κ ln wd 12 8 0 2500 0 (P 220)) (hzP229 : PB κ ln wd 12 1 0 2500 0 (P 229)) (hzP234 : PB κ ln wd 12 9 0 2500 0 (P 234)) (hzP236 : PB κ ln wd 12 3 0 2500 0 (P 236)) (hzV1 : rng2 (0) 24 (V 1)) (hzO1 : OB κ 11 (O 1)) (hzRA : RA κ ln (G 200) (P 201) (P 202)) (hzRB : RB κ ln (G 200) (G 203) (P 202) (V 1)) (hzRI : RI (P 202)) (hzLN : LN κ ln) (hzW0 : W0 wd (P 0)) (hk_this : κ this = 12) : wp (f_X11_chargeWord G P U V X O kd ln cnt this) (QC_X11_chargeWord κ wd G P U V X O kd ln cnt this) := by
  unfold f_X11_chargeWord
  have zk0 : (0 : Int32).toInt = 0 := by decide +kernel
  have lp2 : ∀ (n2 : Nat) (y2_1 : Int32) (d2_V7 : Nat → Nat → Int32), (7 - y2_1.toInt).toNat < n2 → (0 ≤ y2_1.toInt ∧ y2_1.toInt ≤ 7) → wp (L_X11_chargeWord_2 G P U V X O kd ln cnt this n2 y2_1 d2_V7) (QC_X11_chargeWord κ wd G P U V X O kd ln cnt this) := by
    intro n2
    induction n2 with
    | zero => intro y2_1 d2_V7 hm; exact absurd hm (Nat.not_lt_zero _)
    | succ n2 ih2 =>
      intro y2_1 d2_V7 hm2 f1
      show wp (B_X11_chargeWord_2 G P U V X O kd ln cnt this (L_X11_chargeWord_2 G P U V X O kd ln cnt this n2) y2_1 d2_V7) _
      unfold B_X11_chargeWord_2
      have b2 := hzG222 this
      refine wp_ite (fun c7 => ?_) (fun c7 => ?_)
      · have c7 := (z_lt _ _).mp c7
        exact ⟨_, rfl, trivial⟩
      · have c7 := z_nlt c7
        refine wp_nn ((hzP229 this).1 hk_this) (fun a11 hn_a11 => ?_)
        have hk_a11 := ((hzP229 this).2 a11 hn_a11).1
        have hl1_a11 := ((hzP229 this).2 a11 hn_a11).2.1
        have hl2_a11 := ((hzP229 this).2 a11 hn_a11).2.2.1
        have hw_a11 := ((hzP229 this).2 a11 hn_a11).2.2.2
        refine wp_nn ((hzP220 this).1 hk_this) (fun a16 hn_a16 => ?_)
        have hk_a16 := ((hzP220 this).2 a16 hn_a16).1
        have hl1_a16 := ((hzP220 this).2 a16 hn_a16).2.1
        have hl2_a16 := ((hzP220 this).2 a16 hn_a16).2.2.1
        have hw_a16 := ((hzP220 this).2 a16 hn_a16).2.2.2
        refine wp_nn ((hzP140 a16).1 hk_a16) (fun a19 hn_a19 => ?_)
        have hk_a19 := ((hzP140 a16).2 a19 hn_a19).1
        have hl1_a19 := ((hzP140 a16).2 a19 hn_a19).2.1
        have hl2_a19 := ((hzP140 a16).2 a19 hn_a19).2.2.1
        have hw_a19 := ((hzP140 a16).2 a19 hn_a19).2.2.2
        have hz_a19 : (Int32.ofNat (ln a19)).toInt = ((ln a19 : Nat) : Int) := ofN_eq (by first | exact Nat.le_trans hl2_a19 (by decide) | omega)
        refine wp_nn ((hzP234 this).1 hk_this) (fun a23 hn_a23 => ?_)
        have hk_a23 := ((hzP234 this).2 a23 hn_a23).1
        have hl1_a23 := ((hzP234 this).2 a23 hn_a23).2.1
        have hl2_a23 := ((hzP234 this).2 a23 hn_a23).2.2.1
        have hw_a23 := ((hzP234 this).2 a23 hn_a23).2.2.2
        have b3 := hzG160 a23
        refine wp_nne hn_a23 ?_
        have b4 := hzG161 a23
        obtain ⟨r36, hc36, hq36⟩ := ok_X0_hasForm κ wd G P U (va_up V 7 d2_V7) X O kd ln cnt a11 y2_1 a19 ((G 160) a23) ((G 161) a23) hzG200 hzG203 hzP0 hzP1 hzP5 hzP201 hzP202 hzV1 hzO1 hzRA hzRB hzRI hzLN hzW0 hk_a11 hk_a19 (show (0 ≤ y2_1.toInt ∧ y2_1.toInt ≤ 6) from by omega)
        have f5 : (0 ≤ r36.toInt ∧ r36.toInt ≤ 1) := hq36
        refine wp_b1 hc36 ?_
        clear hc36
        refine wp_jn (fun j57 => ∀ (c57_V7 : Nat → Nat → Int32), wp (j57 c57_V7) (QC_X11_chargeWord κ wd G P U V X O kd ln cnt this)) ?_ ?_
        · intro c57_V7
          show wp _ _
          have f6 : (y2_1 + 1).toInt = y2_1.toInt + (1) := z_addc (by decide +kernel) (by omega) (by omega)
          exact ih2 (y2_1 + 1) c57_V7 (show (7 - (y2_1 + 1).toInt).toNat < n2 from by omega) (show (0 ≤ (y2_1 + 1).toInt ∧ (y2_1 + 1).toInt ≤ 7) from by omega)
        intro j57 Jj57
        refine wp_ite (fun c39 => ?_) (fun c39 => ?_)
        · have c39 := congrArg Int32.toInt c39
          refine wp_nn ((hzP236 this).1 hk_this) (fun a43 hn_a43 => ?_)
          have hk_a43 := ((hzP236 this).2 a43 hn_a43).1
          have hl1_a43 := ((hzP236 this).2 a43 hn_a43).2.1
          have hl2_a43 := ((hzP236 this).2 a43 hn_a43).2.2.1
          have hw_a43 := ((hzP236 this).2 a43 hn_a43).2.2.2
          refine wp_nne hn_a23 ?_
          have b7 := hzG162 a23
          obtain ⟨c54_V7, hc54, hq54⟩ := ok_X2_charge κ wd G P U (va_up V 7 d2_V7) X O kd ln cnt a43 ((G 162) a23) y2_1 hzG44 hzG45 hzP40 hzLN hk_a43 (show 0 ≤ ((G 162) a23).toInt from by omega) (show 0 ≤ y2_1.toInt from by omega)
          refine wp_b1 hc54 ?_
          clear hc54
          exact Jj57 c54_V7
        · have c39 := z_ne c39
          exact Jj57 d2_V7
  exact lp2 NN (0 : Int32) (V 7) (by have := NN_eq; omega) (show (0 ≤ (0 : Int32).toInt ∧ (0 : Int32).toInt ≤ 7) from by omega)
abbrev QC_X11_collision (κ : Nat → Nat) (wd : Nat) (G : Nat → Nat → Int32) (P : Nat → Nat → Option Nat) (U : Nat → Nat → Int64) (V : Nat → Nat → Nat → Int32) (X : Nat → Nat → Nat → Int64) (O : Nat → Nat → Nat → Option Nat) (kd : Nat → Nat) (ln : Nat → Nat) (cnt : Nat) (this : Nat) (p0 : Int32) : (Int32) → Prop := (fun t => True)
set_option maxHeartbeats 4000000 in
set_option maxRecDepth 100000 in
theorem ok_X11_collision (κ : Nat → Nat) (wd : Nat) (G : Nat → Nat → Int32) (P : Nat → Nat → Option Nat) (U : Nat → Nat → Int64) (V : Nat → Nat → Nat → Int32) (X : Nat → Nat → Nat → Int64) (O : Nat → Nat → Nat → Option Nat) (kd : Nat → Nat) (ln : Nat → Nat) (cnt : Nat) (this : Nat) (p0 : Int32) (hzG233 : rng (0) 200 (G 233)) (hzP232 : PB κ ln wd 12 105 200 200 0 (P 232)) (hzLN : LN κ ln) (hk_this : κ this = 12) : wp (f_X11_collision G P U V X O kd ln cnt this p0) (QC_X11_collision κ wd G P U V X O kd ln cnt this p0) := by
  unfold f_X11_collision
  have zkm1 : (-1 : Int32).toInt = -1 := by decide +kernel
  have zk0 : (0 : Int32).toInt = 0 := by decide +kernel
  have r_p0 := i32r p0
  refine wp_jn (fun j22 => ∀ (t22_0 : Int32), wp (j22 t22_0) (QC_X11_collision κ wd G P U V X O kd ln cnt this p0)) ?_ ?_
  · intro t22_0
    show wp _ _
    exact ⟨_, rfl, trivial⟩
  intro j22 Jj22
  refine wp_jn (fun j12 => wp (j12 ()) (QC_X11_collision κ wd G P U V X O kd ln cnt this p0)) ?_ ?_
  · show wp _ _
    exact Jj22 (-1 : Int32)
  intro j12 Jj12
  refine wp_ite (fun c1 => ?_) (fun c1 => ?_)
  · have c1 := (z_lt _ _).mp c1
    exact Jj12
  · have c1 := z_nlt c1
    have b1 := hzG233 this
    refine wp_ite (fun c9 => ?_) (fun c9 => ?_)
    · have c9 := (z_lt _ _).mp c9
      refine wp_nn ((hzP232 this).1 hk_this) (fun a17 hn_a17 => ?_)
      have hk_a17 := ((hzP232 this).2 a17 hn_a17).1
      have hl1_a17 := ((hzP232 this).2 a17 hn_a17).2.1
      have hl2_a17 := ((hzP232 this).2 a17 hn_a17).2.2.1
      have hw_a17 := ((hzP232 this).2 a17 hn_a17).2.2.2
      have hz_a17 : (Int32.ofNat (ln a17)).toInt = ((ln a17 : Nat) : Int) := ofN_eq (by first | exact Nat.le_trans hl2_a17 (by decide) | omega)
      refine wp_if ⟨by omega, by omega⟩ ?_
      exact Jj22 (((V 5) a17) (Int32.toNatClampNeg p0))
    · have c9 := z_nlt c9
      exact Jj12
abbrev QC_X11_count (κ : Nat → Nat) (wd : Nat) (G : Nat → Nat → Int32) (P : Nat → Nat → Option Nat) (U : Nat → Nat → Int64) (V : Nat → Nat → Nat → Int32) (X : Nat → Nat → Nat → Int64) (O : Nat → Nat → Nat → Option Nat) (kd : Nat → Nat) (ln : Nat → Nat) (cnt : Nat) (this : Nat) (p0 : Int32) : (Int32) → Prop := (fun t => True)
set_option maxHeartbeats 4000000 in
set_option maxRecDepth 100000 in
theorem ok_X11_count (κ : Nat → Nat) (wd : Nat) (G : Nat → Nat → Int32) (P : Nat → Nat → Option Nat) (U : Nat → Nat → Int64) (V : Nat → Nat → Nat → Int32) (X : Nat → Nat → Nat → Int64) (O : Nat → Nat → Nat → Option Nat) (kd : Nat → Nat) (ln : Nat → Nat) (cnt : Nat) (this : Nat) (p0 : Int32) (hzG141 : rng (0) 2000 (G 141)) (hzG200 : rng (0) 24 (G 200)) (hzG203 : rng (0) 100 (G 203)) (hzG222 : rng (0) 6 (G 222)) (hzP0 : PB κ ln wd 1 11 0 2500 0 (P 0)) (hzP201 : PB κ ln wd 11 100 0 2400 0 (P 201)) (hzP202 : PB κ ln wd 11 101 0 100 0 (P 202)) (hzP220 : PB κ ln wd 12 8 0 2500 0 (P 220)) (hzP229 : PB κ ln wd 12 1 0 2500 0 (P 229)) (hzV1 : rng2 (0) 24 (V 1)) (hzRA : RA κ ln (G 200) (P 201) (P 202)) (hzRB : RB κ ln (G 200) (G 203) (P 202) (V 1)) (hzRI : RI (P 202)) (hzLN : LN κ ln) (hzW0 : W0 wd (P 0)) (hk_this : κ this = 12) : wp (f_X11_count G P U V X O kd ln cnt this p0) (QC_X11_count κ wd G P U V X O kd ln cnt this p0) := by
  unfold f_X11_count
  have zkm1 : (-1 : Int32).toInt = -1 := by decide +kernel
  have zk0 : (0 : Int32).toInt = 0 := by decide +kernel
  have zk1 : (1 : Int32).toInt = 1 := by decide +kernel
  have zk2 : (2 : Int32).toInt = 2 := by decide +kernel
  have r_p0 := i32r p0
  refine wp_ite (fun c1_0 => ?_) (fun c1_0 => ?_)
  · have c1_0 := congrArg Int32.toInt c1_0
    have b1 := hzG222 this
    exact ⟨_, rfl, trivial⟩
  · have c1_0 := z_ne c1_0
    refine wp_ite (fun c1_1 => ?_) (fun c1_1 => ?_)
    · have c1_1 := congrArg Int32.toInt c1_1
      refine wp_nn ((hzP229 this).1 hk_this) (fun a34 hn_a34 => ?_)
      have hk_a34 := ((hzP229 this).2 a34 hn_a34).1
      have hl1_a34 := ((hzP229 this).2 a34 hn_a34).2.1
      have hl2_a34 := ((hzP229 this).2 a34 hn_a34).2.2.1
      have hw_a34 := ((hzP229 this).2 a34 hn_a34).2.2.2
      refine wp_nn ((hzP0 a34).1 hk_a34) (fun a37 hn_a37 => ?_)
      obtain rfl : wd = a37 := (hzW0 _ _ hn_a37).symm
      have hk_wd := ((hzP0 a34).2 wd hn_a37).1
      have hl1_wd := ((hzP0 a34).2 wd hn_a37).2.1
      have hl2_wd := ((hzP0 a34).2 wd hn_a37).2.2.1
      have hw_wd := ((hzP0 a34).2 wd hn_a37).2.2.2
      have b2 := hzG203 wd
      exact ⟨_, rfl, trivial⟩
    · have c1_1 := z_ne c1_1
      refine wp_ite (fun c1_2 => ?_) (fun c1_2 => ?_)
      · have c1_2 := congrArg Int32.toInt c1_2
        refine wp_nn ((hzP220 this).1 hk_this) (fun a45 hn_a45 => ?_)
        have hk_a45 := ((hzP220 this).2 a45 hn_a45).1
        have hl1_a45 := ((hzP220 this).2 a45 hn_a45).2.1
        have hl2_a45 := ((hzP220 this).2 a45 hn_a45).2.2.1
        have hw_a45 := ((hzP220 this).2 a45 hn_a45).2.2.2
        have b3 := hzG141 a45
        exact ⟨_, rfl, trivial⟩
      · have c1_2 := z_ne c1_2
        exact ⟨_, rfl, trivial⟩
abbrev QC_X6_tallyOf (κ : Nat → Nat) (wd : Nat) (G : Nat → Nat → Int32) (P : Nat → Nat → Option Nat) (U : Nat → Nat → Int64) (V : Nat → Nat → Nat → Int32) (X : Nat → Nat → Nat → Int64) (O : Nat → Nat → Nat → Option Nat) (kd : Nat → Nat) (ln : Nat → Nat) (cnt : Nat) (this : Nat) (p0 : Int32) : (Int32) → Prop := (fun t => True)
set_option maxHeartbeats 4000000 in
set_option maxRecDepth 100000 in
theorem ok_X6_tallyOf (κ : Nat → Nat) (wd : Nat) (G : Nat → Nat → Int32) (P : Nat → Nat → Option Nat) (U : Nat → Nat → Int64) (V : Nat → Nat → Nat → Int32) (X : Nat → Nat → Nat → Int64) (O : Nat → Nat → Nat → Option Nat) (kd : Nat → Nat) (ln : Nat → Nat) (cnt : Nat) (this : Nat) (p0 : Int32) (hzP122 : PB κ ln wd 7 106 5 5 0 (P 122)) (hzLN : LN κ ln) (hk_this : κ this = 7) : wp (f_X6_tallyOf G P U V X O kd ln cnt this p0) (QC_X6_tallyOf κ wd G P U V X O kd ln cnt this p0) := by
  unfold f_X6_tallyOf
  have zkm1 : (-1 : Int32).toInt = -1 := by decide +kernel
  have zk0 : (0 : Int32).toInt = 0 := by decide +kernel
  have zk5 : (5 : Int32).toInt = 5 := by decide +kernel
  have r_p0 := i32r p0
  refine wp_jn (fun j26 => ∀ (t26_0 : Int32), wp (j26 t26_0) (QC_X6_tallyOf κ wd G P U V X O kd ln cnt this p0)) ?_ ?_
  · intro t26_0
    show wp _ _
    exact ⟨_, rfl, trivial⟩
  intro j26 Jj26
  refine wp_jn (fun j16 => wp (j16 ()) (QC_X6_tallyOf κ wd G P U V X O kd ln cnt this p0)) ?_ ?_
  · show wp _ _
    exact Jj26 (-1 : Int32)
  intro j16 Jj16
  refine wp_ite (fun c4 => ?_) (fun c4 => ?_)
  · have c4 := congrArg Int32.toInt c4
    exact Jj16
  · have c4 := z_ne c4
    refine wp_ite (fun c8 => ?_) (fun c8 => ?_)
    · have c8 := (z_lt _ _).mp c8
      exact Jj16
    · have c8 := z_nlt c8
      refine wp_ite (fun c13 => ?_) (fun c13 => ?_)
      · have c13 := (z_lt _ _).mp c13
        refine wp_nn ((hzP122 this).1 hk_this) (fun a21 hn_a21 => ?_)
        have hk_a21 := ((hzP122 this).2 a21 hn_a21).1
        have hl1_a21 := ((hzP122 this).2 a21 hn_a21).2.1
        have hl2_a21 := ((hzP122 this).2 a21 hn_a21).2.2.1
        have hw_a21 := ((hzP122 this).2 a21 hn_a21).2.2.2
        have hz_a21 : (Int32.ofNat (ln a21)).toInt = ((ln a21 : Nat) : Int) := ofN_eq (by first | exact Nat.le_trans hl2_a21 (by decide) | omega)
        refine wp_if ⟨by omega, by omega⟩ ?_
        exact Jj26 (((V 6) a21) (Int32.toNatClampNeg p0))
      · have c13 := z_nlt c13
        exact Jj16
abbrev QC_X11_counted (κ : Nat → Nat) (wd : Nat) (G : Nat → Nat → Int32) (P : Nat → Nat → Option Nat) (U : Nat → Nat → Int64) (V : Nat → Nat → Nat → Int32) (X : Nat → Nat → Nat → Int64) (O : Nat → Nat → Nat → Option Nat) (kd : Nat → Nat) (ln : Nat → Nat) (cnt : Nat) (this : Nat) (p0 : Int32) : (Int32) → Prop := (fun t => True)
set_option maxHeartbeats 4000000 in
set_option maxRecDepth 100000 in
theorem ok_X11_counted (κ : Nat → Nat) (wd : Nat) (G : Nat → Nat → Int32) (P : Nat → Nat → Option Nat) (U : Nat → Nat → Int64) (V : Nat → Nat → Nat → Int32) (X : Nat → Nat → Nat → Int64) (O : Nat → Nat → Nat → Option Nat) (kd : Nat → Nat) (ln : Nat → Nat) (cnt : Nat) (this : Nat) (p0 : Int32) (hzP122 : PB κ ln wd 7 106 5 5 0 (P 122)) (hzP235 : PB κ ln wd 12 7 0 2500 0 (P 235)) (hzLN : LN κ ln) (hk_this : κ this = 12) : wp (f_X11_counted G P U V X O kd ln cnt this p0) (QC_X11_counted κ wd G P U V X O kd ln cnt this p0) := by
  unfold f_X11_counted
  have r_p0 := i32r p0
  refine wp_nn ((hzP235 this).1 hk_this) (fun a1 hn_a1 => ?_)
  have hk_a1 := ((hzP235 this).2 a1 hn_a1).1
  have hl1_a1 := ((hzP235 this).2 a1 hn_a1).2.1
  have hl2_a1 := ((hzP235 this).2 a1 hn_a1).2.2.1
  have hw_a1 := ((hzP235 this).2 a1 hn_a1).2.2.2
  obtain ⟨r5, hc5, hq5⟩ := ok_X6_tallyOf κ wd G P U V X O kd ln cnt a1 p0 hzP122 hzLN hk_a1
  refine wp_b1 hc5 ?_
  clear hc5
  exact ⟨_, rfl, trivial⟩
abbrev QC_X11_form (κ : Nat → Nat) (wd : Nat) (G : Nat → Nat → Int32) (P : Nat → Nat → Option Nat) (U : Nat → Nat → Int64) (V : Nat → Nat → Nat → Int32) (X : Nat → Nat → Nat → Int64) (O : Nat → Nat → Nat → Option Nat) (kd : Nat → Nat) (ln : Nat → Nat) (cnt : Nat) (this : Nat) (p0 : Int32) (p1 : Int32) : (Int32) → Prop := (fun t => True)
set_option maxHeartbeats 4000000 in
set_option maxRecDepth 100000 in
theorem ok_X11_form (κ : Nat → Nat) (wd : Nat) (G : Nat → Nat → Int32) (P : Nat → Nat → Option Nat) (U : Nat → Nat → Int64) (V : Nat → Nat → Nat → Int32) (X : Nat → Nat → Nat → Int64) (O : Nat → Nat → Nat → Option Nat) (kd : Nat → Nat) (ln : Nat → Nat) (cnt : Nat) (this : Nat) (p0 : Int32) (p1 : Int32) (hzG200 : rng (0) 24 (G 200)) (hzG203 : rng (0) 100 (G 203)) (hzP201 : PB κ ln wd 11 100 0 2400 0 (P 201)) (hzP202 : PB κ ln wd 11 101 0 100 0 (P 202)) (hzP227 : PB κ ln wd 12 11 0 2500 1 (P 227)) (hzV1 : rng2 (0) 24 (V 1)) (hzRA : RA κ ln (G 200) (P 201) (P 202)) (hzRB : RB κ ln (G 200) (G 203) (P 202) (V 1)) (hzRI : RI (P 202)) (hzLN : LN κ ln) (hk_this : κ this = 12) : wp (f_X11_form G P U V X O kd ln cnt this p0 p1) (QC_X11_form κ wd G P U V X O kd ln cnt this p0 p1) := by
  unfold f_X11_form
  have r_p0 := i32r p0
  have r_p1 := i32r p1
  refine wp_nn ((hzP227 this).1 hk_this) (fun a1 hn_a1 => ?_)
  have hk_a1 := ((hzP227 this).2 a1 hn_a1).1
  have hl1_a1 := ((hzP227 this).2 a1 hn_a1).2.1
  have hl2_a1 := ((hzP227 this).2 a1 hn_a1).2.2.1
  have hw_a1 := ((hzP227 this).2 a1 hn_a1).2.2.2
  obtain ⟨r6, hc6, hq6⟩ := ok_X10_letterAt κ wd G P U V X O kd ln cnt a1 p0 p1 hzG200 hzG203 hzP201 hzP202 hzV1 hzRA hzRB hzRI hzLN hk_a1
  refine wp_b1 hc6 ?_
  clear hc6
  exact ⟨_, rfl, trivial⟩
abbrev QC_X11_learn (κ : Nat → Nat) (wd : Nat) (G : Nat → Nat → Int32) (P : Nat → Nat → Option Nat) (U : Nat → Nat → Int64) (V : Nat → Nat → Nat → Int32) (X : Nat → Nat → Nat → Int64) (O : Nat → Nat → Nat → Option Nat) (kd : Nat → Nat) (ln : Nat → Nat) (cnt : Nat) (this : Nat) : (Int32 × (Nat → Int32) × (Nat → Int32) × (Nat → Nat → Int32) × (Nat → Nat → Int32)) → Prop := (fun t => (rng (0) 2000 (t.2.1)) ∧ (rng (0) 100 (t.2.2.1)) ∧ (rng2 (0) 24 (t.2.2.2.2)) ∧ (RB κ ln (G 200) (t.2.2.1) (P 202) (t.2.2.2.2)) ∧ (FL wd (t.2.2.1) (V 3)) ∧ ((∀ tp, (P 220) this = some tp → ((t.2.1) tp).toInt = 0)))
set_option maxHeartbeats 4000000 in
set_option maxRecDepth 100000 in
theorem ok_X11_learn (κ : Nat → Nat) (wd : Nat) (G : Nat → Nat → Int32) (P : Nat → Nat → Option Nat) (U : Nat → Nat → Int64) (V : Nat → Nat → Nat → Int32) (X : Nat → Nat → Nat → Int64) (O : Nat → Nat → Nat → Option Nat) (kd : Nat → Nat) (ln : Nat → Nat) (cnt : Nat) (this : Nat) (hzG141 : rng (0) 2000 (G 141)) (hzG200 : rng (0) 24 (G 200)) (hzG203 : rng (0) 100 (G 203)) (hzP0 : PB κ ln wd 1 11 0 2500 0 (P 0)) (hzP140 : PB κ ln wd 8 100 2000 2000 0 (P 140)) (hzP201 : PB κ ln wd 11 100 0 2400 0 (P 201)) (hzP202 : PB κ ln wd 11 101 0 100 0 (P 202)) (hzP220 : PB κ ln wd 12 8 0 2500 0 (P 220)) (hzP229 : PB κ ln wd 12 1 0 2500 0 (P 229)) (hzV1 : rng2 (0) 24 (V 1)) (hzV3 : rng2 (0) 100 (V 3)) (hzRA : RA κ ln (G 200) (P 201) (P 202)) (hzRB : RB κ ln (G 200) (G 203) (P 202) (V 1)) (hzRI : RI (P 202)) (hzLN : LN κ ln) (hzFL : FL wd (G 203) (V 3)) (hzW0 : W0 wd (P 0)) (hk_this : κ this = 12) : wp (f_X11_learn G P U V X O kd ln cnt this) (QC_X11_learn κ wd G P U V X O kd ln cnt this) := by
  unfold f_X11_learn
  have zkm3 : (-3 : Int32).toInt = -3 := by decide +kernel
  have zkm2 : (-2 : Int32).toInt = -2 := by decide +kernel
  have zkm1 : (-1 : Int32).toInt = -1 := by decide +kernel
  have zk0 : (0 : Int32).toInt = 0 := by decide +kernel
  have zk1 : (1 : Int32).toInt = 1 := by decide +kernel
  refine wp_nn ((hzP220 this).1 hk_this) (fun a1 hn_a1 => ?_)
  have hk_a1 := ((hzP220 this).2 a1 hn_a1).1
  have hl1_a1 := ((hzP220 this).2 a1 hn_a1).2.1
  have hl2_a1 := ((hzP220 this).2 a1 hn_a1).2.2.1
  have hw_a1 := ((hzP220 this).2 a1 hn_a1).2.2.2
  obtain ⟨⟨r4, c4_G141⟩, hc4, hq4⟩ := ok_X7_take κ wd G P U V X O kd ln cnt a1 hzG141 hzLN hk_a1
  obtain ⟨hg1, f2, f3, f4⟩ : (rng (0) 2000 c4_G141) ∧ (r4.toInt = ((G 141) a1).toInt) ∧ ((c4_G141 a1).toInt = 0) ∧ ((0 ≤ r4.toInt ∧ r4.toInt ≤ 2000)) := hq4
  refine wp_b2 hc4 ?_
  clear hc4
  refine wp_nne hn_a1 ?_
  obtain ⟨r13, hc13, hq13⟩ := ok_X7_isWord κ wd (va_up G 141 c4_G141) P U V X O kd ln cnt a1 r4 hzP140 hzLN hk_a1
  obtain ⟨f5, f6⟩ : ((0 ≤ r13.toInt ∧ r13.toInt ≤ 1)) ∧ ((r13.toInt = 1 → 1 ≤ r4.toInt ∧ r4.toInt ≤ 24)) := hq13
  refine wp_b1 hc13 ?_
  clear hc13
  refine wp_ite (fun c16 => ?_) (fun c16 => ?_)
  · have c16 := congrArg Int32.toInt c16
    exact ⟨_, rfl, ⟨hg1, hzG203, hzV1, hzRB, hzFL, (show (∀ tp, (P 220) this = some tp → (c4_G141 tp).toInt = 0) from by intro tp htp; obtain rfl : a1 = tp := Option.some.inj (hn_a1.symm.trans htp); omega)⟩⟩
  · have c16 := z_ne c16
    refine wp_nn ((hzP229 this).1 hk_this) (fun a23 hn_a23 => ?_)
    have hk_a23 := ((hzP229 this).2 a23 hn_a23).1
    have hl1_a23 := ((hzP229 this).2 a23 hn_a23).2.1
    have hl2_a23 := ((hzP229 this).2 a23 hn_a23).2.2.1
    have hw_a23 := ((hzP229 this).2 a23 hn_a23).2.2.2
    refine wp_nn ((hzP0 a23).1 hk_a23) (fun a26 hn_a26 => ?_)
    obtain rfl : wd = a26 := (hzW0 _ _ hn_a26).symm
    have hk_wd := ((hzP0 a23).2 wd hn_a26).1
    have hl1_wd := ((hzP0 a23).2 wd hn_a26).2.1
    have hl2_wd := ((hzP0 a23).2 wd hn_a26).2.2.1
    have hw_wd := ((hzP0 a23).2 wd hn_a26).2.2.2
    refine wp_nne hn_a1 ?_
    refine wp_nn ((hzP140 a1).1 hk_a1) (fun a33 hn_a33 => ?_)
    have hk_a33 := ((hzP140 a1).2 a33 hn_a33).1
    have hl1_a33 := ((hzP140 a1).2 a33 hn_a33).2.1
    have hl2_a33 := ((hzP140 a1).2 a33 hn_a33).2.2.1
    have hw_a33 := ((hzP140 a1).2 a33 hn_a33).2.2.2
    have hz_a33 : (Int32.ofNat (ln a33)).toInt = ((ln a33 : Nat) : Int) := ofN_eq (by first | exact Nat.le_trans hl2_a33 (by decide) | omega)
    obtain ⟨r38, hc38, hq38⟩ := ok_X10_find κ wd (va_up G 141 c4_G141) P U V X O kd ln cnt wd a33 (0 : Int32) r4 hzG200 hzG203 hzP201 hzP202 hzV1 hzRA hzRB hzRI hzLN hk_wd hk_a33
    obtain ⟨f7, f8⟩ : (((-1) ≤ r38.toInt ∧ r38.toInt < 100)) ∧ ((r38.toInt = -1 ∨ r38.toInt < ((G 203) wd).toInt)) := hq38
    refine wp_b1 hc38 ?_
    clear hc38
    refine wp_ite (fun c44 => ?_) (fun c44 => ?_)
    · have c44 := congrArg Int32.toInt c44
      refine wp_nne hn_a23 ?_
      refine wp_nne hn_a26 ?_
      obtain ⟨r56, hc56, hq56⟩ := ok_X10_isFull κ wd (va_up G 141 c4_G141) P U V X O kd ln cnt wd hzG200 hzG203 hzP201 hzP202 hzV1 hzRA hzRB hzRI hzLN hk_wd
      obtain ⟨f9, f10⟩ : ((0 ≤ r56.toInt ∧ r56.toInt ≤ 1)) ∧ ((∀ s, (P 202) wd = some s → r56.toInt = 0 → ((G 203) wd).toInt < ((ln s : Nat) : Int))) := hq56
      refine wp_b1 hc56 ?_
      clear hc56
      refine wp_ite (fun c59 => ?_) (fun c59 => ?_)
      · have c59 := congrArg Int32.toInt c59
        refine wp_nne hn_a23 ?_
        refine wp_nne hn_a26 ?_
        refine wp_nne hn_a1 ?_
        refine wp_nne hn_a33 ?_
        obtain ⟨⟨c81_G203, c81_V0, c81_V1⟩, hc81, hq81⟩ := ok_X10_add κ wd (va_up G 141 c4_G141) P U V X O kd ln cnt wd a33 (0 : Int32) r4 hzG200 hzG203 hzP201 hzP202 hzV1 hzRA hzRB hzRI hzLN hk_wd hk_a33
        obtain ⟨hg11, hg12, hRB13, f14, f15⟩ : (rng (0) 100 c81_G203) ∧ (rng2 (0) 24 c81_V1) ∧ (RB κ ln (G 200) c81_G203 (P 202) c81_V1) ∧ ((wd ≠ wd → c81_G203 wd = (G 203) wd)) ∧ (((G 203) wd).toInt ≤ (c81_G203 wd).toInt) := hq81
        refine wp_b3 hc81 ?_
        clear hc81
        have hFL16 : FL wd c81_G203 (V 3) := by exact FL_le hzFL (by omega)
        refine wp_nne hn_a23 ?_
        refine wp_nne hn_a26 ?_
        have b17 := hg11 wd
        have f18 : ((c81_G203 wd) - 1).toInt = (c81_G203 wd).toInt - 1 := z_subc (by decide +kernel) (by omega) (by omega)
        exact ⟨_, rfl, ⟨hg1, hg11, hg12, hRB13, hFL16, (show (∀ tp, (P 220) this = some tp → (c4_G141 tp).toInt = 0) from by intro tp htp; obtain rfl : a1 = tp := Option.some.inj (hn_a1.symm.trans htp); omega)⟩⟩
      · have c59 := z_ne c59
        exact ⟨_, rfl, ⟨hg1, hzG203, hzV1, hzRB, hzFL, (show (∀ tp, (P 220) this = some tp → (c4_G141 tp).toInt = 0) from by intro tp htp; obtain rfl : a1 = tp := Option.some.inj (hn_a1.symm.trans htp); omega)⟩⟩
    · have c44 := z_ne c44
      exact ⟨_, rfl, ⟨hg1, hzG203, hzV1, hzRB, hzFL, (show (∀ tp, (P 220) this = some tp → (c4_G141 tp).toInt = 0) from by intro tp htp; obtain rfl : a1 = tp := Option.some.inj (hn_a1.symm.trans htp); omega)⟩⟩
abbrev QC_X2_stageOf (κ : Nat → Nat) (wd : Nat) (G : Nat → Nat → Int32) (P : Nat → Nat → Option Nat) (U : Nat → Nat → Int64) (V : Nat → Nat → Nat → Int32) (X : Nat → Nat → Nat → Int64) (O : Nat → Nat → Nat → Option Nat) (kd : Nat → Nat) (ln : Nat → Nat) (cnt : Nat) (this : Nat) (p0 : Int32) : (Int32) → Prop := (fun t => True)
set_option maxHeartbeats 4000000 in
set_option maxRecDepth 100000 in
theorem ok_X2_stageOf (κ : Nat → Nat) (wd : Nat) (G : Nat → Nat → Int32) (P : Nat → Nat → Option Nat) (U : Nat → Nat → Int64) (V : Nat → Nat → Nat → Int32) (X : Nat → Nat → Nat → Int64) (O : Nat → Nat → Nat → Option Nat) (kd : Nat → Nat) (ln : Nat → Nat) (cnt : Nat) (this : Nat) (p0 : Int32) (hzG43 : rng (0) 40 (G 43)) (hzP42 : PB κ ln wd 3 109 40 40 0 (P 42)) (hzV9 : rng2 (0) 6 (V 9)) (hzLN : LN κ ln) (hk_this : κ this = 3) : wp (f_X2_stageOf G P U V X O kd ln cnt this p0) (QC_X2_stageOf κ wd G P U V X O kd ln cnt this p0) := by
  unfold f_X2_stageOf
  have zkm1 : (-1 : Int32).toInt = -1 := by decide +kernel
  have zk0 : (0 : Int32).toInt = 0 := by decide +kernel
  have r_p0 := i32r p0
  refine wp_jn (fun j22 => ∀ (t22_0 : Int32), wp (j22 t22_0) (QC_X2_stageOf κ wd G P U V X O kd ln cnt this p0)) ?_ ?_
  · intro t22_0
    show wp _ _
    exact ⟨_, rfl, trivial⟩
  intro j22 Jj22
  refine wp_jn (fun j12 => wp (j12 ()) (QC_X2_stageOf κ wd G P U V X O kd ln cnt this p0)) ?_ ?_
  · show wp _ _
    exact Jj22 (-1 : Int32)
  intro j12 Jj12
  refine wp_ite (fun c1 => ?_) (fun c1 => ?_)
  · have c1 := (z_lt _ _).mp c1
    exact Jj12
  · have c1 := z_nlt c1
    have b1 := hzG43 this
    refine wp_ite (fun c9 => ?_) (fun c9 => ?_)
    · have c9 := (z_lt _ _).mp c9
      refine wp_nn ((hzP42 this).1 hk_this) (fun a17 hn_a17 => ?_)
      have hk_a17 := ((hzP42 this).2 a17 hn_a17).1
      have hl1_a17 := ((hzP42 this).2 a17 hn_a17).2.1
      have hl2_a17 := ((hzP42 this).2 a17 hn_a17).2.2.1
      have hw_a17 := ((hzP42 this).2 a17 hn_a17).2.2.2
      have hz_a17 : (Int32.ofNat (ln a17)).toInt = ((ln a17 : Nat) : Int) := ofN_eq (by first | exact Nat.le_trans hl2_a17 (by decide) | omega)
      refine wp_if ⟨by omega, by omega⟩ ?_
      have b2 := hzV9 a17 (Int32.toNatClampNeg p0)
      exact Jj22 (((V 9) a17) (Int32.toNatClampNeg p0))
    · have c9 := z_nlt c9
      exact Jj12
abbrev QC_X11_line (κ : Nat → Nat) (wd : Nat) (G : Nat → Nat → Int32) (P : Nat → Nat → Option Nat) (U : Nat → Nat → Int64) (V : Nat → Nat → Nat → Int32) (X : Nat → Nat → Nat → Int64) (O : Nat → Nat → Nat → Option Nat) (kd : Nat → Nat) (ln : Nat → Nat) (cnt : Nat) (this : Nat) (p0 : Int32) : (Int32) → Prop := (fun t => True)
set_option maxHeartbeats 4000000 in
set_option maxRecDepth 100000 in
theorem ok_X11_line (κ : Nat → Nat) (wd : Nat) (G : Nat → Nat → Int32) (P : Nat → Nat → Option Nat) (U : Nat → Nat → Int64) (V : Nat → Nat → Nat → Int32) (X : Nat → Nat → Nat → Int64) (O : Nat → Nat → Nat → Option Nat) (kd : Nat → Nat) (ln : Nat → Nat) (cnt : Nat) (this : Nat) (p0 : Int32) (hzG43 : rng (0) 40 (G 43)) (hzP42 : PB κ ln wd 3 109 40 40 0 (P 42)) (hzP236 : PB κ ln wd 12 3 0 2500 0 (P 236)) (hzV9 : rng2 (0) 6 (V 9)) (hzLN : LN κ ln) (hk_this : κ this = 12) : wp (f_X11_line G P U V X O kd ln cnt this p0) (QC_X11_line κ wd G P U V X O kd ln cnt this p0) := by
  unfold f_X11_line
  have r_p0 := i32r p0
  refine wp_nn ((hzP236 this).1 hk_this) (fun a1 hn_a1 => ?_)
  have hk_a1 := ((hzP236 this).2 a1 hn_a1).1
  have hl1_a1 := ((hzP236 this).2 a1 hn_a1).2.1
  have hl2_a1 := ((hzP236 this).2 a1 hn_a1).2.2.1
  have hw_a1 := ((hzP236 this).2 a1 hn_a1).2.2.2
  obtain ⟨r5, hc5, hq5⟩ := ok_X2_stageOf κ wd G P U V X O kd ln cnt a1 p0 hzG43 hzP42 hzV9 hzLN hk_a1
  refine wp_b1 hc5 ?_
  clear hc5
  exact ⟨_, rfl, trivial⟩
abbrev QC_X11_notePair (κ : Nat → Nat) (wd : Nat) (G : Nat → Nat → Int32) (P : Nat → Nat → Option Nat) (U : Nat → Nat → Int64) (V : Nat → Nat → Nat → Int32) (X : Nat → Nat → Nat → Int64) (O : Nat → Nat → Nat → Option Nat) (kd : Nat → Nat) (ln : Nat → Nat) (cnt : Nat) (this : Nat) (p0 : Int32) : ((Nat → Int32) × (Nat → Nat → Int32)) → Prop := (fun t => (rng (0) 200 (t.1)))
set_option maxHeartbeats 4000000 in
set_option maxRecDepth 100000 in
theorem ok_X11_notePair (κ : Nat → Nat) (wd : Nat) (G : Nat → Nat → Int32) (P : Nat → Nat → Option Nat) (U : Nat → Nat → Int64) (V : Nat → Nat → Nat → Int32) (X : Nat → Nat → Nat → Int64) (O : Nat → Nat → Nat → Option Nat) (kd : Nat → Nat) (ln : Nat → Nat) (cnt : Nat) (this : Nat) (p0 : Int32) (hzG233 : rng (0) 200 (G 233)) (hzP232 : PB κ ln wd 12 105 200 200 0 (P 232)) (hzLN : LN κ ln) (hk_this : κ this = 12) : wp (f_X11_notePair G P U V X O kd ln cnt this p0) (QC_X11_notePair κ wd G P U V X O kd ln cnt this p0) := by
  unfold f_X11_notePair
  have zk1 : (1 : Int32).toInt = 1 := by decide +kernel
  have zk200 : (200 : Int32).toInt = 200 := by decide +kernel
  have r_p0 := i32r p0
  have b1 := hzG233 this
  refine wp_jn (fun j30 => ∀ (c30_G233 : Nat → Int32) (c30_V5 : Nat → Nat → Int32), rng (0) 200 c30_G233 → wp (j30 c30_G233 c30_V5) (QC_X11_notePair κ wd G P U V X O kd ln cnt this p0)) ?_ ?_
  · intro c30_G233 c30_V5 hg2
    show wp _ _
    exact ⟨_, rfl, hg2⟩
  intro j30 Jj30
  refine wp_ite (fun c7 => ?_) (fun c7 => ?_)
  · have c7 := (z_le _ _).mp c7
    exact Jj30 (G 233) (V 5) hzG233
  · have c7 := z_nle c7
    refine wp_nn ((hzP232 this).1 hk_this) (fun a11 hn_a11 => ?_)
    have hk_a11 := ((hzP232 this).2 a11 hn_a11).1
    have hl1_a11 := ((hzP232 this).2 a11 hn_a11).2.1
    have hl2_a11 := ((hzP232 this).2 a11 hn_a11).2.2.1
    have hw_a11 := ((hzP232 this).2 a11 hn_a11).2.2.2
    have hz_a11 : (Int32.ofNat (ln a11)).toInt = ((ln a11 : Nat) : Int) := ofN_eq (by first | exact Nat.le_trans hl2_a11 (by decide) | omega)
    refine wp_if ⟨by omega, by omega⟩ ?_
    refine wp_vl (fun m19 em19 => ?_)
    clear em19
    have f5 : (((G 233) this) + 1).toInt = ((G 233) this).toInt + 1 := z_addc (by decide +kernel) (by omega) (by omega)
    refine wp_vl (fun x27 ex27 => ?_)
    have f6 : x27.toInt = (((G 233) this) + 1).toInt := congrArg Int32.toInt ex27
    clear ex27
    refine wp_vl (fun m27 em27 => ?_)
    have hg7 : rng (0) 200 m27 := by rw [em27]; exact rng_vup hzG233 (by omega) (by omega)
    have sm27 : (m27 this).toInt = x27.toInt := by rw [em27, va_up_self]
    have b8 := hg7 this
    clear em27
    exact Jj30 m27 m19 hg7
abbrev QC_X11_old (κ : Nat → Nat) (wd : Nat) (G : Nat → Nat → Int32) (P : Nat → Nat → Option Nat) (U : Nat → Nat → Int64) (V : Nat → Nat → Nat → Int32) (X : Nat → Nat → Nat → Int64) (O : Nat → Nat → Nat → Option Nat) (kd : Nat → Nat) (ln : Nat → Nat) (cnt : Nat) (this : Nat) (p0 : Int32) : (Int32) → Prop := (fun t => True)
set_option maxHeartbeats 4000000 in
set_option maxRecDepth 100000 in
theorem ok_X11_old (κ : Nat → Nat) (wd : Nat) (G : Nat → Nat → Int32) (P : Nat → Nat → Option Nat) (U : Nat → Nat → Int64) (V : Nat → Nat → Nat → Int32) (X : Nat → Nat → Nat → Int64) (O : Nat → Nat → Nat → Option Nat) (kd : Nat → Nat) (ln : Nat → Nat) (cnt : Nat) (this : Nat) (p0 : Int32) (hzG231 : rng (0) 100 (G 231)) (hzP230 : PB κ ln wd 12 104 100 100 0 (P 230)) (hzLN : LN κ ln) (hk_this : κ this = 12) : wp (f_X11_old G P U V X O kd ln cnt this p0) (QC_X11_old κ wd G P U V X O kd ln cnt this p0) := by
  unfold f_X11_old
  have zkm1 : (-1 : Int32).toInt = -1 := by decide +kernel
  have zk0 : (0 : Int32).toInt = 0 := by decide +kernel
  have r_p0 := i32r p0
  refine wp_jn (fun j22 => ∀ (t22_0 : Int32), wp (j22 t22_0) (QC_X11_old κ wd G P U V X O kd ln cnt this p0)) ?_ ?_
  · intro t22_0
    show wp _ _
    exact ⟨_, rfl, trivial⟩
  intro j22 Jj22
  refine wp_jn (fun j12 => wp (j12 ()) (QC_X11_old κ wd G P U V X O kd ln cnt this p0)) ?_ ?_
  · show wp _ _
    exact Jj22 (-1 : Int32)
  intro j12 Jj12
  refine wp_ite (fun c1 => ?_) (fun c1 => ?_)
  · have c1 := (z_lt _ _).mp c1
    exact Jj12
  · have c1 := z_nlt c1
    have b1 := hzG231 this
    refine wp_ite (fun c9 => ?_) (fun c9 => ?_)
    · have c9 := (z_lt _ _).mp c9
      refine wp_nn ((hzP230 this).1 hk_this) (fun a17 hn_a17 => ?_)
      have hk_a17 := ((hzP230 this).2 a17 hn_a17).1
      have hl1_a17 := ((hzP230 this).2 a17 hn_a17).2.1
      have hl2_a17 := ((hzP230 this).2 a17 hn_a17).2.2.1
      have hw_a17 := ((hzP230 this).2 a17 hn_a17).2.2.2
      have hz_a17 : (Int32.ofNat (ln a17)).toInt = ((ln a17 : Nat) : Int) := ofN_eq (by first | exact Nat.le_trans hl2_a17 (by decide) | omega)
      refine wp_if ⟨by omega, by omega⟩ ?_
      exact Jj22 (((V 4) a17) (Int32.toNatClampNeg p0))
    · have c9 := z_nlt c9
      exact Jj12
abbrev QC_X3_pick (κ : Nat → Nat) (wd : Nat) (G : Nat → Nat → Int32) (P : Nat → Nat → Option Nat) (U : Nat → Nat → Int64) (V : Nat → Nat → Nat → Int32) (X : Nat → Nat → Nat → Int64) (O : Nat → Nat → Nat → Option Nat) (kd : Nat → Nat) (ln : Nat → Nat) (cnt : Nat) (this : Nat) (p0 : Int32) (p1 : Int32) : (Int32) → Prop := (fun t => True)
set_option maxHeartbeats 4000000 in
set_option maxRecDepth 100000 in
theorem ok_X3_pick (κ : Nat → Nat) (wd : Nat) (G : Nat → Nat → Int32) (P : Nat → Nat → Option Nat) (U : Nat → Nat → Int64) (V : Nat → Nat → Nat → Int32) (X : Nat → Nat → Nat → Int64) (O : Nat → Nat → Nat → Option Nat) (kd : Nat → Nat) (ln : Nat → Nat) (cnt : Nat) (this : Nat) (p0 : Int32) (p1 : Int32) (hzG60 : rng (0) 30 (G 60)) (hzP61 : PB κ ln wd 4 102 30 30 0 (P 61)) (hzP62 : PB κ ln wd 4 100 720 720 0 (P 62)) (hzV2 : rng2 (0) 24 (V 2)) (hzLN : LN κ ln) (hk_this : κ this = 4) : wp (f_X3_pick G P U V X O kd ln cnt this p0 p1) (QC_X3_pick κ wd G P U V X O kd ln cnt this p0 p1) := by
  unfold f_X3_pick
  have zkm1 : (-1 : Int32).toInt = -1 := by decide +kernel
  have zk0 : (0 : Int32).toInt = 0 := by decide +kernel
  have zk24 : (24 : Int32).toInt = 24 := by decide +kernel
  have r_p0 := i32r p0
  have r_p1 := i32r p1
  refine wp_jn (fun j26 => wp (j26 ()) (QC_X3_pick κ wd G P U V X O kd ln cnt this p0 p1)) ?_ ?_
  · show wp _ _
    exact ⟨_, rfl, trivial⟩
  intro j26 Jj26
  refine wp_ite (fun c1 => ?_) (fun c1 => ?_)
  · have c1 := (z_lt _ _).mp c1
    exact Jj26
  · have c1 := z_nlt c1
    have b1 := hzG60 this
    refine wp_ite (fun c9 => ?_) (fun c9 => ?_)
    · have c9 := (z_le _ _).mp c9
      exact Jj26
    · have c9 := z_nle c9
      refine wp_ite (fun c13 => ?_) (fun c13 => ?_)
      · have c13 := (z_lt _ _).mp c13
        exact Jj26
      · have c13 := z_nlt c13
        refine wp_nn ((hzP61 this).1 hk_this) (fun a18 hn_a18 => ?_)
        have hk_a18 := ((hzP61 this).2 a18 hn_a18).1
        have hl1_a18 := ((hzP61 this).2 a18 hn_a18).2.1
        have hl2_a18 := ((hzP61 this).2 a18 hn_a18).2.2.1
        have hw_a18 := ((hzP61 this).2 a18 hn_a18).2.2.2
        have hz_a18 : (Int32.ofNat (ln a18)).toInt = ((ln a18 : Nat) : Int) := ofN_eq (by first | exact Nat.le_trans hl2_a18 (by decide) | omega)
        refine wp_if ⟨by omega, by omega⟩ ?_
        have b2 := hzV2 a18 (Int32.toNatClampNeg p0)
        refine wp_ite (fun c23 => ?_) (fun c23 => ?_)
        · have c23 := (z_lt _ _).mp c23
          refine wp_nn ((hzP62 this).1 hk_this) (fun a29 hn_a29 => ?_)
          have hk_a29 := ((hzP62 this).2 a29 hn_a29).1
          have hl1_a29 := ((hzP62 this).2 a29 hn_a29).2.1
          have hl2_a29 := ((hzP62 this).2 a29 hn_a29).2.2.1
          have hw_a29 := ((hzP62 this).2 a29 hn_a29).2.2.2
          have hz_a29 : (Int32.ofNat (ln a29)).toInt = ((ln a29 : Nat) : Int) := ofN_eq (by first | exact Nat.le_trans hl2_a29 (by decide) | omega)
          have f3 : (p0 * 24).toInt = p0.toInt * 24 := z_mulc (by decide +kernel) (by omega) (by omega)
          have f4 : ((p0 * 24) + p1).toInt = (p0 * 24).toInt + p1.toInt := z_add (by omega) (by omega)
          refine wp_if ⟨by omega, by omega⟩ ?_
          exact ⟨_, rfl, trivial⟩
        · have c23 := z_nlt c23
          exact Jj26
abbrev QC_X3_lengthOf (κ : Nat → Nat) (wd : Nat) (G : Nat → Nat → Int32) (P : Nat → Nat → Option Nat) (U : Nat → Nat → Int64) (V : Nat → Nat → Nat → Int32) (X : Nat → Nat → Nat → Int64) (O : Nat → Nat → Nat → Option Nat) (kd : Nat → Nat) (ln : Nat → Nat) (cnt : Nat) (this : Nat) (p0 : Int32) (p1 : Int32) : (Int32) → Prop := (fun t => True)
set_option maxHeartbeats 4000000 in
set_option maxRecDepth 100000 in
theorem ok_X3_lengthOf (κ : Nat → Nat) (wd : Nat) (G : Nat → Nat → Int32) (P : Nat → Nat → Option Nat) (U : Nat → Nat → Int64) (V : Nat → Nat → Nat → Int32) (X : Nat → Nat → Nat → Int64) (O : Nat → Nat → Nat → Option Nat) (kd : Nat → Nat) (ln : Nat → Nat) (cnt : Nat) (this : Nat) (p0 : Int32) (p1 : Int32) (hzG60 : rng (0) 30 (G 60)) (hzG200 : rng (0) 24 (G 200)) (hzG203 : rng (0) 100 (G 203)) (hzP61 : PB κ ln wd 4 102 30 30 0 (P 61)) (hzP62 : PB κ ln wd 4 100 720 720 0 (P 62)) (hzP66 : PB κ ln wd 4 11 0 2500 0 (P 66)) (hzP201 : PB κ ln wd 11 100 0 2400 0 (P 201)) (hzP202 : PB κ ln wd 11 101 0 100 0 (P 202)) (hzV1 : rng2 (0) 24 (V 1)) (hzV2 : rng2 (0) 24 (V 2)) (hzRA : RA κ ln (G 200) (P 201) (P 202)) (hzRB : RB κ ln (G 200) (G 203) (P 202) (V 1)) (hzRI : RI (P 202)) (hzLN : LN κ ln) (hk_this : κ this = 4) : wp (f_X3_lengthOf G P U V X O kd ln cnt this p0 p1) (QC_X3_lengthOf κ wd G P U V X O kd ln cnt this p0 p1) := by
  unfold f_X3_lengthOf
  have zkm1 : (-1 : Int32).toInt = -1 := by decide +kernel
  have zk0 : (0 : Int32).toInt = 0 := by decide +kernel
  have r_p0 := i32r p0
  have r_p1 := i32r p1
  obtain ⟨r3, hc3, hq3⟩ := ok_X3_pick κ wd G P U V X O kd ln cnt this p0 p1 hzG60 hzP61 hzP62 hzV2 hzLN hk_this
  refine wp_b1 hc3 ?_
  clear hc3
  refine wp_jn (fun j35 => ∀ (t35_0 : Int32), wp (j35 t35_0) (QC_X3_lengthOf κ wd G P U V X O kd ln cnt this p0 p1)) ?_ ?_
  · intro t35_0
    show wp _ _
    exact ⟨_, rfl, trivial⟩
  intro j35 Jj35
  refine wp_jn (fun j22 => wp (j22 ()) (QC_X3_lengthOf κ wd G P U V X O kd ln cnt this p0 p1)) ?_ ?_
  · show wp _ _
    exact Jj35 (-1 : Int32)
  intro j22 Jj22
  refine wp_ite (fun c8 => ?_) (fun c8 => ?_)
  · have c8 := (z_lt _ _).mp c8
    exact Jj22
  · have c8 := z_nlt c8
    refine wp_nn ((hzP66 this).1 hk_this) (fun a13 hn_a13 => ?_)
    have hk_a13 := ((hzP66 this).2 a13 hn_a13).1
    have hl1_a13 := ((hzP66 this).2 a13 hn_a13).2.1
    have hl2_a13 := ((hzP66 this).2 a13 hn_a13).2.2.1
    have hw_a13 := ((hzP66 this).2 a13 hn_a13).2.2.2
    have b1 := hzG203 a13
    refine wp_ite (fun c19 => ?_) (fun c19 => ?_)
    · have c19 := (z_lt _ _).mp c19
      refine wp_nne hn_a13 ?_
      refine wp_nn ((hzP202 a13).1 hk_a13) (fun a30 hn_a30 => ?_)
      have hk_a30 := ((hzP202 a13).2 a30 hn_a30).1
      have hl1_a30 := ((hzP202 a13).2 a30 hn_a30).2.1
      have hl2_a30 := ((hzP202 a13).2 a30 hn_a30).2.2.1
      have hw_a30 := ((hzP202 a13).2 a30 hn_a30).2.2.2
      have hz_a30 : (Int32.ofNat (ln a30)).toInt = ((ln a30 : Nat) : Int) := ofN_eq (by first | exact Nat.le_trans hl2_a30 (by decide) | omega)
      have rb2 := (hzRB a13 a30 hk_a13 hn_a30).1
      refine wp_if ⟨by omega, by omega⟩ ?_
      have b3 := hzV1 a30 (Int32.toNatClampNeg r3)
      have rl4 := (hzRB a13 a30 hk_a13 hn_a30).2 (Int32.toNatClampNeg r3)
      exact Jj35 (((V 1) a30) (Int32.toNatClampNeg r3))
    · have c19 := z_nlt c19
      exact Jj22
abbrev QC_X11_parting (κ : Nat → Nat) (wd : Nat) (G : Nat → Nat → Int32) (P : Nat → Nat → Option Nat) (U : Nat → Nat → Int64) (V : Nat → Nat → Nat → Int32) (X : Nat → Nat → Nat → Int64) (O : Nat → Nat → Nat → Option Nat) (kd : Nat → Nat) (ln : Nat → Nat) (cnt : Nat) (this : Nat) (p0 : Int32) (p1 : Int32) : (Int32) → Prop := (fun t => True)
set_option maxHeartbeats 4000000 in
set_option maxRecDepth 100000 in
theorem ok_X11_parting (κ : Nat → Nat) (wd : Nat) (G : Nat → Nat → Int32) (P : Nat → Nat → Option Nat) (U : Nat → Nat → Int64) (V : Nat → Nat → Nat → Int32) (X : Nat → Nat → Nat → Int64) (O : Nat → Nat → Nat → Option Nat) (kd : Nat → Nat) (ln : Nat → Nat) (cnt : Nat) (this : Nat) (p0 : Int32) (p1 : Int32) (hzG60 : rng (0) 30 (G 60)) (hzG200 : rng (0) 24 (G 200)) (hzG203 : rng (0) 100 (G 203)) (hzP61 : PB κ ln wd 4 102 30 30 0 (P 61)) (hzP62 : PB κ ln wd 4 100 720 720 0 (P 62)) (hzP66 : PB κ ln wd 4 11 0 2500 0 (P 66)) (hzP201 : PB κ ln wd 11 100 0 2400 0 (P 201)) (hzP202 : PB κ ln wd 11 101 0 100 0 (P 202)) (hzP228 : PB κ ln wd 12 4 0 2500 0 (P 228)) (hzV1 : rng2 (0) 24 (V 1)) (hzV2 : rng2 (0) 24 (V 2)) (hzRA : RA κ ln (G 200) (P 201) (P 202)) (hzRB : RB κ ln (G 200) (G 203) (P 202) (V 1)) (hzRI : RI (P 202)) (hzLN : LN κ ln) (hk_this : κ this = 12) : wp (f_X11_parting G P U V X O kd ln cnt this p0 p1) (QC_X11_parting κ wd G P U V X O kd ln cnt this p0 p1) := by
  unfold f_X11_parting
  have zkm1 : (-1 : Int32).toInt = -1 := by decide +kernel
  have zk0 : (0 : Int32).toInt = 0 := by decide +kernel
  have zk1 : (1 : Int32).toInt = 1 := by decide +kernel
  have r_p0 := i32r p0
  have r_p1 := i32r p1
  refine wp_jn (fun j19 => wp (j19 ()) (QC_X11_parting κ wd G P U V X O kd ln cnt this p0 p1)) ?_ ?_
  · show wp _ _
    exact ⟨_, rfl, trivial⟩
  intro j19 Jj19
  refine wp_ite (fun c1 => ?_) (fun c1 => ?_)
  · have c1 := (z_lt _ _).mp c1
    exact Jj19
  · have c1 := z_nlt c1
    refine wp_nn ((hzP228 this).1 hk_this) (fun a6 hn_a6 => ?_)
    have hk_a6 := ((hzP228 this).2 a6 hn_a6).1
    have hl1_a6 := ((hzP228 this).2 a6 hn_a6).2.1
    have hl2_a6 := ((hzP228 this).2 a6 hn_a6).2.2.1
    have hw_a6 := ((hzP228 this).2 a6 hn_a6).2.2.2
    have b1 := hzG60 a6
    refine wp_ite (fun c12 => ?_) (fun c12 => ?_)
    · have c12 := (z_le _ _).mp c12
      exact Jj19
    · have c12 := z_nle c12
      refine wp_ite (fun c16 => ?_) (fun c16 => ?_)
      · have c16 := (z_le _ _).mp c16
        refine wp_jn (fun j48 => ∀ (t48_0 : Int32), wp (j48 t48_0) (QC_X11_parting κ wd G P U V X O kd ln cnt this p0 p1)) ?_ ?_
        · intro t48_0
          show wp _ _
          exact ⟨_, rfl, trivial⟩
        intro j48 Jj48
        refine wp_ite (fun c22 => ?_) (fun c22 => ?_)
        · have c22 := congrArg Int32.toInt c22
          refine wp_nne hn_a6 ?_
          refine wp_nn ((hzP61 a6).1 hk_a6) (fun a29 hn_a29 => ?_)
          have hk_a29 := ((hzP61 a6).2 a29 hn_a29).1
          have hl1_a29 := ((hzP61 a6).2 a29 hn_a29).2.1
          have hl2_a29 := ((hzP61 a6).2 a29 hn_a29).2.2.1
          have hw_a29 := ((hzP61 a6).2 a29 hn_a29).2.2.2
          have hz_a29 : (Int32.ofNat (ln a29)).toInt = ((ln a29 : Nat) : Int) := ofN_eq (by first | exact Nat.le_trans hl2_a29 (by decide) | omega)
          refine wp_if ⟨by omega, by omega⟩ ?_
          have b2 := hzV2 a29 (Int32.toNatClampNeg p0)
          exact Jj48 (((V 2) a29) (Int32.toNatClampNeg p0))
        · have c22 := z_ne c22
          refine wp_nne hn_a6 ?_
          have f3 : (p1 - 1).toInt = p1.toInt - 1 := z_subc (by decide +kernel) (by omega) (by omega)
          obtain ⟨r45, hc45, hq45⟩ := ok_X3_lengthOf κ wd G P U V X O kd ln cnt a6 p0 (p1 - 1) hzG60 hzG200 hzG203 hzP61 hzP62 hzP66 hzP201 hzP202 hzV1 hzV2 hzRA hzRB hzRI hzLN hk_a6
          refine wp_b1 hc45 ?_
          clear hc45
          exact Jj48 r45
      · have c16 := z_nle c16
        exact Jj19
abbrev QC_X11_word (κ : Nat → Nat) (wd : Nat) (G : Nat → Nat → Int32) (P : Nat → Nat → Option Nat) (U : Nat → Nat → Int64) (V : Nat → Nat → Nat → Int32) (X : Nat → Nat → Nat → Int64) (O : Nat → Nat → Nat → Option Nat) (kd : Nat → Nat) (ln : Nat → Nat) (cnt : Nat) (this : Nat) (p0 : Int32) (p1 : Int32) : (Int32) → Prop := (fun t => True)
set_option maxHeartbeats 4000000 in
set_option maxRecDepth 100000 in
theorem ok_X11_word (κ : Nat → Nat) (wd : Nat) (G : Nat → Nat → Int32) (P : Nat → Nat → Option Nat) (U : Nat → Nat → Int64) (V : Nat → Nat → Nat → Int32) (X : Nat → Nat → Nat → Int64) (O : Nat → Nat → Nat → Option Nat) (kd : Nat → Nat) (ln : Nat → Nat) (cnt : Nat) (this : Nat) (p0 : Int32) (p1 : Int32) (hzG200 : rng (0) 24 (G 200)) (hzG203 : rng (0) 100 (G 203)) (hzP0 : PB κ ln wd 1 11 0 2500 0 (P 0)) (hzP201 : PB κ ln wd 11 100 0 2400 0 (P 201)) (hzP202 : PB κ ln wd 11 101 0 100 0 (P 202)) (hzP229 : PB κ ln wd 12 1 0 2500 0 (P 229)) (hzV1 : rng2 (0) 24 (V 1)) (hzRA : RA κ ln (G 200) (P 201) (P 202)) (hzRB : RB κ ln (G 200) (G 203) (P 202) (V 1)) (hzRI : RI (P 202)) (hzLN : LN κ ln) (hzW0 : W0 wd (P 0)) (hk_this : κ this = 12) : wp (f_X11_word G P U V X O kd ln cnt this p0 p1) (QC_X11_word κ wd G P U V X O kd ln cnt this p0 p1) := by
  unfold f_X11_word
  have r_p0 := i32r p0
  have r_p1 := i32r p1
  refine wp_nn ((hzP229 this).1 hk_this) (fun a1 hn_a1 => ?_)
  have hk_a1 := ((hzP229 this).2 a1 hn_a1).1
  have hl1_a1 := ((hzP229 this).2 a1 hn_a1).2.1
  have hl2_a1 := ((hzP229 this).2 a1 hn_a1).2.2.1
  have hw_a1 := ((hzP229 this).2 a1 hn_a1).2.2.2
  refine wp_nn ((hzP0 a1).1 hk_a1) (fun a4 hn_a4 => ?_)
  obtain rfl : wd = a4 := (hzW0 _ _ hn_a4).symm
  have hk_wd := ((hzP0 a1).2 wd hn_a4).1
  have hl1_wd := ((hzP0 a1).2 wd hn_a4).2.1
  have hl2_wd := ((hzP0 a1).2 wd hn_a4).2.2.1
  have hw_wd := ((hzP0 a1).2 wd hn_a4).2.2.2
  obtain ⟨r9, hc9, hq9⟩ := ok_X10_letterAt κ wd G P U V X O kd ln cnt wd p0 p1 hzG200 hzG203 hzP201 hzP202 hzV1 hzRA hzRB hzRI hzLN hk_wd
  refine wp_b1 hc9 ?_
  clear hc9
  exact ⟨_, rfl, trivial⟩
abbrev QC_X6_byteAt (κ : Nat → Nat) (wd : Nat) (G : Nat → Nat → Int32) (P : Nat → Nat → Option Nat) (U : Nat → Nat → Int64) (V : Nat → Nat → Nat → Int32) (X : Nat → Nat → Nat → Int64) (O : Nat → Nat → Nat → Option Nat) (kd : Nat → Nat) (ln : Nat → Nat) (cnt : Nat) (this : Nat) (p0 : Int32) : (Int32) → Prop := (fun t => True)
set_option maxHeartbeats 4000000 in
set_option maxRecDepth 100000 in
theorem ok_X6_byteAt (κ : Nat → Nat) (wd : Nat) (G : Nat → Nat → Int32) (P : Nat → Nat → Option Nat) (U : Nat → Nat → Int64) (V : Nat → Nat → Nat → Int32) (X : Nat → Nat → Nat → Int64) (O : Nat → Nat → Nat → Option Nat) (kd : Nat → Nat) (ln : Nat → Nat) (cnt : Nat) (this : Nat) (p0 : Int32) (hzG125 : rng (0) 2500 (G 125)) (hzP120 : PB κ ln wd 7 100 2500 2500 0 (P 120)) (hzLN : LN κ ln) (hk_this : κ this = 7) : wp (f_X6_byteAt G P U V X O kd ln cnt this p0) (QC_X6_byteAt κ wd G P U V X O kd ln cnt this p0) := by
  unfold f_X6_byteAt
  have zkm1 : (-1 : Int32).toInt = -1 := by decide +kernel
  have zk0 : (0 : Int32).toInt = 0 := by decide +kernel
  have zk255 : (255 : Int32).toInt = 255 := by decide +kernel
  have r_p0 := i32r p0
  refine wp_jn (fun j26 => ∀ (t26_0 : Int32), wp (j26 t26_0) (QC_X6_byteAt κ wd G P U V X O kd ln cnt this p0)) ?_ ?_
  · intro t26_0
    show wp _ _
    exact ⟨_, rfl, trivial⟩
  intro j26 Jj26
  refine wp_jn (fun j12 => wp (j12 ()) (QC_X6_byteAt κ wd G P U V X O kd ln cnt this p0)) ?_ ?_
  · show wp _ _
    exact Jj26 (-1 : Int32)
  intro j12 Jj12
  refine wp_ite (fun c1 => ?_) (fun c1 => ?_)
  · have c1 := (z_lt _ _).mp c1
    exact Jj12
  · have c1 := z_nlt c1
    have b1 := hzG125 this
    refine wp_ite (fun c9 => ?_) (fun c9 => ?_)
    · have c9 := (z_lt _ _).mp c9
      refine wp_nn ((hzP120 this).1 hk_this) (fun a17 hn_a17 => ?_)
      have hk_a17 := ((hzP120 this).2 a17 hn_a17).1
      have hl1_a17 := ((hzP120 this).2 a17 hn_a17).2.1
      have hl2_a17 := ((hzP120 this).2 a17 hn_a17).2.2.1
      have hw_a17 := ((hzP120 this).2 a17 hn_a17).2.2.2
      have hz_a17 : (Int32.ofNat (ln a17)).toInt = ((ln a17 : Nat) : Int) := ofN_eq (by first | exact Nat.le_trans hl2_a17 (by decide) | omega)
      refine wp_if ⟨by omega, by omega⟩ ?_
      exact Jj26 ((((V 0) a17) (Int32.toNatClampNeg p0)) &&& 255)
    · have c9 := z_nlt c9
      exact Jj12
abbrev QC_X11_written (κ : Nat → Nat) (wd : Nat) (G : Nat → Nat → Int32) (P : Nat → Nat → Option Nat) (U : Nat → Nat → Int64) (V : Nat → Nat → Nat → Int32) (X : Nat → Nat → Nat → Int64) (O : Nat → Nat → Nat → Option Nat) (kd : Nat → Nat) (ln : Nat → Nat) (cnt : Nat) (this : Nat) (p0 : Int32) : (Int32) → Prop := (fun t => True)
set_option maxHeartbeats 4000000 in
set_option maxRecDepth 100000 in
theorem ok_X11_written (κ : Nat → Nat) (wd : Nat) (G : Nat → Nat → Int32) (P : Nat → Nat → Option Nat) (U : Nat → Nat → Int64) (V : Nat → Nat → Nat → Int32) (X : Nat → Nat → Nat → Int64) (O : Nat → Nat → Nat → Option Nat) (kd : Nat → Nat) (ln : Nat → Nat) (cnt : Nat) (this : Nat) (p0 : Int32) (hzG125 : rng (0) 2500 (G 125)) (hzP120 : PB κ ln wd 7 100 2500 2500 0 (P 120)) (hzP235 : PB κ ln wd 12 7 0 2500 0 (P 235)) (hzLN : LN κ ln) (hk_this : κ this = 12) : wp (f_X11_written G P U V X O kd ln cnt this p0) (QC_X11_written κ wd G P U V X O kd ln cnt this p0) := by
  unfold f_X11_written
  have r_p0 := i32r p0
  refine wp_nn ((hzP235 this).1 hk_this) (fun a1 hn_a1 => ?_)
  have hk_a1 := ((hzP235 this).2 a1 hn_a1).1
  have hl1_a1 := ((hzP235 this).2 a1 hn_a1).2.1
  have hl2_a1 := ((hzP235 this).2 a1 hn_a1).2.2.1
  have hw_a1 := ((hzP235 this).2 a1 hn_a1).2.2.2
  obtain ⟨r5, hc5, hq5⟩ := ok_X6_byteAt κ wd G P U V X O kd ln cnt a1 p0 hzG125 hzP120 hzLN hk_a1
  refine wp_b1 hc5 ?_
  clear hc5
  exact ⟨_, rfl, trivial⟩
abbrev QC_X1_standsAt (κ : Nat → Nat) (wd : Nat) (G : Nat → Nat → Int32) (P : Nat → Nat → Option Nat) (U : Nat → Nat → Int64) (V : Nat → Nat → Nat → Int32) (X : Nat → Nat → Nat → Int64) (O : Nat → Nat → Nat → Option Nat) (kd : Nat → Nat) (ln : Nat → Nat) (cnt : Nat) (this : Nat) (p0 : Nat) (p1 : Int32) (p2 : Int32) (p3 : Nat) (p4 : Int32) : (Int32) → Prop := (fun t => ((0 ≤ t.toInt ∧ t.toInt ≤ 1)) ∧ ((t.toInt = 1 → ∀ f, (P 20) this = some f → p1.toInt + ((ln f : Nat) : Int) ≤ p2.toInt)))
set_option maxHeartbeats 4000000 in
set_option maxRecDepth 100000 in
theorem ok_X1_standsAt (κ : Nat → Nat) (wd : Nat) (G : Nat → Nat → Int32) (P : Nat → Nat → Option Nat) (U : Nat → Nat → Int64) (V : Nat → Nat → Nat → Int32) (X : Nat → Nat → Nat → Int64) (O : Nat → Nat → Nat → Option Nat) (kd : Nat → Nat) (ln : Nat → Nat) (cnt : Nat) (this : Nat) (p0 : Nat) (p1 : Int32) (p2 : Int32) (p3 : Nat) (p4 : Int32) (hzP20 : PB κ ln wd 2 100 0 16 0 (P 20)) (hzP22 : PB κ ln wd 2 100 0 16 0 (P 22)) (hzP23 : PB κ ln wd 2 100 0 16 0 (P 23)) (hzLN : LN κ ln) (hk_this : κ this = 2) (hk_p0 : κ p0 = 100) (hk_p3 : κ p3 = 100) (hp0 : (0 ≤ p1.toInt ∧ p1.toInt ≤ 40)) (hp1 : (0 ≤ p2.toInt ∧ p2.toInt ≤ 40)) (hp2 : (0 ≤ p4.toInt ∧ p4.toInt ≤ 40)) : wp (f_X1_standsAt G P U V X O kd ln cnt this p0 p1 p2 p3 p4) (QC_X1_standsAt κ wd G P U V X O kd ln cnt this p0 p1 p2 p3 p4) := by
  unfold f_X1_standsAt
  have zk0 : (0 : Int32).toInt = 0 := by decide +kernel
  have zk1 : (1 : Int32).toInt = 1 := by decide +kernel
  have r_p1 := i32r p1
  have r_p2 := i32r p2
  have r_p4 := i32r p4
  obtain ⟨u1, hn_u1⟩ := PBs (hzP20 this) hk_this
  have hk_u1 := ((hzP20 this).2 u1 hn_u1).1
  have hl1_u1 := ((hzP20 this).2 u1 hn_u1).2.1
  have hl2_u1 := ((hzP20 this).2 u1 hn_u1).2.2.1
  have hw_u1 := ((hzP20 this).2 u1 hn_u1).2.2.2
  have hz_u1 : (Int32.ofNat (ln u1)).toInt = ((ln u1 : Nat) : Int) := ofN_eq (by first | exact Nat.le_trans hl2_u1 (by decide) | omega)
  have f2 : (p2 - p1).toInt = p2.toInt - p1.toInt := z_sub (by omega) (by omega)
  refine wp_nne hn_u1 ?_
  have hzb_u1 := hzLN u1 (by rw [hk_u1]; decide)
  have f3 : ((p2 - p1) - (Int32.ofNat (ln u1))).toInt = (p2 - p1).toInt - (Int32.ofNat (ln u1)).toInt := z_sub (by omega) (by omega)
  refine wp_vl (fun x9 ex9 => ?_)
  have f4 : x9.toInt = ((p2 - p1) - (Int32.ofNat (ln u1))).toInt := congrArg Int32.toInt ex9
  clear ex9
  refine wp_jn (fun j40 => wp (j40 ()) (QC_X1_standsAt κ wd G P U V X O kd ln cnt this p0 p1 p2 p3 p4)) ?_ ?_
  · show wp _ _
    exact ⟨_, rfl, ⟨(show 0 ≤ (0 : Int32).toInt ∧ (0 : Int32).toInt ≤ 1 from ⟨by omega, by omega⟩), (show ((0 : Int32).toInt = 1 → ∀ f, (P 20) this = some f → p1.toInt + ((ln f : Nat) : Int) ≤ p2.toInt) from by intro h1 f hf; obtain rfl : u1 = f := Option.some.inj (hn_u1.symm.trans hf); omega)⟩⟩
  intro j40 Jj40
  refine wp_ite (fun c13 => ?_) (fun c13 => ?_)
  · have c13 := (z_lt _ _).mp c13
    exact Jj40
  · have c13 := z_nlt c13
    refine wp_jn (fun j28 => wp (j28 ()) (QC_X1_standsAt κ wd G P U V X O kd ln cnt this p0 p1 p2 p3 p4)) ?_ ?_
    · show wp _ _
      refine wp_jn (fun j42 => wp (j42 ()) (QC_X1_standsAt κ wd G P U V X O kd ln cnt this p0 p1 p2 p3 p4)) ?_ ?_
      · show wp _ _
        refine wp_nn ((hzP22 this).1 hk_this) (fun a43 hn_a43 => ?_)
        have hk_a43 := ((hzP22 this).2 a43 hn_a43).1
        have hl1_a43 := ((hzP22 this).2 a43 hn_a43).2.1
        have hl2_a43 := ((hzP22 this).2 a43 hn_a43).2.2.1
        have hw_a43 := ((hzP22 this).2 a43 hn_a43).2.2.2
        have hz_a43 : (Int32.ofNat (ln a43)).toInt = ((ln a43 : Nat) : Int) := ofN_eq (by first | exact Nat.le_trans hl2_a43 (by decide) | omega)
        have hzb_a43 := hzLN a43 (by rw [hk_a43]; decide)
        refine wp_jn (fun j62 => wp (j62 ()) (QC_X1_standsAt κ wd G P U V X O kd ln cnt this p0 p1 p2 p3 p4)) ?_ ?_
        · show wp _ _
          exact ⟨_, rfl, ⟨(show 0 ≤ (0 : Int32).toInt ∧ (0 : Int32).toInt ≤ 1 from ⟨by omega, by omega⟩), (show ((0 : Int32).toInt = 1 → ∀ f, (P 20) this = some f → p1.toInt + ((ln f : Nat) : Int) ≤ p2.toInt) from by intro h1 f hf; obtain rfl : u1 = f := Option.some.inj (hn_u1.symm.trans hf); omega)⟩⟩
        intro j62 Jj62
        refine wp_ite (fun c49 => ?_) (fun c49 => ?_)
        · have c49 := (z_lt _ _).mp c49
          exact Jj62
        · have c49 := z_nlt c49
          refine wp_nn ((hzP23 this).1 hk_this) (fun a53 hn_a53 => ?_)
          have hk_a53 := ((hzP23 this).2 a53 hn_a53).1
          have hl1_a53 := ((hzP23 this).2 a53 hn_a53).2.1
          have hl2_a53 := ((hzP23 this).2 a53 hn_a53).2.2.1
          have hw_a53 := ((hzP23 this).2 a53 hn_a53).2.2.2
          have hz_a53 : (Int32.ofNat (ln a53)).toInt = ((ln a53 : Nat) : Int) := ofN_eq (by first | exact Nat.le_trans hl2_a53 (by decide) | omega)
          have hzb_a53 := hzLN a53 (by rw [hk_a53]; decide)
          refine wp_ite (fun c59 => ?_) (fun c59 => ?_)
          · have c59 := (z_le _ _).mp c59
            refine wp_nne hn_u1 ?_
            refine wp_nne hn_u1 ?_
            obtain ⟨r76, hc76, hq76⟩ := ok_X10_same κ wd G P U V X O kd ln cnt u1 (0 : Int32) p0 p1 (Int32.ofNat (ln u1)) hzLN hk_u1 hk_p0
            have f5 : (0 ≤ r76.toInt ∧ r76.toInt ≤ 1) := hq76
            refine wp_b1 hc76 ?_
            clear hc76
            refine wp_jn (fun j137 => ∀ (t137_0 : Int32), (0 ≤ t137_0.toInt ∧ t137_0.toInt ≤ 1) → wp (j137 t137_0) (QC_X1_standsAt κ wd G P U V X O kd ln cnt this p0 p1 p2 p3 p4)) ?_ ?_
            · intro t137_0 f6
              show wp _ _
              refine wp_if ⟨by omega, by omega⟩ ?_
              exact ⟨_, rfl, ⟨(show 0 ≤ t137_0.toInt ∧ t137_0.toInt ≤ 1 from ⟨by omega, by omega⟩), (show (t137_0.toInt = 1 → ∀ f, (P 20) this = some f → p1.toInt + ((ln f : Nat) : Int) ≤ p2.toInt) from by intro h1 f hf; obtain rfl : u1 = f := Option.some.inj (hn_u1.symm.trans hf); omega)⟩⟩
            intro j137 Jj137
            refine wp_jn (fun j136 => wp (j136 ()) (QC_X1_standsAt κ wd G P U V X O kd ln cnt this p0 p1 p2 p3 p4)) ?_ ?_
            · show wp _ _
              exact Jj137 (0 : Int32) (show (0 ≤ (0 : Int32).toInt ∧ (0 : Int32).toInt ≤ 1) from by omega)
            intro j136 Jj136
            refine wp_ite (fun c79 => ?_) (fun c79 => ?_)
            · have c79 := congrArg Int32.toInt c79
              exact Jj136
            · have c79 := z_ne c79
              refine wp_nne hn_a43 ?_
              refine wp_nne hn_a43 ?_
              have f7 : (p4 - (Int32.ofNat (ln a43))).toInt = p4.toInt - (Int32.ofNat (ln a43)).toInt := z_sub (by omega) (by omega)
              refine wp_nne hn_a43 ?_
              obtain ⟨r102, hc102, hq102⟩ := ok_X10_same κ wd G P U V X O kd ln cnt a43 (0 : Int32) p3 (p4 - (Int32.ofNat (ln a43))) (Int32.ofNat (ln a43)) hzLN hk_a43 hk_p3
              have f8 : (0 ≤ r102.toInt ∧ r102.toInt ≤ 1) := hq102
              refine wp_b1 hc102 ?_
              clear hc102
              refine wp_ite (fun c105 => ?_) (fun c105 => ?_)
              · have c105 := congrArg Int32.toInt c105
                exact Jj136
              · have c105 := z_ne c105
                refine wp_nne hn_a53 ?_
                refine wp_nne hn_u1 ?_
                have f9 : (p1 + (Int32.ofNat (ln u1))).toInt = p1.toInt + (Int32.ofNat (ln u1)).toInt := z_add (by omega) (by omega)
                refine wp_nne hn_a53 ?_
                obtain ⟨r126, hc126, hq126⟩ := ok_X10_same κ wd G P U V X O kd ln cnt a53 (0 : Int32) p0 (p1 + (Int32.ofNat (ln u1))) (Int32.ofNat (ln a53)) hzLN hk_a53 hk_p0
                have f10 : (0 ≤ r126.toInt ∧ r126.toInt ≤ 1) := hq126
                refine wp_b1 hc126 ?_
                clear hc126
                refine wp_ite (fun c129 => ?_) (fun c129 => ?_)
                · have c129 := congrArg Int32.toInt c129
                  exact Jj136
                · have c129 := z_ne c129
                  exact Jj137 (1 : Int32) (show (0 ≤ (1 : Int32).toInt ∧ (1 : Int32).toInt ≤ 1) from by omega)
          · have c59 := z_nle c59
            exact Jj62
      intro j42 Jj42
      refine wp_ite (fun c32 => ?_) (fun c32 => ?_)
      · have c32 := congrArg Int32.toInt c32
        exact Jj42
      · have c32 := z_ne c32
        refine wp_ite (fun c37 => ?_) (fun c37 => ?_)
        · have c37 := (z_le _ _).mp c37
          exact Jj42
        · have c37 := z_nle c37
          exact Jj40
    intro j28 Jj28
    refine wp_ite (fun c20 => ?_) (fun c20 => ?_)
    · have c20 := congrArg Int32.toInt c20
      exact Jj28
    · have c20 := z_ne c20
      refine wp_ite (fun c25 => ?_) (fun c25 => ?_)
      · have c25 := (z_lt _ _).mp c25
        exact Jj40
      · have c25 := z_nlt c25
        exact Jj28
abbrev QC_J7_fill_53178_107 (κ : Nat → Nat) (wd : Nat) (G : Nat → Nat → Int32) (P : Nat → Nat → Option Nat) (U : Nat → Nat → Int64) (V : Nat → Nat → Nat → Int32) (X : Nat → Nat → Nat → Int64) (O : Nat → Nat → Nat → Option Nat) (kd : Nat → Nat) (ln : Nat → Nat) (cnt : Nat) (p0 : Nat) (p1 : Int32) : ((Nat → Nat → Int32)) → Prop := (fun t => True)
set_option maxHeartbeats 4000000 in
set_option maxRecDepth 100000 in
theorem ok_J7_fill_53178_107 (κ : Nat → Nat) (wd : Nat) (G : Nat → Nat → Int32) (P : Nat → Nat → Option Nat) (U : Nat → Nat → Int64) (V : Nat → Nat → Nat → Int32) (X : Nat → Nat → Nat → Int64) (O : Nat → Nat → Nat → Option Nat) (kd : Nat → Nat) (ln : Nat → Nat) (cnt : Nat) (p0 : Nat) (p1 : Int32) (hzLN : LN κ ln) (hk_p0 : κ p0 = 107) : wp (f_J7_fill_53178_107 G P U V X O kd ln cnt p0 p1) (QC_J7_fill_53178_107 κ wd G P U V X O kd ln cnt p0 p1) := by
  unfold f_J7_fill_53178_107
  have zk0 : (0 : Int32).toInt = 0 := by decide +kernel
  have r_p1 := i32r p1
  have hz_p0 : (Int32.ofNat (ln p0)).toInt = ((ln p0 : Nat) : Int) := ofN_eq (hzLN p0 (by rw [hk_p0]; decide))
  have hzb_p0 := hzLN p0 (by rw [hk_p0]; decide)
  refine wp_vl (fun x4 ex4 => ?_)
  have f1 : x4.toInt = (Int32.ofNat (ln p0)).toInt := congrArg Int32.toInt ex4
  clear ex4
  have lp5 : ∀ (n5 : Nat) (y5_2 : Int32) (d5_V7 : Nat → Nat → Int32), (2500 - y5_2.toInt).toNat < n5 → 0 ≤ y5_2.toInt → wp (L_J7_fill_53178_107_5 ln p0 p1 x4 n5 y5_2 d5_V7) (QC_J7_fill_53178_107 κ wd G P U V X O kd ln cnt p0 p1) := by
    intro n5
    induction n5 with
    | zero => intro y5_2 d5_V7 hm; exact absurd hm (Nat.not_lt_zero _)
    | succ n5 ih5 =>
      intro y5_2 d5_V7 hm5 f2
      show wp (B_J7_fill_53178_107_5 ln p0 p1 x4 (L_J7_fill_53178_107_5 ln p0 p1 x4 n5) y5_2 d5_V7) _
      unfold B_J7_fill_53178_107_5
      refine wp_ite (fun c7 => ?_) (fun c7 => ?_)
      · have c7 := (z_le _ _).mp c7
        exact ⟨_, rfl, trivial⟩
      · have c7 := z_nle c7
        refine wp_if ⟨by omega, by omega⟩ ?_
        refine wp_vl (fun m13 em13 => ?_)
        clear em13
        have f3 : (y5_2 + 1).toInt = y5_2.toInt + (1) := z_addc (by decide +kernel) (by omega) (by omega)
        exact ih5 (y5_2 + 1) m13 (show (2500 - (y5_2 + 1).toInt).toNat < n5 from by omega) (show 0 ≤ (y5_2 + 1).toInt from by omega)
  exact lp5 NN (0 : Int32) (V 7) (by have := NN_eq; omega) (show 0 ≤ (0 : Int32).toInt from by omega)
abbrev QC_X2_begin (κ : Nat → Nat) (wd : Nat) (G : Nat → Nat → Int32) (P : Nat → Nat → Option Nat) (U : Nat → Nat → Int64) (V : Nat → Nat → Nat → Int32) (X : Nat → Nat → Nat → Int64) (O : Nat → Nat → Nat → Option Nat) (kd : Nat → Nat) (ln : Nat → Nat) (cnt : Nat) (this : Nat) (p0 : Int32) (p1 : Int32) : ((Nat → Int32) × (Nat → Int32) × (Nat → Nat → Int32)) → Prop := (fun t => (rng (0) 40 (t.1)) ∧ (rng (0) 7 (t.2.1)))
set_option maxHeartbeats 4000000 in
set_option maxRecDepth 100000 in
theorem ok_X2_begin (κ : Nat → Nat) (wd : Nat) (G : Nat → Nat → Int32) (P : Nat → Nat → Option Nat) (U : Nat → Nat → Int64) (V : Nat → Nat → Nat → Int32) (X : Nat → Nat → Nat → Int64) (O : Nat → Nat → Nat → Option Nat) (kd : Nat → Nat) (ln : Nat → Nat) (cnt : Nat) (this : Nat) (p0 : Int32) (p1 : Int32) (hzG44 : rng (0) 40 (G 44)) (hzG45 : rng (0) 7 (G 45)) (hzP40 : PB κ ln wd 3 107 280 280 0 (P 40)) (hzLN : LN κ ln) (hk_this : κ this = 3) (hp0 : (0 ≤ p0.toInt ∧ p0.toInt ≤ 3000)) (hp1 : (0 ≤ p1.toInt ∧ p1.toInt ≤ 100)) : wp (f_X2_begin G P U V X O kd ln cnt this p0 p1) (QC_X2_begin κ wd G P U V X O kd ln cnt this p0 p1) := by
  unfold f_X2_begin
  have zk0 : (0 : Int32).toInt = 0 := by decide +kernel
  have zk7 : (7 : Int32).toInt = 7 := by decide +kernel
  have zk40 : (40 : Int32).toInt = 40 := by decide +kernel
  have r_p0 := i32r p0
  have r_p1 := i32r p1
  have mm1 := z_min 40 p0
  refine wp_vl (fun x7 ex7 => ?_)
  have f2 : x7.toInt = (if 40 < p0 then 40 else p0).toInt := congrArg Int32.toInt ex7
  clear ex7
  refine wp_vl (fun m7 em7 => ?_)
  have hg3 : rng (0) 40 m7 := by rw [em7]; exact rng_vup hzG44 (by omega) (by omega)
  have sm7 : (m7 this).toInt = x7.toInt := by rw [em7, va_up_self]
  have b4 := hg3 this
  clear em7
  have mm5 := z_min 7 p1
  refine wp_vl (fun x17 ex17 => ?_)
  have f6 : x17.toInt = (if 7 < p1 then 7 else p1).toInt := congrArg Int32.toInt ex17
  clear ex17
  refine wp_vl (fun m17 em17 => ?_)
  have hg7 : rng (0) 7 m17 := by rw [em17]; exact rng_vup hzG45 (by omega) (by omega)
  have sm17 : (m17 this).toInt = x17.toInt := by rw [em17, va_up_self]
  have b8 := hg7 this
  clear em17
  refine wp_nn ((hzP40 this).1 hk_this) (fun a21 hn_a21 => ?_)
  have hk_a21 := ((hzP40 this).2 a21 hn_a21).1
  have hl1_a21 := ((hzP40 this).2 a21 hn_a21).2.1
  have hl2_a21 := ((hzP40 this).2 a21 hn_a21).2.2.1
  have hw_a21 := ((hzP40 this).2 a21 hn_a21).2.2.2
  have hz_a21 : (Int32.ofNat (ln a21)).toInt = ((ln a21 : Nat) : Int) := ofN_eq (by first | exact Nat.le_trans hl2_a21 (by decide) | omega)
  obtain ⟨c25_V7, hc25, hq25⟩ := ok_J7_fill_53178_107 κ wd (va_up (va_up G 44 m7) 45 m17) P U V X O kd ln cnt a21 (0 : Int32) hzLN hk_a21
  refine wp_b1 hc25 ?_
  clear hc25
  exact ⟨_, rfl, ⟨hg3, hg7⟩⟩
abbrev QC_X2_cost (κ : Nat → Nat) (wd : Nat) (G : Nat → Nat → Int32) (P : Nat → Nat → Option Nat) (U : Nat → Nat → Int64) (V : Nat → Nat → Nat → Int32) (X : Nat → Nat → Nat → Int64) (O : Nat → Nat → Nat → Option Nat) (kd : Nat → Nat) (ln : Nat → Nat) (cnt : Nat) (this : Nat) (p0 : Int32) (p1 : Int32) (p2 : Int32) (p3 : Int32) : (Int32) → Prop := (fun t => True)
set_option maxHeartbeats 4000000 in
set_option maxRecDepth 100000 in
theorem ok_X2_cost (κ : Nat → Nat) (wd : Nat) (G : Nat → Nat → Int32) (P : Nat → Nat → Option Nat) (U : Nat → Nat → Int64) (V : Nat → Nat → Nat → Int32) (X : Nat → Nat → Nat → Int64) (O : Nat → Nat → Nat → Option Nat) (kd : Nat → Nat) (ln : Nat → Nat) (cnt : Nat) (this : Nat) (p0 : Int32) (p1 : Int32) (p2 : Int32) (p3 : Int32) (hzP41 : PB κ ln wd 3 108 280 280 0 (P 41)) (hzLN : LN κ ln) (hk_this : κ this = 3) (hp0 : (0 ≤ p0.toInt ∧ p0.toInt < 40)) (hp1 : (0 ≤ p1.toInt ∧ p1.toInt ≤ 6)) : wp (f_X2_cost G P U V X O kd ln cnt this p0 p1 p2 p3) (QC_X2_cost κ wd G P U V X O kd ln cnt this p0 p1 p2 p3) := by
  unfold f_X2_cost
  have zkm1 : (-1 : Int32).toInt = -1 := by decide +kernel
  have zk0 : (0 : Int32).toInt = 0 := by decide +kernel
  have zk1 : (1 : Int32).toInt = 1 := by decide +kernel
  have zk7 : (7 : Int32).toInt = 7 := by decide +kernel
  have r_p0 := i32r p0
  have r_p1 := i32r p1
  have r_p2 := i32r p2
  have r_p3 := i32r p3
  refine wp_jn (fun j15 => ∀ (t15_0 : Int32), wp (j15 t15_0) (QC_X2_cost κ wd G P U V X O kd ln cnt this p0 p1 p2 p3)) ?_ ?_
  · intro t15_0
    show wp _ _
    refine wp_nn ((hzP41 this).1 hk_this) (fun a18 hn_a18 => ?_)
    have hk_a18 := ((hzP41 this).2 a18 hn_a18).1
    have hl1_a18 := ((hzP41 this).2 a18 hn_a18).2.1
    have hl2_a18 := ((hzP41 this).2 a18 hn_a18).2.2.1
    have hw_a18 := ((hzP41 this).2 a18 hn_a18).2.2.2
    have hz_a18 : (Int32.ofNat (ln a18)).toInt = ((ln a18 : Nat) : Int) := ofN_eq (by first | exact Nat.le_trans hl2_a18 (by decide) | omega)
    have f1 : (p0 * 7).toInt = p0.toInt * 7 := z_mulc (by decide +kernel) (by omega) (by omega)
    have f2 : ((p0 * 7) + p1).toInt = (p0 * 7).toInt + p1.toInt := z_add (by omega) (by omega)
    refine wp_if ⟨by omega, by omega⟩ ?_
    refine wp_jn (fun j39 => ∀ (t39_0 : Int32), wp (j39 t39_0) (QC_X2_cost κ wd G P U V X O kd ln cnt this p0 p1 p2 p3)) ?_ ?_
    · intro t39_0
      show wp _ _
      exact ⟨_, rfl, trivial⟩
    intro j39 Jj39
    refine wp_ite (fun c30 => ?_) (fun c30 => ?_)
    · have c30 := congrArg Int32.toInt c30
      exact Jj39 (0 : Int32)
    · have c30 := z_ne c30
      exact Jj39 p3
  intro j15 Jj15
  refine wp_jn (fun j14 => wp (j14 ()) (QC_X2_cost κ wd G P U V X O kd ln cnt this p0 p1 p2 p3)) ?_ ?_
  · show wp _ _
    exact Jj15 (0 : Int32)
  intro j14 Jj14
  refine wp_ite (fun c2 => ?_) (fun c2 => ?_)
  · have c2 := congrArg Int32.toInt c2
    exact Jj14
  · have c2 := z_ne c2
    refine wp_ite (fun c7 => ?_) (fun c7 => ?_)
    · have c7 := congrArg Int32.toInt c7
      exact Jj14
    · have c7 := z_ne c7
      exact Jj15 (1 : Int32)
abbrev QC_X2_cheapest (κ : Nat → Nat) (wd : Nat) (G : Nat → Nat → Int32) (P : Nat → Nat → Option Nat) (U : Nat → Nat → Int64) (V : Nat → Nat → Nat → Int32) (X : Nat → Nat → Nat → Int64) (O : Nat → Nat → Nat → Option Nat) (kd : Nat → Nat) (ln : Nat → Nat) (cnt : Nat) (this : Nat) (p0 : Int32) (p1 : Int32) (p2 : Int32) : (Int32) → Prop := (fun t => ((0 ≤ t.toInt ∧ t.toInt ≤ 6)))
set_option maxHeartbeats 4000000 in
set_option maxRecDepth 100000 in
theorem ok_X2_cheapest (κ : Nat → Nat) (wd : Nat) (G : Nat → Nat → Int32) (P : Nat → Nat → Option Nat) (U : Nat → Nat → Int64) (V : Nat → Nat → Nat → Int32) (X : Nat → Nat → Nat → Int64) (O : Nat → Nat → Nat → Option Nat) (kd : Nat → Nat) (ln : Nat → Nat) (cnt : Nat) (this : Nat) (p0 : Int32) (p1 : Int32) (p2 : Int32) (hzG45 : rng (0) 7 (G 45)) (hzP41 : PB κ ln wd 3 108 280 280 0 (P 41)) (hzLN : LN κ ln) (hk_this : κ this = 3) (hp0 : (0 ≤ p0.toInt ∧ p0.toInt < 40)) : wp (f_X2_cheapest G P U V X O kd ln cnt this p0 p1 p2) (QC_X2_cheapest κ wd G P U V X O kd ln cnt this p0 p1 p2) := by
  unfold f_X2_cheapest
  have zk0 : (0 : Int32).toInt = 0 := by decide +kernel
  have zk1 : (1 : Int32).toInt = 1 := by decide +kernel
  have r_p0 := i32r p0
  have r_p1 := i32r p1
  have r_p2 := i32r p2
  have lp6 : ∀ (n6 : Nat) (y6_4 : Int32) (y6_5 : Int32), (7 - y6_5.toInt).toNat < n6 → (0 ≤ y6_4.toInt ∧ y6_4.toInt ≤ 6) → (1 ≤ y6_5.toInt ∧ y6_5.toInt ≤ 7) → wp (L_X2_cheapest_6 G P U V X O kd ln cnt this p0 p1 p2 n6 y6_4 y6_5) (QC_X2_cheapest κ wd G P U V X O kd ln cnt this p0 p1 p2) := by
    intro n6
    induction n6 with
    | zero => intro y6_4 y6_5 hm; exact absurd hm (Nat.not_lt_zero _)
    | succ n6 ih6 =>
      intro y6_4 y6_5 hm6 f1 f2
      show wp (B_X2_cheapest_6 G P U V X O kd ln cnt this p0 p1 p2 (L_X2_cheapest_6 G P U V X O kd ln cnt this p0 p1 p2 n6) y6_4 y6_5) _
      unfold B_X2_cheapest_6
      have b3 := hzG45 this
      refine wp_ite (fun c12 => ?_) (fun c12 => ?_)
      · have c12 := (z_le _ _).mp c12
        exact ⟨_, rfl, (show (0 ≤ y6_4.toInt ∧ y6_4.toInt ≤ 6) from by omega)⟩
      · have c12 := z_nle c12
        obtain ⟨r21, hc21, hq21⟩ := ok_X2_cost κ wd G P U V X O kd ln cnt this p0 y6_5 p1 p2 hzP41 hzLN hk_this (show (0 ≤ p0.toInt ∧ p0.toInt < 40) from by omega) (show (0 ≤ y6_5.toInt ∧ y6_5.toInt ≤ 6) from by omega)
        refine wp_b1 hc21 ?_
        clear hc21
        obtain ⟨r30, hc30, hq30⟩ := ok_X2_cost κ wd G P U V X O kd ln cnt this p0 y6_4 p1 p2 hzP41 hzLN hk_this (show (0 ≤ p0.toInt ∧ p0.toInt < 40) from by omega) (show (0 ≤ y6_4.toInt ∧ y6_4.toInt ≤ 6) from by omega)
        refine wp_b1 hc30 ?_
        clear hc30
        refine wp_jn (fun j40 => ∀ (x40_4 : Int32), (0 ≤ x40_4.toInt ∧ x40_4.toInt ≤ 6) → wp (j40 x40_4) (QC_X2_cheapest κ wd G P U V X O kd ln cnt this p0 p1 p2)) ?_ ?_
        · intro x40_4 f4
          show wp _ _
          have f5 : (y6_5 + 1).toInt = y6_5.toInt + (1) := z_addc (by decide +kernel) (by omega) (by omega)
          exact ih6 x40_4 (y6_5 + 1) (show (7 - (y6_5 + 1).toInt).toNat < n6 from by omega) (show (0 ≤ x40_4.toInt ∧ x40_4.toInt ≤ 6) from by omega) (show (1 ≤ (y6_5 + 1).toInt ∧ (y6_5 + 1).toInt ≤ 7) from by omega)
        intro j40 Jj40
        refine wp_ite (fun c33 => ?_) (fun c33 => ?_)
        · have c33 := (z_le _ _).mp c33
          exact Jj40 y6_4 (show (0 ≤ y6_4.toInt ∧ y6_4.toInt ≤ 6) from by omega)
        · have c33 := z_nle c33
          exact Jj40 y6_5 (show (0 ≤ y6_5.toInt ∧ y6_5.toInt ≤ 6) from by omega)
  exact lp6 NN (0 : Int32) (1 : Int32) (by have := NN_eq; omega) (show (0 ≤ (0 : Int32).toInt ∧ (0 : Int32).toInt ≤ 6) from by omega) (show (1 ≤ (1 : Int32).toInt ∧ (1 : Int32).toInt ≤ 7) from by omega)
abbrev QC_X2_settle (κ : Nat → Nat) (wd : Nat) (G : Nat → Nat → Int32) (P : Nat → Nat → Option Nat) (U : Nat → Nat → Int64) (V : Nat → Nat → Nat → Int32) (X : Nat → Nat → Nat → Int64) (O : Nat → Nat → Nat → Option Nat) (kd : Nat → Nat) (ln : Nat → Nat) (cnt : Nat) (this : Nat) (p0 : Int32) : (Int32 × (Nat → Int32) × (Nat → Nat → Int32) × (Nat → Nat → Int32)) → Prop := (fun t => (rng (0) 40 (t.2.1)) ∧ (rng2 (0) 6 (t.2.2.2)))
set_option maxHeartbeats 4000000 in
set_option maxRecDepth 100000 in
theorem ok_X2_settle (κ : Nat → Nat) (wd : Nat) (G : Nat → Nat → Int32) (P : Nat → Nat → Option Nat) (U : Nat → Nat → Int64) (V : Nat → Nat → Nat → Int32) (X : Nat → Nat → Nat → Int64) (O : Nat → Nat → Nat → Option Nat) (kd : Nat → Nat) (ln : Nat → Nat) (cnt : Nat) (this : Nat) (p0 : Int32) (hzG43 : rng (0) 40 (G 43)) (hzG44 : rng (0) 40 (G 44)) (hzG45 : rng (0) 7 (G 45)) (hzP40 : PB κ ln wd 3 107 280 280 0 (P 40)) (hzP41 : PB κ ln wd 3 108 280 280 0 (P 41)) (hzP42 : PB κ ln wd 3 109 40 40 0 (P 42)) (hzV9 : rng2 (0) 6 (V 9)) (hzLN : LN κ ln) (hk_this : κ this = 3) : wp (f_X2_settle G P U V X O kd ln cnt this p0) (QC_X2_settle κ wd G P U V X O kd ln cnt this p0) := by
  unfold f_X2_settle
  have zkm1 : (-1 : Int32).toInt = -1 := by decide +kernel
  have zk0 : (0 : Int32).toInt = 0 := by decide +kernel
  have zk1 : (1 : Int32).toInt = 1 := by decide +kernel
  have zk7 : (7 : Int32).toInt = 7 := by decide +kernel
  have r_p0 := i32r p0
  have b1 := hzG44 this
  have f2 : (((G 44) this) - 1).toInt = ((G 44) this).toInt - 1 := z_subc (by decide +kernel) (by omega) (by omega)
  refine wp_vl (fun x6 ex6 => ?_)
  have f3 : x6.toInt = (((G 44) this) - 1).toInt := congrArg Int32.toInt ex6
  clear ex6
  refine wp_jn (fun k92 => ∀ (c92_V8 : Nat → Nat → Int32), wp (k92 c92_V8) (QC_X2_settle κ wd G P U V X O kd ln cnt this p0)) ?_ ?_
  · intro c92_V8
    show wp _ _
    refine wp_jn (fun k125 => ∀ (c125_V9 : Nat → Nat → Int32), rng2 (0) 6 c125_V9 → wp (k125 c125_V9) (QC_X2_settle κ wd G P U V X O kd ln cnt this p0)) ?_ ?_
    · intro c125_V9 hg4
      show wp _ _
      refine wp_vl (fun x130 ex130 => ?_)
      have f6 : x130.toInt = ((G 44) this).toInt := congrArg Int32.toInt ex130
      clear ex130
      refine wp_vl (fun m130 em130 => ?_)
      have hg7 : rng (0) 40 m130 := by rw [em130]; exact rng_vup hzG43 (by omega) (by omega)
      have sm130 : (m130 this).toInt = x130.toInt := by rw [em130, va_up_self]
      have b8 := hg7 this
      clear em130
      refine wp_nn ((hzP42 this).1 hk_this) (fun a136 hn_a136 => ?_)
      have hk_a136 := ((hzP42 this).2 a136 hn_a136).1
      have hl1_a136 := ((hzP42 this).2 a136 hn_a136).2.1
      have hl2_a136 := ((hzP42 this).2 a136 hn_a136).2.2.1
      have hw_a136 := ((hzP42 this).2 a136 hn_a136).2.2.2
      have hz_a136 : (Int32.ofNat (ln a136)).toInt = ((ln a136 : Nat) : Int) := ofN_eq (by first | exact Nat.le_trans hl2_a136 (by decide) | omega)
      refine wp_if ⟨by omega, by omega⟩ ?_
      have b9 := hg4 a136 (Int32.toNatClampNeg (0 : Int32))
      obtain ⟨r143, hc143, hq143⟩ := ok_X2_cost κ wd (va_up G 43 m130) P U (va_up (va_up V 8 c92_V8) 9 c125_V9) X O kd ln cnt this (0 : Int32) ((c125_V9 a136) (Int32.toNatClampNeg 0)) (-1 : Int32) p0 hzP41 hzLN hk_this (show (0 ≤ (0 : Int32).toInt ∧ (0 : Int32).toInt < 40) from by omega) (show (0 ≤ ((c125_V9 a136) (Int32.toNatClampNeg 0)).toInt ∧ ((c125_V9 a136) (Int32.toNatClampNeg 0)).toInt ≤ 6) from by omega)
      refine wp_b1 hc143 ?_
      clear hc143
      exact ⟨_, rfl, ⟨hg7, hg4⟩⟩
    intro k125 Jk125
    have lp96 : ∀ (n96 : Nat) (y96_2 : Int32) (y96_3 : Int32) (d96_V9 : Nat → Nat → Int32), (40 - y96_3.toInt).toNat < n96 → rng2 (0) 6 d96_V9 → (0 ≤ y96_3.toInt ∧ y96_3.toInt ≤ 40) → wp (L_X2_settle_96 G P U V X O kd ln cnt this p0 c92_V8 k125 n96 y96_2 y96_3 d96_V9) (QC_X2_settle κ wd G P U V X O kd ln cnt this p0) := by
      intro n96
      induction n96 with
      | zero => intro y96_2 y96_3 d96_V9 hm; exact absurd hm (Nat.not_lt_zero _)
      | succ n96 ih96 =>
        intro y96_2 y96_3 d96_V9 hm96 hg10 f11
        show wp (B_X2_settle_96 G P U V X O kd ln cnt this p0 c92_V8 k125 (L_X2_settle_96 G P U V X O kd ln cnt this p0 c92_V8 k125 n96) y96_2 y96_3 d96_V9) _
        unfold B_X2_settle_96
        refine wp_ite (fun c101 => ?_) (fun c101 => ?_)
        · have c101 := (z_le _ _).mp c101
          exact Jk125 d96_V9 hg10
        · have c101 := z_nle c101
          obtain ⟨r108, hc108, hq108⟩ := ok_X2_cheapest κ wd G P U (va_up (va_up V 8 c92_V8) 9 d96_V9) X O kd ln cnt this y96_3 y96_2 p0 hzG45 hzP41 hzLN hk_this (show (0 ≤ y96_3.toInt ∧ y96_3.toInt < 40) from by omega)
          have f13 : (0 ≤ r108.toInt ∧ r108.toInt ≤ 6) := hq108
          refine wp_b1 hc108 ?_
          clear hc108
          refine wp_nn ((hzP42 this).1 hk_this) (fun a113 hn_a113 => ?_)
          have hk_a113 := ((hzP42 this).2 a113 hn_a113).1
          have hl1_a113 := ((hzP42 this).2 a113 hn_a113).2.1
          have hl2_a113 := ((hzP42 this).2 a113 hn_a113).2.2.1
          have hw_a113 := ((hzP42 this).2 a113 hn_a113).2.2.2
          have hz_a113 : (Int32.ofNat (ln a113)).toInt = ((ln a113 : Nat) : Int) := ofN_eq (by first | exact Nat.le_trans hl2_a113 (by decide) | omega)
          refine wp_if ⟨by omega, by omega⟩ ?_
          refine wp_vl (fun m118 em118 => ?_)
          have hv14 : rng2 (0) 6 m118 := by rw [em118]; exact rng2_up hg10 (by omega) (by omega)
          clear em118
          have f15 : (y96_3 + 1).toInt = y96_3.toInt + (1) := z_addc (by decide +kernel) (by omega) (by omega)
          exact ih96 r108 (y96_3 + 1) m118 (show (40 - (y96_3 + 1).toInt).toNat < n96 from by omega) hv14 (show (0 ≤ (y96_3 + 1).toInt ∧ (y96_3 + 1).toInt ≤ 40) from by omega)
    exact lp96 NN (-1 : Int32) (0 : Int32) (V 9) (by have := NN_eq; omega) hzV9 (show (0 ≤ (0 : Int32).toInt ∧ (0 : Int32).toInt ≤ 40) from by omega)
  intro k92 Jk92
  have lp7 : ∀ (n7 : Nat) (y7_2 : Int32) (d7_V8 : Nat → Nat → Int32), (y7_2.toInt + 1).toNat < n7 → ((-1) ≤ y7_2.toInt ∧ y7_2.toInt < 40) → y7_2.toInt < ((G 44) this).toInt → wp (L_X2_settle_7 G P U V X O kd ln cnt this p0 k92 n7 y7_2 d7_V8) (QC_X2_settle κ wd G P U V X O kd ln cnt this p0) := by
    intro n7
    induction n7 with
    | zero => intro y7_2 d7_V8 hm; exact absurd hm (Nat.not_lt_zero _)
    | succ n7 ih7 =>
      intro y7_2 d7_V8 hm7 f16 f17
      show wp (B_X2_settle_7 G P U V X O kd ln cnt this p0 k92 (L_X2_settle_7 G P U V X O kd ln cnt this p0 k92 n7) y7_2 d7_V8) _
      unfold B_X2_settle_7
      refine wp_ite (fun c8 => ?_) (fun c8 => ?_)
      · have c8 := (z_lt _ _).mp c8
        exact Jk92 d7_V8
      · have c8 := z_nlt c8
        refine wp_jn (fun k86 => ∀ (c86_V8 : Nat → Nat → Int32), wp (k86 c86_V8) (QC_X2_settle κ wd G P U V X O kd ln cnt this p0)) ?_ ?_
        · intro c86_V8
          show wp _ _
          have f18 : (y7_2 + (-1)).toInt = y7_2.toInt + (-1) := z_addc (by decide +kernel) (by omega) (by omega)
          obtain ⟨z19, ez19⟩ : ∃ z : Int32, z = (y7_2 + (-1)) := ⟨_, rfl⟩
          have fz19 : z19.toInt = y7_2.toInt + (-1) := by rw [ez19]; exact f18
          rw [← ez19]
          clear f18 ez19
          exact ih7 z19 c86_V8 (show (z19.toInt + 1).toNat < n7 from by omega) (show ((-1) ≤ z19.toInt ∧ z19.toInt < 40) from by omega) (show z19.toInt < ((G 44) this).toInt from by omega)
        intro k86 Jk86
        have lp13 : ∀ (n13 : Nat) (y13_3 : Int32) (d13_V8 : Nat → Nat → Int32), (7 - y13_3.toInt).toNat < n13 → (0 ≤ y13_3.toInt ∧ y13_3.toInt ≤ 7) → wp (L_X2_settle_13 G P U V X O kd ln cnt this p0 y7_2 k86 n13 y13_3 d13_V8) (QC_X2_settle κ wd G P U V X O kd ln cnt this p0) := by
          intro n13
          induction n13 with
          | zero => intro y13_3 d13_V8 hm; exact absurd hm (Nat.not_lt_zero _)
          | succ n13 ih13 =>
            intro y13_3 d13_V8 hm13 f20
            show wp (B_X2_settle_13 G P U V X O kd ln cnt this p0 y7_2 k86 (L_X2_settle_13 G P U V X O kd ln cnt this p0 y7_2 k86 n13) y13_3 d13_V8) _
            unfold B_X2_settle_13
            have b21 := hzG45 this
            refine wp_ite (fun c18 => ?_) (fun c18 => ?_)
            · have c18 := (z_le _ _).mp c18
              exact Jk86 d13_V8
            · have c18 := z_nle c18
              have f22 : (y7_2 + 1).toInt = y7_2.toInt + 1 := z_addc (by decide +kernel) (by omega) (by omega)
              refine wp_jn (fun j53 => ∀ (t53_0 : Int32), wp (j53 t53_0) (QC_X2_settle κ wd G P U V X O kd ln cnt this p0)) ?_ ?_
              · intro t53_0
                show wp _ _
                refine wp_nn ((hzP41 this).1 hk_this) (fun a56 hn_a56 => ?_)
                have hk_a56 := ((hzP41 this).2 a56 hn_a56).1
                have hl1_a56 := ((hzP41 this).2 a56 hn_a56).2.1
                have hl2_a56 := ((hzP41 this).2 a56 hn_a56).2.2.1
                have hw_a56 := ((hzP41 this).2 a56 hn_a56).2.2.2
                have hz_a56 : (Int32.ofNat (ln a56)).toInt = ((ln a56 : Nat) : Int) := ofN_eq (by first | exact Nat.le_trans hl2_a56 (by decide) | omega)
                have f24 : (y7_2 * 7).toInt = y7_2.toInt * 7 := z_mulc (by decide +kernel) (by omega) (by omega)
                have f25 : ((y7_2 * 7) + y13_3).toInt = (y7_2 * 7).toInt + y13_3.toInt := z_add (by omega) (by omega)
                refine wp_nn ((hzP40 this).1 hk_this) (fun a66 hn_a66 => ?_)
                have hk_a66 := ((hzP40 this).2 a66 hn_a66).1
                have hl1_a66 := ((hzP40 this).2 a66 hn_a66).2.1
                have hl2_a66 := ((hzP40 this).2 a66 hn_a66).2.2.1
                have hw_a66 := ((hzP40 this).2 a66 hn_a66).2.2.2
                have hz_a66 : (Int32.ofNat (ln a66)).toInt = ((ln a66 : Nat) : Int) := ofN_eq (by first | exact Nat.le_trans hl2_a66 (by decide) | omega)
                refine wp_if ⟨by omega, by omega⟩ ?_
                refine wp_if ⟨by omega, by omega⟩ ?_
                refine wp_vl (fun m79 em79 => ?_)
                clear em79
                have f28 : (y13_3 + 1).toInt = y13_3.toInt + (1) := z_addc (by decide +kernel) (by omega) (by omega)
                exact ih13 (y13_3 + 1) m79 (show (7 - (y13_3 + 1).toInt).toNat < n13 from by omega) (show (0 ≤ (y13_3 + 1).toInt ∧ (y13_3 + 1).toInt ≤ 7) from by omega)
              intro j53 Jj53
              refine wp_ite (fun c28 => ?_) (fun c28 => ?_)
              · have c28 := (z_le _ _).mp c28
                exact Jj53 (0 : Int32)
              · have c28 := z_nle c28
                obtain ⟨r41, hc41, hq41⟩ := ok_X2_cheapest κ wd G P U (va_up V 8 d13_V8) X O kd ln cnt this (y7_2 + 1) y13_3 p0 hzG45 hzP41 hzLN hk_this (show (0 ≤ (y7_2 + 1).toInt ∧ (y7_2 + 1).toInt < 40) from by omega)
                have f31 : (0 ≤ r41.toInt ∧ r41.toInt ≤ 6) := hq41
                refine wp_b1 hc41 ?_
                clear hc41
                obtain ⟨r46, hc46, hq46⟩ := ok_X2_cost κ wd G P U (va_up V 8 d13_V8) X O kd ln cnt this (y7_2 + 1) r41 y13_3 p0 hzP41 hzLN hk_this (show (0 ≤ (y7_2 + 1).toInt ∧ (y7_2 + 1).toInt < 40) from by omega) (show (0 ≤ r41.toInt ∧ r41.toInt ≤ 6) from by omega)
                refine wp_b1 hc46 ?_
                clear hc46
                exact Jj53 r46
        exact lp13 NN (0 : Int32) d7_V8 (by have := NN_eq; omega) (show (0 ≤ (0 : Int32).toInt ∧ (0 : Int32).toInt ≤ 7) from by omega)
  exact lp7 NN x6 (V 8) (by have := NN_eq; omega) (show ((-1) ≤ x6.toInt ∧ x6.toInt < 40) from by omega) (show x6.toInt < ((G 44) this).toInt from by omega)
