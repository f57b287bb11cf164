abbrev QF_X7_occurrences (κ : Nat → Nat) (wd : Nat) (la : Nat → Nat) (G : Nat → Nat → Int32) (P : Nat → Nat → Option Nat) (U : Nat → Nat → Int64) (V : Nat → Nat → Nat → Int32) (X : Nat → Nat → Nat → Int64) (O : Nat → Nat → Nat → Option Nat) (kd : Nat → Nat) (ln : Nat → Nat) (cnt : Nat) (this : Nat) (p0 : Int32) (p1 : Int32) (tb : Nat) (f : Nat → Int32) : (Int32) → Prop := (fun t => (t.toInt = ((ocB f p0 (Int32.toNatClampNeg p1) : Nat) : Int)))
set_option maxHeartbeats 4000000 in
set_option maxRecDepth 100000 in
theorem fn_X7_occurrences (κ : Nat → Nat) (wd : Nat) (la : Nat → Nat) (G : Nat → Nat → Int32) (P : Nat → Nat → Option Nat) (U : Nat → Nat → Int64) (V : Nat → Nat → Nat → Int32) (X : Nat → Nat → Nat → Int64) (O : Nat → Nat → Nat → Option Nat) (kd : Nat → Nat) (ln : Nat → Nat) (cnt : Nat) (this : Nat) (p0 : Int32) (p1 : Int32) (tb : Nat) (f : Nat → Int32) (hzP140 : PB κ ln wd 8 100 2000 2000 0 (P 140)) (hzLN : LN κ ln) (hk_this : κ this = 8) (hB : LB la cnt P) (hlt_this : this < cnt) (h140 : (P 140) this = some tb) (hf : (V 0) tb = f) (hl2 : p1.toInt ≤ 2000) (hl0 : 0 ≤ p1.toInt) : pw (f_X7_occurrences G P U V X O kd ln cnt this p0 p1) (QF_X7_occurrences κ wd la G P U V X O kd ln cnt this p0 p1 tb f) := by
  unfold f_X7_occurrences
  have zk0 : (0 : Int32).toInt = 0 := by decide +kernel
  have zk2000 : (2000 : Int32).toInt = 2000 := by decide +kernel
  have r_p0 := i32r p0
  have r_p1 := i32r p1
  have hn1 : (P 140) this = some tb := h140
  have lt_tb2 := ((hB.1 140 fl_140) this tb hn1).2.1
  have lb_tb2 : la tb = la this + 1 := lk_140.mp ((hB.1 140 fl_140) this tb hn1).2.2
  have hk_tb := ((hzP140 this).2 tb hn1).1
  have hl1_tb := ((hzP140 this).2 tb hn1).2.1
  have hl2_tb := ((hzP140 this).2 tb hn1).2.2.1
  have hw_tb := ((hzP140 this).2 tb hn1).2.2.2
  have hz_tb : (Int32.ofNat (ln tb)).toInt = ((ln tb : Nat) : Int) := ofN_eq (by first | exact Nat.le_trans hl2_tb (by decide) | omega)
  refine pw_jE (fun k39 ek39 => ?_)
  have lp5 : ∀ (n5 : Nat) (y5_3 : Int32) (y5_4 : Int32), (0 ≤ y5_3.toInt ∧ y5_3.toInt ≤ 2000) → y5_3.toInt ≤ y5_4.toInt → (0 ≤ y5_4.toInt ∧ y5_4.toInt ≤ 2000) → y5_4.toInt ≤ p1.toInt → (y5_3.toInt = ((ocB f p0 (Int32.toNatClampNeg y5_4) : Nat) : Int)) → pw (L_X7_occurrences_5 P V ln this p0 p1 k39 n5 y5_3 y5_4) (QF_X7_occurrences κ wd la G P U V X O kd ln cnt this p0 p1 tb f) := by
    intro n5
    induction n5 with
    | zero => intros; exact pw_none
    | succ n5 ih5 =>
      intro y5_3 y5_4 f3 f4 f5 f6 in5
      show pw (B_X7_occurrences_5 P V ln this p0 p1 k39 (L_X7_occurrences_5 P V ln this p0 p1 k39 n5) y5_3 y5_4) _
      unfold B_X7_occurrences_5
      refine pw_ite (fun c8 => ?_) (fun c8 => ?_)
      · have c8 := (z_le _ _).mp c8
        refine pw_j1 ek39 (fun x39_3 ex39_3 => ?_)
        have ex39_3 := ex39_3.symm
        have f_x39_3 : x39_3.toInt = y5_3.toInt := by rw [ex39_3]
        have qq0 : x39_3.toInt = ((ocB f p0 (Int32.toNatClampNeg p1) : Nat) : Int) := by have k4 := clampI (x := y5_4) (by omega); have kp := clampI (x := p1) (by omega); rw [show Int32.toNatClampNeg p1 = Int32.toNatClampNeg y5_4 by omega]; have h9 := in5; omega
        exact pw_some qq0
      · have c8 := z_nle c8
        refine pw_ite (fun c16 => ?_) (fun c16 => ?_)
        · have c16 := (z_le _ _).mp c16
          refine pw_j1 ek39 (fun x39_3 ex39_3 => ?_)
          have ex39_3 := ex39_3.symm
          have f_x39_3 : x39_3.toInt = y5_3.toInt := by rw [ex39_3]
          have qq0 : x39_3.toInt = ((ocB f p0 (Int32.toNatClampNeg p1) : Nat) : Int) := by have k4 := clampI (x := y5_4) (by omega); have kp := clampI (x := p1) (by omega); rw [show Int32.toNatClampNeg p1 = Int32.toNatClampNeg y5_4 by omega]; have h9 := in5; omega
          exact pw_some qq0
        · have c16 := z_nle c16
          refine pw_nne hn1 ?_
          refine pw_if (fun hb25 => ?_)
          obtain ⟨hbl25, hbr25⟩ := hb25
          refine pw_jE (fun j33 ej33 => ?_)
          refine pw_ite (fun c27 => ?_) (fun c27 => ?_)
          · have c27 := congrArg Int32.toInt c27
            have f7 : (y5_3 + 1).toInt = y5_3.toInt + (1) := z_addc (by decide +kernel) (by omega) (by omega)
            refine pw_j1 ej33 (fun x33_3 ex33_3 => ?_)
            have ex33_3 := ex33_3.symm
            have f_x33_3 : x33_3.toInt = (y5_3 + 1).toInt := by rw [ex33_3]
            have f8 : (y5_4 + 1).toInt = y5_4.toInt + (1) := z_addc (by decide +kernel) (by omega) (by omega)
            have iv5_0 : (0 ≤ x33_3.toInt ∧ x33_3.toInt ≤ 2000) := by omega
            have iv5_1 : x33_3.toInt ≤ (y5_4 + 1).toInt := by omega
            have iv5_2 : (0 ≤ (y5_4 + 1).toInt ∧ (y5_4 + 1).toInt ≤ 2000) := by omega
            have iv5_3 : (y5_4 + 1).toInt ≤ p1.toInt := by omega
            have iv5_4 : (x33_3.toInt = ((ocB f p0 (Int32.toNatClampNeg (y5_4 + 1)) : Nat) : Int)) := by have k4 := clampI (x := y5_4) (by omega); have k5 := clampI (x := y5_4 + 1) (by omega); rw [show Int32.toNatClampNeg (y5_4 + 1) = Int32.toNatClampNeg y5_4 + 1 by omega, oc_s, if_pos (by rw [← hf]; exact z_e c27)]; have h9 := in5; omega
            exact ih5 x33_3 (y5_4 + 1) iv5_0 iv5_1 iv5_2 iv5_3 iv5_4
          · have c27 := z_ne c27
            refine pw_j1 ej33 (fun x33_3 ex33_3 => ?_)
            have ex33_3 := ex33_3.symm
            have f_x33_3 : x33_3.toInt = y5_3.toInt := by rw [ex33_3]
            have f9 : (y5_4 + 1).toInt = y5_4.toInt + (1) := z_addc (by decide +kernel) (by omega) (by omega)
            have iv5_0 : (0 ≤ x33_3.toInt ∧ x33_3.toInt ≤ 2000) := by omega
            have iv5_1 : x33_3.toInt ≤ (y5_4 + 1).toInt := by omega
            have iv5_2 : (0 ≤ (y5_4 + 1).toInt ∧ (y5_4 + 1).toInt ≤ 2000) := by omega
            have iv5_3 : (y5_4 + 1).toInt ≤ p1.toInt := by omega
            have iv5_4 : (x33_3.toInt = ((ocB f p0 (Int32.toNatClampNeg (y5_4 + 1)) : Nat) : Int)) := by have k4 := clampI (x := y5_4) (by omega); have k5 := clampI (x := y5_4 + 1) (by omega); rw [show Int32.toNatClampNeg (y5_4 + 1) = Int32.toNatClampNeg y5_4 + 1 by omega, oc_s, if_neg (by rw [← hf]; exact fun z => c27 (congrArg Int32.toInt z))]; have h9 := in5; omega
            exact ih5 x33_3 (y5_4 + 1) iv5_0 iv5_1 iv5_2 iv5_3 iv5_4
  exact lp5 NN (0 : Int32) (0 : Int32) (show (0 ≤ (0 : Int32).toInt ∧ (0 : Int32).toInt ≤ 2000) from by omega) (show (0 : Int32).toInt ≤ (0 : Int32).toInt from by omega) (show (0 ≤ (0 : Int32).toInt ∧ (0 : Int32).toInt ≤ 2000) from by omega) (show (0 : Int32).toInt ≤ p1.toInt from by omega) (show ((0 : Int32).toInt = ((ocB f p0 (Int32.toNatClampNeg (0 : Int32)) : Nat) : Int)) from by rfl)
abbrev QF_X7_lines (κ : Nat → Nat) (wd : Nat) (la : Nat → Nat) (G : Nat → Nat → Int32) (P : Nat → Nat → Option Nat) (U : Nat → Nat → Int64) (V : Nat → Nat → Nat → Int32) (X : Nat → Nat → Nat → Int64) (O : Nat → Nat → Nat → Option Nat) (kd : Nat → Nat) (ln : Nat → Nat) (cnt : Nat) (this : Nat) (p0 : Int32) (tb : Nat) (f : Nat → Int32) : (Int32) → Prop := (fun t => (t.toInt = ((lnN f (Int32.toNatClampNeg p0) : Nat) : Int)))
set_option maxHeartbeats 4000000 in
set_option maxRecDepth 100000 in
theorem fn_X7_lines (κ : Nat → Nat) (wd : Nat) (la : Nat → Nat) (G : Nat → Nat → Int32) (P : Nat → Nat → Option Nat) (U : Nat → Nat → Int64) (V : Nat → Nat → Nat → Int32) (X : Nat → Nat → Nat → Int64) (O : Nat → Nat → Nat → Option Nat) (kd : Nat → Nat) (ln : Nat → Nat) (cnt : Nat) (this : Nat) (p0 : Int32) (tb : Nat) (f : Nat → Int32) (hzP140 : PB κ ln wd 8 100 2000 2000 0 (P 140)) (hzLN : LN κ ln) (hk_this : κ this = 8) (hB : LB la cnt P) (hlt_this : this < cnt) (h140 : (P 140) this = some tb) (hf : (V 0) tb = f) (hl2 : p0.toInt ≤ 2000) (hl0 : 0 ≤ p0.toInt) : pw (f_X7_lines G P U V X O kd ln cnt this p0) (QF_X7_lines κ wd la G P U V X O kd ln cnt this p0 tb f) := by
  unfold f_X7_lines
  have zk1 : (1 : Int32).toInt = 1 := by decide +kernel
  have zk10 : (10 : Int32).toInt = 10 := by decide +kernel
  have r_p0 := i32r p0
  have hn1 : (P 140) this = some tb := h140
  have lt_tb2 := ((hB.1 140 fl_140) this tb hn1).2.1
  have lb_tb2 : la tb = la this + 1 := lk_140.mp ((hB.1 140 fl_140) this tb hn1).2.2
  have hk_tb := ((hzP140 this).2 tb hn1).1
  have hl1_tb := ((hzP140 this).2 tb hn1).2.1
  have hl2_tb := ((hzP140 this).2 tb hn1).2.2.1
  have hw_tb := ((hzP140 this).2 tb hn1).2.2.2
  have hz_tb : (Int32.ofNat (ln tb)).toInt = ((ln tb : Nat) : Int) := ofN_eq (by first | exact Nat.le_trans hl2_tb (by decide) | omega)
  refine pw_b1 (fun r5 hc5 => ?_)
  have hq5 := wp_at (ok_X7_occurrences κ wd G P U V X O kd ln cnt this (10 : Int32) p0 hzP140 hzLN hk_this) hc5
  have f3 : (0 ≤ r5.toInt ∧ r5.toInt ≤ 2000) := hq5
  clear hq5
  have h85_h140 : (P 140) this = some tb := by exact h140
  have h85_hf : (V 0) tb = f := by exact hf
  have h85_hl2 : p0.toInt ≤ 2000 := by exact hl2
  have h85_hl0 : 0 ≤ p0.toInt := by exact hl0
  have hx5 := pwq (fn_X7_occurrences κ wd la G P U V X O kd ln cnt this (10 : Int32) p0 (tb) (f) hzP140 hzLN hk_this hB hlt_this h85_h140 h85_hf h85_hl2 h85_hl0) hc5
  have p5_0 : r5.toInt = ((ocB f (10 : Int32) (Int32.toNatClampNeg p0) : Nat) : Int) := hx5
  clear hx5
  have f4 : (1 + r5).toInt = 1 + r5.toInt := z_addd (by decide +kernel) (by omega) (by omega)
  have qq0 : (1 + r5).toInt = ((lnN f (Int32.toNatClampNeg p0) : Nat) : Int) := by unfold lnN; rw [oc_10] at p5_0; omega
  exact pw_some qq0
abbrev QF_X10_isCapital (κ : Nat → Nat) (wd : Nat) (G : Nat → Nat → Int32) (P : Nat → Nat → Option Nat) (U : Nat → Nat → Int64) (V : Nat → Nat → Nat → Int32) (X : Nat → Nat → Nat → Int64) (O : Nat → Nat → Nat → Option Nat) (kd : Nat → Nat) (ln : Nat → Nat) (cnt : Nat) (p0 : Int32) : (Int32) → Prop := (fun t => ((t.toInt ≠ 0 → 65 ≤ p0.toInt ∧ p0.toInt ≤ 90)) ∧ ((t.toInt = 0 → ¬ (65 ≤ p0.toInt ∧ p0.toInt ≤ 90))))
set_option maxHeartbeats 4000000 in
set_option maxRecDepth 100000 in
theorem fn_X10_isCapital (κ : Nat → Nat) (wd : Nat) (G : Nat → Nat → Int32) (P : Nat → Nat → Option Nat) (U : Nat → Nat → Int64) (V : Nat → Nat → Nat → Int32) (X : Nat → Nat → Nat → Int64) (O : Nat → Nat → Nat → Option Nat) (kd : Nat → Nat) (ln : Nat → Nat) (cnt : Nat) (p0 : Int32) (hzLN : LN κ ln) : pw (f_X10_isCapital G P U V X O kd ln cnt p0) (QF_X10_isCapital κ wd G P U V X O kd ln cnt p0) := by
  unfold f_X10_isCapital
  have zk0 : (0 : Int32).toInt = 0 := by decide +kernel
  have zk1 : (1 : Int32).toInt = 1 := by decide +kernel
  have zk65 : (65 : Int32).toInt = 65 := by decide +kernel
  have zk90 : (90 : Int32).toInt = 90 := by decide +kernel
  have r_p0 := i32r p0
  refine pw_jE (fun j17 ej17 => ?_)
  refine pw_jE (fun j16 ej16 => ?_)
  refine pw_ite (fun c3 => ?_) (fun c3 => ?_)
  · have c3 := (z_lt _ _).mp c3
    refine pw_j0 ej16 ?_
    refine pw_j1 ej17 (fun t17_0 et17_0 => ?_)
    have et17_0 := et17_0.symm
    have f_t17_0 : t17_0.toInt = 0 := by rw [et17_0]; decide +kernel
    refine pw_if (fun hb17 => ?_)
    obtain ⟨hbl17, hbr17⟩ := hb17
    have qq0 : (t17_0.toInt ≠ 0 → 65 ≤ p0.toInt ∧ p0.toInt ≤ 90) := by omega
    have qq1 : (t17_0.toInt = 0 → ¬ (65 ≤ p0.toInt ∧ p0.toInt ≤ 90)) := by omega
    exact pw_some ⟨qq0, qq1⟩
  · have c3 := z_nlt c3
    refine pw_ite (fun c9 => ?_) (fun c9 => ?_)
    · have c9 := (z_lt _ _).mp c9
      refine pw_j0 ej16 ?_
      refine pw_j1 ej17 (fun t17_0 et17_0 => ?_)
      have et17_0 := et17_0.symm
      have f_t17_0 : t17_0.toInt = 0 := by rw [et17_0]; decide +kernel
      refine pw_if (fun hb17 => ?_)
      obtain ⟨hbl17, hbr17⟩ := hb17
      have qq0 : (t17_0.toInt ≠ 0 → 65 ≤ p0.toInt ∧ p0.toInt ≤ 90) := by omega
      have qq1 : (t17_0.toInt = 0 → ¬ (65 ≤ p0.toInt ∧ p0.toInt ≤ 90)) := by omega
      exact pw_some ⟨qq0, qq1⟩
    · have c9 := z_nlt c9
      refine pw_j1 ej17 (fun t17_0 et17_0 => ?_)
      have et17_0 := et17_0.symm
      have f_t17_0 : t17_0.toInt = 1 := by rw [et17_0]; decide +kernel
      refine pw_if (fun hb17 => ?_)
      obtain ⟨hbl17, hbr17⟩ := hb17
      have qq0 : (t17_0.toInt ≠ 0 → 65 ≤ p0.toInt ∧ p0.toInt ≤ 90) := by omega
      have qq1 : (t17_0.toInt = 0 → ¬ (65 ≤ p0.toInt ∧ p0.toInt ≤ 90)) := by omega
      exact pw_some ⟨qq0, qq1⟩
abbrev QF_X8_isLetter (κ : Nat → Nat) (wd : Nat) (G : Nat → Nat → Int32) (P : Nat → Nat → Option Nat) (U : Nat → Nat → Int64) (V : Nat → Nat → Nat → Int32) (X : Nat → Nat → Nat → Int64) (O : Nat → Nat → Nat → Option Nat) (kd : Nat → Nat) (ln : Nat → Nat) (cnt : Nat) (p0 : Int32) : (Int32) → Prop := (fun t => ((t.toInt ≠ 0 → ((97 ≤ p0.toInt ∧ p0.toInt ≤ 122) ∨ (65 ≤ p0.toInt ∧ p0.toInt ≤ 90)))) ∧ ((t.toInt = 0 → ¬ ((97 ≤ p0.toInt ∧ p0.toInt ≤ 122) ∨ (65 ≤ p0.toInt ∧ p0.toInt ≤ 90)))))
set_option maxHeartbeats 4000000 in
set_option maxRecDepth 100000 in
theorem fn_X8_isLetter (κ : Nat → Nat) (wd : Nat) (G : Nat → Nat → Int32) (P : Nat → Nat → Option Nat) (U : Nat → Nat → Int64) (V : Nat → Nat → Nat → Int32) (X : Nat → Nat → Nat → Int64) (O : Nat → Nat → Nat → Option Nat) (kd : Nat → Nat) (ln : Nat → Nat) (cnt : Nat) (p0 : Int32) (hzLN : LN κ ln) : pw (f_X8_isLetter G P U V X O kd ln cnt p0) (QF_X8_isLetter κ wd G P U V X O kd ln cnt p0) := by
  unfold f_X8_isLetter
  have zk0 : (0 : Int32).toInt = 0 := by decide +kernel
  have zk1 : (1 : Int32).toInt = 1 := by decide +kernel
  have r_p0 := i32r p0
  refine pw_b1 (fun r1 hc1 => ?_)
  have hq1 := wp_at (ok_X10_isSmall κ wd G P U V X O kd ln cnt p0 hzLN) hc1
  have f1 : (0 ≤ r1.toInt ∧ r1.toInt ≤ 1) := hq1
  clear hq1
  have hx1 := pwq (fn_X10_isSmall κ wd G P U V X O kd ln cnt p0 hzLN) hc1
  obtain ⟨p1_0, p1_1⟩ : ((r1.toInt ≠ 0 → 97 ≤ p0.toInt ∧ p0.toInt ≤ 122)) ∧ ((r1.toInt = 0 → ¬ (97 ≤ p0.toInt ∧ p0.toInt ≤ 122))) := hx1
  refine pw_jE (fun j19 ej19 => ?_)
  refine pw_jE (fun j14 ej14 => ?_)
  refine pw_ite (fun c4 => ?_) (fun c4 => ?_)
  · have c4 := congrArg Int32.toInt c4
    refine pw_b1 (fun r8 hc8 => ?_)
    have hq8 := wp_at (ok_X10_isCapital κ wd G P U V X O kd ln cnt p0 hzLN) hc8
    have f2 : (0 ≤ r8.toInt ∧ r8.toInt ≤ 1) := hq8
    clear hq8
    have hx8 := pwq (fn_X10_isCapital κ wd G P U V X O kd ln cnt p0 hzLN) hc8
    obtain ⟨p8_0, p8_1⟩ : ((r8.toInt ≠ 0 → 65 ≤ p0.toInt ∧ p0.toInt ≤ 90)) ∧ ((r8.toInt = 0 → ¬ (65 ≤ p0.toInt ∧ p0.toInt ≤ 90))) := hx8
    refine pw_ite (fun c11 => ?_) (fun c11 => ?_)
    · have c11 := congrArg Int32.toInt c11
      refine pw_j1 ej19 (fun t19_0 et19_0 => ?_)
      have et19_0 := et19_0.symm
      have f_t19_0 : t19_0.toInt = 0 := by rw [et19_0]; decide +kernel
      refine pw_if (fun hb19 => ?_)
      obtain ⟨hbl19, hbr19⟩ := hb19
      have qq0 : (t19_0.toInt ≠ 0 → ((97 ≤ p0.toInt ∧ p0.toInt ≤ 122) ∨ (65 ≤ p0.toInt ∧ p0.toInt ≤ 90))) := by intro h; omega
      have qq1 : (t19_0.toInt = 0 → ¬ ((97 ≤ p0.toInt ∧ p0.toInt ≤ 122) ∨ (65 ≤ p0.toInt ∧ p0.toInt ≤ 90))) := by intro h; omega
      exact pw_some ⟨qq0, qq1⟩
    · have c11 := z_ne c11
      refine pw_j0 ej14 ?_
      refine pw_j1 ej19 (fun t19_0 et19_0 => ?_)
      have et19_0 := et19_0.symm
      have f_t19_0 : t19_0.toInt = 1 := by rw [et19_0]; decide +kernel
      refine pw_if (fun hb19 => ?_)
      obtain ⟨hbl19, hbr19⟩ := hb19
      have qq0 : (t19_0.toInt ≠ 0 → ((97 ≤ p0.toInt ∧ p0.toInt ≤ 122) ∨ (65 ≤ p0.toInt ∧ p0.toInt ≤ 90))) := by intro h; omega
      have qq1 : (t19_0.toInt = 0 → ¬ ((97 ≤ p0.toInt ∧ p0.toInt ≤ 122) ∨ (65 ≤ p0.toInt ∧ p0.toInt ≤ 90))) := by intro h; omega
      exact pw_some ⟨qq0, qq1⟩
  · have c4 := z_ne c4
    refine pw_j0 ej14 ?_
    refine pw_j1 ej19 (fun t19_0 et19_0 => ?_)
    have et19_0 := et19_0.symm
    have f_t19_0 : t19_0.toInt = 1 := by rw [et19_0]; decide +kernel
    refine pw_if (fun hb19 => ?_)
    obtain ⟨hbl19, hbr19⟩ := hb19
    have qq0 : (t19_0.toInt ≠ 0 → ((97 ≤ p0.toInt ∧ p0.toInt ≤ 122) ∨ (65 ≤ p0.toInt ∧ p0.toInt ≤ 90))) := by intro h; omega
    have qq1 : (t19_0.toInt = 0 → ¬ ((97 ≤ p0.toInt ∧ p0.toInt ≤ 122) ∨ (65 ≤ p0.toInt ∧ p0.toInt ≤ 90))) := by intro h; omega
    exact pw_some ⟨qq0, qq1⟩
abbrev QF_X8_takeWord (κ : Nat → Nat) (wd : Nat) (la : Nat → Nat) (G : Nat → Nat → Int32) (P : Nat → Nat → Option Nat) (U : Nat → Nat → Int64) (V : Nat → Nat → Nat → Int32) (X : Nat → Nat → Nat → Int64) (O : Nat → Nat → Nat → Option Nat) (kd : Nat → Nat) (ln : Nat → Nat) (cnt : Nat) (this : Nat) (tx : Nat) (f : Nat → Int32) : ((Nat → Int32) × (Nat → Int32) × (Nat → Int32) × (Nat → Int32)) → Prop := (fun t => ((Int32.toNatClampNeg ((t.2.2.2) this)) = lnd f (Int32.toNatClampNeg ((G 165) this)) (Int32.toNatClampNeg ((G 166) this))) ∧ ((((t.2.2.1) this).toInt ≠ 0 → nmB (wdl f (Int32.toNatClampNeg ((G 166) this)) ((Int32.toNatClampNeg ((t.2.2.2) this)) - (Int32.toNatClampNeg ((G 166) this)))) = true)) ∧ ((((t.2.2.1) this).toInt = 0 → nmB (wdl f (Int32.toNatClampNeg ((G 166) this)) ((Int32.toNatClampNeg ((t.2.2.2) this)) - (Int32.toNatClampNeg ((G 166) this)))) = false)))
set_option maxHeartbeats 4000000 in
set_option maxRecDepth 100000 in
theorem fn_X8_takeWord (κ : Nat → Nat) (wd : Nat) (la : Nat → Nat) (G : Nat → Nat → Int32) (P : Nat → Nat → Option Nat) (U : Nat → Nat → Int64) (V : Nat → Nat → Nat → Int32) (X : Nat → Nat → Nat → Int64) (O : Nat → Nat → Nat → Option Nat) (kd : Nat → Nat) (ln : Nat → Nat) (cnt : Nat) (this : Nat) (tx : Nat) (f : Nat → Int32) (hzG160 : rng (0) 2000 (G 160)) (hzG161 : rng (0) 2000 (G 161)) (hzG165 : rng (0) 2000 (G 165)) (hzG166 : rng (0) 2000 (G 166)) (hzP164 : PB κ ln wd 9 100 0 2000 0 (P 164)) (hzLN : LN κ ln) (hk_this : κ this = 9) (hp0 : (∀ tx, (P 164) this = some tx → ((G 165) this).toInt ≤ ((ln tx : Nat) : Int))) (hp1 : ((G 166) this).toInt ≤ ((G 165) this).toInt) (hB : LB la cnt P) (hlt_this : this < cnt) (h164 : (P 164) this = some tx) (hf : (V 0) tx = f) : pw (f_X8_takeWord G P U V X O kd ln cnt this) (QF_X8_takeWord κ wd la G P U V X O kd ln cnt this tx f) := by
  unfold f_X8_takeWord
  have zk0 : (0 : Int32).toInt = 0 := by decide +kernel
  have zk1 : (1 : Int32).toInt = 1 := by decide +kernel
  have hn1 : (P 164) this = some tx := h164
  have lt_tx2 := ((hB.1 164 fl_164) this tx hn1).2.1
  have hk_tx := ((hzP164 this).2 tx hn1).1
  have hl1_tx := ((hzP164 this).2 tx hn1).2.1
  have hl2_tx := ((hzP164 this).2 tx hn1).2.2.1
  have hw_tx := ((hzP164 this).2 tx hn1).2.2.2
  have hz_tx : (Int32.ofNat (ln tx)).toInt = ((ln tx : Nat) : Int) := ofN_eq (by first | exact Nat.le_trans hl2_tx (by decide) | omega)
  have hsz := hp0 _ hn1
  have hb165 := hzG165 this
  have hb166 := hzG166 this
  have c165 := clampI (x := (G 165) this) (by omega)
  have c166 := clampI (x := (G 166) this) (by omega)
  have b3 := hzG166 this
  refine pw_vl (fun x5 ex5 => ?_)
  have f4 : x5.toInt = ((G 166) this).toInt := congrArg Int32.toInt ex5
  refine pw_vl (fun m5 em5 => ?_)
  have hfr5 : ∀ z, ((la z < la this ∨ la this < la z)) → m5 z = (G 160) z := fr_up (e0 := (G 160)) (fun _ _ => rfl) em5 (show ¬ ((la this < la this ∨ la this < la this)) from by omega)
  have hg6 : rng (0) 2000 m5 := by rw [em5]; exact rng_vup hzG160 (by omega) (by omega)
  have sm5 : (m5 this).toInt = x5.toInt := by rw [em5, va_up_self]
  have b7 := hg6 this
  refine pw_vl (fun m10 em10 => ?_)
  have hfr8 : ∀ z, ((la z < la this ∨ la this < la z)) → m10 z = (G 163) z := fr_up (e0 := (G 163)) (fun _ _ => rfl) em10 (show ¬ ((la this < la this ∨ la this < la this)) from by omega)
  have sm10 : (m10 this).toInt = 0 := by rw [em10, va_up_self]; decide +kernel
  refine pw_jE (fun k83 ek83 => ?_)
  have lp13 : ∀ (n13 : Nat) (d13_G163 : Nat → Int32) (d13_G166 : Nat → Int32), rng (0) 2000 d13_G166 → (∀ z, ((la z < la this ∨ la this < la z)) → d13_G163 z = (G 163) z) → (∀ z, ((la z < la this ∨ la this < la z)) → d13_G166 z = (G 166) z) → (((G 166) this).toInt ≤ (d13_G166 this).toInt ∧ (d13_G166 this).toInt ≤ ((G 165) this).toInt) → (lnd f (Int32.toNatClampNeg ((G 165) this)) (Int32.toNatClampNeg ((G 166) this)) = lnd f (Int32.toNatClampNeg ((G 165) this)) (Int32.toNatClampNeg (d13_G166 this))) → (NMA (d13_G163 this).toInt f (Int32.toNatClampNeg ((G 166) this)) (Int32.toNatClampNeg (d13_G166 this))) → pw (L_X8_takeWord_13 G P U V X O kd ln cnt this m5 k83 n13 d13_G163 d13_G166) (QF_X8_takeWord κ wd la G P U V X O kd ln cnt this tx f) := by
    intro n13
    induction n13 with
    | zero => intros; exact pw_none
    | succ n13 ih13 =>
      intro d13_G163 d13_G166 hg9 hfr10 hfr11 f12 il13 ia13
      show pw (B_X8_takeWord_13 G P U V X O kd ln cnt this m5 k83 (L_X8_takeWord_13 G P U V X O kd ln cnt this m5 k83 n13) d13_G163 d13_G166) _
      unfold B_X8_takeWord_13
      have hbq := hg9 this
      have kq := clampI (x := d13_G166 this) (by omega)
      have b13 := hg9 this
      have b14 := hzG165 this
      refine pw_ite (fun c21 => ?_) (fun c21 => ?_)
      · have c21 := (z_le _ _).mp c21
        have hend : lnd f (Int32.toNatClampNeg ((G 165) this)) (Int32.toNatClampNeg ((G 166) this)) = Int32.toNatClampNeg (d13_G166 this) := il13.trans (lnd_e (fun z => by omega))
        refine pw_j2 ek83 (fun z83_0 ez83_0 z83_1 ez83_1 => ?_)
        subst ez83_0 ez83_1
        have f17 : ((d13_G166 this) - (m5 this)).toInt = (d13_G166 this).toInt - (m5 this).toInt := z_sub (by omega) (by omega)
        refine pw_vl (fun x93 ex93 => ?_)
        have f18 : x93.toInt = ((d13_G166 this) - (m5 this)).toInt := congrArg Int32.toInt ex93
        refine pw_vl (fun m93 em93 => ?_)
        have hfr19 : ∀ z, ((la z < la this ∨ la this < la z)) → m93 z = (G 161) z := fr_up (e0 := (G 161)) (fun _ _ => rfl) em93 (show ¬ ((la this < la this ∨ la this < la this)) from by omega)
        have hg20 : rng (0) 2000 m93 := by rw [em93]; exact rng_vup hzG161 (by omega) (by omega)
        have sm93 : (m93 this).toInt = x93.toInt := by rw [em93, va_up_self]
        have b21 := hg20 this
        have qq0 : (Int32.toNatClampNeg (d13_G166 this)) = lnd f (Int32.toNatClampNeg ((G 165) this)) (Int32.toNatClampNeg ((G 166) this)) := by exact hend.symm
        have qq1 : ((d13_G163 this).toInt ≠ 0 → nmB (wdl f (Int32.toNatClampNeg ((G 166) this)) ((Int32.toNatClampNeg (d13_G166 this)) - (Int32.toNatClampNeg ((G 166) this)))) = true) := by exact NMA_t ia13
        have qq2 : ((d13_G163 this).toInt = 0 → nmB (wdl f (Int32.toNatClampNeg ((G 166) this)) ((Int32.toNatClampNeg (d13_G166 this)) - (Int32.toNatClampNeg ((G 166) this)))) = false) := by exact NMA_f ia13
        exact pw_some ⟨qq0, qq1, qq2⟩
      · have c21 := z_nle c21
        refine pw_nne hn1 ?_
        refine pw_if (fun hb32 => ?_)
        obtain ⟨hbl32, hbr32⟩ := hb32
        refine pw_b1 (fun r33 hc33 => ?_)
        have hq33 := wp_at (ok_X8_isLetter κ wd (va_up (va_up (va_up G 160 m5) 163 d13_G163) 166 d13_G166) P U V X O kd ln cnt (((V 0) tx) (Int32.toNatClampNeg (d13_G166 this))) hzLN) hc33
        have f23 : (0 ≤ r33.toInt ∧ r33.toInt ≤ 1) := hq33
        clear hq33
        have hx33 := pwq (fn_X8_isLetter κ wd (va_up (va_up (va_up G 160 m5) 163 d13_G163) 166 d13_G166) P U V X O kd ln cnt (((V 0) tx) (Int32.toNatClampNeg (d13_G166 this))) hzLN) hc33
        obtain ⟨p33_0, p33_1⟩ : ((r33.toInt ≠ 0 → ((97 ≤ (((V 0) tx) (Int32.toNatClampNeg (d13_G166 this))).toInt ∧ (((V 0) tx) (Int32.toNatClampNeg (d13_G166 this))).toInt ≤ 122) ∨ (65 ≤ (((V 0) tx) (Int32.toNatClampNeg (d13_G166 this))).toInt ∧ (((V 0) tx) (Int32.toNatClampNeg (d13_G166 this))).toInt ≤ 90)))) ∧ ((r33.toInt = 0 → ¬ ((97 ≤ (((V 0) tx) (Int32.toNatClampNeg (d13_G166 this))).toInt ∧ (((V 0) tx) (Int32.toNatClampNeg (d13_G166 this))).toInt ≤ 122) ∨ (65 ≤ (((V 0) tx) (Int32.toNatClampNeg (d13_G166 this))).toInt ∧ (((V 0) tx) (Int32.toNatClampNeg (d13_G166 this))).toInt ≤ 90)))) := hx33
        refine pw_ite (fun c36 => ?_) (fun c36 => ?_)
        · have c36 := congrArg Int32.toInt c36
          have hend : lnd f (Int32.toNatClampNeg ((G 165) this)) (Int32.toNatClampNeg ((G 166) this)) = Int32.toNatClampNeg (d13_G166 this) := il13.trans (lnd_e (fun z => by have z9 := p33_1 (by omega); rw [hf] at z9; exact z9 z.2))
          refine pw_j2 ek83 (fun z83_0 ez83_0 z83_1 ez83_1 => ?_)
          subst ez83_0 ez83_1
          have f26 : ((d13_G166 this) - (m5 this)).toInt = (d13_G166 this).toInt - (m5 this).toInt := z_sub (by omega) (by omega)
          refine pw_vl (fun x93 ex93 => ?_)
          have f27 : x93.toInt = ((d13_G166 this) - (m5 this)).toInt := congrArg Int32.toInt ex93
          refine pw_vl (fun m93 em93 => ?_)
          have hfr28 : ∀ z, ((la z < la this ∨ la this < la z)) → m93 z = (G 161) z := fr_up (e0 := (G 161)) (fun _ _ => rfl) em93 (show ¬ ((la this < la this ∨ la this < la this)) from by omega)
          have hg29 : rng (0) 2000 m93 := by rw [em93]; exact rng_vup hzG161 (by omega) (by omega)
          have sm93 : (m93 this).toInt = x93.toInt := by rw [em93, va_up_self]
          have b30 := hg29 this
          have qq0 : (Int32.toNatClampNeg (d13_G166 this)) = lnd f (Int32.toNatClampNeg ((G 165) this)) (Int32.toNatClampNeg ((G 166) this)) := by exact hend.symm
          have qq1 : ((d13_G163 this).toInt ≠ 0 → nmB (wdl f (Int32.toNatClampNeg ((G 166) this)) ((Int32.toNatClampNeg (d13_G166 this)) - (Int32.toNatClampNeg ((G 166) this)))) = true) := by exact NMA_t ia13
          have qq2 : ((d13_G163 this).toInt = 0 → nmB (wdl f (Int32.toNatClampNeg ((G 166) this)) ((Int32.toNatClampNeg (d13_G166 this)) - (Int32.toNatClampNeg ((G 166) this)))) = false) := by exact NMA_f ia13
          exact pw_some ⟨qq0, qq1, qq2⟩
        · have c36 := z_ne c36
          have hil : isL (f (Int32.toNatClampNeg (d13_G166 this))) := by have z9 := p33_0 (by omega); rw [hf] at z9; exact z9
          refine pw_jE (fun j67 ej67 => ?_)
          refine pw_jE (fun j62 ej62 => ?_)
          refine pw_ite (fun c44 => ?_) (fun c44 => ?_)
          · have c44 := congrArg Int32.toInt c44
            refine pw_nne hn1 ?_
            refine pw_if (fun hb55 => ?_)
            obtain ⟨hbl55, hbr55⟩ := hb55
            refine pw_b1 (fun r56 hc56 => ?_)
            have hq56 := wp_at (ok_X10_isCapital κ wd (va_up (va_up (va_up G 160 m5) 163 d13_G163) 166 d13_G166) P U V X O kd ln cnt (((V 0) tx) (Int32.toNatClampNeg (d13_G166 this))) hzLN) hc56
            have f32 : (0 ≤ r56.toInt ∧ r56.toInt ≤ 1) := hq56
            clear hq56
            have hx56 := pwq (fn_X10_isCapital κ wd (va_up (va_up (va_up G 160 m5) 163 d13_G163) 166 d13_G166) P U V X O kd ln cnt (((V 0) tx) (Int32.toNatClampNeg (d13_G166 this))) hzLN) hc56
            obtain ⟨p56_0, p56_1⟩ : ((r56.toInt ≠ 0 → 65 ≤ (((V 0) tx) (Int32.toNatClampNeg (d13_G166 this))).toInt ∧ (((V 0) tx) (Int32.toNatClampNeg (d13_G166 this))).toInt ≤ 90)) ∧ ((r56.toInt = 0 → ¬ (65 ≤ (((V 0) tx) (Int32.toNatClampNeg (d13_G166 this))).toInt ∧ (((V 0) tx) (Int32.toNatClampNeg (d13_G166 this))).toInt ≤ 90))) := hx56
            refine pw_ite (fun c59 => ?_) (fun c59 => ?_)
            · have c59 := congrArg Int32.toInt c59
              refine pw_j1 ej67 (fun t67_0 et67_0 => ?_)
              have et67_0 := et67_0.symm
              have f_t67_0 : t67_0.toInt = 0 := by rw [et67_0]; decide +kernel
              refine pw_if (fun hb67 => ?_)
              obtain ⟨hbl67, hbr67⟩ := hb67
              refine pw_vl (fun m67 em67 => ?_)
              have hfr33 : ∀ z, ((la z < la this ∨ la this < la z)) → m67 z = (G 163) z := fr_up (e0 := (G 163)) hfr10 em67 (show ¬ ((la this < la this ∨ la this < la this)) from by omega)
              have sm67 : (m67 this).toInt = t67_0.toInt := by rw [em67, va_up_self]
              have f35 : ((d13_G166 this) + 1).toInt = (d13_G166 this).toInt + 1 := z_addc (by decide +kernel) (by omega) (by omega)
              refine pw_vl (fun x77 ex77 => ?_)
              have f36 : x77.toInt = ((d13_G166 this) + 1).toInt := congrArg Int32.toInt ex77
              refine pw_vl (fun m77 em77 => ?_)
              have hfr37 : ∀ z, ((la z < la this ∨ la this < la z)) → m77 z = (G 166) z := fr_up (e0 := (G 166)) hfr11 em77 (show ¬ ((la this < la this ∨ la this < la this)) from by omega)
              have hg38 : rng (0) 2000 m77 := by rw [em77]; exact rng_vup hg9 (by omega) (by omega)
              have sm77 : (m77 this).toInt = x77.toInt := by rw [em77, va_up_self]
              have b39 := hg38 this
              have hbn := hg38 this
              have kn := clampI (x := m77 this) (by omega)
              have iv13_0 : (((G 166) this).toInt ≤ (m77 this).toInt ∧ (m77 this).toInt ≤ ((G 165) this).toInt) := by omega
              have iv13_1 : (lnd f (Int32.toNatClampNeg ((G 165) this)) (Int32.toNatClampNeg ((G 166) this)) = lnd f (Int32.toNatClampNeg ((G 165) this)) (Int32.toNatClampNeg (m77 this))) := by rw [il13, lnd_s (by omega) hil, show Int32.toNatClampNeg (d13_G166 this) + 1 = Int32.toNatClampNeg (m77 this) by omega]
              have iv13_2 : (NMA (m67 this).toInt f (Int32.toNatClampNeg ((G 166) this)) (Int32.toNatClampNeg (m77 this))) := by exact NMA_s ia13 (by omega) (by omega) (fun _ => ⟨by omega, by have z9 := p56_1 (by omega); rw [hf] at z9; unfold isL at hil; omega⟩) (fun z => by exfalso; omega)
              exact ih13 m67 m77 hg38 hfr33 hfr37 iv13_0 iv13_1 iv13_2
            · have c59 := z_ne c59
              refine pw_j0 ej62 ?_
              refine pw_j1 ej67 (fun t67_0 et67_0 => ?_)
              have et67_0 := et67_0.symm
              have f_t67_0 : t67_0.toInt = 1 := by rw [et67_0]; decide +kernel
              refine pw_if (fun hb67 => ?_)
              obtain ⟨hbl67, hbr67⟩ := hb67
              refine pw_vl (fun m67 em67 => ?_)
              have hfr40 : ∀ z, ((la z < la this ∨ la this < la z)) → m67 z = (G 163) z := fr_up (e0 := (G 163)) hfr10 em67 (show ¬ ((la this < la this ∨ la this < la this)) from by omega)
              have sm67 : (m67 this).toInt = t67_0.toInt := by rw [em67, va_up_self]
              have f42 : ((d13_G166 this) + 1).toInt = (d13_G166 this).toInt + 1 := z_addc (by decide +kernel) (by omega) (by omega)
              refine pw_vl (fun x77 ex77 => ?_)
              have f43 : x77.toInt = ((d13_G166 this) + 1).toInt := congrArg Int32.toInt ex77
              refine pw_vl (fun m77 em77 => ?_)
              have hfr44 : ∀ z, ((la z < la this ∨ la this < la z)) → m77 z = (G 166) z := fr_up (e0 := (G 166)) hfr11 em77 (show ¬ ((la this < la this ∨ la this < la this)) from by omega)
              have hg45 : rng (0) 2000 m77 := by rw [em77]; exact rng_vup hg9 (by omega) (by omega)
              have sm77 : (m77 this).toInt = x77.toInt := by rw [em77, va_up_self]
              have b46 := hg45 this
              have hbn := hg45 this
              have kn := clampI (x := m77 this) (by omega)
              have iv13_0 : (((G 166) this).toInt ≤ (m77 this).toInt ∧ (m77 this).toInt ≤ ((G 165) this).toInt) := by omega
              have iv13_1 : (lnd f (Int32.toNatClampNeg ((G 165) this)) (Int32.toNatClampNeg ((G 166) this)) = lnd f (Int32.toNatClampNeg ((G 165) this)) (Int32.toNatClampNeg (m77 this))) := by rw [il13, lnd_s (by omega) hil, show Int32.toNatClampNeg (d13_G166 this) + 1 = Int32.toNatClampNeg (m77 this) by omega]
              have iv13_2 : (NMA (m67 this).toInt f (Int32.toNatClampNeg ((G 166) this)) (Int32.toNatClampNeg (m77 this))) := by exact NMA_s ia13 (by omega) (by omega) (fun z => by exfalso; omega) (fun _ => Or.inr (fun z => by have z9 := p56_0 (by omega); rw [hf] at z9; omega))
              exact ih13 m67 m77 hg45 hfr40 hfr44 iv13_0 iv13_1 iv13_2
          · have c44 := z_ne c44
            refine pw_j0 ej62 ?_
            refine pw_j1 ej67 (fun t67_0 et67_0 => ?_)
            have et67_0 := et67_0.symm
            have f_t67_0 : t67_0.toInt = 1 := by rw [et67_0]; decide +kernel
            refine pw_if (fun hb67 => ?_)
            obtain ⟨hbl67, hbr67⟩ := hb67
            refine pw_vl (fun m67 em67 => ?_)
            have hfr47 : ∀ z, ((la z < la this ∨ la this < la z)) → m67 z = (G 163) z := fr_up (e0 := (G 163)) hfr10 em67 (show ¬ ((la this < la this ∨ la this < la this)) from by omega)
            have sm67 : (m67 this).toInt = t67_0.toInt := by rw [em67, va_up_self]
            have f49 : ((d13_G166 this) + 1).toInt = (d13_G166 this).toInt + 1 := z_addc (by decide +kernel) (by omega) (by omega)
            refine pw_vl (fun x77 ex77 => ?_)
            have f50 : x77.toInt = ((d13_G166 this) + 1).toInt := congrArg Int32.toInt ex77
            refine pw_vl (fun m77 em77 => ?_)
            have hfr51 : ∀ z, ((la z < la this ∨ la this < la z)) → m77 z = (G 166) z := fr_up (e0 := (G 166)) hfr11 em77 (show ¬ ((la this < la this ∨ la this < la this)) from by omega)
            have hg52 : rng (0) 2000 m77 := by rw [em77]; exact rng_vup hg9 (by omega) (by omega)
            have sm77 : (m77 this).toInt = x77.toInt := by rw [em77, va_up_self]
            have b53 := hg52 this
            have hbn := hg52 this
            have kn := clampI (x := m77 this) (by omega)
            have iv13_0 : (((G 166) this).toInt ≤ (m77 this).toInt ∧ (m77 this).toInt ≤ ((G 165) this).toInt) := by omega
            have iv13_1 : (lnd f (Int32.toNatClampNeg ((G 165) this)) (Int32.toNatClampNeg ((G 166) this)) = lnd f (Int32.toNatClampNeg ((G 165) this)) (Int32.toNatClampNeg (m77 this))) := by rw [il13, lnd_s (by omega) hil, show Int32.toNatClampNeg (d13_G166 this) + 1 = Int32.toNatClampNeg (m77 this) by omega]
            have iv13_2 : (NMA (m67 this).toInt f (Int32.toNatClampNeg ((G 166) this)) (Int32.toNatClampNeg (m77 this))) := by exact NMA_s ia13 (by omega) (by omega) (fun z => by exfalso; omega) (fun _ => Or.inl (by omega))
            exact ih13 m67 m77 hg52 hfr47 hfr51 iv13_0 iv13_1 iv13_2
  exact lp13 NN m10 (G 166) hzG166 hfr8 (fun _ _ => rfl) (show (((G 166) this).toInt ≤ ((G 166) this).toInt ∧ ((G 166) this).toInt ≤ ((G 165) this).toInt) from by omega) (show (lnd f (Int32.toNatClampNeg ((G 165) this)) (Int32.toNatClampNeg ((G 166) this)) = lnd f (Int32.toNatClampNeg ((G 165) this)) (Int32.toNatClampNeg ((G 166) this))) from by rfl) (show (NMA (m10 this).toInt f (Int32.toNatClampNeg ((G 166) this)) (Int32.toNatClampNeg ((G 166) this))) from by exact NMA_0 (by omega) rfl)
abbrev QF_X8_next (κ : Nat → Nat) (wd : Nat) (la : Nat → Nat) (G : Nat → Nat → Int32) (P : Nat → Nat → Option Nat) (U : Nat → Nat → Int64) (V : Nat → Nat → Nat → Int32) (X : Nat → Nat → Nat → Int64) (O : Nat → Nat → Nat → Option Nat) (kd : Nat → Nat) (ln : Nat → Nat) (cnt : Nat) (this : Nat) (tx : Nat) (f : Nat → Int32) : (Int32 × (Nat → Int32) × (Nat → Int32) × (Nat → Int32) × (Nat → Int32) × (Nat → Int32) × (Nat → Int32)) → Prop := (fun t => (((t.1).toInt ≠ 0 → NXW f (Int32.toNatClampNeg ((G 165) this)) (Int32.toNatClampNeg ((G 166) this)) (decide (((G 167) this).toInt ≠ 0)) (Int32.toNatClampNeg ((t.2.1) this)) (Int32.toNatClampNeg ((t.2.2.2.2.2.1) this)) ((t.2.2.2.2.1) this).toInt ∧ ((t.2.2.2.2.2.2) this).toInt = 0)) ∧ (((t.1).toInt = 0 → NXE f (Int32.toNatClampNeg ((G 165) this)) (Int32.toNatClampNeg ((G 166) this)) (decide (((G 167) this).toInt ≠ 0)))) ∧ (((t.1).toInt ≠ 0 → MXN f (Int32.toNatClampNeg ((G 165) this)) (Int32.toNatClampNeg ((G 166) this)) (decide (((G 167) this).toInt ≠ 0)) (Int32.toNatClampNeg ((t.2.1) this)) false)) ∧ (((t.1).toInt = 0 → MXE f (Int32.toNatClampNeg ((G 165) this)) (Int32.toNatClampNeg ((G 166) this)) (decide (((G 167) this).toInt ≠ 0)))) ∧ (Int32.toNatClampNeg ((t.2.2.2.1) this) = n10 f (Int32.toNatClampNeg ((t.2.2.2.2.2.1) this))))
set_option maxHeartbeats 4000000 in
set_option maxRecDepth 100000 in
theorem fn_X8_next (κ : Nat → Nat) (wd : Nat) (la : Nat → Nat) (G : Nat → Nat → Int32) (P : Nat → Nat → Option Nat) (U : Nat → Nat → Int64) (V : Nat → Nat → Nat → Int32) (X : Nat → Nat → Nat → Int64) (O : Nat → Nat → Nat → Option Nat) (kd : Nat → Nat) (ln : Nat → Nat) (cnt : Nat) (this : Nat) (tx : Nat) (f : Nat → Int32) (hzG160 : rng (0) 2000 (G 160)) (hzG161 : rng (0) 2000 (G 161)) (hzG162 : rng (0) 2000 (G 162)) (hzG165 : rng (0) 2000 (G 165)) (hzG166 : rng (0) 2000 (G 166)) (hzP164 : PB κ ln wd 9 100 0 2000 0 (P 164)) (hzLN : LN κ ln) (hk_this : κ this = 9) (hp0 : (∀ tx, (P 164) this = some tx → ((G 165) this).toInt ≤ ((ln tx : Nat) : Int))) (hp1 : ((G 166) this).toInt ≤ ((G 165) this).toInt) (hp2 : ((G 162) this).toInt ≤ ((G 166) this).toInt) (hB : LB la cnt P) (hlt_this : this < cnt) (h164 : (P 164) this = some tx) (hf : (V 0) tx = f) (hln : Int32.toNatClampNeg ((G 162) this) = n10 f (Int32.toNatClampNeg ((G 166) this))) : pw (f_X8_next G P U V X O kd ln cnt this) (QF_X8_next κ wd la G P U V X O kd ln cnt this tx f) := by
  unfold f_X8_next
  have zk0 : (0 : Int32).toInt = 0 := by decide +kernel
  have zk1 : (1 : Int32).toInt = 1 := by decide +kernel
  have zk10 : (10 : Int32).toInt = 10 := by decide +kernel
  have zk34 : (34 : Int32).toInt = 34 := by decide +kernel
  have hsz := hp0 _ h164
  have hb0 := hzG166 this
  have hb165 := hzG165 this
  have c165 := clampI (x := (G 165) this) (by omega)
  have c166 := clampI (x := (G 166) this) (by omega)
  have lp0 : ∀ (n0 : Nat) (d0_G162 : Nat → Int32) (d0_G166 : Nat → Int32) (d0_G167 : Nat → Int32), rng (0) 2000 d0_G162 → rng (0) 2000 d0_G166 → (∀ z, ((la z < la this ∨ la this < la z)) → d0_G162 z = (G 162) z) → (∀ z, ((la z < la this ∨ la this < la z)) → d0_G166 z = (G 166) z) → (∀ z, ((la z < la this ∨ la this < la z)) → d0_G167 z = (G 167) z) → (((G 166) this).toInt ≤ (d0_G166 this).toInt ∧ (d0_G166 this).toInt ≤ ((G 165) this).toInt) → (d0_G162 this).toInt ≤ (d0_G166 this).toInt → (NXT f (Int32.toNatClampNeg ((G 165) this)) (Int32.toNatClampNeg ((G 166) this)) (decide (((G 167) this).toInt ≠ 0)) (Int32.toNatClampNeg (d0_G166 this)) (decide ((d0_G167 this).toInt ≠ 0))) → (MXN f (Int32.toNatClampNeg ((G 165) this)) (Int32.toNatClampNeg ((G 166) this)) (decide (((G 167) this).toInt ≠ 0)) (Int32.toNatClampNeg (d0_G166 this)) (decide ((d0_G167 this).toInt ≠ 0))) → (Int32.toNatClampNeg (d0_G162 this) = n10 f (Int32.toNatClampNeg (d0_G166 this))) → pw (L_X8_next_0 G P U V X O kd ln cnt this n0 d0_G162 d0_G166 d0_G167) (QF_X8_next κ wd la G P U V X O kd ln cnt this tx f) := by
    intro n0
    induction n0 with
    | zero => intros; exact pw_none
    | succ n0 ih0 =>
      intro d0_G162 d0_G166 d0_G167 hg1 hg2 hfr3 hfr4 hfr5 f6 f7 ix0 im0 iy0
      show pw (B_X8_next_0 G P U V X O kd ln cnt this (L_X8_next_0 G P U V X O kd ln cnt this n0) d0_G162 d0_G166 d0_G167) _
      unfold B_X8_next_0
      have hn8 : (P 164) this = some tx := h164
      have lt_tx9 := ((hB.1 164 fl_164) this tx hn8).2.1
      have hk_tx := ((hzP164 this).2 tx hn8).1
      have hl1_tx := ((hzP164 this).2 tx hn8).2.1
      have hl2_tx := ((hzP164 this).2 tx hn8).2.2.1
      have hw_tx := ((hzP164 this).2 tx hn8).2.2.2
      have hz_tx : (Int32.ofNat (ln tx)).toInt = ((ln tx : Nat) : Int) := ofN_eq (by first | exact Nat.le_trans hl2_tx (by decide) | omega)
      have hbq := hg2 this
      have kq := clampI (x := d0_G166 this) (by omega)
      have hb162 := hg1 this
      have b10 := hg2 this
      have b11 := hzG165 this
      refine pw_ite (fun c8 => ?_) (fun c8 => ?_)
      · have c8 := (z_le _ _).mp c8
        have qq0 : ((0 : Int32).toInt ≠ 0 → NXW f (Int32.toNatClampNeg ((G 165) this)) (Int32.toNatClampNeg ((G 166) this)) (decide (((G 167) this).toInt ≠ 0)) (Int32.toNatClampNeg ((G 160) this)) (Int32.toNatClampNeg (d0_G166 this)) ((G 163) this).toInt ∧ (d0_G167 this).toInt = 0) := by intro h; exfalso; omega
        have qq1 : ((0 : Int32).toInt = 0 → NXE f (Int32.toNatClampNeg ((G 165) this)) (Int32.toNatClampNeg ((G 166) this)) (decide (((G 167) this).toInt ≠ 0))) := by intro _; have hx := ix0; rw [show Int32.toNatClampNeg (d0_G166 this) = (Int32.toNatClampNeg ((G 165) this)) by omega] at hx; exact ⟨_, hx⟩
        have qq2 : ((0 : Int32).toInt ≠ 0 → MXN f (Int32.toNatClampNeg ((G 165) this)) (Int32.toNatClampNeg ((G 166) this)) (decide (((G 167) this).toInt ≠ 0)) (Int32.toNatClampNeg ((G 160) this)) false) := by intro h; exfalso; omega
        have qq3 : ((0 : Int32).toInt = 0 → MXE f (Int32.toNatClampNeg ((G 165) this)) (Int32.toNatClampNeg ((G 166) this)) (decide (((G 167) this).toInt ≠ 0))) := by intro _; have hx := im0; rw [show Int32.toNatClampNeg (d0_G166 this) = (Int32.toNatClampNeg ((G 165) this)) by omega] at hx; exact ⟨_, hx⟩
        have qq4 : Int32.toNatClampNeg (d0_G162 this) = n10 f (Int32.toNatClampNeg (d0_G166 this)) := by exact iy0
        exact pw_some ⟨qq0, qq1, qq2, qq3, qq4⟩
      · have c8 := z_nle c8
        refine pw_nne hn8 ?_
        refine pw_if (fun hb19 => ?_)
        obtain ⟨hbl19, hbr19⟩ := hb19
        refine pw_vl (fun x20 ex20 => ?_)
        have f13 : x20.toInt = (((V 0) tx) (Int32.toNatClampNeg (d0_G166 this))).toInt := congrArg Int32.toInt ex20
        have hcb : x20.toInt = (f (Int32.toNatClampNeg (d0_G166 this))).toInt := by rw [ex20, hf]
        refine pw_jE (fun j85 ej85 => ?_)
        refine pw_ite (fun c24 => ?_) (fun c24 => ?_)
        · have c24 := congrArg Int32.toInt c24
          have b14 := hg1 this
          have f15 : ((d0_G162 this) + 1).toInt = (d0_G162 this).toInt + 1 := z_addc (by decide +kernel) (by omega) (by omega)
          refine pw_vl (fun x34 ex34 => ?_)
          have f16 : x34.toInt = ((d0_G162 this) + 1).toInt := congrArg Int32.toInt ex34
          refine pw_vl (fun m34 em34 => ?_)
          have hfr17 : ∀ z, ((la z < la this ∨ la this < la z)) → m34 z = (G 162) z := fr_up (e0 := (G 162)) hfr3 em34 (show ¬ ((la this < la this ∨ la this < la this)) from by omega)
          have hg18 : rng (0) 2000 m34 := by rw [em34]; exact rng_vup hg1 (by omega) (by omega)
          have sm34 : (m34 this).toInt = x34.toInt := by rw [em34, va_up_self]
          have b19 := hg18 this
          refine pw_j2 ej85 (fun z85_0 ez85_0 z85_1 ez85_1 => ?_)
          subst ez85_0 ez85_1
          have f21 : ((d0_G166 this) + 1).toInt = (d0_G166 this).toInt + 1 := z_addc (by decide +kernel) (by omega) (by omega)
          refine pw_vl (fun x92 ex92 => ?_)
          have f22 : x92.toInt = ((d0_G166 this) + 1).toInt := congrArg Int32.toInt ex92
          refine pw_vl (fun m92 em92 => ?_)
          have hfr23 : ∀ z, ((la z < la this ∨ la this < la z)) → m92 z = (G 166) z := fr_up (e0 := (G 166)) hfr4 em92 (show ¬ ((la this < la this ∨ la this < la this)) from by omega)
          have hg24 : rng (0) 2000 m92 := by rw [em92]; exact rng_vup hg2 (by omega) (by omega)
          have sm92 : (m92 this).toInt = x92.toInt := by rw [em92, va_up_self]
          have b25 := hg24 this
          have iv0_0 : (((G 166) this).toInt ≤ (m92 this).toInt ∧ (m92 this).toInt ≤ ((G 165) this).toInt) := by omega
          have iv0_1 : (m34 this).toInt ≤ (m92 this).toInt := by omega
          have iv0_2 : (NXT f (Int32.toNatClampNeg ((G 165) this)) (Int32.toNatClampNeg ((G 166) this)) (decide (((G 167) this).toInt ≠ 0)) (Int32.toNatClampNeg (m92 this)) (decide ((d0_G167 this).toInt ≠ 0))) := by have kz := clampI (x := m92 this) (by omega); rw [show Int32.toNatClampNeg (m92 this) = Int32.toNatClampNeg (d0_G166 this) + 1 by omega]; exact NXT_c ix0 (by omega) (fun z => by omega) (Or.inr (fun z => by unfold isL at z; omega))
          have iv0_3 : (MXN f (Int32.toNatClampNeg ((G 165) this)) (Int32.toNatClampNeg ((G 166) this)) (decide (((G 167) this).toInt ≠ 0)) (Int32.toNatClampNeg (m92 this)) (decide ((d0_G167 this).toInt ≠ 0))) := by have kz := clampI (x := m92 this) (by omega); rw [show Int32.toNatClampNeg (m92 this) = Int32.toNatClampNeg (d0_G166 this) + 1 by omega]; exact MXN_c im0 (by omega) (fun z => by omega) (Or.inr (fun z => by unfold isL at z; omega))
          have iv0_4 : (Int32.toNatClampNeg (m34 this) = n10 f (Int32.toNatClampNeg (m92 this))) := by have kz := clampI (x := m92 this) (by omega); rw [show Int32.toNatClampNeg (m92 this) = Int32.toNatClampNeg (d0_G166 this) + 1 by omega]; have kl := clampI (x := d0_G162 this) (by omega); have kl2 := clampI (x := m34 this) (by omega); rw [n10_s, if_pos (by omega), ← iy0]; omega
          exact ih0 m34 m92 d0_G167 hg18 hg24 hfr17 hfr23 hfr5 iv0_0 iv0_1 iv0_2 iv0_3 iv0_4
        · have c24 := z_ne c24
          refine pw_ite (fun c43 => ?_) (fun c43 => ?_)
          · have c43 := congrArg Int32.toInt c43
            refine pw_jE (fun j59 ej59 => ?_)
            refine pw_ite (fun c51 => ?_) (fun c51 => ?_)
            · have c51 := congrArg Int32.toInt c51
              refine pw_j1 ej59 (fun t59_0 et59_0 => ?_)
              have et59_0 := et59_0.symm
              have f_t59_0 : t59_0.toInt = 1 := by rw [et59_0]; decide +kernel
              refine pw_if (fun hb59 => ?_)
              obtain ⟨hbl59, hbr59⟩ := hb59
              refine pw_vl (fun m59 em59 => ?_)
              have hfr26 : ∀ z, ((la z < la this ∨ la this < la z)) → m59 z = (G 167) z := fr_up (e0 := (G 167)) hfr5 em59 (show ¬ ((la this < la this ∨ la this < la this)) from by omega)
              have sm59 : (m59 this).toInt = t59_0.toInt := by rw [em59, va_up_self]
              refine pw_j2 ej85 (fun z85_0 ez85_0 z85_1 ez85_1 => ?_)
              subst ez85_0 ez85_1
              have f28 : ((d0_G166 this) + 1).toInt = (d0_G166 this).toInt + 1 := z_addc (by decide +kernel) (by omega) (by omega)
              refine pw_vl (fun x92 ex92 => ?_)
              have f29 : x92.toInt = ((d0_G166 this) + 1).toInt := congrArg Int32.toInt ex92
              refine pw_vl (fun m92 em92 => ?_)
              have hfr30 : ∀ z, ((la z < la this ∨ la this < la z)) → m92 z = (G 166) z := fr_up (e0 := (G 166)) hfr4 em92 (show ¬ ((la this < la this ∨ la this < la this)) from by omega)
              have hg31 : rng (0) 2000 m92 := by rw [em92]; exact rng_vup hg2 (by omega) (by omega)
              have sm92 : (m92 this).toInt = x92.toInt := by rw [em92, va_up_self]
              have b32 := hg31 this
              have iv0_0 : (((G 166) this).toInt ≤ (m92 this).toInt ∧ (m92 this).toInt ≤ ((G 165) this).toInt) := by omega
              have iv0_1 : (d0_G162 this).toInt ≤ (m92 this).toInt := by omega
              have iv0_2 : (NXT f (Int32.toNatClampNeg ((G 165) this)) (Int32.toNatClampNeg ((G 166) this)) (decide (((G 167) this).toInt ≠ 0)) (Int32.toNatClampNeg (m92 this)) (decide ((m59 this).toInt ≠ 0))) := by have kz := clampI (x := m92 this) (by omega); rw [show Int32.toNatClampNeg (m92 this) = Int32.toNatClampNeg (d0_G166 this) + 1 by omega]; have h9 := NXT_q ix0 (by omega) (by omega); rw [show decide ((m59 this).toInt ≠ 0) = !decide ((d0_G167 this).toInt ≠ 0) by rw [decide_eq_false (show ¬ (d0_G167 this).toInt ≠ 0 by omega), decide_eq_true (show (m59 this).toInt ≠ 0 by omega)]; rfl]; exact h9
              have iv0_3 : (MXN f (Int32.toNatClampNeg ((G 165) this)) (Int32.toNatClampNeg ((G 166) this)) (decide (((G 167) this).toInt ≠ 0)) (Int32.toNatClampNeg (m92 this)) (decide ((m59 this).toInt ≠ 0))) := by have kz := clampI (x := m92 this) (by omega); rw [show Int32.toNatClampNeg (m92 this) = Int32.toNatClampNeg (d0_G166 this) + 1 by omega]; rw [show decide ((m59 this).toInt ≠ 0) = !decide ((d0_G167 this).toInt ≠ 0) by rw [decide_eq_false (show ¬ (d0_G167 this).toInt ≠ 0 by omega), decide_eq_true (show (m59 this).toInt ≠ 0 by omega)]; rfl]; exact MXN_q im0 (by omega) (by omega)
              have iv0_4 : (Int32.toNatClampNeg (d0_G162 this) = n10 f (Int32.toNatClampNeg (m92 this))) := by have kz := clampI (x := m92 this) (by omega); rw [show Int32.toNatClampNeg (m92 this) = Int32.toNatClampNeg (d0_G166 this) + 1 by omega]; rw [n10_s, if_neg (by omega)]; exact iy0
              exact ih0 d0_G162 m92 m59 hg1 hg31 hfr3 hfr30 hfr26 iv0_0 iv0_1 iv0_2 iv0_3 iv0_4
            · have c51 := z_ne c51
              refine pw_j1 ej59 (fun t59_0 et59_0 => ?_)
              have et59_0 := et59_0.symm
              have f_t59_0 : t59_0.toInt = 0 := by rw [et59_0]; decide +kernel
              refine pw_if (fun hb59 => ?_)
              obtain ⟨hbl59, hbr59⟩ := hb59
              refine pw_vl (fun m59 em59 => ?_)
              have hfr33 : ∀ z, ((la z < la this ∨ la this < la z)) → m59 z = (G 167) z := fr_up (e0 := (G 167)) hfr5 em59 (show ¬ ((la this < la this ∨ la this < la this)) from by omega)
              have sm59 : (m59 this).toInt = t59_0.toInt := by rw [em59, va_up_self]
              refine pw_j2 ej85 (fun z85_0 ez85_0 z85_1 ez85_1 => ?_)
              subst ez85_0 ez85_1
              have f35 : ((d0_G166 this) + 1).toInt = (d0_G166 this).toInt + 1 := z_addc (by decide +kernel) (by omega) (by omega)
              refine pw_vl (fun x92 ex92 => ?_)
              have f36 : x92.toInt = ((d0_G166 this) + 1).toInt := congrArg Int32.toInt ex92
              refine pw_vl (fun m92 em92 => ?_)
              have hfr37 : ∀ z, ((la z < la this ∨ la this < la z)) → m92 z = (G 166) z := fr_up (e0 := (G 166)) hfr4 em92 (show ¬ ((la this < la this ∨ la this < la this)) from by omega)
              have hg38 : rng (0) 2000 m92 := by rw [em92]; exact rng_vup hg2 (by omega) (by omega)
              have sm92 : (m92 this).toInt = x92.toInt := by rw [em92, va_up_self]
              have b39 := hg38 this
              have iv0_0 : (((G 166) this).toInt ≤ (m92 this).toInt ∧ (m92 this).toInt ≤ ((G 165) this).toInt) := by omega
              have iv0_1 : (d0_G162 this).toInt ≤ (m92 this).toInt := by omega
              have iv0_2 : (NXT f (Int32.toNatClampNeg ((G 165) this)) (Int32.toNatClampNeg ((G 166) this)) (decide (((G 167) this).toInt ≠ 0)) (Int32.toNatClampNeg (m92 this)) (decide ((m59 this).toInt ≠ 0))) := by have kz := clampI (x := m92 this) (by omega); rw [show Int32.toNatClampNeg (m92 this) = Int32.toNatClampNeg (d0_G166 this) + 1 by omega]; have h9 := NXT_q ix0 (by omega) (by omega); rw [show decide ((m59 this).toInt ≠ 0) = !decide ((d0_G167 this).toInt ≠ 0) by rw [decide_eq_true (show (d0_G167 this).toInt ≠ 0 by omega), decide_eq_false (show ¬ (m59 this).toInt ≠ 0 by omega)]; rfl]; exact h9
              have iv0_3 : (MXN f (Int32.toNatClampNeg ((G 165) this)) (Int32.toNatClampNeg ((G 166) this)) (decide (((G 167) this).toInt ≠ 0)) (Int32.toNatClampNeg (m92 this)) (decide ((m59 this).toInt ≠ 0))) := by have kz := clampI (x := m92 this) (by omega); rw [show Int32.toNatClampNeg (m92 this) = Int32.toNatClampNeg (d0_G166 this) + 1 by omega]; rw [show decide ((m59 this).toInt ≠ 0) = !decide ((d0_G167 this).toInt ≠ 0) by rw [decide_eq_true (show (d0_G167 this).toInt ≠ 0 by omega), decide_eq_false (show ¬ (m59 this).toInt ≠ 0 by omega)]; rfl]; exact MXN_q im0 (by omega) (by omega)
              have iv0_4 : (Int32.toNatClampNeg (d0_G162 this) = n10 f (Int32.toNatClampNeg (m92 this))) := by have kz := clampI (x := m92 this) (by omega); rw [show Int32.toNatClampNeg (m92 this) = Int32.toNatClampNeg (d0_G166 this) + 1 by omega]; rw [n10_s, if_neg (by omega)]; exact iy0
              exact ih0 d0_G162 m92 m59 hg1 hg38 hfr3 hfr37 hfr33 iv0_0 iv0_1 iv0_2 iv0_3 iv0_4
          · have c43 := z_ne c43
            refine pw_ite (fun c69 => ?_) (fun c69 => ?_)
            · have c69 := congrArg Int32.toInt c69
              refine pw_b1 (fun r73 hc73 => ?_)
              have hq73 := wp_at (ok_X8_isLetter κ wd (va_up (va_up (va_up G 162 d0_G162) 166 d0_G166) 167 d0_G167) P U V X O kd ln cnt x20 hzLN) hc73
              have f40 : (0 ≤ r73.toInt ∧ r73.toInt ≤ 1) := hq73
              clear hq73
              have hx73 := pwq (fn_X8_isLetter κ wd (va_up (va_up (va_up G 162 d0_G162) 166 d0_G166) 167 d0_G167) P U V X O kd ln cnt x20 hzLN) hc73
              obtain ⟨p73_0, p73_1⟩ : ((r73.toInt ≠ 0 → ((97 ≤ x20.toInt ∧ x20.toInt ≤ 122) ∨ (65 ≤ x20.toInt ∧ x20.toInt ≤ 90)))) ∧ ((r73.toInt = 0 → ¬ ((97 ≤ x20.toInt ∧ x20.toInt ≤ 122) ∨ (65 ≤ x20.toInt ∧ x20.toInt ≤ 90)))) := hx73
              refine pw_ite (fun c76 => ?_) (fun c76 => ?_)
              · have c76 := congrArg Int32.toInt c76
                refine pw_j2 ej85 (fun z85_0 ez85_0 z85_1 ez85_1 => ?_)
                subst ez85_0 ez85_1
                have f42 : ((d0_G166 this) + 1).toInt = (d0_G166 this).toInt + 1 := z_addc (by decide +kernel) (by omega) (by omega)
                refine pw_vl (fun x92 ex92 => ?_)
                have f43 : x92.toInt = ((d0_G166 this) + 1).toInt := congrArg Int32.toInt ex92
                refine pw_vl (fun m92 em92 => ?_)
                have hfr44 : ∀ z, ((la z < la this ∨ la this < la z)) → m92 z = (G 166) z := fr_up (e0 := (G 166)) hfr4 em92 (show ¬ ((la this < la this ∨ la this < la this)) from by omega)
                have hg45 : rng (0) 2000 m92 := by rw [em92]; exact rng_vup hg2 (by omega) (by omega)
                have sm92 : (m92 this).toInt = x92.toInt := by rw [em92, va_up_self]
                have b46 := hg45 this
                have iv0_0 : (((G 166) this).toInt ≤ (m92 this).toInt ∧ (m92 this).toInt ≤ ((G 165) this).toInt) := by omega
                have iv0_1 : (d0_G162 this).toInt ≤ (m92 this).toInt := by omega
                have iv0_2 : (NXT f (Int32.toNatClampNeg ((G 165) this)) (Int32.toNatClampNeg ((G 166) this)) (decide (((G 167) this).toInt ≠ 0)) (Int32.toNatClampNeg (m92 this)) (decide ((d0_G167 this).toInt ≠ 0))) := by have kz := clampI (x := m92 this) (by omega); rw [show Int32.toNatClampNeg (m92 this) = Int32.toNatClampNeg (d0_G166 this) + 1 by omega]; exact NXT_c ix0 (by omega) (fun z => by omega) (Or.inr (fun z => by have z9 := p73_1 (by omega); exact z9 (by rw [ex20, hf]; exact z)))
                have iv0_3 : (MXN f (Int32.toNatClampNeg ((G 165) this)) (Int32.toNatClampNeg ((G 166) this)) (decide (((G 167) this).toInt ≠ 0)) (Int32.toNatClampNeg (m92 this)) (decide ((d0_G167 this).toInt ≠ 0))) := by have kz := clampI (x := m92 this) (by omega); rw [show Int32.toNatClampNeg (m92 this) = Int32.toNatClampNeg (d0_G166 this) + 1 by omega]; exact MXN_c im0 (by omega) (fun z => by omega) (Or.inr (fun z => by have z9 := p73_1 (by omega); exact z9 (by rw [ex20, hf]; exact z)))
                have iv0_4 : (Int32.toNatClampNeg (d0_G162 this) = n10 f (Int32.toNatClampNeg (m92 this))) := by have kz := clampI (x := m92 this) (by omega); rw [show Int32.toNatClampNeg (m92 this) = Int32.toNatClampNeg (d0_G166 this) + 1 by omega]; rw [n10_s, if_neg (by omega)]; exact iy0
                exact ih0 d0_G162 m92 d0_G167 hg1 hg45 hfr3 hfr44 hfr5 iv0_0 iv0_1 iv0_2 iv0_3 iv0_4
              · have c76 := z_ne c76
                have hpr80_0 : (∀ tx, (P 164) this = some tx → ((G 165) this).toInt ≤ ((ln tx : Nat) : Int)) := by assumption
                have hpr80_1 : (d0_G166 this).toInt ≤ ((G 165) this).toInt := by first | assumption | omega
                refine pw_b4 (fun c80_G160 c80_G161 c80_G163 c80_G166 hc80 => ?_)
                have hq80 := wp_at (ok_X8_takeWord κ wd (va_up (va_up (va_up G 162 d0_G162) 166 d0_G166) 167 d0_G167) P U V X O kd ln cnt this hzG160 hzG161 hzG165 hg2 hzP164 hzLN hk_this hpr80_0 hpr80_1) hc80
                obtain ⟨hg47, hg48, hg49, f50, f51, f52, f53⟩ : (rng (0) 2000 c80_G160) ∧ (rng (0) 2000 c80_G161) ∧ (rng (0) 2000 c80_G166) ∧ ((c80_G160 this).toInt = (d0_G166 this).toInt) ∧ ((c80_G160 this).toInt + (c80_G161 this).toInt = (c80_G166 this).toInt) ∧ ((d0_G166 this).toInt ≤ (c80_G166 this).toInt) ∧ ((c80_G166 this).toInt ≤ ((G 165) this).toInt) := hq80
                have hq80 := pwq (fr_X8_takeWord la (va_up (va_up (va_up G 162 d0_G162) 166 d0_G166) 167 d0_G167) P U V X O kd ln cnt this hB) hc80
                obtain ⟨q80_G160, q80_G161, q80_G163, q80_G166⟩ : (∀ z, (la z < la this ∨ la this < la z) → c80_G160 z = (G 160) z) ∧ (∀ z, (la z < la this ∨ la this < la z) → c80_G161 z = (G 161) z) ∧ (∀ z, (la z < la this ∨ la this < la z) → c80_G163 z = (G 163) z) ∧ (∀ z, (la z < la this ∨ la this < la z) → c80_G166 z = d0_G166 z) := hq80
                have tz80 : ∀ z, ((la z < la this ∨ la this < la z)) → ((la z < la this ∨ la this < la z)) := fun z hz => by omega
                have hfr54 : ∀ z, ((la z < la this ∨ la this < la z)) → c80_G160 z = (G 160) z := fun z hz => (q80_G160 z (tz80 z hz)).trans ((fun _ _ => rfl) z hz)
                have hfr55 : ∀ z, ((la z < la this ∨ la this < la z)) → c80_G161 z = (G 161) z := fun z hz => (q80_G161 z (tz80 z hz)).trans ((fun _ _ => rfl) z hz)
                have hfr56 : ∀ z, ((la z < la this ∨ la this < la z)) → c80_G163 z = (G 163) z := fun z hz => (q80_G163 z (tz80 z hz)).trans ((fun _ _ => rfl) z hz)
                have hfr57 : ∀ z, ((la z < la this ∨ la this < la z)) → c80_G166 z = (G 166) z := fun z hz => (q80_G166 z (tz80 z hz)).trans (hfr4 z hz)
                have h880_h164 : (P 164) this = some tx := by exact h164
                have h880_hf : (V 0) tx = f := by exact hf
                have hx80 := pwq (fn_X8_takeWord κ wd la (va_up (va_up (va_up G 162 d0_G162) 166 d0_G166) 167 d0_G167) P U V X O kd ln cnt this (tx) (f) hzG160 hzG161 hzG165 hg2 hzP164 hzLN hk_this hpr80_0 hpr80_1 hB hlt_this h880_h164 h880_hf) hc80
                obtain ⟨p80_0, p80_1, p80_2⟩ : ((Int32.toNatClampNeg (c80_G166 this)) = lnd f (Int32.toNatClampNeg ((G 165) this)) (Int32.toNatClampNeg (d0_G166 this))) ∧ (((c80_G163 this).toInt ≠ 0 → nmB (wdl f (Int32.toNatClampNeg (d0_G166 this)) ((Int32.toNatClampNeg (c80_G166 this)) - (Int32.toNatClampNeg (d0_G166 this)))) = true)) ∧ (((c80_G163 this).toInt = 0 → nmB (wdl f (Int32.toNatClampNeg (d0_G166 this)) ((Int32.toNatClampNeg (c80_G166 this)) - (Int32.toNatClampNeg (d0_G166 this)))) = false)) := hx80
                have qq0 : ((1 : Int32).toInt ≠ 0 → NXW f (Int32.toNatClampNeg ((G 165) this)) (Int32.toNatClampNeg ((G 166) this)) (decide (((G 167) this).toInt ≠ 0)) (Int32.toNatClampNeg (c80_G160 this)) (Int32.toNatClampNeg (c80_G166 this)) (c80_G163 this).toInt ∧ (d0_G167 this).toInt = 0) := by intro _; have z9 := p73_0 (by omega); have hil : isL (f (Int32.toNatClampNeg (d0_G166 this))) := (by unfold isL smC; omega); have hb9 := hg47 this; have k160 := clampI (x := c80_G160 this) (by omega); have es : Int32.toNatClampNeg (c80_G160 this) = Int32.toNatClampNeg (d0_G166 this) := (by omega); have hq0 : (d0_G167 this).toInt = 0 := (by omega); refine ⟨?_, hq0⟩; rw [es]; have hx := ix0; rw [show decide ((d0_G167 this).toInt ≠ 0) = false from decide_eq_false (by omega)] at hx; refine ⟨hx, by omega, hil, ?_, p80_1, p80_2⟩; rw [p80_0]; exact lnd_s (by omega) hil
                have qq1 : ((1 : Int32).toInt = 0 → NXE f (Int32.toNatClampNeg ((G 165) this)) (Int32.toNatClampNeg ((G 166) this)) (decide (((G 167) this).toInt ≠ 0))) := by intro h; exfalso; omega
                have qq2 : ((1 : Int32).toInt ≠ 0 → MXN f (Int32.toNatClampNeg ((G 165) this)) (Int32.toNatClampNeg ((G 166) this)) (decide (((G 167) this).toInt ≠ 0)) (Int32.toNatClampNeg (c80_G160 this)) false) := by intro _; have hb9 := hg47 this; have k160 := clampI (x := c80_G160 this) (by omega); rw [show Int32.toNatClampNeg (c80_G160 this) = Int32.toNatClampNeg (d0_G166 this) by omega]; have hx := im0; rw [show decide ((d0_G167 this).toInt ≠ 0) = false from decide_eq_false (by omega)] at hx; exact hx
                have qq3 : ((1 : Int32).toInt = 0 → MXE f (Int32.toNatClampNeg ((G 165) this)) (Int32.toNatClampNeg ((G 166) this)) (decide (((G 167) this).toInt ≠ 0))) := by intro h; exfalso; omega
                have qq4 : Int32.toNatClampNeg (d0_G162 this) = n10 f (Int32.toNatClampNeg (c80_G166 this)) := by rw [p80_0, n10_ln]; exact iy0
                exact pw_some ⟨qq0, qq1, qq2, qq3, qq4⟩
            · have c69 := z_ne c69
              refine pw_j2 ej85 (fun z85_0 ez85_0 z85_1 ez85_1 => ?_)
              subst ez85_0 ez85_1
              have f59 : ((d0_G166 this) + 1).toInt = (d0_G166 this).toInt + 1 := z_addc (by decide +kernel) (by omega) (by omega)
              refine pw_vl (fun x92 ex92 => ?_)
              have f60 : x92.toInt = ((d0_G166 this) + 1).toInt := congrArg Int32.toInt ex92
              refine pw_vl (fun m92 em92 => ?_)
              have hfr61 : ∀ z, ((la z < la this ∨ la this < la z)) → m92 z = (G 166) z := fr_up (e0 := (G 166)) hfr4 em92 (show ¬ ((la this < la this ∨ la this < la this)) from by omega)
              have hg62 : rng (0) 2000 m92 := by rw [em92]; exact rng_vup hg2 (by omega) (by omega)
              have sm92 : (m92 this).toInt = x92.toInt := by rw [em92, va_up_self]
              have b63 := hg62 this
              have iv0_0 : (((G 166) this).toInt ≤ (m92 this).toInt ∧ (m92 this).toInt ≤ ((G 165) this).toInt) := by omega
              have iv0_1 : (d0_G162 this).toInt ≤ (m92 this).toInt := by omega
              have iv0_2 : (NXT f (Int32.toNatClampNeg ((G 165) this)) (Int32.toNatClampNeg ((G 166) this)) (decide (((G 167) this).toInt ≠ 0)) (Int32.toNatClampNeg (m92 this)) (decide ((d0_G167 this).toInt ≠ 0))) := by have kz := clampI (x := m92 this) (by omega); rw [show Int32.toNatClampNeg (m92 this) = Int32.toNatClampNeg (d0_G166 this) + 1 by omega]; exact NXT_c ix0 (by omega) (fun z => by omega) (Or.inl (decide_eq_true (by omega)))
              have iv0_3 : (MXN f (Int32.toNatClampNeg ((G 165) this)) (Int32.toNatClampNeg ((G 166) this)) (decide (((G 167) this).toInt ≠ 0)) (Int32.toNatClampNeg (m92 this)) (decide ((d0_G167 this).toInt ≠ 0))) := by have kz := clampI (x := m92 this) (by omega); rw [show Int32.toNatClampNeg (m92 this) = Int32.toNatClampNeg (d0_G166 this) + 1 by omega]; exact MXN_c im0 (by omega) (fun z => by omega) (Or.inl (decide_eq_true (by omega)))
              have iv0_4 : (Int32.toNatClampNeg (d0_G162 this) = n10 f (Int32.toNatClampNeg (m92 this))) := by have kz := clampI (x := m92 this) (by omega); rw [show Int32.toNatClampNeg (m92 this) = Int32.toNatClampNeg (d0_G166 this) + 1 by omega]; rw [n10_s, if_neg (by omega)]; exact iy0
              exact ih0 d0_G162 m92 d0_G167 hg1 hg62 hfr3 hfr61 hfr5 iv0_0 iv0_1 iv0_2 iv0_3 iv0_4
  exact lp0 NN (G 162) (G 166) (G 167) hzG162 hzG166 (fun _ _ => rfl) (fun _ _ => rfl) (fun _ _ => rfl) (show (((G 166) this).toInt ≤ ((G 166) this).toInt ∧ ((G 166) this).toInt ≤ ((G 165) this).toInt) from by omega) (show ((G 162) this).toInt ≤ ((G 166) this).toInt from by omega) (show (NXT f (Int32.toNatClampNeg ((G 165) this)) (Int32.toNatClampNeg ((G 166) this)) (decide (((G 167) this).toInt ≠ 0)) (Int32.toNatClampNeg ((G 166) this)) (decide (((G 167) this).toInt ≠ 0))) from by exact NXT_0 (by omega)) (show (MXN f (Int32.toNatClampNeg ((G 165) this)) (Int32.toNatClampNeg ((G 166) this)) (decide (((G 167) this).toInt ≠ 0)) (Int32.toNatClampNeg ((G 166) this)) (decide (((G 167) this).toInt ≠ 0))) from by exact MXN_0) (show (Int32.toNatClampNeg ((G 162) this) = n10 f (Int32.toNatClampNeg ((G 166) this))) from by exact hln)
