abbrev QF_fault (g : Nat → Int32) (F : Nat → Nat → Int32) (p0 : Int32) : (Int32) → Prop := (fun t => ((p0.toInt = 0 → t = (g 7))) ∧ ((p0.toInt = 1 → t = (g 8))) ∧ ((p0.toInt ≠ 0 → p0.toInt ≠ 1 → t.toInt = -1)))
set_option maxHeartbeats 4000000 in
set_option maxRecDepth 100000 in
theorem fn_fault (g : Nat → Int32) (F : Nat → Nat → Int32) (p0 : Int32) (hI : MInv g F) : pw (f_fault g F p0) (QF_fault g F p0) := by
  unfold f_fault
  have hI9 : id (MInv g F) := hI
  obtain ⟨-, -, -, -, -, -, hzg7, hzg8, -, -, -, -, -, -, -, -, -, -, -, -, -, -, -, -, -, hzF11, hzF12, hzF13, hzF15, hzF19, hzF21, hzF24, hzF25, hzF26, hzF33, hzF38, hzF41, hzF43, hzF45, hzF46, hzF50, hzF53, hzF54, hzLQ⟩ := hI
  have zkm1 : (-1 : Int32).toInt = -1 := by decide +kernel
  have zk0 : (0 : Int32).toInt = 0 := by decide +kernel
  have zk1 : (1 : Int32).toInt = 1 := by decide +kernel
  refine pw_jE (fun j24 ej24 => ?_)
  refine pw_ite (fun c1 => ?_) (fun c1 => ?_)
  · have c1 := congrArg Int32.toInt c1
    refine pw_j1 ej24 (fun t24_0 et24_0 => ?_)
    have et24_0 := et24_0.symm
    have f_t24_0 : t24_0.toInt = (g 7).toInt := by rw [et24_0]
    have qq0 : (p0.toInt = 0 → t24_0 = (g 7)) := by intro _; exact et24_0
    have qq1 : (p0.toInt = 1 → t24_0 = (g 8)) := by intro h; exfalso; omega
    have qq2 : (p0.toInt ≠ 0 → p0.toInt ≠ 1 → t24_0.toInt = -1) := by intro h; exfalso; omega
    exact pw_some ⟨qq0, qq1, qq2⟩
  · have c1 := z_ne c1
    refine pw_ite (fun c13 => ?_) (fun c13 => ?_)
    · have c13 := congrArg Int32.toInt c13
      refine pw_j1 ej24 (fun t24_0 et24_0 => ?_)
      have et24_0 := et24_0.symm
      have f_t24_0 : t24_0.toInt = (g 8).toInt := by rw [et24_0]
      have qq0 : (p0.toInt = 0 → t24_0 = (g 7)) := by intro h; exfalso; omega
      have qq1 : (p0.toInt = 1 → t24_0 = (g 8)) := by intro _; exact et24_0
      have qq2 : (p0.toInt ≠ 0 → p0.toInt ≠ 1 → t24_0.toInt = -1) := by intro _ h; exfalso; omega
      exact pw_some ⟨qq0, qq1, qq2⟩
    · have c13 := z_ne c13
      refine pw_j1 ej24 (fun t24_0 et24_0 => ?_)
      have et24_0 := et24_0.symm
      have f_t24_0 : t24_0.toInt = (-1) := by rw [et24_0]; decide +kernel
      have qq0 : (p0.toInt = 0 → t24_0 = (g 7)) := by intro h; exfalso; omega
      have qq1 : (p0.toInt = 1 → t24_0 = (g 8)) := by intro h; exfalso; omega
      have qq2 : (p0.toInt ≠ 0 → p0.toInt ≠ 1 → t24_0.toInt = -1) := by intro _ _; omega
      exact pw_some ⟨qq0, qq1, qq2⟩
abbrev QF_count (g : Nat → Int32) (F : Nat → Nat → Int32) (p0 : Int32) : (Int32) → Prop := (fun t => ((p0.toInt = 0 → t = (g 9))) ∧ ((p0.toInt = 1 → t = (g 48))) ∧ ((p0.toInt = 2 → t = (g 1))) ∧ ((p0.toInt < 0 ∨ 2 < p0.toInt → t.toInt = -1)))
set_option maxHeartbeats 4000000 in
set_option maxRecDepth 100000 in
theorem fn_count (g : Nat → Int32) (F : Nat → Nat → Int32) (p0 : Int32) (hI : MInv g F) : pw (f_count g F p0) (QF_count g F p0) := by
  unfold f_count
  have hI9 : id (MInv g F) := hI
  obtain ⟨hzg1, -, -, -, -, -, -, -, hzg9, -, -, -, -, -, -, -, -, hzg48, -, -, -, -, -, -, -, hzF11, hzF12, hzF13, hzF15, hzF19, hzF21, hzF24, hzF25, hzF26, hzF33, hzF38, hzF41, hzF43, hzF45, hzF46, hzF50, hzF53, hzF54, hzLQ⟩ := hI
  have zkm1 : (-1 : Int32).toInt = -1 := by decide +kernel
  have zk0 : (0 : Int32).toInt = 0 := by decide +kernel
  have zk1 : (1 : Int32).toInt = 1 := by decide +kernel
  have zk2 : (2 : Int32).toInt = 2 := by decide +kernel
  refine pw_jE (fun j36 ej36 => ?_)
  refine pw_ite (fun c1 => ?_) (fun c1 => ?_)
  · have c1 := congrArg Int32.toInt c1
    refine pw_j1 ej36 (fun t36_0 et36_0 => ?_)
    have et36_0 := et36_0.symm
    have f_t36_0 : t36_0.toInt = (g 9).toInt := by rw [et36_0]
    have qq0 : (p0.toInt = 0 → t36_0 = (g 9)) := by intro _; exact et36_0
    have qq1 : (p0.toInt = 1 → t36_0 = (g 48)) := by intro h; exfalso; omega
    have qq2 : (p0.toInt = 2 → t36_0 = (g 1)) := by intro h; exfalso; omega
    have qq3 : (p0.toInt < 0 ∨ 2 < p0.toInt → t36_0.toInt = -1) := by intro h; exfalso; omega
    exact pw_some ⟨qq0, qq1, qq2, qq3⟩
  · have c1 := z_ne c1
    refine pw_ite (fun c13 => ?_) (fun c13 => ?_)
    · have c13 := congrArg Int32.toInt c13
      refine pw_j1 ej36 (fun t36_0 et36_0 => ?_)
      have et36_0 := et36_0.symm
      have f_t36_0 : t36_0.toInt = (g 48).toInt := by rw [et36_0]
      have qq0 : (p0.toInt = 0 → t36_0 = (g 9)) := by intro h; exfalso; omega
      have qq1 : (p0.toInt = 1 → t36_0 = (g 48)) := by intro _; exact et36_0
      have qq2 : (p0.toInt = 2 → t36_0 = (g 1)) := by intro h; exfalso; omega
      have qq3 : (p0.toInt < 0 ∨ 2 < p0.toInt → t36_0.toInt = -1) := by intro h; exfalso; omega
      exact pw_some ⟨qq0, qq1, qq2, qq3⟩
    · have c13 := z_ne c13
      refine pw_ite (fun c25 => ?_) (fun c25 => ?_)
      · have c25 := congrArg Int32.toInt c25
        refine pw_j1 ej36 (fun t36_0 et36_0 => ?_)
        have et36_0 := et36_0.symm
        have f_t36_0 : t36_0.toInt = (g 1).toInt := by rw [et36_0]
        have qq0 : (p0.toInt = 0 → t36_0 = (g 9)) := by intro h; exfalso; omega
        have qq1 : (p0.toInt = 1 → t36_0 = (g 48)) := by intro h; exfalso; omega
        have qq2 : (p0.toInt = 2 → t36_0 = (g 1)) := by intro _; exact et36_0
        have qq3 : (p0.toInt < 0 ∨ 2 < p0.toInt → t36_0.toInt = -1) := by intro h; exfalso; omega
        exact pw_some ⟨qq0, qq1, qq2, qq3⟩
      · have c25 := z_ne c25
        refine pw_j1 ej36 (fun t36_0 et36_0 => ?_)
        have et36_0 := et36_0.symm
        have f_t36_0 : t36_0.toInt = (-1) := by rw [et36_0]; decide +kernel
        have qq0 : (p0.toInt = 0 → t36_0 = (g 9)) := by intro h; exfalso; omega
        have qq1 : (p0.toInt = 1 → t36_0 = (g 48)) := by intro h; exfalso; omega
        have qq2 : (p0.toInt = 2 → t36_0 = (g 1)) := by intro h; exfalso; omega
        have qq3 : (p0.toInt < 0 ∨ 2 < p0.toInt → t36_0.toInt = -1) := by intro _; omega
        exact pw_some ⟨qq0, qq1, qq2, qq3⟩
abbrev QF_stage (g : Nat → Int32) (F : Nat → Nat → Int32) (p0 : Int32) : (Int32) → Prop := (fun t => ((p0.toInt < 0 ∨ 100000 < p0.toInt → t.toInt = -2)) ∧ ((0 ≤ p0.toInt → p0.toInt ≤ 100000 → t.toInt = ((cntD (F 10) p0.toInt (Int32.toNatClampNeg (g 9)) : Nat) : Int))))
set_option maxHeartbeats 4000000 in
set_option maxRecDepth 100000 in
theorem fn_stage (g : Nat → Int32) (F : Nat → Nat → Int32) (p0 : Int32) (hI : MInv g F) : pw (f_stage g F p0) (QF_stage g F p0) := by
  unfold f_stage
  have hI9 : id (MInv g F) := hI
  obtain ⟨-, -, -, -, -, -, -, -, hzg9, -, -, -, -, -, -, -, -, -, -, -, -, -, -, -, -, hzF11, hzF12, hzF13, hzF15, hzF19, hzF21, hzF24, hzF25, hzF26, hzF33, hzF38, hzF41, hzF43, hzF45, hzF46, hzF50, hzF53, hzF54, hzLQ⟩ := hI
  have zkm2 : (-2 : Int32).toInt = -2 := by decide +kernel
  have zk0 : (0 : Int32).toInt = 0 := by decide +kernel
  have zk1 : (1 : Int32).toInt = 1 := by decide +kernel
  have zk100000 : (100000 : Int32).toInt = 100000 := by decide +kernel
  refine pw_b1 (fun r4 hc4 => ?_)
  have hq4 := wp_at (ok_in p0 (0 : Int32) (100000 : Int32) ) hc4
  obtain ⟨f1, f2, f3⟩ : ((r4.toInt = 1 → (0 : Int32).toInt ≤ p0.toInt ∧ p0.toInt ≤ (100000 : Int32).toInt)) ∧ ((r4.toInt = 0 → p0.toInt < (0 : Int32).toInt ∨ (100000 : Int32).toInt < p0.toInt)) ∧ ((0 ≤ r4.toInt ∧ r4.toInt ≤ 1)) := hq4
  refine pw_ite (fun c7 => ?_) (fun c7 => ?_)
  · have c7 := congrArg Int32.toInt c7
    have qq0 : (p0.toInt < 0 ∨ 100000 < p0.toInt → (-2 : Int32).toInt = -2) := by intro _; omega
    have qq1 : (0 ≤ p0.toInt → p0.toInt ≤ 100000 → (-2 : Int32).toInt = ((cntD (F 10) p0.toInt (Int32.toNatClampNeg (g 9)) : Nat) : Int)) := by intro h1 h2; exfalso; omega
    exact pw_some ⟨qq0, qq1⟩
  · have c7 := z_ne c7
    have lp17 : ∀ (n17 : Nat) (y17_2 : Int32) (y17_3 : Int32), (0 ≤ y17_3.toInt ∧ y17_3.toInt ≤ 6) → (0 ≤ y17_2.toInt ∧ y17_2.toInt ≤ y17_3.toInt) → y17_3.toInt ≤ (g 9).toInt → (y17_2.toInt = ((cntD (F 10) p0.toInt (Int32.toNatClampNeg y17_3) : Nat) : Int)) → pw (L_stage_17 g F p0 n17 y17_2 y17_3) (QF_stage g F p0) := by
      intro n17
      induction n17 with
      | zero => intros; exact pw_none
      | succ n17 ih17 =>
        intro y17_2 y17_3 f4 f5 f6 sc17
        show pw (B_stage_17 g F p0 (L_stage_17 g F p0 n17) y17_2 y17_3) _
        unfold B_stage_17
        have c3 := clampI (x := y17_3) (by omega)
        have c9 := clampI (x := (g 9)) (by omega)
        refine pw_ite (fun c22 => ?_) (fun c22 => ?_)
        · have c22 := (z_le _ _).mp c22
          have qq0 : (p0.toInt < 0 ∨ 100000 < p0.toInt → y17_2.toInt = -2) := by intro h; exfalso; omega
          have qq1 : (0 ≤ p0.toInt → p0.toInt ≤ 100000 → y17_2.toInt = ((cntD (F 10) p0.toInt (Int32.toNatClampNeg (g 9)) : Nat) : Int)) := by intro _ _; have h0 := sc17; rw [show Int32.toNatClampNeg y17_3 = Int32.toNatClampNeg (g 9) by omega] at h0; exact h0
          exact pw_some ⟨qq0, qq1⟩
        · have c22 := z_nle c22
          refine pw_if (fun hb31 => ?_)
          obtain ⟨hbl31, hbr31⟩ := hb31
          refine pw_jE (fun j41 ej41 => ?_)
          refine pw_ite (fun c33 => ?_) (fun c33 => ?_)
          · have c33 := (z_lt _ _).mp c33
            refine pw_j1 ej41 (fun t41_0 et41_0 => ?_)
            have et41_0 := et41_0.symm
            have f_t41_0 : t41_0.toInt = 0 := by rw [et41_0]; decide +kernel
            have f7 : (y17_2 + t41_0).toInt = y17_2.toInt + t41_0.toInt := z_add (by omega) (by omega)
            refine pw_vl (fun x42 ex42 => ?_)
            have f8 : x42.toInt = (y17_2 + t41_0).toInt := congrArg Int32.toInt ex42
            have f9 : (y17_3 + 1).toInt = y17_3.toInt + (1) := z_addc (by decide +kernel) (by omega) (by omega)
            have iv17_0 : (0 ≤ (y17_3 + 1).toInt ∧ (y17_3 + 1).toInt ≤ 6) := by omega
            have iv17_1 : (0 ≤ x42.toInt ∧ x42.toInt ≤ (y17_3 + 1).toInt) := by omega
            have iv17_2 : (y17_3 + 1).toInt ≤ (g 9).toInt := by omega
            have iv17_3 : (x42.toInt = ((cntD (F 10) p0.toInt (Int32.toNatClampNeg (y17_3 + 1)) : Nat) : Int)) := by have c4 := clampI (x := y17_3 + 1) (by omega); rw [show Int32.toNatClampNeg (y17_3 + 1) = Int32.toNatClampNeg y17_3 + 1 by omega]; show _ = ((cntD (F 10) p0.toInt (Int32.toNatClampNeg y17_3) + _ : Nat) : Int); have h0 := sc17; rw [if_neg (by omega)]; omega
            exact ih17 x42 (y17_3 + 1) iv17_0 iv17_1 iv17_2 iv17_3
          · have c33 := z_nlt c33
            refine pw_j1 ej41 (fun t41_0 et41_0 => ?_)
            have et41_0 := et41_0.symm
            have f_t41_0 : t41_0.toInt = 1 := by rw [et41_0]; decide +kernel
            have f10 : (y17_2 + t41_0).toInt = y17_2.toInt + t41_0.toInt := z_add (by omega) (by omega)
            refine pw_vl (fun x42 ex42 => ?_)
            have f11 : x42.toInt = (y17_2 + t41_0).toInt := congrArg Int32.toInt ex42
            have f12 : (y17_3 + 1).toInt = y17_3.toInt + (1) := z_addc (by decide +kernel) (by omega) (by omega)
            have iv17_0 : (0 ≤ (y17_3 + 1).toInt ∧ (y17_3 + 1).toInt ≤ 6) := by omega
            have iv17_1 : (0 ≤ x42.toInt ∧ x42.toInt ≤ (y17_3 + 1).toInt) := by omega
            have iv17_2 : (y17_3 + 1).toInt ≤ (g 9).toInt := by omega
            have iv17_3 : (x42.toInt = ((cntD (F 10) p0.toInt (Int32.toNatClampNeg (y17_3 + 1)) : Nat) : Int)) := by have c4 := clampI (x := y17_3 + 1) (by omega); rw [show Int32.toNatClampNeg (y17_3 + 1) = Int32.toNatClampNeg y17_3 + 1 by omega]; show _ = ((cntD (F 10) p0.toInt (Int32.toNatClampNeg y17_3) + _ : Nat) : Int); have h0 := sc17; rw [if_pos (by omega)]; omega
            exact ih17 x42 (y17_3 + 1) iv17_0 iv17_1 iv17_2 iv17_3
    exact lp17 NN (0 : Int32) (0 : Int32) (show (0 ≤ (0 : Int32).toInt ∧ (0 : Int32).toInt ≤ 6) from by omega) (show (0 ≤ (0 : Int32).toInt ∧ (0 : Int32).toInt ≤ (0 : Int32).toInt) from by omega) (show (0 : Int32).toInt ≤ (g 9).toInt from by omega) (show ((0 : Int32).toInt = ((cntD (F 10) p0.toInt (Int32.toNatClampNeg (0 : Int32)) : Nat) : Int)) from by rfl)
abbrev QF_about (g : Nat → Int32) (F : Nat → Nat → Int32) (p0 : Int32) (p1 : Int32) : (Int32) → Prop := (fun t => ((p0.toInt < 0 ∨ (g 9).toInt ≤ p0.toInt → t.toInt = -1)) ∧ ((0 ≤ p0.toInt → p0.toInt < (g 9).toInt → ABT p1.toInt t.toInt ((F 10) (Int32.toNatClampNeg p0)).toInt ((F 11) (Int32.toNatClampNeg p0)).toInt ((F 12) (Int32.toNatClampNeg p0)).toInt ((kct (entR ((F 13) (Int32.toNatClampNeg p0)) (F 20) (F 21) (80 * Int32.toNatClampNeg p0)) : Nat) : Int) ((F 13) (Int32.toNatClampNeg p0)).toInt)))
set_option maxHeartbeats 4000000 in
set_option maxRecDepth 100000 in
theorem fn_about (g : Nat → Int32) (F : Nat → Nat → Int32) (p0 : Int32) (p1 : Int32) (hI : MInv g F) : pw (f_about g F p0 p1) (QF_about g F p0 p1) := by
  unfold f_about
  have hI9 : id (MInv g F) := hI
  obtain ⟨-, -, -, -, -, -, -, -, hzg9, -, -, -, -, -, -, -, -, -, -, -, -, -, -, -, -, hzF11, hzF12, hzF13, hzF15, hzF19, hzF21, hzF24, hzF25, hzF26, hzF33, hzF38, hzF41, hzF43, hzF45, hzF46, hzF50, hzF53, hzF54, hzLQ⟩ := hI
  have zkm1 : (-1 : Int32).toInt = -1 := by decide +kernel
  have zk0 : (0 : Int32).toInt = 0 := by decide +kernel
  have zk1 : (1 : Int32).toInt = 1 := by decide +kernel
  have zk2 : (2 : Int32).toInt = 2 := by decide +kernel
  have zk3 : (3 : Int32).toInt = 3 := by decide +kernel
  have zk4 : (4 : Int32).toInt = 4 := by decide +kernel
  have zk40 : (40 : Int32).toInt = 40 := by decide +kernel
  have hb13a := hzF13 (Int32.toNatClampNeg p0)
  have f1 : ((g 9) - 1).toInt = (g 9).toInt - 1 := z_subc (by decide +kernel) (by omega) (by omega)
  refine pw_b1 (fun r8 hc8 => ?_)
  have hq8 := wp_at (ok_in p0 (0 : Int32) ((g 9) - 1) ) hc8
  obtain ⟨f2, f3, f4⟩ : ((r8.toInt = 1 → (0 : Int32).toInt ≤ p0.toInt ∧ p0.toInt ≤ ((g 9) - 1).toInt)) ∧ ((r8.toInt = 0 → p0.toInt < (0 : Int32).toInt ∨ ((g 9) - 1).toInt < p0.toInt)) ∧ ((0 ≤ r8.toInt ∧ r8.toInt ≤ 1)) := hq8
  refine pw_ite (fun c11 => ?_) (fun c11 => ?_)
  · have c11 := congrArg Int32.toInt c11
    have qq0 : (p0.toInt < 0 ∨ (g 9).toInt ≤ p0.toInt → (-1 : Int32).toInt = -1) := by intro _; omega
    have qq1 : (0 ≤ p0.toInt → p0.toInt < (g 9).toInt → ABT p1.toInt (-1 : Int32).toInt ((F 10) (Int32.toNatClampNeg p0)).toInt ((F 11) (Int32.toNatClampNeg p0)).toInt ((F 12) (Int32.toNatClampNeg p0)).toInt ((kct (entR ((F 13) (Int32.toNatClampNeg p0)) (F 20) (F 21) (80 * Int32.toNatClampNeg p0)) : Nat) : Int) ((F 13) (Int32.toNatClampNeg p0)).toInt) := by intro h1 h2; exfalso; omega
    exact pw_some ⟨qq0, qq1⟩
  · have c11 := z_ne c11
    refine pw_jE (fun k66 ek66 => ?_)
    have lp21 : ∀ (n21 : Nat) (y21_3 : Int32) (y21_4 : Int32), (0 ≤ y21_4.toInt ∧ y21_4.toInt ≤ 40) → (0 ≤ y21_3.toInt ∧ y21_3.toInt ≤ y21_4.toInt) → y21_4.toInt ≤ ((F 13) (Int32.toNatClampNeg p0)).toInt → (y21_3.toInt = ((kct (tab (Int32.toNatClampNeg y21_4) (fun i => (WR (F 20) (F 21) (80 * Int32.toNatClampNeg p0 + 2 * i), if ((F 21) (80 * Int32.toNatClampNeg p0 + 2 * i + 1)).toInt = -1 then none else some (WR (F 20) (F 21) (80 * Int32.toNatClampNeg p0 + 2 * i + 1))))) : Nat) : Int)) → pw (L_about_21 F p0 k66 n21 y21_3 y21_4) (QF_about g F p0 p1) := by
      intro n21
      induction n21 with
      | zero => intros; exact pw_none
      | succ n21 ih21 =>
        intro y21_3 y21_4 f5 f6 f7 kc21
        show pw (B_about_21 F p0 k66 (L_about_21 F p0 k66 n21) y21_3 y21_4) _
        unfold B_about_21
        have c4 := clampI (x := y21_4) (by omega)
        have cp0 := clampI (x := p0) (by omega)
        have hb13 := hzF13 (Int32.toNatClampNeg p0)
        refine pw_if (fun hb28 => ?_)
        obtain ⟨hbl28, hbr28⟩ := hb28
        have f8 := hzF13 (Int32.toNatClampNeg p0)
        refine pw_ite (fun c29 => ?_) (fun c29 => ?_)
        · have c29 := (z_le _ _).mp c29
          refine pw_j1 ek66 (fun x66_3 ex66_3 => ?_)
          have ex66_3 := ex66_3.symm
          have f_x66_3 : x66_3.toInt = y21_3.toInt := by rw [ex66_3]
          have hk0 : y21_3.toInt = ((kct (entR ((F 13) (Int32.toNatClampNeg p0)) (F 20) (F 21) (80 * Int32.toNatClampNeg p0)) : Nat) : Int) := by have h0 := kc21; have c13 := clampI (x := (F 13) (Int32.toNatClampNeg p0)) (by omega); rw [show Int32.toNatClampNeg y21_4 = Int32.toNatClampNeg ((F 13) (Int32.toNatClampNeg p0)) by omega] at h0; exact h0
          refine pw_ite (fun c67_0 => ?_) (fun c67_0 => ?_)
          · have c67_0 := congrArg Int32.toInt c67_0
            refine pw_if (fun hb105 => ?_)
            obtain ⟨hbl105, hbr105⟩ := hb105
            have qq0 : (p0.toInt < 0 ∨ (g 9).toInt ≤ p0.toInt → ((F 10) (Int32.toNatClampNeg p0)).toInt = -1) := by intro h; exfalso; omega
            have qq1 : (0 ≤ p0.toInt → p0.toInt < (g 9).toInt → ABT p1.toInt ((F 10) (Int32.toNatClampNeg p0)).toInt ((F 10) (Int32.toNatClampNeg p0)).toInt ((F 11) (Int32.toNatClampNeg p0)).toInt ((F 12) (Int32.toNatClampNeg p0)).toInt ((kct (entR ((F 13) (Int32.toNatClampNeg p0)) (F 20) (F 21) (80 * Int32.toNatClampNeg p0)) : Nat) : Int) ((F 13) (Int32.toNatClampNeg p0)).toInt) := by intro _ _; exact ⟨fun h => by omega, fun h => by omega, fun h => by omega, fun h => by omega, fun h => by omega, fun h => by omega⟩
            exact pw_some ⟨qq0, qq1⟩
          · have c67_0 := z_ne c67_0
            refine pw_ite (fun c67_1 => ?_) (fun c67_1 => ?_)
            · have c67_1 := congrArg Int32.toInt c67_1
              refine pw_if (fun hb112 => ?_)
              obtain ⟨hbl112, hbr112⟩ := hb112
              have f9 := hzF11 (Int32.toNatClampNeg p0)
              have qq0 : (p0.toInt < 0 ∨ (g 9).toInt ≤ p0.toInt → ((F 11) (Int32.toNatClampNeg p0)).toInt = -1) := by intro h; exfalso; omega
              have qq1 : (0 ≤ p0.toInt → p0.toInt < (g 9).toInt → ABT p1.toInt ((F 11) (Int32.toNatClampNeg p0)).toInt ((F 10) (Int32.toNatClampNeg p0)).toInt ((F 11) (Int32.toNatClampNeg p0)).toInt ((F 12) (Int32.toNatClampNeg p0)).toInt ((kct (entR ((F 13) (Int32.toNatClampNeg p0)) (F 20) (F 21) (80 * Int32.toNatClampNeg p0)) : Nat) : Int) ((F 13) (Int32.toNatClampNeg p0)).toInt) := by intro _ _; exact ⟨fun h => by omega, fun h => by omega, fun h => by omega, fun h => by omega, fun h => by omega, fun h => by omega⟩
              exact pw_some ⟨qq0, qq1⟩
            · have c67_1 := z_ne c67_1
              refine pw_ite (fun c67_2 => ?_) (fun c67_2 => ?_)
              · have c67_2 := congrArg Int32.toInt c67_2
                refine pw_if (fun hb119 => ?_)
                obtain ⟨hbl119, hbr119⟩ := hb119
                have f10 := hzF12 (Int32.toNatClampNeg p0)
                have qq0 : (p0.toInt < 0 ∨ (g 9).toInt ≤ p0.toInt → ((F 12) (Int32.toNatClampNeg p0)).toInt = -1) := by intro h; exfalso; omega
                have qq1 : (0 ≤ p0.toInt → p0.toInt < (g 9).toInt → ABT p1.toInt ((F 12) (Int32.toNatClampNeg p0)).toInt ((F 10) (Int32.toNatClampNeg p0)).toInt ((F 11) (Int32.toNatClampNeg p0)).toInt ((F 12) (Int32.toNatClampNeg p0)).toInt ((kct (entR ((F 13) (Int32.toNatClampNeg p0)) (F 20) (F 21) (80 * Int32.toNatClampNeg p0)) : Nat) : Int) ((F 13) (Int32.toNatClampNeg p0)).toInt) := by intro _ _; exact ⟨fun h => by omega, fun h => by omega, fun h => by omega, fun h => by omega, fun h => by omega, fun h => by omega⟩
                exact pw_some ⟨qq0, qq1⟩
              · have c67_2 := z_ne c67_2
                refine pw_ite (fun c67_3 => ?_) (fun c67_3 => ?_)
                · have c67_3 := congrArg Int32.toInt c67_3
                  have qq0 : (p0.toInt < 0 ∨ (g 9).toInt ≤ p0.toInt → x66_3.toInt = -1) := by intro h; exfalso; omega
                  have qq1 : (0 ≤ p0.toInt → p0.toInt < (g 9).toInt → ABT p1.toInt x66_3.toInt ((F 10) (Int32.toNatClampNeg p0)).toInt ((F 11) (Int32.toNatClampNeg p0)).toInt ((F 12) (Int32.toNatClampNeg p0)).toInt ((kct (entR ((F 13) (Int32.toNatClampNeg p0)) (F 20) (F 21) (80 * Int32.toNatClampNeg p0)) : Nat) : Int) ((F 13) (Int32.toNatClampNeg p0)).toInt) := by intro _ _; exact ⟨fun h => by omega, fun h => by omega, fun h => by omega, fun h => by omega, fun h => by omega, fun h => by omega⟩
                  exact pw_some ⟨qq0, qq1⟩
                · have c67_3 := z_ne c67_3
                  refine pw_ite (fun c67_4 => ?_) (fun c67_4 => ?_)
                  · have c67_4 := congrArg Int32.toInt c67_4
                    refine pw_if (fun hb128 => ?_)
                    obtain ⟨hbl128, hbr128⟩ := hb128
                    have f12 : (((F 13) (Int32.toNatClampNeg p0)) - x66_3).toInt = ((F 13) (Int32.toNatClampNeg p0)).toInt - x66_3.toInt := z_sub (by omega) (by omega)
                    have qq0 : (p0.toInt < 0 ∨ (g 9).toInt ≤ p0.toInt → (((F 13) (Int32.toNatClampNeg p0)) - x66_3).toInt = -1) := by intro h; exfalso; omega
                    have qq1 : (0 ≤ p0.toInt → p0.toInt < (g 9).toInt → ABT p1.toInt (((F 13) (Int32.toNatClampNeg p0)) - x66_3).toInt ((F 10) (Int32.toNatClampNeg p0)).toInt ((F 11) (Int32.toNatClampNeg p0)).toInt ((F 12) (Int32.toNatClampNeg p0)).toInt ((kct (entR ((F 13) (Int32.toNatClampNeg p0)) (F 20) (F 21) (80 * Int32.toNatClampNeg p0)) : Nat) : Int) ((F 13) (Int32.toNatClampNeg p0)).toInt) := by intro _ _; exact ⟨fun h => by omega, fun h => by omega, fun h => by omega, fun h => by omega, fun h => by omega, fun h => by omega⟩
                    exact pw_some ⟨qq0, qq1⟩
                  · have c67_4 := z_ne c67_4
                    have qq0 : (p0.toInt < 0 ∨ (g 9).toInt ≤ p0.toInt → (-1 : Int32).toInt = -1) := by intro h; exfalso; omega
                    have qq1 : (0 ≤ p0.toInt → p0.toInt < (g 9).toInt → ABT p1.toInt (-1 : Int32).toInt ((F 10) (Int32.toNatClampNeg p0)).toInt ((F 11) (Int32.toNatClampNeg p0)).toInt ((F 12) (Int32.toNatClampNeg p0)).toInt ((kct (entR ((F 13) (Int32.toNatClampNeg p0)) (F 20) (F 21) (80 * Int32.toNatClampNeg p0)) : Nat) : Int) ((F 13) (Int32.toNatClampNeg p0)).toInt) := by intro _ _; exact ⟨fun h => by omega, fun h => by omega, fun h => by omega, fun h => by omega, fun h => by omega, fun h => by omega⟩
                    exact pw_some ⟨qq0, qq1⟩
        · have c29 := z_nle c29
          have f13 : (40 * p0).toInt = 40 * p0.toInt := z_muld (by decide +kernel) (by omega) (by omega)
          have f14 : ((40 * p0) + y21_4).toInt = (40 * p0).toInt + y21_4.toInt := z_add (by omega) (by omega)
          have f15 : (2 * ((40 * p0) + y21_4)).toInt = 2 * ((40 * p0) + y21_4).toInt := z_muld (by decide +kernel) (by omega) (by omega)
          have f16 : ((2 * ((40 * p0) + y21_4)) + 1).toInt = (2 * ((40 * p0) + y21_4)).toInt + 1 := z_addc (by decide +kernel) (by omega) (by omega)
          refine pw_if (fun hb48 => ?_)
          obtain ⟨hbl48, hbr48⟩ := hb48
          have f17 := hzF21 (Int32.toNatClampNeg ((2 * ((40 * p0) + y21_4)) + 1))
          refine pw_jE (fun j58 ej58 => ?_)
          refine pw_ite (fun c50 => ?_) (fun c50 => ?_)
          · have c50 := congrArg Int32.toInt c50
            refine pw_j1 ej58 (fun t58_0 et58_0 => ?_)
            have et58_0 := et58_0.symm
            have f_t58_0 : t58_0.toInt = 1 := by rw [et58_0]; decide +kernel
            have f18 : (y21_3 + t58_0).toInt = y21_3.toInt + t58_0.toInt := z_add (by omega) (by omega)
            refine pw_vl (fun x59 ex59 => ?_)
            have f19 : x59.toInt = (y21_3 + t58_0).toInt := congrArg Int32.toInt ex59
            have f20 : (y21_4 + 1).toInt = y21_4.toInt + (1) := z_addc (by decide +kernel) (by omega) (by omega)
            have iv21_0 : (0 ≤ (y21_4 + 1).toInt ∧ (y21_4 + 1).toInt ≤ 40) := by omega
            have iv21_1 : (0 ≤ x59.toInt ∧ x59.toInt ≤ (y21_4 + 1).toInt) := by omega
            have iv21_2 : (y21_4 + 1).toInt ≤ ((F 13) (Int32.toNatClampNeg p0)).toInt := by omega
            have iv21_3 : (x59.toInt = ((kct (tab (Int32.toNatClampNeg (y21_4 + 1)) (fun i => (WR (F 20) (F 21) (80 * Int32.toNatClampNeg p0 + 2 * i), if ((F 21) (80 * Int32.toNatClampNeg p0 + 2 * i + 1)).toInt = -1 then none else some (WR (F 20) (F 21) (80 * Int32.toNatClampNeg p0 + 2 * i + 1))))) : Nat) : Int)) := by have c5 := clampI (x := y21_4 + 1) (by omega); have c6 := clampI (x := (2 * ((40 * p0) + y21_4)) + 1) (by omega); rw [show Int32.toNatClampNeg (y21_4 + 1) = Int32.toNatClampNeg y21_4 + 1 by omega, kct_tab]; have h0 := kc21; have hix : Int32.toNatClampNeg ((2 * ((40 * p0) + y21_4)) + 1) = 80 * Int32.toNatClampNeg p0 + 2 * Int32.toNatClampNeg y21_4 + 1 := (by omega); rw [hix] at c50; rw [if_pos (by rw [if_pos (by omega)]; rfl)]; omega
            exact ih21 x59 (y21_4 + 1) iv21_0 iv21_1 iv21_2 iv21_3
          · have c50 := z_ne c50
            refine pw_j1 ej58 (fun t58_0 et58_0 => ?_)
            have et58_0 := et58_0.symm
            have f_t58_0 : t58_0.toInt = 0 := by rw [et58_0]; decide +kernel
            have f21 : (y21_3 + t58_0).toInt = y21_3.toInt + t58_0.toInt := z_add (by omega) (by omega)
            refine pw_vl (fun x59 ex59 => ?_)
            have f22 : x59.toInt = (y21_3 + t58_0).toInt := congrArg Int32.toInt ex59
            have f23 : (y21_4 + 1).toInt = y21_4.toInt + (1) := z_addc (by decide +kernel) (by omega) (by omega)
            have iv21_0 : (0 ≤ (y21_4 + 1).toInt ∧ (y21_4 + 1).toInt ≤ 40) := by omega
            have iv21_1 : (0 ≤ x59.toInt ∧ x59.toInt ≤ (y21_4 + 1).toInt) := by omega
            have iv21_2 : (y21_4 + 1).toInt ≤ ((F 13) (Int32.toNatClampNeg p0)).toInt := by omega
            have iv21_3 : (x59.toInt = ((kct (tab (Int32.toNatClampNeg (y21_4 + 1)) (fun i => (WR (F 20) (F 21) (80 * Int32.toNatClampNeg p0 + 2 * i), if ((F 21) (80 * Int32.toNatClampNeg p0 + 2 * i + 1)).toInt = -1 then none else some (WR (F 20) (F 21) (80 * Int32.toNatClampNeg p0 + 2 * i + 1))))) : Nat) : Int)) := by have c5 := clampI (x := y21_4 + 1) (by omega); have c6 := clampI (x := (2 * ((40 * p0) + y21_4)) + 1) (by omega); rw [show Int32.toNatClampNeg (y21_4 + 1) = Int32.toNatClampNeg y21_4 + 1 by omega, kct_tab]; have h0 := kc21; have hix : Int32.toNatClampNeg ((2 * ((40 * p0) + y21_4)) + 1) = 80 * Int32.toNatClampNeg p0 + 2 * Int32.toNatClampNeg y21_4 + 1 := (by omega); rw [hix] at c50; rw [if_neg (by rw [if_neg (by omega)]; intro h9; cases h9)]; omega
            exact ih21 x59 (y21_4 + 1) iv21_0 iv21_1 iv21_2 iv21_3
    exact lp21 NN (0 : Int32) (0 : Int32) (show (0 ≤ (0 : Int32).toInt ∧ (0 : Int32).toInt ≤ 40) from by omega) (show (0 ≤ (0 : Int32).toInt ∧ (0 : Int32).toInt ≤ (0 : Int32).toInt) from by omega) (show (0 : Int32).toInt ≤ ((F 13) (Int32.toNatClampNeg p0)).toInt from by omega) (show ((0 : Int32).toInt = ((kct (tab (Int32.toNatClampNeg (0 : Int32)) (fun i => (WR (F 20) (F 21) (80 * Int32.toNatClampNeg p0 + 2 * i), if ((F 21) (80 * Int32.toNatClampNeg p0 + 2 * i + 1)).toInt = -1 then none else some (WR (F 20) (F 21) (80 * Int32.toNatClampNeg p0 + 2 * i + 1))))) : Nat) : Int)) from by rfl)
