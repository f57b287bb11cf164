abbrev QF_stage (g : Nat → Int32) (F : Nat → Nat → Int32) (p0 : Int32) : (Int32) → Prop := (fun t => ((p0.toInt < 0 ∨ 100000 < p0.toInt → t.toInt = -2)) ∧ ((0 ≤ p0.toInt → p0.toInt ≤ 100000 → t.toInt = ((cntD (F 10) p0.toInt (Int32.toNatClampNeg (g 9)) : Nat) : Int))))
set_option maxHeartbeats 4000000 in
set_option maxRecDepth 100000 in
theorem fn_stage (g : Nat → Int32) (F : Nat → Nat → Int32) (p0 : Int32) (hI : MInv g F) : pw (f_stage g F p0) (QF_stage g F p0) := by
  unfold f_stage
  have hI9 : id (MInv g F) := hI
  obtain ⟨-, -, -, -, -, -, -, -, hzg9, -, -, -, -, -, -, -, -, -, -, -, -, -, -, -, -, hzF11, hzF12, hzF13, hzF15, hzF19, hzF21, hzF24, hzF25, hzF26, hzF33, hzF38, hzF41, hzF43, hzF45, hzF46, hzF50, hzF53, hzF54, hzLQ⟩ := hI
  have zkm2 : (-2 : Int32).toInt = -2 := by decide +kernel
  have zk0 : (0 : Int32).toInt = 0 := by decide +kernel
  have zk1 : (1 : Int32).toInt = 1 := by decide +kernel
  have zk100000 : (100000 : Int32).toInt = 100000 := by decide +kernel
  refine pw_b1 (fun r4 hc4 => ?_)
  have hq4 := wp_at (ok_in p0 (0 : Int32) (100000 : Int32) ) hc4
  obtain ⟨f1, f2, f3⟩ : ((r4.toInt = 1 → (0 : Int32).toInt ≤ p0.toInt ∧ p0.toInt ≤ (100000 : Int32).toInt)) ∧ ((r4.toInt = 0 → p0.toInt < (0 : Int32).toInt ∨ (100000 : Int32).toInt < p0.toInt)) ∧ ((0 ≤ r4.toInt ∧ r4.toInt ≤ 1)) := hq4
  refine pw_ite (fun c7 => ?_) (fun c7 => ?_)
  · have c7 := congrArg Int32.toInt c7
    have qq0 : (p0.toInt < 0 ∨ 100000 < p0.toInt → (-2 : Int32).toInt = -2) := by intro _; omega
    have qq1 : (0 ≤ p0.toInt → p0.toInt ≤ 100000 → (-2 : Int32).toInt = ((cntD (F 10) p0.toInt (Int32.toNatClampNeg (g 9)) : Nat) : Int)) := by intro h1 h2; exfalso; omega
    exact pw_some ⟨qq0, qq1⟩
  · have c7 := z_ne c7
    have lp17 : ∀ (n17 : Nat) (y17_2 : Int32) (y17_3 : Int32), (0 ≤ y17_3.toInt ∧ y17_3.toInt ≤ 6) → (0 ≤ y17_2.toInt ∧ y17_2.toInt ≤ y17_3.toInt) → y17_3.toInt ≤ (g 9).toInt → (y17_2.toInt = ((cntD (F 10) p0.toInt (Int32.toNatClampNeg y17_3) : Nat) : Int)) → pw (L_stage_17 g F p0 n17 y17_2 y17_3) (QF_stage g F p0) := by
      intro n17
      induction n17 with
      | zero => intros; exact pw_none
      | succ n17 ih17 =>
        intro y17_2 y17_3 f4 f5 f6 sc17
        show pw (B_stage_17 g F p0 (L_stage_17 g F p0 n17) y17_2 y17_3) _
        unfold B_stage_17
        have c3 := clampI (x := y17_3) (by omega)
        have c9 := clampI (x := (g 9)) (by omega)
        refine pw_ite (fun c22 => ?_) (fun c22 => ?_)
        · have c22 := (z_le _ _).mp c22
          have qq0 : (p0.toInt < 0 ∨ 100000 < p0.toInt → y17_2.toInt = -2) := by intro h; exfalso; omega
          have qq1 : (0 ≤ p0.toInt → p0.toInt ≤ 100000 → y17_2.toInt = ((cntD (F 10) p0.toInt (Int32.toNatClampNeg (g 9)) : Nat) : Int)) := by intro _ _; have h0 := sc17; rw [show Int32.toNatClampNeg y17_3 = Int32.toNatClampNeg (g 9) by omega] at h0; exact h0
          exact pw_some ⟨qq0, qq1⟩
        · have c22 := z_nle c22
          refine pw_if (fun hb31 => ?_)
          obtain ⟨hbl31, hbr31⟩ := hb31
          refine pw_jE (fun j41 ej41 => ?_)
          refine pw_ite (fun c33 => ?_) (fun c33 => ?_)
          · have c33 := (z_lt _ _).mp c33
            refine pw_j1 ej41 (fun t41_0 et41_0 => ?_)
            have et41_0 := et41_0.symm
            have f_t41_0 : t41_0.toInt = 0 := by rw [et41_0]; decide +kernel
            have f7 : (y17_2 + t41_0).toInt = y17_2.toInt + t41_0.toInt := z_add (by omega) (by omega)
            refine pw_vl (fun x42 ex42 => ?_)
            have f8 : x42.toInt = (y17_2 + t41_0).toInt := congrArg Int32.toInt ex42
            have f9 : (y17_3 + 1).toInt = y17_3.toInt + (1) := z_addc (by decide +kernel) (by omega) (by omega)
            have iv17_0 : (0 ≤ (y17_3 + 1).toInt ∧ (y17_3 + 1).toInt ≤ 6) := by omega
            have iv17_1 : (0 ≤ x42.toInt ∧ x42.toInt ≤ (y17_3 + 1).toInt) := by omega
            have iv17_2 : (y17_3 + 1).toInt ≤ (g 9).toInt := by omega
            have iv17_3 : (x42.toInt = ((cntD (F 10) p0.toInt (Int32.toNatClampNeg (y17_3 + 1)) : Nat) : Int)) := by have c4 := clampI (x := y17_3 + 1) (by omega); rw [show Int32.toNatClampNeg (y17_3 + 1) = Int32.toNatClampNeg y17_3 + 1 by omega]; show _ = ((cntD (F 10) p0.toInt (Int32.toNatClampNeg y17_3) + _ : Nat) : Int); have h0 := sc17; rw [if_neg (by omega)]; omega
            exact ih17 x42 (y17_3 + 1) iv17_0 iv17_1 iv17_2 iv17_3
          · have c33 := z_nlt c33
            refine pw_j1 ej41 (fun t41_0 et41_0 => ?_)
            have et41_0 := et41_0.symm
            have f_t41_0 : t41_0.toInt = 1 := by rw [et41_0]; decide +kernel
            have f10 : (y17_2 + t41_0).toInt = y17_2.toInt + t41_0.toInt := z_add (by omega) (by omega)
            refine pw_vl (fun x42 ex42 => ?_)
            have f11 : x42.toInt = (y17_2 + t41_0).toInt := congrArg Int32.toInt ex42
            have f12 : (y17_3 + 1).toInt = y17_3.toInt + (1) := z_addc (by decide +kernel) (by omega) (by omega)
            have iv17_0 : (0 ≤ (y17_3 + 1).toInt ∧ (y17_3 + 1).toInt ≤ 6) := by omega
            have iv17_1 : (0 ≤ x42.toInt ∧ x42.toInt ≤ (y17_3 + 1).toInt) := by omega
            have iv17_2 : (y17_3 + 1).toInt ≤ (g 9).toInt := by omega
            have iv17_3 : (x42.toInt = ((cntD (F 10) p0.toInt (Int32.toNatClampNeg (y17_3 + 1)) : Nat) : Int)) := by have c4 := clampI (x := y17_3 + 1) (by omega); rw [show Int32.toNatClampNeg (y17_3 + 1) = Int32.toNatClampNeg y17_3 + 1 by omega]; show _ = ((cntD (F 10) p0.toInt (Int32.toNatClampNeg y17_3) + _ : Nat) : Int); have h0 := sc17; rw [if_pos (by omega)]; omega
            exact ih17 x42 (y17_3 + 1) iv17_0 iv17_1 iv17_2 iv17_3
    exact lp17 NN (0 : Int32) (0 : Int32) (show (0 ≤ (0 : Int32).toInt ∧ (0 : Int32).toInt ≤ 6) from by omega) (show (0 ≤ (0 : Int32).toInt ∧ (0 : Int32).toInt ≤ (0 : Int32).toInt) from by omega) (show (0 : Int32).toInt ≤ (g 9).toInt from by omega) (show ((0 : Int32).toInt = ((cntD (F 10) p0.toInt (Int32.toNatClampNeg (0 : Int32)) : Nat) : Int)) from by rfl)