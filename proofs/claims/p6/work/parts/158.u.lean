abbrev QF_about (g : Nat → Int32) (F : Nat → Nat → Int32) (p0 : Int32) (p1 : Int32) : (Int32) → Prop := (fun t => ((p0.toInt < 0 ∨ (g 9).toInt ≤ p0.toInt → t.toInt = -1)) ∧ ((0 ≤ p0.toInt → p0.toInt < (g 9).toInt → ABT p1.toInt t.toInt ((F 10) (Int32.toNatClampNeg p0)).toInt ((F 11) (Int32.toNatClampNeg p0)).toInt ((F 12) (Int32.toNatClampNeg p0)).toInt ((kct (entR ((F 13) (Int32.toNatClampNeg p0)) (F 20) (F 21) (80 * Int32.toNatClampNeg p0)) : Nat) : Int) ((F 13) (Int32.toNatClampNeg p0)).toInt)))
set_option maxHeartbeats 4000000 in
set_option maxRecDepth 100000 in
theorem fn_about (g : Nat → Int32) (F : Nat → Nat → Int32) (p0 : Int32) (p1 : Int32) (hI : MInv g F) : pw (f_about g F p0 p1) (QF_about g F p0 p1) := by
  unfold f_about
  have hI9 : id (MInv g F) := hI
  obtain ⟨-, -, -, -, -, -, -, -, hzg9, -, -, -, -, -, -, -, -, -, -, -, -, -, -, -, -, hzF11, hzF12, hzF13, hzF15, hzF19, hzF21, hzF24, hzF25, hzF26, hzF33, hzF38, hzF41, hzF43, hzF45, hzF46, hzF50, hzF53, hzF54, hzLQ⟩ := hI
  have zkm1 : (-1 : Int32).toInt = -1 := by decide +kernel
  have zk0 : (0 : Int32).toInt = 0 := by decide +kernel
  have zk1 : (1 : Int32).toInt = 1 := by decide +kernel
  have zk2 : (2 : Int32).toInt = 2 := by decide +kernel
  have zk3 : (3 : Int32).toInt = 3 := by decide +kernel
  have zk4 : (4 : Int32).toInt = 4 := by decide +kernel
  have zk40 : (40 : Int32).toInt = 40 := by decide +kernel
  have hb13a := hzF13 (Int32.toNatClampNeg p0)
  have f1 : ((g 9) - 1).toInt = (g 9).toInt - 1 := z_subc (by decide +kernel) (by omega) (by omega)
  refine pw_b1 (fun r8 hc8 => ?_)
  have hq8 := wp_at (ok_in p0 (0 : Int32) ((g 9) - 1) ) hc8
  obtain ⟨f2, f3, f4⟩ : ((r8.toInt = 1 → (0 : Int32).toInt ≤ p0.toInt ∧ p0.toInt ≤ ((g 9) - 1).toInt)) ∧ ((r8.toInt = 0 → p0.toInt < (0 : Int32).toInt ∨ ((g 9) - 1).toInt < p0.toInt)) ∧ ((0 ≤ r8.toInt ∧ r8.toInt ≤ 1)) := hq8
  refine pw_ite (fun c11 => ?_) (fun c11 => ?_)
  · have c11 := congrArg Int32.toInt c11
    have qq0 : (p0.toInt < 0 ∨ (g 9).toInt ≤ p0.toInt → (-1 : Int32).toInt = -1) := by intro _; omega
    have qq1 : (0 ≤ p0.toInt → p0.toInt < (g 9).toInt → ABT p1.toInt (-1 : Int32).toInt ((F 10) (Int32.toNatClampNeg p0)).toInt ((F 11) (Int32.toNatClampNeg p0)).toInt ((F 12) (Int32.toNatClampNeg p0)).toInt ((kct (entR ((F 13) (Int32.toNatClampNeg p0)) (F 20) (F 21) (80 * Int32.toNatClampNeg p0)) : Nat) : Int) ((F 13) (Int32.toNatClampNeg p0)).toInt) := by intro h1 h2; exfalso; omega
    exact pw_some ⟨qq0, qq1⟩
  · have c11 := z_ne c11
    refine pw_jE (fun k66 ek66 => ?_)
    have lp21 : ∀ (n21 : Nat) (y21_3 : Int32) (y21_4 : Int32), (0 ≤ y21_4.toInt ∧ y21_4.toInt ≤ 40) → (0 ≤ y21_3.toInt ∧ y21_3.toInt ≤ y21_4.toInt) → y21_4.toInt ≤ ((F 13) (Int32.toNatClampNeg p0)).toInt → (y21_3.toInt = ((kct (tab (Int32.toNatClampNeg y21_4) (fun i => (WR (F 20) (F 21) (80 * Int32.toNatClampNeg p0 + 2 * i), if ((F 21) (80 * Int32.toNatClampNeg p0 + 2 * i + 1)).toInt = -1 then none else some (WR (F 20) (F 21) (80 * Int32.toNatClampNeg p0 + 2 * i + 1))))) : Nat) : Int)) → pw (L_about_21 F p0 k66 n21 y21_3 y21_4) (QF_about g F p0 p1) := by
      intro n21
      induction n21 with
      | zero => intros; exact pw_none
      | succ n21 ih21 =>
        intro y21_3 y21_4 f5 f6 f7 kc21
        show pw (B_about_21 F p0 k66 (L_about_21 F p0 k66 n21) y21_3 y21_4) _
        unfold B_about_21
        have c4 := clampI (x := y21_4) (by omega)
        have cp0 := clampI (x := p0) (by omega)
        have hb13 := hzF13 (Int32.toNatClampNeg p0)
        refine pw_if (fun hb28 => ?_)
        obtain ⟨hbl28, hbr28⟩ := hb28
        have f8 := hzF13 (Int32.toNatClampNeg p0)
        refine pw_ite (fun c29 => ?_) (fun c29 => ?_)
        · have c29 := (z_le _ _).mp c29
          refine pw_j1 ek66 (fun x66_3 ex66_3 => ?_)
          have ex66_3 := ex66_3.symm
          have f_x66_3 : x66_3.toInt = y21_3.toInt := by rw [ex66_3]
          have hk0 : y21_3.toInt = ((kct (entR ((F 13) (Int32.toNatClampNeg p0)) (F 20) (F 21) (80 * Int32.toNatClampNeg p0)) : Nat) : Int) := by have h0 := kc21; have c13 := clampI (x := (F 13) (Int32.toNatClampNeg p0)) (by omega); rw [show Int32.toNatClampNeg y21_4 = Int32.toNatClampNeg ((F 13) (Int32.toNatClampNeg p0)) by omega] at h0; exact h0
          refine pw_ite (fun c67_0 => ?_) (fun c67_0 => ?_)
          · have c67_0 := congrArg Int32.toInt c67_0
            refine pw_if (fun hb105 => ?_)
            obtain ⟨hbl105, hbr105⟩ := hb105
            have qq0 : (p0.toInt < 0 ∨ (g 9).toInt ≤ p0.toInt → ((F 10) (Int32.toNatClampNeg p0)).toInt = -1) := by intro h; exfalso; omega
            have qq1 : (0 ≤ p0.toInt → p0.toInt < (g 9).toInt → ABT p1.toInt ((F 10) (Int32.toNatClampNeg p0)).toInt ((F 10) (Int32.toNatClampNeg p0)).toInt ((F 11) (Int32.toNatClampNeg p0)).toInt ((F 12) (Int32.toNatClampNeg p0)).toInt ((kct (entR ((F 13) (Int32.toNatClampNeg p0)) (F 20) (F 21) (80 * Int32.toNatClampNeg p0)) : Nat) : Int) ((F 13) (Int32.toNatClampNeg p0)).toInt) := by intro _ _; exact ⟨fun h => by omega, fun h => by omega, fun h => by omega, fun h => by omega, fun h => by omega, fun h => by omega⟩
            exact pw_some ⟨qq0, qq1⟩
          · have c67_0 := z_ne c67_0
            refine pw_ite (fun c67_1 => ?_) (fun c67_1 => ?_)
            · have c67_1 := congrArg Int32.toInt c67_1
              refine pw_if (fun hb112 => ?_)
              obtain ⟨hbl112, hbr112⟩ := hb112
              have f9 := hzF11 (Int32.toNatClampNeg p0)
              have qq0 : (p0.toInt < 0 ∨ (g 9).toInt ≤ p0.toInt → ((F 11) (Int32.toNatClampNeg p0)).toInt = -1) := by intro h; exfalso; omega
              have qq1 : (0 ≤ p0.toInt → p0.toInt < (g 9).toInt → ABT p1.toInt ((F 11) (Int32.toNatClampNeg p0)).toInt ((F 10) (Int32.toNatClampNeg p0)).toInt ((F 11) (Int32.toNatClampNeg p0)).toInt ((F 12) (Int32.toNatClampNeg p0)).toInt ((kct (entR ((F 13) (Int32.toNatClampNeg p0)) (F 20) (F 21) (80 * Int32.toNatClampNeg p0)) : Nat) : Int) ((F 13) (Int32.toNatClampNeg p0)).toInt) := by intro _ _; exact ⟨fun h => by omega, fun h => by omega, fun h => by omega, fun h => by omega, fun h => by omega, fun h => by omega⟩
              exact pw_some ⟨qq0, qq1⟩
            · have c67_1 := z_ne c67_1
              refine pw_ite (fun c67_2 => ?_) (fun c67_2 => ?_)
              · have c67_2 := congrArg Int32.toInt c67_2
                refine pw_if (fun hb119 => ?_)
                obtain ⟨hbl119, hbr119⟩ := hb119
                have f10 := hzF12 (Int32.toNatClampNeg p0)
                have qq0 : (p0.toInt < 0 ∨ (g 9).toInt ≤ p0.toInt → ((F 12) (Int32.toNatClampNeg p0)).toInt = -1) := by intro h; exfalso; omega
                have qq1 : (0 ≤ p0.toInt → p0.toInt < (g 9).toInt → ABT p1.toInt ((F 12) (Int32.toNatClampNeg p0)).toInt ((F 10) (Int32.toNatClampNeg p0)).toInt ((F 11) (Int32.toNatClampNeg p0)).toInt ((F 12) (Int32.toNatClampNeg p0)).toInt ((kct (entR ((F 13) (Int32.toNatClampNeg p0)) (F 20) (F 21) (80 * Int32.toNatClampNeg p0)) : Nat) : Int) ((F 13) (Int32.toNatClampNeg p0)).toInt) := by intro _ _; exact ⟨fun h => by omega, fun h => by omega, fun h => by omega, fun h => by omega, fun h => by omega, fun h => by omega⟩
                exact pw_some ⟨qq0, qq1⟩
              · have c67_2 := z_ne c67_2
                refine pw_ite (fun c67_3 => ?_) (fun c67_3 => ?_)
                · have c67_3 := congrArg Int32.toInt c67_3
                  have qq0 : (p0.toInt < 0 ∨ (g 9).toInt ≤ p0.toInt → x66_3.toInt = -1) := by intro h; exfalso; omega
                  have qq1 : (0 ≤ p0.toInt → p0.toInt < (g 9).toInt → ABT p1.toInt x66_3.toInt ((F 10) (Int32.toNatClampNeg p0)).toInt ((F 11) (Int32.toNatClampNeg p0)).toInt ((F 12) (Int32.toNatClampNeg p0)).toInt ((kct (entR ((F 13) (Int32.toNatClampNeg p0)) (F 20) (F 21) (80 * Int32.toNatClampNeg p0)) : Nat) : Int) ((F 13) (Int32.toNatClampNeg p0)).toInt) := by intro _ _; exact ⟨fun h => by omega, fun h => by omega, fun h => by omega, fun h => by omega, fun h => by omega, fun h => by omega⟩
                  exact pw_some ⟨qq0, qq1⟩
                · have c67_3 := z_ne c67_3
                  refine pw_ite (fun c67_4 => ?_) (fun c67_4 => ?_)
                  · have c67_4 := congrArg Int32.toInt c67_4
                    refine pw_if (fun hb128 => ?_)
                    obtain ⟨hbl128, hbr128⟩ := hb128
                    have f12 : (((F 13) (Int32.toNatClampNeg p0)) - x66_3).toInt = ((F 13) (Int32.toNatClampNeg p0)).toInt - x66_3.toInt := z_sub (by omega) (by omega)
                    have qq0 : (p0.toInt < 0 ∨ (g 9).toInt ≤ p0.toInt → (((F 13) (Int32.toNatClampNeg p0)) - x66_3).toInt = -1) := by intro h; exfalso; omega
                    have qq1 : (0 ≤ p0.toInt → p0.toInt < (g 9).toInt → ABT p1.toInt (((F 13) (Int32.toNatClampNeg p0)) - x66_3).toInt ((F 10) (Int32.toNatClampNeg p0)).toInt ((F 11) (Int32.toNatClampNeg p0)).toInt ((F 12) (Int32.toNatClampNeg p0)).toInt ((kct (entR ((F 13) (Int32.toNatClampNeg p0)) (F 20) (F 21) (80 * Int32.toNatClampNeg p0)) : Nat) : Int) ((F 13) (Int32.toNatClampNeg p0)).toInt) := by intro _ _; exact ⟨fun h => by omega, fun h => by omega, fun h => by omega, fun h => by omega, fun h => by omega, fun h => by omega⟩
                    exact pw_some ⟨qq0, qq1⟩
                  · have c67_4 := z_ne c67_4
                    have qq0 : (p0.toInt < 0 ∨ (g 9).toInt ≤ p0.toInt → (-1 : Int32).toInt = -1) := by intro h; exfalso; omega
                    have qq1 : (0 ≤ p0.toInt → p0.toInt < (g 9).toInt → ABT p1.toInt (-1 : Int32).toInt ((F 10) (Int32.toNatClampNeg p0)).toInt ((F 11) (Int32.toNatClampNeg p0)).toInt ((F 12) (Int32.toNatClampNeg p0)).toInt ((kct (entR ((F 13) (Int32.toNatClampNeg p0)) (F 20) (F 21) (80 * Int32.toNatClampNeg p0)) : Nat) : Int) ((F 13) (Int32.toNatClampNeg p0)).toInt) := by intro _ _; exact ⟨fun h => by omega, fun h => by omega, fun h => by omega, fun h => by omega, fun h => by omega, fun h => by omega⟩
                    exact pw_some ⟨qq0, qq1⟩
        · have c29 := z_nle c29
          have f13 : (40 * p0).toInt = 40 * p0.toInt := z_muld (by decide +kernel) (by omega) (by omega)
          have f14 : ((40 * p0) + y21_4).toInt = (40 * p0).toInt + y21_4.toInt := z_add (by omega) (by omega)
          have f15 : (2 * ((40 * p0) + y21_4)).toInt = 2 * ((40 * p0) + y21_4).toInt := z_muld (by decide +kernel) (by omega) (by omega)
          have f16 : ((2 * ((40 * p0) + y21_4)) + 1).toInt = (2 * ((40 * p0) + y21_4)).toInt + 1 := z_addc (by decide +kernel) (by omega) (by omega)
          refine pw_if (fun hb48 => ?_)
          obtain ⟨hbl48, hbr48⟩ := hb48
          have f17 := hzF21 (Int32.toNatClampNeg ((2 * ((40 * p0) + y21_4)) + 1))
          refine pw_jE (fun j58 ej58 => ?_)
          refine pw_ite (fun c50 => ?_) (fun c50 => ?_)
          · have c50 := congrArg Int32.toInt c50
            refine pw_j1 ej58 (fun t58_0 et58_0 => ?_)
            have et58_0 := et58_0.symm
            have f_t58_0 : t58_0.toInt = 1 := by rw [et58_0]; decide +kernel
            have f18 : (y21_3 + t58_0).toInt = y21_3.toInt + t58_0.toInt := z_add (by omega) (by omega)
            refine pw_vl (fun x59 ex59 => ?_)
            have f19 : x59.toInt = (y21_3 + t58_0).toInt := congrArg Int32.toInt ex59
            have f20 : (y21_4 + 1).toInt = y21_4.toInt + (1) := z_addc (by decide +kernel) (by omega) (by omega)
            have iv21_0 : (0 ≤ (y21_4 + 1).toInt ∧ (y21_4 + 1).toInt ≤ 40) := by omega
            have iv21_1 : (0 ≤ x59.toInt ∧ x59.toInt ≤ (y21_4 + 1).toInt) := by omega
            have iv21_2 : (y21_4 + 1).toInt ≤ ((F 13) (Int32.toNatClampNeg p0)).toInt := by omega
            have iv21_3 : (x59.toInt = ((kct (tab (Int32.toNatClampNeg (y21_4 + 1)) (fun i => (WR (F 20) (F 21) (80 * Int32.toNatClampNeg p0 + 2 * i), if ((F 21) (80 * Int32.toNatClampNeg p0 + 2 * i + 1)).toInt = -1 then none else some (WR (F 20) (F 21) (80 * Int32.toNatClampNeg p0 + 2 * i + 1))))) : Nat) : Int)) := by have c5 := clampI (x := y21_4 + 1) (by omega); have c6 := clampI (x := (2 * ((40 * p0) + y21_4)) + 1) (by omega); rw [show Int32.toNatClampNeg (y21_4 + 1) = Int32.toNatClampNeg y21_4 + 1 by omega, kct_tab]; have h0 := kc21; have hix : Int32.toNatClampNeg ((2 * ((40 * p0) + y21_4)) + 1) = 80 * Int32.toNatClampNeg p0 + 2 * Int32.toNatClampNeg y21_4 + 1 := (by omega); rw [hix] at c50; rw [if_pos (by rw [if_pos (by omega)]; rfl)]; omega
            exact ih21 x59 (y21_4 + 1) iv21_0 iv21_1 iv21_2 iv21_3
          · have c50 := z_ne c50
            refine pw_j1 ej58 (fun t58_0 et58_0 => ?_)
            have et58_0 := et58_0.symm
            have f_t58_0 : t58_0.toInt = 0 := by rw [et58_0]; decide +kernel
            have f21 : (y21_3 + t58_0).toInt = y21_3.toInt + t58_0.toInt := z_add (by omega) (by omega)
            refine pw_vl (fun x59 ex59 => ?_)
            have f22 : x59.toInt = (y21_3 + t58_0).toInt := congrArg Int32.toInt ex59
            have f23 : (y21_4 + 1).toInt = y21_4.toInt + (1) := z_addc (by decide +kernel) (by omega) (by omega)
            have iv21_0 : (0 ≤ (y21_4 + 1).toInt ∧ (y21_4 + 1).toInt ≤ 40) := by omega
            have iv21_1 : (0 ≤ x59.toInt ∧ x59.toInt ≤ (y21_4 + 1).toInt) := by omega
            have iv21_2 : (y21_4 + 1).toInt ≤ ((F 13) (Int32.toNatClampNeg p0)).toInt := by omega
            have iv21_3 : (x59.toInt = ((kct (tab (Int32.toNatClampNeg (y21_4 + 1)) (fun i => (WR (F 20) (F 21) (80 * Int32.toNatClampNeg p0 + 2 * i), if ((F 21) (80 * Int32.toNatClampNeg p0 + 2 * i + 1)).toInt = -1 then none else some (WR (F 20) (F 21) (80 * Int32.toNatClampNeg p0 + 2 * i + 1))))) : Nat) : Int)) := by have c5 := clampI (x := y21_4 + 1) (by omega); have c6 := clampI (x := (2 * ((40 * p0) + y21_4)) + 1) (by omega); rw [show Int32.toNatClampNeg (y21_4 + 1) = Int32.toNatClampNeg y21_4 + 1 by omega, kct_tab]; have h0 := kc21; have hix : Int32.toNatClampNeg ((2 * ((40 * p0) + y21_4)) + 1) = 80 * Int32.toNatClampNeg p0 + 2 * Int32.toNatClampNeg y21_4 + 1 := (by omega); rw [hix] at c50; rw [if_neg (by rw [if_neg (by omega)]; intro h9; cases h9)]; omega
            exact ih21 x59 (y21_4 + 1) iv21_0 iv21_1 iv21_2 iv21_3
    exact lp21 NN (0 : Int32) (0 : Int32) (show (0 ≤ (0 : Int32).toInt ∧ (0 : Int32).toInt ≤ 40) from by omega) (show (0 ≤ (0 : Int32).toInt ∧ (0 : Int32).toInt ≤ (0 : Int32).toInt) from by omega) (show (0 : Int32).toInt ≤ ((F 13) (Int32.toNatClampNeg p0)).toInt from by omega) (show ((0 : Int32).toInt = ((kct (tab (Int32.toNatClampNeg (0 : Int32)) (fun i => (WR (F 20) (F 21) (80 * Int32.toNatClampNeg p0 + 2 * i), if ((F 21) (80 * Int32.toNatClampNeg p0 + 2 * i + 1)).toInt = -1 then none else some (WR (F 20) (F 21) (80 * Int32.toNatClampNeg p0 + 2 * i + 1))))) : Nat) : Int)) from by rfl)
