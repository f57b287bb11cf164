abbrev QF_isLetter (p0 : Int32) : (Int32) → Prop := (fun t => ((t.toInt ≠ 0 → ((97 ≤ p0.toInt ∧ p0.toInt ≤ 122) ∨ (65 ≤ p0.toInt ∧ p0.toInt ≤ 90)))) ∧ ((t.toInt = 0 → ¬ ((97 ≤ p0.toInt ∧ p0.toInt ≤ 122) ∨ (65 ≤ p0.toInt ∧ p0.toInt ≤ 90)))))
set_option maxHeartbeats 4000000 in
set_option maxRecDepth 100000 in
theorem fn_isLetter (p0 : Int32) : pw (f_isLetter p0) (QF_isLetter p0) := by
  unfold f_isLetter
  have zk0 : (0 : Int32).toInt = 0 := by decide +kernel
  have zk1 : (1 : Int32).toInt = 1 := by decide +kernel
  have zk65 : (65 : Int32).toInt = 65 := by decide +kernel
  have zk90 : (90 : Int32).toInt = 90 := by decide +kernel
  refine pw_b1 (fun r1 hc1 => ?_)
  have hq1 := wp_at (ok_isSmall p0 ) hc1
  obtain ⟨f1, f2, f3⟩ : ((r1.toInt = 1 → 97 ≤ p0.toInt ∧ p0.toInt ≤ 122)) ∧ ((r1.toInt = 0 → p0.toInt < 97 ∨ 122 < p0.toInt)) ∧ ((0 ≤ r1.toInt ∧ r1.toInt ≤ 1)) := hq1
  refine pw_jE (fun j24 ej24 => ?_)
  refine pw_jE (fun j19 ej19 => ?_)
  refine pw_ite (fun c4 => ?_) (fun c4 => ?_)
  · have c4 := congrArg Int32.toInt c4
    refine pw_jE (fun j23 ej23 => ?_)
    refine pw_ite (fun c10 => ?_) (fun c10 => ?_)
    · have c10 := (z_lt _ _).mp c10
      refine pw_j0 ej23 ?_
      refine pw_j1 ej24 (fun t24_0 et24_0 => ?_)
      have et24_0 := et24_0.symm
      have f_t24_0 : t24_0.toInt = 0 := by rw [et24_0]; decide +kernel
      refine pw_if (fun hb24 => ?_)
      obtain ⟨hbl24, hbr24⟩ := hb24
      have qq0 : (t24_0.toInt ≠ 0 → ((97 ≤ p0.toInt ∧ p0.toInt ≤ 122) ∨ (65 ≤ p0.toInt ∧ p0.toInt ≤ 90))) := by intro h; omega
      have qq1 : (t24_0.toInt = 0 → ¬ ((97 ≤ p0.toInt ∧ p0.toInt ≤ 122) ∨ (65 ≤ p0.toInt ∧ p0.toInt ≤ 90))) := by intro h; omega
      exact pw_some ⟨qq0, qq1⟩
    · have c10 := z_nlt c10
      refine pw_ite (fun c16 => ?_) (fun c16 => ?_)
      · have c16 := (z_lt _ _).mp c16
        refine pw_j0 ej23 ?_
        refine pw_j1 ej24 (fun t24_0 et24_0 => ?_)
        have et24_0 := et24_0.symm
        have f_t24_0 : t24_0.toInt = 0 := by rw [et24_0]; decide +kernel
        refine pw_if (fun hb24 => ?_)
        obtain ⟨hbl24, hbr24⟩ := hb24
        have qq0 : (t24_0.toInt ≠ 0 → ((97 ≤ p0.toInt ∧ p0.toInt ≤ 122) ∨ (65 ≤ p0.toInt ∧ p0.toInt ≤ 90))) := by intro h; omega
        have qq1 : (t24_0.toInt = 0 → ¬ ((97 ≤ p0.toInt ∧ p0.toInt ≤ 122) ∨ (65 ≤ p0.toInt ∧ p0.toInt ≤ 90))) := by intro h; omega
        exact pw_some ⟨qq0, qq1⟩
      · have c16 := z_nlt c16
        refine pw_j0 ej19 ?_
        refine pw_j1 ej24 (fun t24_0 et24_0 => ?_)
        have et24_0 := et24_0.symm
        have f_t24_0 : t24_0.toInt = 1 := by rw [et24_0]; decide +kernel
        refine pw_if (fun hb24 => ?_)
        obtain ⟨hbl24, hbr24⟩ := hb24
        have qq0 : (t24_0.toInt ≠ 0 → ((97 ≤ p0.toInt ∧ p0.toInt ≤ 122) ∨ (65 ≤ p0.toInt ∧ p0.toInt ≤ 90))) := by intro h; omega
        have qq1 : (t24_0.toInt = 0 → ¬ ((97 ≤ p0.toInt ∧ p0.toInt ≤ 122) ∨ (65 ≤ p0.toInt ∧ p0.toInt ≤ 90))) := by intro h; omega
        exact pw_some ⟨qq0, qq1⟩
  · have c4 := z_ne c4
    refine pw_j0 ej19 ?_
    refine pw_j1 ej24 (fun t24_0 et24_0 => ?_)
    have et24_0 := et24_0.symm
    have f_t24_0 : t24_0.toInt = 1 := by rw [et24_0]; decide +kernel
    refine pw_if (fun hb24 => ?_)
    obtain ⟨hbl24, hbr24⟩ := hb24
    have qq0 : (t24_0.toInt ≠ 0 → ((97 ≤ p0.toInt ∧ p0.toInt ≤ 122) ∨ (65 ≤ p0.toInt ∧ p0.toInt ≤ 90))) := by intro h; omega
    have qq1 : (t24_0.toInt = 0 → ¬ ((97 ≤ p0.toInt ∧ p0.toInt ≤ 122) ∨ (65 ≤ p0.toInt ∧ p0.toInt ≤ 90))) := by intro h; omega
    exact pw_some ⟨qq0, qq1⟩
abbrev QF_hasNought (g : Nat → Int32) (F : Nat → Nat → Int32) (p0 : Int32) : (Int32) → Prop := (fun t => ((t.toInt ≠ 0 → ¬ NZR (F 0) (Int32.toNatClampNeg p0))) ∧ ((t.toInt = 0 → NZR (F 0) (Int32.toNatClampNeg p0))))
set_option maxHeartbeats 4000000 in
set_option maxRecDepth 100000 in
theorem fn_hasNought (g : Nat → Int32) (F : Nat → Nat → Int32) (p0 : Int32) (hI : MInv g F) (hp0 : p0.toInt ≤ 2000) : pw (f_hasNought g F p0) (QF_hasNought g F p0) := by
  unfold f_hasNought
  have hI9 : id (MInv g F) := hI
  obtain ⟨-, -, -, -, -, -, -, -, -, -, -, -, -, -, -, -, -, -, -, -, -, -, -, -, -, hzF11, hzF12, hzF13, hzF15, hzF19, hzF21, hzF24, hzF25, hzF26, hzF33, hzF38, hzF41, hzF43, hzF45, hzF46, hzF50, hzF53, hzF54, hzLQ⟩ := hI
  have zk0 : (0 : Int32).toInt = 0 := by decide +kernel
  have zk1 : (1 : Int32).toInt = 1 := by decide +kernel
  have lp2 : ∀ (n2 : Nat) (y2_2 : Int32), 0 ≤ y2_2.toInt → (NZR (F 0) (Int32.toNatClampNeg y2_2)) → pw (L_hasNought_2 F p0 n2 y2_2) (QF_hasNought g F p0) := by
    intro n2
    induction n2 with
    | zero => intros; exact pw_none
    | succ n2 ih2 =>
      intro y2_2 f1 iz2
      show pw (B_hasNought_2 F p0 (L_hasNought_2 F p0 n2) y2_2) _
      unfold B_hasNought_2
      refine pw_ite (fun c4 => ?_) (fun c4 => ?_)
      · have c4 := (z_le _ _).mp c4
        have qq0 : ((0 : Int32).toInt ≠ 0 → ¬ NZR (F 0) (Int32.toNatClampNeg p0)) := by intro h; exfalso; omega
        have qq1 : ((0 : Int32).toInt = 0 → NZR (F 0) (Int32.toNatClampNeg p0)) := by intro _ j hj; have k2 := clampI (x := y2_2) (by omega); exact iz2 j (by have h7 : Int32.toNatClampNeg p0 = p0.toInt.toNat := rfl; omega)
        exact pw_some ⟨qq0, qq1⟩
      · have c4 := z_nle c4
        refine pw_if (fun hb12 => ?_)
        obtain ⟨hbl12, hbr12⟩ := hb12
        refine pw_ite (fun c13 => ?_) (fun c13 => ?_)
        · have c13 := congrArg Int32.toInt c13
          have qq0 : ((1 : Int32).toInt ≠ 0 → ¬ NZR (F 0) (Int32.toNatClampNeg p0)) := by intro _ h9; have k2 := clampI (x := y2_2) (by omega); have h8 := h9 (Int32.toNatClampNeg y2_2) (by have h7 : Int32.toNatClampNeg p0 = p0.toInt.toNat := rfl; omega); omega
          have qq1 : ((1 : Int32).toInt = 0 → NZR (F 0) (Int32.toNatClampNeg p0)) := by intro h; exfalso; omega
          exact pw_some ⟨qq0, qq1⟩
        · have c13 := z_ne c13
          have f2 : (y2_2 + 1).toInt = y2_2.toInt + (1) := z_addc (by decide +kernel) (by omega) (by omega)
          have iv2_0 : 0 ≤ (y2_2 + 1).toInt := by omega
          have iv2_1 : (NZR (F 0) (Int32.toNatClampNeg (y2_2 + 1))) := by intro j hj; have k2 := clampI (x := y2_2) (by omega); have k3 := clampI (x := y2_2 + 1) (by omega); by_cases q9 : j = Int32.toNatClampNeg y2_2; (rw [q9]; omega); (exact iz2 j (by omega))
          exact ih2 (y2_2 + 1) iv2_0 iv2_1
  exact lp2 NN (0 : Int32) (show 0 ≤ (0 : Int32).toInt from by omega) (show (NZR (F 0) (Int32.toNatClampNeg (0 : Int32))) from by intro j hj; exact absurd hj (Nat.not_lt_zero _))
abbrev QF_isName (g : Nat → Int32) (F : Nat → Nat → Int32) (p0 : Int32) (p1 : Int32) : (Int32) → Prop := (fun t => ((t.toInt ≠ 0 → nmB (wdl (F 0) (Int32.toNatClampNeg p0) (Int32.toNatClampNeg p1 - Int32.toNatClampNeg p0)) = true)) ∧ ((t.toInt = 0 → nmB (wdl (F 0) (Int32.toNatClampNeg p0) (Int32.toNatClampNeg p1 - Int32.toNatClampNeg p0)) = false)))
set_option maxHeartbeats 4000000 in
set_option maxRecDepth 100000 in
theorem fn_isName (g : Nat → Int32) (F : Nat → Nat → Int32) (p0 : Int32) (p1 : Int32) (hI : MInv g F) (hp0 : 0 ≤ p0.toInt) (hp1 : p1.toInt ≤ 2000) (hle : p0.toInt ≤ p1.toInt) : pw (f_isName g F p0 p1) (QF_isName g F p0 p1) := by
  unfold f_isName
  have hI9 : id (MInv g F) := hI
  obtain ⟨-, -, -, -, -, -, -, -, -, -, -, -, -, -, -, -, -, -, -, -, -, -, -, -, -, hzF11, hzF12, hzF13, hzF15, hzF19, hzF21, hzF24, hzF25, hzF26, hzF33, hzF38, hzF41, hzF43, hzF45, hzF46, hzF50, hzF53, hzF54, hzLQ⟩ := hI
  have zk0 : (0 : Int32).toInt = 0 := by decide +kernel
  have zk1 : (1 : Int32).toInt = 1 := by decide +kernel
  have cp0 := clampI (x := p0) (by omega)
  have cp1 := clampI (x := p1) (by omega)
  have lp2 : ∀ (n2 : Nat) (y2_3 : Int32), 0 ≤ y2_3.toInt → (p0.toInt ≤ y2_3.toInt ∧ y2_3.toInt ≤ p1.toInt) → (∀ j, Int32.toNatClampNeg p0 ≤ j → j < Int32.toNatClampNeg y2_3 → smC ((F 0) j)) → pw (L_isName_2 F p1 n2 y2_3) (QF_isName g F p0 p1) := by
    intro n2
    induction n2 with
    | zero => intros; exact pw_none
    | succ n2 ih2 =>
      intro y2_3 f1 f2 is2
      show pw (B_isName_2 F p1 (L_isName_2 F p1 n2) y2_3) _
      unfold B_isName_2
      refine pw_ite (fun c4 => ?_) (fun c4 => ?_)
      · have c4 := (z_le _ _).mp c4
        have qq0 : ((0 : Int32).toInt ≠ 0 → nmB (wdl (F 0) (Int32.toNatClampNeg p0) (Int32.toNatClampNeg p1 - Int32.toNatClampNeg p0)) = true) := by intro h; exfalso; omega
        have qq1 : ((0 : Int32).toInt = 0 → nmB (wdl (F 0) (Int32.toNatClampNeg p0) (Int32.toNatClampNeg p1 - Int32.toNatClampNeg p0)) = false) := by intro _; have k3 := clampI (x := y2_3) (by omega); refine nmB_f (fun c hc => ?_); unfold wdl at hc; obtain ⟨j, hj, e9⟩ := List.mem_map.mp hc; have hj2 := List.mem_range.mp hj; rw [← e9]; exact is2 _ (by omega) (by omega)
        exact pw_some ⟨qq0, qq1⟩
      · have c4 := z_nle c4
        refine pw_if (fun hb12 => ?_)
        obtain ⟨hbl12, hbr12⟩ := hb12
        refine pw_b1 (fun r13 hc13 => ?_)
        have hq13 := wp_at (ok_isSmall ((F 0) (Int32.toNatClampNeg y2_3)) ) hc13
        obtain ⟨f3, f4, f5⟩ : ((r13.toInt = 1 → 97 ≤ ((F 0) (Int32.toNatClampNeg y2_3)).toInt ∧ ((F 0) (Int32.toNatClampNeg y2_3)).toInt ≤ 122)) ∧ ((r13.toInt = 0 → ((F 0) (Int32.toNatClampNeg y2_3)).toInt < 97 ∨ 122 < ((F 0) (Int32.toNatClampNeg y2_3)).toInt)) ∧ ((0 ≤ r13.toInt ∧ r13.toInt ≤ 1)) := hq13
        refine pw_ite (fun c16 => ?_) (fun c16 => ?_)
        · have c16 := congrArg Int32.toInt c16
          have qq0 : ((1 : Int32).toInt ≠ 0 → nmB (wdl (F 0) (Int32.toNatClampNeg p0) (Int32.toNatClampNeg p1 - Int32.toNatClampNeg p0)) = true) := by intro _; have k3 := clampI (x := y2_3) (by omega); have h9 := wdl_mem (f := F 0) (s := Int32.toNatClampNeg p0) (m := Int32.toNatClampNeg p1 - Int32.toNatClampNeg p0) (j := Int32.toNatClampNeg y2_3 - Int32.toNatClampNeg p0) (by omega); rw [show Int32.toNatClampNeg p0 + (Int32.toNatClampNeg y2_3 - Int32.toNatClampNeg p0) = Int32.toNatClampNeg y2_3 by omega] at h9; exact nmB_t h9 (fun q => by omega)
          have qq1 : ((1 : Int32).toInt = 0 → nmB (wdl (F 0) (Int32.toNatClampNeg p0) (Int32.toNatClampNeg p1 - Int32.toNatClampNeg p0)) = false) := by intro h; exfalso; omega
          exact pw_some ⟨qq0, qq1⟩
        · have c16 := z_ne c16
          have f6 : (y2_3 + 1).toInt = y2_3.toInt + (1) := z_addc (by decide +kernel) (by omega) (by omega)
          have iv2_0 : 0 ≤ (y2_3 + 1).toInt := by omega
          have iv2_1 : (p0.toInt ≤ (y2_3 + 1).toInt ∧ (y2_3 + 1).toInt ≤ p1.toInt) := by omega
          have iv2_2 : (∀ j, Int32.toNatClampNeg p0 ≤ j → j < Int32.toNatClampNeg (y2_3 + 1) → smC ((F 0) j)) := by intro j h1 hj; have k3 := clampI (x := y2_3) (by omega); have k4 := clampI (x := y2_3 + 1) (by omega); by_cases q9 : j = Int32.toNatClampNeg y2_3; (rw [q9]; omega); (exact is2 j h1 (by omega))
          exact ih2 (y2_3 + 1) iv2_0 iv2_1 iv2_2
  exact lp2 NN p0 (show 0 ≤ p0.toInt from by omega) (show (p0.toInt ≤ p0.toInt ∧ p0.toInt ≤ p1.toInt) from by omega) (show (∀ j, Int32.toNatClampNeg p0 ≤ j → j < Int32.toNatClampNeg p0 → smC ((F 0) j)) from by intro j h1 hj; exfalso; omega)
abbrev QF_quoted (g : Nat → Int32) (F : Nat → Nat → Int32) (p0 : Int32) (p1 : Int32) : (Int32) → Prop := (fun t => (Int32.toNatClampNeg t = qN (F 0) (Int32.toNatClampNeg p1) (Int32.toNatClampNeg p0 + 1)))
set_option maxHeartbeats 4000000 in
set_option maxRecDepth 100000 in
theorem fn_quoted (g : Nat → Int32) (F : Nat → Nat → Int32) (p0 : Int32) (p1 : Int32) (hI : MInv g F) (hp0 : 0 ≤ p0.toInt) (hp1 : p0.toInt < p1.toInt) (hp2 : p1.toInt ≤ 2000) : pw (f_quoted g F p0 p1) (QF_quoted g F p0 p1) := by
  unfold f_quoted
  have hI9 : id (MInv g F) := hI
  obtain ⟨-, -, -, -, -, -, -, -, -, -, -, -, -, -, -, -, -, -, -, -, -, -, -, -, -, hzF11, hzF12, hzF13, hzF15, hzF19, hzF21, hzF24, hzF25, hzF26, hzF33, hzF38, hzF41, hzF43, hzF45, hzF46, hzF50, hzF53, hzF54, hzLQ⟩ := hI
  have zk1 : (1 : Int32).toInt = 1 := by decide +kernel
  have zk34 : (34 : Int32).toInt = 34 := by decide +kernel
  have cp0 := clampI (x := p0) (by omega)
  have cp1 := clampI (x := p1) (by omega)
  have f1 : (p0 + 1).toInt = p0.toInt + 1 := z_addc (by decide +kernel) (by omega) (by omega)
  refine pw_vl (fun x3 ex3 => ?_)
  have f2 : x3.toInt = (p0 + 1).toInt := congrArg Int32.toInt ex3
  refine pw_jE (fun k26 ek26 => ?_)
  have lp4 : ∀ (n4 : Nat) (y4_3 : Int32), (p0.toInt + 1 ≤ y4_3.toInt ∧ y4_3.toInt ≤ p1.toInt) → (qN (F 0) (Int32.toNatClampNeg p1) (Int32.toNatClampNeg p0 + 1) = qN (F 0) (Int32.toNatClampNeg p1) (Int32.toNatClampNeg y4_3)) → pw (L_quoted_4 F p1 k26 n4 y4_3) (QF_quoted g F p0 p1) := by
    intro n4
    induction n4 with
    | zero => intros; exact pw_none
    | succ n4 ih4 =>
      intro y4_3 f3 iq4
      show pw (B_quoted_4 F p1 k26 (L_quoted_4 F p1 k26 n4) y4_3) _
      unfold B_quoted_4
      refine pw_ite (fun c6 => ?_) (fun c6 => ?_)
      · have c6 := (z_le _ _).mp c6
        refine pw_j1 ek26 (fun x26_3 ex26_3 => ?_)
        have ex26_3 := ex26_3.symm
        have f_x26_3 : x26_3.toInt = y4_3.toInt := by rw [ex26_3]
        refine pw_jE (fun j38 ej38 => ?_)
        refine pw_ite (fun c28 => ?_) (fun c28 => ?_)
        · have c28 := (z_le _ _).mp c28
          refine pw_j1 ej38 (fun t38_0 et38_0 => ?_)
          have et38_0 := et38_0.symm
          have f_t38_0 : t38_0.toInt = p1.toInt := by rw [et38_0]
          have qq0 : Int32.toNatClampNeg t38_0 = qN (F 0) (Int32.toNatClampNeg p1) (Int32.toNatClampNeg p0 + 1) := by have k3 := clampI (x := y4_3) (by omega); have kt := clampI (x := t38_0) (by omega); rw [iq4]; rw [qN_e (by omega)]; omega
          exact pw_some qq0
        · have c28 := z_nle c28
          exfalso; omega
      · have c6 := z_nle c6
        refine pw_if (fun hb14 => ?_)
        obtain ⟨hbl14, hbr14⟩ := hb14
        refine pw_ite (fun c17 => ?_) (fun c17 => ?_)
        · have c17 := congrArg Int32.toInt c17
          refine pw_j1 ek26 (fun x26_3 ex26_3 => ?_)
          have ex26_3 := ex26_3.symm
          have f_x26_3 : x26_3.toInt = y4_3.toInt := by rw [ex26_3]
          refine pw_jE (fun j38 ej38 => ?_)
          refine pw_ite (fun c28 => ?_) (fun c28 => ?_)
          · have c28 := (z_le _ _).mp c28
            exfalso; omega
          · have c28 := z_nle c28
            have f4 : (x26_3 + 1).toInt = x26_3.toInt + 1 := z_addc (by decide +kernel) (by omega) (by omega)
            refine pw_j1 ej38 (fun t38_0 et38_0 => ?_)
            have et38_0 := et38_0.symm
            have f_t38_0 : t38_0.toInt = (x26_3 + 1).toInt := by rw [et38_0]
            have qq0 : Int32.toNatClampNeg t38_0 = qN (F 0) (Int32.toNatClampNeg p1) (Int32.toNatClampNeg p0 + 1) := by have k3 := clampI (x := y4_3) (by omega); have kt := clampI (x := t38_0) (by omega); rw [iq4]; rw [qN_q (by omega) (by omega)]; omega
            exact pw_some qq0
        · have c17 := z_ne c17
          have f5 : (y4_3 + 1).toInt = y4_3.toInt + (1) := z_addc (by decide +kernel) (by omega) (by omega)
          have iv4_0 : (p0.toInt + 1 ≤ (y4_3 + 1).toInt ∧ (y4_3 + 1).toInt ≤ p1.toInt) := by omega
          have iv4_1 : (qN (F 0) (Int32.toNatClampNeg p1) (Int32.toNatClampNeg p0 + 1) = qN (F 0) (Int32.toNatClampNeg p1) (Int32.toNatClampNeg (y4_3 + 1))) := by have k3 := clampI (x := y4_3) (by omega); have k4 := clampI (x := y4_3 + 1) (by omega); rw [iq4, qN_s (by omega) (fun z => by omega), show Int32.toNatClampNeg y4_3 + 1 = Int32.toNatClampNeg (y4_3 + 1) by omega]
          exact ih4 (y4_3 + 1) iv4_0 iv4_1
  exact lp4 NN x3 (show (p0.toInt + 1 ≤ x3.toInt ∧ x3.toInt ≤ p1.toInt) from by omega) (show (qN (F 0) (Int32.toNatClampNeg p1) (Int32.toNatClampNeg p0 + 1) = qN (F 0) (Int32.toNatClampNeg p1) (Int32.toNatClampNeg x3)) from by have k3 := clampI (x := x3) (by omega); rw [show Int32.toNatClampNeg p0 + 1 = Int32.toNatClampNeg x3 by omega])
