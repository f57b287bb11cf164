abbrev QF_isStage (g : Nat → Int32) (F : Nat → Nat → Int32) (p0 : Int32) : (Int32) → Prop := (fun t => ((t.toInt ≠ 0 → 0 ≤ p0.toInt ∧ p0.toInt ≤ (g 9).toInt)) ∧ ((t.toInt = 0 → ¬ (0 ≤ p0.toInt ∧ p0.toInt ≤ (g 9).toInt))))
set_option maxHeartbeats 4000000 in
set_option maxRecDepth 100000 in
theorem fn_isStage (g : Nat → Int32) (F : Nat → Nat → Int32) (p0 : Int32) (hI : MInv g F) : pw (f_isStage g F p0) (QF_isStage g F p0) := by
  unfold f_isStage
  have hI9 : id (MInv g F) := hI
  obtain ⟨-, -, -, -, -, -, -, -, hzg9, -, -, -, -, -, -, -, -, -, -, -, -, -, -, -, -, hzF11, hzF12, hzF13, hzF15, hzF19, hzF21, hzF24, hzF25, hzF26, hzF33, hzF38, hzF41, hzF43, hzF45, hzF46, hzF50, hzF53, hzF54, hzLQ⟩ := hI
  have zk0 : (0 : Int32).toInt = 0 := by decide +kernel
  refine pw_b1 (fun r6 hc6 => ?_)
  have hq6 := wp_at (ok_in p0 (0 : Int32) (g 9) ) hc6
  obtain ⟨f1, f2, f3⟩ : ((r6.toInt = 1 → (0 : Int32).toInt ≤ p0.toInt ∧ p0.toInt ≤ (g 9).toInt)) ∧ ((r6.toInt = 0 → p0.toInt < (0 : Int32).toInt ∨ (g 9).toInt < p0.toInt)) ∧ ((0 ≤ r6.toInt ∧ r6.toInt ≤ 1)) := hq6
  refine pw_if (fun hb9 => ?_)
  obtain ⟨hbl9, hbr9⟩ := hb9
  have qq0 : (r6.toInt ≠ 0 → 0 ≤ p0.toInt ∧ p0.toInt ≤ (g 9).toInt) := by intro h; omega
  have qq1 : (r6.toInt = 0 → ¬ (0 ≤ p0.toInt ∧ p0.toInt ≤ (g 9).toInt)) := by intro h; omega
  exact pw_some ⟨qq0, qq1⟩
abbrev QF_turn (g : Nat → Int32) (F : Nat → Nat → Int32) (p0 : Int32) (p1 : Int32) (d : Nat → Dr) : (Int32 × Int32 × Int32 × Int32 × Int32 × Int32 × Int32 × Int32 × Int32 × (Nat → Int32) × (Nat → Int32) × (Nat → Int32) × (Nat → Int32) × (Nat → Int32) × (Nat → Int32) × (Nat → Int32) × (Nat → Int32) × (Nat → Int32) × (Nat → Int32) × (Nat → Int32) × (Nat → Int32) × (Nat → Int32) × (Nat → Int32) × (Nat → Int32)) → Prop := (fun t => ((¬ (isw (F 0) (g 1).toInt ∧ 0 ≤ p0.toInt ∧ p0.toInt ≤ p1.toInt ∧ p1.toInt ≤ (g 9).toInt) → (t.1).toInt = -2 ∧ (t.2.2.2.2.2.2.2.2.1) = (g 44) ∧ (t.2.2.2.2.2.2.2.2.2.2.2.2.2.2.2.2.2.2.2.2.2.2.1) = (F 42) ∧ (t.2.2.2.2.2.2.2.2.2.2.2.2.2.2.2.2.2.2.2.2.2.2.2) = (F 43))) ∧ ((isw (F 0) (g 1).toInt ∧ 0 ≤ p0.toInt ∧ p0.toInt ≤ p1.toInt ∧ p1.toInt ≤ (g 9).toInt → (t.1).toInt = (((thF d (Int32.toNatClampNeg p0) (Int32.toNatClampNeg p1 - Int32.toNatClampNeg p0) [(wdl (F 0) 0 (Int32.toNatClampNeg (g 1)))]).length : Nat) : Int) ∧ rwW (t.2.2.2.2.2.2.2.2.1) (t.2.2.2.2.2.2.2.2.2.2.2.2.2.2.2.2.2.2.2.2.2.2.1) (t.2.2.2.2.2.2.2.2.2.2.2.2.2.2.2.2.2.2.2.2.2.2.2) 24 = thF d (Int32.toNatClampNeg p0) (Int32.toNatClampNeg p1 - Int32.toNatClampNeg p0) [(wdl (F 0) 0 (Int32.toNatClampNeg (g 1)))])))
set_option maxHeartbeats 4000000 in
set_option maxRecDepth 100000 in
theorem fn_turn (g : Nat → Int32) (F : Nat → Nat → Int32) (p0 : Int32) (p1 : Int32) (d : Nat → Dr) (hI : MInv g F) (hrd : ∀ q, q < Int32.toNatClampNeg (g 9) → RVd (F 13) (F 20) (F 21) (F 12) (F 18) (F 19) (F 11) (F 14) (F 15) (F 16) (F 17) q = d q ∧ WFD (d q)) (hfit : ∀ i, fits .byte (.int ((F 0) i)) = true) : pw (f_turn g F p0 p1) (QF_turn g F p0 p1 d) := by
  unfold f_turn
  have hI9 : id (MInv g F) := hI
  obtain ⟨hzg1, -, -, -, -, -, -, -, hzg9, -, -, -, -, -, -, hzg44, -, -, -, -, -, -, -, -, -, hzF11, hzF12, hzF13, hzF15, hzF19, hzF21, hzF24, hzF25, hzF26, hzF33, hzF38, hzF41, hzF43, hzF45, hzF46, hzF50, hzF53, hzF54, hzLQ⟩ := hI
  have zkm2 : (-2 : Int32).toInt = -2 := by decide +kernel
  have zk0 : (0 : Int32).toInt = 0 := by decide +kernel
  have zk24 : (24 : Int32).toInt = 24 := by decide +kernel
  have hb9 := hzg9
  have c9 := clampI (x := g 9) (by omega)
  have hMI1 : id (MInv g F) := show MInv g F from (MInv_i hzg1 ((hI9.2.1)) ((hI9.2.2.1)) ((hI9.2.2.2.1)) ((hI9.2.2.2.2.1)) ((hI9.2.2.2.2.2.1)) ((hI9.2.2.2.2.2.2.1)) ((hI9.2.2.2.2.2.2.2.1)) hzg9 ((hI9.2.2.2.2.2.2.2.2.2.1)) ((hI9.2.2.2.2.2.2.2.2.2.2.1)) ((hI9.2.2.2.2.2.2.2.2.2.2.2.1)) ((hI9.2.2.2.2.2.2.2.2.2.2.2.2.1)) ((hI9.2.2.2.2.2.2.2.2.2.2.2.2.2.1)) ((hI9.2.2.2.2.2.2.2.2.2.2.2.2.2.2.1)) hzg44 ((hI9.2.2.2.2.2.2.2.2.2.2.2.2.2.2.2.2.1)) ((hI9.2.2.2.2.2.2.2.2.2.2.2.2.2.2.2.2.2.1)) ((hI9.2.2.2.2.2.2.2.2.2.2.2.2.2.2.2.2.2.2.1)) ((hI9.2.2.2.2.2.2.2.2.2.2.2.2.2.2.2.2.2.2.2.1)) ((hI9.2.2.2.2.2.2.2.2.2.2.2.2.2.2.2.2.2.2.2.2.1)) ((hI9.2.2.2.2.2.2.2.2.2.2.2.2.2.2.2.2.2.2.2.2.2.1)) ((hI9.2.2.2.2.2.2.2.2.2.2.2.2.2.2.2.2.2.2.2.2.2.2.1)) ((hI9.2.2.2.2.2.2.2.2.2.2.2.2.2.2.2.2.2.2.2.2.2.2.2.1)) ((hI9.2.2.2.2.2.2.2.2.2.2.2.2.2.2.2.2.2.2.2.2.2.2.2.2.1)) hzF11 hzF12 hzF13 hzF15 hzF19 hzF21 hzF24 hzF25 hzF26 hzF33 hzF38 hzF41 hzF43 hzF45 hzF46 hzF50 hzF53 hzF54 hzLQ)
  refine pw_b4 (fun r1 c1_g1 c1_g23 c1_F22 hc1 => ?_)
  have hq1 := wp_at (ok_readWord g F hMI1) hc1
  obtain ⟨hg1, hg2, f3, f4, f5⟩ : (((0) ≤ c1_g1.toInt ∧ c1_g1.toInt ≤ 2000)) ∧ (((0) ≤ c1_g23.toInt ∧ c1_g23.toInt ≤ 24)) ∧ (c1_g1.toInt = 0) ∧ (id ((r1.toInt = 1 → 1 ≤ c1_g23.toInt))) ∧ ((0 ≤ r1.toInt ∧ r1.toInt ≤ 1)) := hq1
  have h81_hfit : ∀ i, fits .byte (.int ((F 0) i)) = true := by exact hfit
  have hx1 := pwq (fn_readWord g F hMI1 h81_hfit) hc1
  obtain ⟨p1_0, p1_1⟩ : (id ((r1.toInt ≠ 0 → isw (F 0) (g 1).toInt ∧ c1_g23.toInt = (g 1).toInt ∧ wdl c1_F22 0 (Int32.toNatClampNeg c1_g23) = wdl (F 0) 0 (Int32.toNatClampNeg (g 1))))) ∧ (id ((r1.toInt = 0 → ¬ isw (F 0) (g 1).toInt))) := hx1
  refine pw_jE (fun j28 ej28 => ?_)
  refine pw_ite (fun c4 => ?_) (fun c4 => ?_)
  · have c4 := congrArg Int32.toInt c4
    refine pw_j0 ej28 ?_
    have qq0 : (¬ (isw (F 0) (g 1).toInt ∧ 0 ≤ p0.toInt ∧ p0.toInt ≤ p1.toInt ∧ p1.toInt ≤ (g 9).toInt) → (-2 : Int32).toInt = -2 ∧ (g 44) = (g 44) ∧ (F 42) = (F 42) ∧ (F 43) = (F 43)) := by intro _; exact ⟨by omega, rfl, rfl, rfl⟩
    have qq1 : (isw (F 0) (g 1).toInt ∧ 0 ≤ p0.toInt ∧ p0.toInt ≤ p1.toInt ∧ p1.toInt ≤ (g 9).toInt → (-2 : Int32).toInt = (((thF d (Int32.toNatClampNeg p0) (Int32.toNatClampNeg p1 - Int32.toNatClampNeg p0) [(wdl (F 0) 0 (Int32.toNatClampNeg (g 1)))]).length : Nat) : Int) ∧ rwW (g 44) (F 42) (F 43) 24 = thF d (Int32.toNatClampNeg p0) (Int32.toNatClampNeg p1 - Int32.toNatClampNeg p0) [(wdl (F 0) 0 (Int32.toNatClampNeg (g 1)))]) := by intro h; exfalso; exact p1_1 (by omega) h.1
    exact pw_some ⟨qq0, qq1⟩
  · have c4 := z_ne c4
    have hMI9 : id (MInv (upd (upd g 1 c1_g1) 23 c1_g23) (upF F 22 c1_F22)) := show MInv (upd (upd g 1 c1_g1) 23 c1_g23) (upF F 22 c1_F22) from (MInv_i hg1 ((hI9.2.1)) ((hI9.2.2.1)) ((hI9.2.2.2.1)) ((hI9.2.2.2.2.1)) ((hI9.2.2.2.2.2.1)) ((hI9.2.2.2.2.2.2.1)) ((hI9.2.2.2.2.2.2.2.1)) hzg9 hg2 ((hI9.2.2.2.2.2.2.2.2.2.2.1)) ((hI9.2.2.2.2.2.2.2.2.2.2.2.1)) ((hI9.2.2.2.2.2.2.2.2.2.2.2.2.1)) ((hI9.2.2.2.2.2.2.2.2.2.2.2.2.2.1)) ((hI9.2.2.2.2.2.2.2.2.2.2.2.2.2.2.1)) hzg44 ((hI9.2.2.2.2.2.2.2.2.2.2.2.2.2.2.2.2.1)) ((hI9.2.2.2.2.2.2.2.2.2.2.2.2.2.2.2.2.2.1)) ((hI9.2.2.2.2.2.2.2.2.2.2.2.2.2.2.2.2.2.2.1)) ((hI9.2.2.2.2.2.2.2.2.2.2.2.2.2.2.2.2.2.2.2.1)) ((hI9.2.2.2.2.2.2.2.2.2.2.2.2.2.2.2.2.2.2.2.2.1)) ((hI9.2.2.2.2.2.2.2.2.2.2.2.2.2.2.2.2.2.2.2.2.2.1)) ((hI9.2.2.2.2.2.2.2.2.2.2.2.2.2.2.2.2.2.2.2.2.2.2.1)) ((hI9.2.2.2.2.2.2.2.2.2.2.2.2.2.2.2.2.2.2.2.2.2.2.2.1)) ((hI9.2.2.2.2.2.2.2.2.2.2.2.2.2.2.2.2.2.2.2.2.2.2.2.2.1)) hzF11 hzF12 hzF13 hzF15 hzF19 hzF21 hzF24 hzF25 hzF26 hzF33 hzF38 hzF41 hzF43 hzF45 hzF46 hzF50 hzF53 hzF54 hzLQ)
    refine pw_b1 (fun r9 hc9 => ?_)
    have hq9 := wp_at (ok_isStage (upd (upd g 1 c1_g1) 23 c1_g23) (upF F 22 c1_F22) p0 hMI9) hc9
    obtain ⟨f6, f7⟩ : ((r9.toInt = 1 → 0 ≤ p0.toInt ∧ p0.toInt ≤ (g 9).toInt)) ∧ ((0 ≤ r9.toInt ∧ r9.toInt ≤ 1)) := hq9
    have hx9 := pwq (fn_isStage (upd (upd g 1 c1_g1) 23 c1_g23) (upF F 22 c1_F22) p0 hMI9) hc9
    obtain ⟨p9_0, p9_1⟩ : ((r9.toInt ≠ 0 → 0 ≤ p0.toInt ∧ p0.toInt ≤ (g 9).toInt)) ∧ ((r9.toInt = 0 → ¬ (0 ≤ p0.toInt ∧ p0.toInt ≤ (g 9).toInt))) := hx9
    refine pw_ite (fun c12 => ?_) (fun c12 => ?_)
    · have c12 := congrArg Int32.toInt c12
      refine pw_j0 ej28 ?_
      have qq0 : (¬ (isw (F 0) (g 1).toInt ∧ 0 ≤ p0.toInt ∧ p0.toInt ≤ p1.toInt ∧ p1.toInt ≤ (g 9).toInt) → (-2 : Int32).toInt = -2 ∧ (g 44) = (g 44) ∧ (F 42) = (F 42) ∧ (F 43) = (F 43)) := by intro _; exact ⟨by omega, rfl, rfl, rfl⟩
      have qq1 : (isw (F 0) (g 1).toInt ∧ 0 ≤ p0.toInt ∧ p0.toInt ≤ p1.toInt ∧ p1.toInt ≤ (g 9).toInt → (-2 : Int32).toInt = (((thF d (Int32.toNatClampNeg p0) (Int32.toNatClampNeg p1 - Int32.toNatClampNeg p0) [(wdl (F 0) 0 (Int32.toNatClampNeg (g 1)))]).length : Nat) : Int) ∧ rwW (g 44) (F 42) (F 43) 24 = thF d (Int32.toNatClampNeg p0) (Int32.toNatClampNeg p1 - Int32.toNatClampNeg p0) [(wdl (F 0) 0 (Int32.toNatClampNeg (g 1)))]) := by intro h; exfalso; have h2 := h.2; exact p9_1 (by omega) ⟨by omega, by omega⟩
      exact pw_some ⟨qq0, qq1⟩
    · have c12 := z_ne c12
      have hMI17 : id (MInv (upd (upd g 1 c1_g1) 23 c1_g23) (upF F 22 c1_F22)) := show MInv (upd (upd g 1 c1_g1) 23 c1_g23) (upF F 22 c1_F22) from (MInv_i hg1 ((hI9.2.1)) ((hI9.2.2.1)) ((hI9.2.2.2.1)) ((hI9.2.2.2.2.1)) ((hI9.2.2.2.2.2.1)) ((hI9.2.2.2.2.2.2.1)) ((hI9.2.2.2.2.2.2.2.1)) hzg9 hg2 ((hI9.2.2.2.2.2.2.2.2.2.2.1)) ((hI9.2.2.2.2.2.2.2.2.2.2.2.1)) ((hI9.2.2.2.2.2.2.2.2.2.2.2.2.1)) ((hI9.2.2.2.2.2.2.2.2.2.2.2.2.2.1)) ((hI9.2.2.2.2.2.2.2.2.2.2.2.2.2.2.1)) hzg44 ((hI9.2.2.2.2.2.2.2.2.2.2.2.2.2.2.2.2.1)) ((hI9.2.2.2.2.2.2.2.2.2.2.2.2.2.2.2.2.2.1)) ((hI9.2.2.2.2.2.2.2.2.2.2.2.2.2.2.2.2.2.2.1)) ((hI9.2.2.2.2.2.2.2.2.2.2.2.2.2.2.2.2.2.2.2.1)) ((hI9.2.2.2.2.2.2.2.2.2.2.2.2.2.2.2.2.2.2.2.2.1)) ((hI9.2.2.2.2.2.2.2.2.2.2.2.2.2.2.2.2.2.2.2.2.2.1)) ((hI9.2.2.2.2.2.2.2.2.2.2.2.2.2.2.2.2.2.2.2.2.2.2.1)) ((hI9.2.2.2.2.2.2.2.2.2.2.2.2.2.2.2.2.2.2.2.2.2.2.2.1)) ((hI9.2.2.2.2.2.2.2.2.2.2.2.2.2.2.2.2.2.2.2.2.2.2.2.2.1)) hzF11 hzF12 hzF13 hzF15 hzF19 hzF21 hzF24 hzF25 hzF26 hzF33 hzF38 hzF41 hzF43 hzF45 hzF46 hzF50 hzF53 hzF54 hzLQ)
      refine pw_b1 (fun r17 hc17 => ?_)
      have hq17 := wp_at (ok_isStage (upd (upd g 1 c1_g1) 23 c1_g23) (upF F 22 c1_F22) p1 hMI17) hc17
      obtain ⟨f8, f9⟩ : ((r17.toInt = 1 → 0 ≤ p1.toInt ∧ p1.toInt ≤ (g 9).toInt)) ∧ ((0 ≤ r17.toInt ∧ r17.toInt ≤ 1)) := hq17
      have hx17 := pwq (fn_isStage (upd (upd g 1 c1_g1) 23 c1_g23) (upF F 22 c1_F22) p1 hMI17) hc17
      obtain ⟨p17_0, p17_1⟩ : ((r17.toInt ≠ 0 → 0 ≤ p1.toInt ∧ p1.toInt ≤ (g 9).toInt)) ∧ ((r17.toInt = 0 → ¬ (0 ≤ p1.toInt ∧ p1.toInt ≤ (g 9).toInt))) := hx17
      refine pw_ite (fun c20 => ?_) (fun c20 => ?_)
      · have c20 := congrArg Int32.toInt c20
        refine pw_j0 ej28 ?_
        have qq0 : (¬ (isw (F 0) (g 1).toInt ∧ 0 ≤ p0.toInt ∧ p0.toInt ≤ p1.toInt ∧ p1.toInt ≤ (g 9).toInt) → (-2 : Int32).toInt = -2 ∧ (g 44) = (g 44) ∧ (F 42) = (F 42) ∧ (F 43) = (F 43)) := by intro _; exact ⟨by omega, rfl, rfl, rfl⟩
        have qq1 : (isw (F 0) (g 1).toInt ∧ 0 ≤ p0.toInt ∧ p0.toInt ≤ p1.toInt ∧ p1.toInt ≤ (g 9).toInt → (-2 : Int32).toInt = (((thF d (Int32.toNatClampNeg p0) (Int32.toNatClampNeg p1 - Int32.toNatClampNeg p0) [(wdl (F 0) 0 (Int32.toNatClampNeg (g 1)))]).length : Nat) : Int) ∧ rwW (g 44) (F 42) (F 43) 24 = thF d (Int32.toNatClampNeg p0) (Int32.toNatClampNeg p1 - Int32.toNatClampNeg p0) [(wdl (F 0) 0 (Int32.toNatClampNeg (g 1)))]) := by intro h; exfalso; have h2 := h.2; exact p17_1 (by omega) ⟨by omega, by omega⟩
        exact pw_some ⟨qq0, qq1⟩
      · have c20 := z_ne c20
        refine pw_ite (fun c25 => ?_) (fun c25 => ?_)
        · have c25 := (z_le _ _).mp c25
          obtain ⟨i1, i2, i3⟩ := p1_0 (by omega)
          have s1 := p9_0 (by omega)
          have s2 := p17_0 (by omega)
          have cp0 := clampI (x := p0) (by omega)
          have cp1 := clampI (x := p1) (by omega)
          have i1a := i1.1
          have cg1 := clampI (x := g 1) (by omega)
          have hMI34 : id (MInv (upd (upd g 1 c1_g1) 23 c1_g23) (upF F 22 c1_F22)) := show MInv (upd (upd g 1 c1_g1) 23 c1_g23) (upF F 22 c1_F22) from (MInv_i hg1 ((hI9.2.1)) ((hI9.2.2.1)) ((hI9.2.2.2.1)) ((hI9.2.2.2.2.1)) ((hI9.2.2.2.2.2.1)) ((hI9.2.2.2.2.2.2.1)) ((hI9.2.2.2.2.2.2.2.1)) hzg9 hg2 ((hI9.2.2.2.2.2.2.2.2.2.2.1)) ((hI9.2.2.2.2.2.2.2.2.2.2.2.1)) ((hI9.2.2.2.2.2.2.2.2.2.2.2.2.1)) ((hI9.2.2.2.2.2.2.2.2.2.2.2.2.2.1)) ((hI9.2.2.2.2.2.2.2.2.2.2.2.2.2.2.1)) hzg44 ((hI9.2.2.2.2.2.2.2.2.2.2.2.2.2.2.2.2.1)) ((hI9.2.2.2.2.2.2.2.2.2.2.2.2.2.2.2.2.2.1)) ((hI9.2.2.2.2.2.2.2.2.2.2.2.2.2.2.2.2.2.2.1)) ((hI9.2.2.2.2.2.2.2.2.2.2.2.2.2.2.2.2.2.2.2.1)) ((hI9.2.2.2.2.2.2.2.2.2.2.2.2.2.2.2.2.2.2.2.2.1)) ((hI9.2.2.2.2.2.2.2.2.2.2.2.2.2.2.2.2.2.2.2.2.2.1)) ((hI9.2.2.2.2.2.2.2.2.2.2.2.2.2.2.2.2.2.2.2.2.2.2.1)) ((hI9.2.2.2.2.2.2.2.2.2.2.2.2.2.2.2.2.2.2.2.2.2.2.2.1)) ((hI9.2.2.2.2.2.2.2.2.2.2.2.2.2.2.2.2.2.2.2.2.2.2.2.2.1)) hzF11 hzF12 hzF13 hzF15 hzF19 hzF21 hzF24 hzF25 hzF26 hzF33 hzF38 hzF41 hzF43 hzF45 hzF46 hzF50 hzF53 hzF54 hzLQ)
          have hpr34_0 : (0 ≤ p0.toInt ∧ p0.toInt ≤ 6) := by first | assumption | omega
          have hpr34_1 : p1.toInt ≤ (g 9).toInt := by first | assumption | omega
          refine pw_b19 (fun c34_g23 c34_g27 c34_g30 c34_g34 c34_g36 c34_g39 c34_F22 c34_F24 c34_F25 c34_F26 c34_F28 c34_F29 c34_F31 c34_F32 c34_F33 c34_F37 c34_F38 c34_F40 c34_F41 hc34 => ?_)
          have hq34 := wp_at (ok_through (upd (upd g 1 c1_g1) 23 c1_g23) (upF F 22 c1_F22) p0 p1 hMI34 hpr34_0 hpr34_1) hc34
          obtain ⟨hg10, hg11, hg12, hg13, hg14, hg15, hg16, hg17, hg18, hg19, hg20, hg21⟩ : (((0) ≤ c34_g23.toInt ∧ c34_g23.toInt ≤ 24)) ∧ (((0) ≤ c34_g27.toInt ∧ c34_g27.toInt ≤ 30)) ∧ (((0) ≤ c34_g30.toInt ∧ c34_g30.toInt ≤ 384)) ∧ (((0) ≤ c34_g34.toInt ∧ c34_g34.toInt ≤ 30)) ∧ (((0) ≤ c34_g36.toInt ∧ c34_g36.toInt ≤ 1)) ∧ (((0) ≤ c34_g39.toInt ∧ c34_g39.toInt ≤ 12)) ∧ (rng (0) 24 c34_F24) ∧ (rng (0) 24 c34_F25) ∧ (rng (0) 24 c34_F26) ∧ (rng (0) 24 c34_F33) ∧ (rng (0) 24 c34_F38) ∧ (rng (0) 24 c34_F41) := hq34
          have h834_hrv : id (∀ q : Nat, p0.toInt ≤ (q : Int) → (q : Int) < p1.toInt → RVd (F 13) (F 20) (F 21) (F 12) (F 18) (F 19) (F 11) (F 14) (F 15) (F 16) (F 17) q = d q ∧ WFD (d q)) := show ∀ q : Nat, p0.toInt ≤ (q : Int) → (q : Int) < p1.toInt → RVd (F 13) (F 20) (F 21) (F 12) (F 18) (F 19) (F 11) (F 14) (F 15) (F 16) (F 17) q = d q ∧ WFD (d q) from by exact fun q h1 h2 => hrd q (by omega)
          have h834_hW : wdl c1_F22 0 (Int32.toNatClampNeg c1_g23) = (wdl (F 0) 0 (Int32.toNatClampNeg (g 1))) := by exact i3
          have h834_hl1 : 1 ≤ c1_g23.toInt := by omega
          have h834_hbw : BW (wdl (F 0) 0 (Int32.toNatClampNeg (g 1))) := by intro y hy; unfold wdl at hy; obtain ⟨j, _, rfl⟩ := List.mem_map.mp hy; exact fit_id (hfit _)
          have hx34 := pwq (fn_through (upd (upd g 1 c1_g1) 23 c1_g23) (upF F 22 c1_F22) p0 p1 (d) (wdl (F 0) 0 (Int32.toNatClampNeg (g 1))) hMI34 hpr34_0 hpr34_1 h834_hrv h834_hW h834_hl1 h834_hbw) hc34
          obtain ⟨p34_0, p34_1⟩ : (rwW c34_g39 c34_F37 c34_F38 24 = thF d (Int32.toNatClampNeg p0) (Int32.toNatClampNeg p1 - Int32.toNatClampNeg p0) [(wdl (F 0) 0 (Int32.toNatClampNeg (g 1)))]) ∧ (WDS (thF d (Int32.toNatClampNeg p0) (Int32.toNatClampNeg p1 - Int32.toNatClampNeg p0) [(wdl (F 0) 0 (Int32.toNatClampNeg (g 1)))])) := hx34
          have hnr : WDS (rwW c34_g39 c34_F37 c34_F38 24) := by rw [p34_0]; exact p34_1
          have hb39 := hg15
          have c39 := clampI (x := c34_g39) (by omega)
          have hnl := congrArg List.length p34_0
          rw [rw_len] at hnl
          have hg22 : ((0) ≤ c34_g39.toInt ∧ c34_g39.toInt ≤ 12) := ⟨by omega, by omega⟩
          have lp47 : ∀ (n47 : Nat) (y47_3 : Int32) (d47_F42 : (Nat → Int32)) (d47_F43 : (Nat → Int32)), rng (0) 24 d47_F43 → (0 ≤ y47_3.toInt ∧ y47_3.toInt ≤ 12) → y47_3.toInt ≤ c34_g39.toInt → (∀ j, j < Int32.toNatClampNeg y47_3 → d47_F43 j = c34_F38 j) → (∀ j i, j < Int32.toNatClampNeg y47_3 → i < Int32.toNatClampNeg (c34_F38 j) → d47_F42 (24 * j + i) = vp_nar .byte (c34_F37 (24 * j + i))) → pw (L_turn_47 c1_g1 c34_g23 c34_g27 c34_g30 c34_g34 c34_g36 c34_g39 c34_F22 c34_F24 c34_F25 c34_F26 c34_F28 c34_F29 c34_F31 c34_F32 c34_F33 c34_F37 c34_F38 c34_F40 c34_F41 n47 y47_3 d47_F42 d47_F43) (QF_turn g F p0 p1 d) := by
            intro n47
            induction n47 with
            | zero => intros; exact pw_none
            | succ n47 ih47 =>
              intro y47_3 d47_F42 d47_F43 hg23 f24 f25 ca47 cb47
              show pw (B_turn_47 c1_g1 c34_g23 c34_g27 c34_g30 c34_g34 c34_g36 c34_g39 c34_F22 c34_F24 c34_F25 c34_F26 c34_F28 c34_F29 c34_F31 c34_F32 c34_F33 c34_F37 c34_F38 c34_F40 c34_F41 (L_turn_47 c1_g1 c34_g23 c34_g27 c34_g30 c34_g34 c34_g36 c34_g39 c34_F22 c34_F24 c34_F25 c34_F26 c34_F28 c34_F29 c34_F31 c34_F32 c34_F33 c34_F37 c34_F38 c34_F40 c34_F41 n47) y47_3 d47_F42 d47_F43) _
              unfold B_turn_47
              refine pw_ite (fun c52 => ?_) (fun c52 => ?_)
              · have c52 := (z_le _ _).mp c52
                have qq0 : (¬ (isw (F 0) (g 1).toInt ∧ 0 ≤ p0.toInt ∧ p0.toInt ≤ p1.toInt ∧ p1.toInt ≤ (g 9).toInt) → c34_g39.toInt = -2 ∧ c34_g39 = (g 44) ∧ d47_F42 = (F 42) ∧ d47_F43 = (F 43)) := by intro h; exfalso; exact h ⟨i1, by omega, by omega, by omega⟩
                have qq1 : (isw (F 0) (g 1).toInt ∧ 0 ≤ p0.toInt ∧ p0.toInt ≤ p1.toInt ∧ p1.toInt ≤ (g 9).toInt → c34_g39.toInt = (((thF d (Int32.toNatClampNeg p0) (Int32.toNatClampNeg p1 - Int32.toNatClampNeg p0) [(wdl (F 0) 0 (Int32.toNatClampNeg (g 1)))]).length : Nat) : Int) ∧ rwW c34_g39 d47_F42 d47_F43 24 = thF d (Int32.toNatClampNeg p0) (Int32.toNatClampNeg p1 - Int32.toNatClampNeg p0) [(wdl (F 0) 0 (Int32.toNatClampNeg (g 1)))]) := by intro _; have k3 := clampI (x := y47_3) (by omega); refine ⟨by omega, ?_⟩; rw [← p34_0]; exact rw_cp hnr (fun j hj => ca47 j (by omega)) (fun j i hj hi => cb47 j i (by omega) hi)
                exact pw_some ⟨qq0, qq1⟩
              · have c52 := z_nle c52
                have k3 := clampI (x := y47_3) (by omega)
                have hsn := wds_sz hnr (j := Int32.toNatClampNeg y47_3) (by omega)
                have kn : (c34_F38 (Int32.toNatClampNeg y47_3)).toInt = ((Int32.toNatClampNeg (c34_F38 (Int32.toNatClampNeg y47_3)) : Nat) : Int) := by have h9 : Int32.toNatClampNeg (c34_F38 (Int32.toNatClampNeg y47_3)) = (c34_F38 (Int32.toNatClampNeg y47_3)).toInt.toNat := rfl; omega
                refine pw_if (fun hb65 => ?_)
                obtain ⟨hbl65, hbr65⟩ := hb65
                have f26 := hg20 (Int32.toNatClampNeg y47_3)
                refine pw_if (fun hb66 => ?_)
                obtain ⟨hbl66, hbr66⟩ := hb66
                refine pw_vl (fun w66 ew66 => ?_)
                have hF27 : rng (0) 24 w66 := by rw [ew66]; exact rng_upd hg23 (by omega) (by omega)
                refine pw_jE (fun k111 ek111 => ?_)
                have lp70 : ∀ (n70 : Nat) (y70_4 : Int32) (d70_F42 : (Nat → Int32)), 0 ≤ y70_4.toInt → y70_4.toInt ≤ (c34_F38 (Int32.toNatClampNeg y47_3)).toInt → (∀ i, i < Int32.toNatClampNeg y70_4 → d70_F42 (24 * Int32.toNatClampNeg y47_3 + i) = vp_nar .byte (c34_F37 (24 * Int32.toNatClampNeg y47_3 + i))) → (∀ q, q < 24 * Int32.toNatClampNeg y47_3 → d70_F42 q = d47_F42 q) → pw (L_turn_70 c34_F37 c34_F38 y47_3 k111 n70 y70_4 d70_F42) (QF_turn g F p0 p1 d) := by
                  intro n70
                  induction n70 with
                  | zero => intros; exact pw_none
                  | succ n70 ih70 =>
                    intro y70_4 d70_F42 f28 f29 dn70 do70
                    show pw (B_turn_70 c34_F37 c34_F38 y47_3 k111 (L_turn_70 c34_F37 c34_F38 y47_3 k111 n70) y70_4 d70_F42) _
                    unfold B_turn_70
                    refine pw_if (fun hb77 => ?_)
                    obtain ⟨hbl77, hbr77⟩ := hb77
                    refine pw_ite (fun c78 => ?_) (fun c78 => ?_)
                    · have c78 := (z_le _ _).mp c78
                      refine pw_j1 ek111 (fun z111_1 ez111_1 => ?_)
                      subst ez111_1
                      have f31 : (y47_3 + 1).toInt = y47_3.toInt + (1) := z_addc (by decide +kernel) (by omega) (by omega)
                      have iv47_0 : (0 ≤ (y47_3 + 1).toInt ∧ (y47_3 + 1).toInt ≤ 12) := by omega
                      have iv47_1 : (y47_3 + 1).toInt ≤ c34_g39.toInt := by omega
                      have iv47_2 : (∀ j, j < Int32.toNatClampNeg (y47_3 + 1) → w66 j = c34_F38 j) := by have k3 := clampI (x := y47_3) (by omega); have k6 := clampI (x := y47_3 + 1) (by omega); intro j hj; by_cases q9 : j = Int32.toNatClampNeg y47_3; (rw [q9, ew66, pk_us]); (rw [ew66, pk_un q9]; exact ca47 j (by omega))
                      have iv47_3 : (∀ j i, j < Int32.toNatClampNeg (y47_3 + 1) → i < Int32.toNatClampNeg (c34_F38 j) → d70_F42 (24 * j + i) = vp_nar .byte (c34_F37 (24 * j + i))) := by have k3 := clampI (x := y47_3) (by omega); have k6 := clampI (x := y47_3 + 1) (by omega); intro j i hj hi; by_cases q9 : j = Int32.toNatClampNeg y47_3; (subst q9; exact dn70 i (by have k7 := clampI (x := y70_4) (by omega); omega)); (rw [do70 (24 * j + i) (by have h9 := (wds_sz hnr (j := j) (by omega)).2; omega)]; exact cb47 j i (by omega) hi)
                      exact ih47 (y47_3 + 1) d70_F42 w66 hF27 iv47_0 iv47_1 iv47_2 iv47_3
                    · have c78 := z_nle c78
                      have f32 : (24 * y47_3).toInt = 24 * y47_3.toInt := z_muld (by decide +kernel) (by omega) (by omega)
                      have f33 : ((24 * y47_3) + y70_4).toInt = (24 * y47_3).toInt + y70_4.toInt := z_add (by omega) (by omega)
                      refine pw_if (fun hb103 => ?_)
                      obtain ⟨hbl103, hbr103⟩ := hb103
                      refine pw_if (fun hb104 => ?_)
                      obtain ⟨hbl104, hbr104⟩ := hb104
                      refine pw_vl (fun w104 ew104 => ?_)
                      have f36 : (y70_4 + 1).toInt = y70_4.toInt + (1) := z_addc (by decide +kernel) (by omega) (by omega)
                      have iv70_0 : 0 ≤ (y70_4 + 1).toInt := by omega
                      have iv70_1 : (y70_4 + 1).toInt ≤ (c34_F38 (Int32.toNatClampNeg y47_3)).toInt := by omega
                      have iv70_2 : (∀ i, i < Int32.toNatClampNeg (y70_4 + 1) → w104 (24 * Int32.toNatClampNeg y47_3 + i) = vp_nar .byte (c34_F37 (24 * Int32.toNatClampNeg y47_3 + i))) := by have k4 := clampI (x := y70_4) (by omega); have kd := clampI (x := (24 * y47_3) + y70_4) (by omega); have k7 := clampI (x := y70_4 + 1) (by omega); intro i hi; by_cases q9 : i = Int32.toNatClampNeg y70_4; (rw [q9, show 24 * Int32.toNatClampNeg y47_3 + Int32.toNatClampNeg y70_4 = Int32.toNatClampNeg ((24 * y47_3) + y70_4) by omega, ew104, pk_us]); (rw [ew104, pk_un (by omega)]; exact dn70 i (by omega))
                      have iv70_3 : (∀ q, q < 24 * Int32.toNatClampNeg y47_3 → w104 q = d47_F42 q) := by have k4 := clampI (x := y70_4) (by omega); have kd := clampI (x := (24 * y47_3) + y70_4) (by omega); intro q hq; rw [ew104, pk_un (by omega)]; exact do70 q hq
                      exact ih70 (y70_4 + 1) w104 iv70_0 iv70_1 iv70_2 iv70_3
                exact lp70 NN (0 : Int32) d47_F42 (show 0 ≤ (0 : Int32).toInt from by omega) (show (0 : Int32).toInt ≤ (c34_F38 (Int32.toNatClampNeg y47_3)).toInt from by omega) (show (∀ i, i < Int32.toNatClampNeg (0 : Int32) → d47_F42 (24 * Int32.toNatClampNeg y47_3 + i) = vp_nar .byte (c34_F37 (24 * Int32.toNatClampNeg y47_3 + i))) from by intro i hi; exact absurd hi (Nat.not_lt_zero _)) (show (∀ q, q < 24 * Int32.toNatClampNeg y47_3 → d47_F42 q = d47_F42 q) from by intro q hq; rfl)
          exact lp47 NN (0 : Int32) (F 42) (F 43) hzF43 (show (0 ≤ (0 : Int32).toInt ∧ (0 : Int32).toInt ≤ 12) from by omega) (show (0 : Int32).toInt ≤ c34_g39.toInt from by omega) (show (∀ j, j < Int32.toNatClampNeg (0 : Int32) → (F 43) j = c34_F38 j) from by intro j hj; exact absurd hj (Nat.not_lt_zero _)) (show (∀ j i, j < Int32.toNatClampNeg (0 : Int32) → i < Int32.toNatClampNeg (c34_F38 j) → (F 42) (24 * j + i) = vp_nar .byte (c34_F37 (24 * j + i))) from by intro j i hj; exact absurd hj (Nat.not_lt_zero _))
        · have c25 := z_nle c25
          refine pw_j0 ej28 ?_
          have qq0 : (¬ (isw (F 0) (g 1).toInt ∧ 0 ≤ p0.toInt ∧ p0.toInt ≤ p1.toInt ∧ p1.toInt ≤ (g 9).toInt) → (-2 : Int32).toInt = -2 ∧ (g 44) = (g 44) ∧ (F 42) = (F 42) ∧ (F 43) = (F 43)) := by intro _; exact ⟨by omega, rfl, rfl, rfl⟩
          have qq1 : (isw (F 0) (g 1).toInt ∧ 0 ≤ p0.toInt ∧ p0.toInt ≤ p1.toInt ∧ p1.toInt ≤ (g 9).toInt → (-2 : Int32).toInt = (((thF d (Int32.toNatClampNeg p0) (Int32.toNatClampNeg p1 - Int32.toNatClampNeg p0) [(wdl (F 0) 0 (Int32.toNatClampNeg (g 1)))]).length : Nat) : Int) ∧ rwW (g 44) (F 42) (F 43) 24 = thF d (Int32.toNatClampNeg p0) (Int32.toNatClampNeg p1 - Int32.toNatClampNeg p0) [(wdl (F 0) 0 (Int32.toNatClampNeg (g 1)))]) := by intro h; exfalso; have h2 := h.2; omega
          exact pw_some ⟨qq0, qq1⟩