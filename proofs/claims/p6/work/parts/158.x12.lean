abbrev QF_partings (g : Nat → Int32) (F : Nat → Nat → Int32) (p0 : Int32) (d : Nat → Dr) : (Int32 × Int32 × Int32 × Int32 × Int32 × (Nat → Int32) × (Nat → Int32) × (Nat → Int32) × (Nat → Int32) × (Nat → Int32) × (Nat → Int32) × (Nat → Int32)) → Prop := (fun t => ((¬ (isw (F 0) (g 1).toInt ∧ 0 ≤ p0.toInt ∧ p0.toInt < (g 9).toInt) → (t.1).toInt = -2 ∧ (t.2.2.2.2.1) = (g 47) ∧ (t.2.2.2.2.2.2.2.2.2.2.1) = (F 45) ∧ (t.2.2.2.2.2.2.2.2.2.2.2) = (F 46))) ∧ ((isw (F 0) (g 1).toInt ∧ 0 ≤ p0.toInt ∧ p0.toInt < (g 9).toInt → lkE (d (Int32.toNatClampNeg p0)).1 (wdl (F 0) 0 (Int32.toNatClampNeg (g 1))) = some none → (t.1).toInt = -10 ∧ (t.2.2.2.2.1) = (g 47) ∧ (t.2.2.2.2.2.2.2.2.2.2.1) = (F 45) ∧ (t.2.2.2.2.2.2.2.2.2.2.2) = (F 46))) ∧ ((isw (F 0) (g 1).toInt ∧ 0 ≤ p0.toInt ∧ p0.toInt < (g 9).toInt → ∀ v, lkE (d (Int32.toNatClampNeg p0)).1 (wdl (F 0) 0 (Int32.toNatClampNeg (g 1))) = some (some v) → (t.1).toInt = -11 ∧ (t.2.2.2.2.1) = (g 47) ∧ (t.2.2.2.2.2.2.2.2.2.2.1) = (F 45) ∧ (t.2.2.2.2.2.2.2.2.2.2.2) = (F 46))) ∧ ((isw (F 0) (g 1).toInt ∧ 0 ≤ p0.toInt ∧ p0.toInt < (g 9).toInt → lkE (d (Int32.toNatClampNeg p0)).1 (wdl (F 0) 0 (Int32.toNatClampNeg (g 1))) = none → (t.1).toInt = (((cwF (d (Int32.toNatClampNeg p0)) (wdl (F 0) 0 (Int32.toNatClampNeg (g 1)))).length : Nat) : Int) ∧ RWS lenP (t.2.2.2.2.1).toInt (t.2.2.2.2.2.2.2.2.2.2.2) (t.2.2.2.2.2.2.2.2.2.2.1) (cwF (d (Int32.toNatClampNeg p0)) (wdl (F 0) 0 (Int32.toNatClampNeg (g 1)))))))
set_option maxHeartbeats 4000000 in
set_option maxRecDepth 100000 in
theorem fn_partings (g : Nat → Int32) (F : Nat → Nat → Int32) (p0 : Int32) (d : Nat → Dr) (hI : MInv g F) (hrd : ∀ q, q < Int32.toNatClampNeg (g 9) → RVf F q = d q ∧ WFD (d q)) (hfit : ∀ i, fits .byte (.int ((F 0) i)) = true) : pw (f_partings g F p0) (QF_partings g F p0 d) := by
  unfold f_partings
  have hI9 : id (MInv g F) := hI
  obtain ⟨hzg1, -, -, -, -, -, -, -, hzg9, -, -, -, -, -, -, -, hzg47, -, -, -, -, -, -, -, -, hzF11, hzF12, hzF13, hzF15, hzF19, hzF21, hzF24, hzF25, hzF26, hzF33, hzF38, hzF41, hzF43, hzF45, hzF46, hzF50, hzF53, hzF54, hzLQ⟩ := hI
  have zkm11 : (-11 : Int32).toInt = -11 := by decide +kernel
  have zkm10 : (-10 : Int32).toInt = -10 := by decide +kernel
  have zkm2 : (-2 : Int32).toInt = -2 := by decide +kernel
  have zkm1 : (-1 : Int32).toInt = -1 := by decide +kernel
  have zk0 : (0 : Int32).toInt = 0 := by decide +kernel
  have zk1 : (1 : Int32).toInt = 1 := by decide +kernel
  have zk2 : (2 : Int32).toInt = 2 := by decide +kernel
  have zk24 : (24 : Int32).toInt = 24 := by decide +kernel
  have hb9 := hzg9
  have c9 := clampI (x := g 9) (by omega)
  have hMI1 : id (MInv g F) := show MInv g F from (MInv_i hzg1 ((hI9.2.1)) ((hI9.2.2.1)) ((hI9.2.2.2.1)) ((hI9.2.2.2.2.1)) ((hI9.2.2.2.2.2.1)) ((hI9.2.2.2.2.2.2.1)) ((hI9.2.2.2.2.2.2.2.1)) hzg9 ((hI9.2.2.2.2.2.2.2.2.2.1)) ((hI9.2.2.2.2.2.2.2.2.2.2.1)) ((hI9.2.2.2.2.2.2.2.2.2.2.2.1)) ((hI9.2.2.2.2.2.2.2.2.2.2.2.2.1)) ((hI9.2.2.2.2.2.2.2.2.2.2.2.2.2.1)) ((hI9.2.2.2.2.2.2.2.2.2.2.2.2.2.2.1)) ((hI9.2.2.2.2.2.2.2.2.2.2.2.2.2.2.2.1)) hzg47 ((hI9.2.2.2.2.2.2.2.2.2.2.2.2.2.2.2.2.2.1)) ((hI9.2.2.2.2.2.2.2.2.2.2.2.2.2.2.2.2.2.2.1)) ((hI9.2.2.2.2.2.2.2.2.2.2.2.2.2.2.2.2.2.2.2.1)) ((hI9.2.2.2.2.2.2.2.2.2.2.2.2.2.2.2.2.2.2.2.2.1)) ((hI9.2.2.2.2.2.2.2.2.2.2.2.2.2.2.2.2.2.2.2.2.2.1)) ((hI9.2.2.2.2.2.2.2.2.2.2.2.2.2.2.2.2.2.2.2.2.2.2.1)) ((hI9.2.2.2.2.2.2.2.2.2.2.2.2.2.2.2.2.2.2.2.2.2.2.2.1)) ((hI9.2.2.2.2.2.2.2.2.2.2.2.2.2.2.2.2.2.2.2.2.2.2.2.2.1)) hzF11 hzF12 hzF13 hzF15 hzF19 hzF21 hzF24 hzF25 hzF26 hzF33 hzF38 hzF41 hzF43 hzF45 hzF46 hzF50 hzF53 hzF54 hzLQ)
  refine pw_b4 (fun r1 c1_g1 c1_g23 c1_F22 hc1 => ?_)
  have hq1 := wp_at (ok_readWord g F hMI1) hc1
  obtain ⟨hg1, hg2, f3, f4, f5⟩ : (((0) ≤ c1_g1.toInt ∧ c1_g1.toInt ≤ 2000)) ∧ (((0) ≤ c1_g23.toInt ∧ c1_g23.toInt ≤ 24)) ∧ (c1_g1.toInt = 0) ∧ (id ((r1.toInt = 1 → 1 ≤ c1_g23.toInt))) ∧ ((0 ≤ r1.toInt ∧ r1.toInt ≤ 1)) := hq1
  have h81_hfit : ∀ i, fits .byte (.int ((F 0) i)) = true := by exact hfit
  have hx1 := pwq (fn_readWord g F hMI1 h81_hfit) hc1
  obtain ⟨p1_0, p1_1⟩ : (id ((r1.toInt ≠ 0 → isw (F 0) (g 1).toInt ∧ c1_g23.toInt = (g 1).toInt ∧ wdl c1_F22 0 (Int32.toNatClampNeg c1_g23) = wdl (F 0) 0 (Int32.toNatClampNeg (g 1))))) ∧ (id ((r1.toInt = 0 → ¬ isw (F 0) (g 1).toInt))) := hx1
  refine pw_jE (fun j21 ej21 => ?_)
  refine pw_ite (fun c4 => ?_) (fun c4 => ?_)
  · have c4 := congrArg Int32.toInt c4
    refine pw_j0 ej21 ?_
    have qq0 : (¬ (isw (F 0) (g 1).toInt ∧ 0 ≤ p0.toInt ∧ p0.toInt < (g 9).toInt) → (-2 : Int32).toInt = -2 ∧ (g 47) = (g 47) ∧ (F 45) = (F 45) ∧ (F 46) = (F 46)) := by intro _; exact ⟨by omega, rfl, rfl, rfl⟩
    have qq1 : (isw (F 0) (g 1).toInt ∧ 0 ≤ p0.toInt ∧ p0.toInt < (g 9).toInt → lkE (d (Int32.toNatClampNeg p0)).1 (wdl (F 0) 0 (Int32.toNatClampNeg (g 1))) = some none → (-2 : Int32).toInt = -10 ∧ (g 47) = (g 47) ∧ (F 45) = (F 45) ∧ (F 46) = (F 46)) := by intro h; exfalso; exact p1_1 (by omega) h.1
    have qq2 : (isw (F 0) (g 1).toInt ∧ 0 ≤ p0.toInt ∧ p0.toInt < (g 9).toInt → ∀ v, lkE (d (Int32.toNatClampNeg p0)).1 (wdl (F 0) 0 (Int32.toNatClampNeg (g 1))) = some (some v) → (-2 : Int32).toInt = -11 ∧ (g 47) = (g 47) ∧ (F 45) = (F 45) ∧ (F 46) = (F 46)) := by intro h; exfalso; exact p1_1 (by omega) h.1
    have qq3 : (isw (F 0) (g 1).toInt ∧ 0 ≤ p0.toInt ∧ p0.toInt < (g 9).toInt → lkE (d (Int32.toNatClampNeg p0)).1 (wdl (F 0) 0 (Int32.toNatClampNeg (g 1))) = none → (-2 : Int32).toInt = (((cwF (d (Int32.toNatClampNeg p0)) (wdl (F 0) 0 (Int32.toNatClampNeg (g 1)))).length : Nat) : Int) ∧ RWS lenP (g 47).toInt (F 46) (F 45) (cwF (d (Int32.toNatClampNeg p0)) (wdl (F 0) 0 (Int32.toNatClampNeg (g 1))))) := by intro h; exfalso; exact p1_1 (by omega) h.1
    exact pw_some ⟨qq0, qq1, qq2, qq3⟩
  · have c4 := z_ne c4
    have f6 : ((g 9) - 1).toInt = (g 9).toInt - 1 := z_subc (by decide +kernel) (by omega) (by omega)
    refine pw_b1 (fun r15 hc15 => ?_)
    have hq15 := wp_at (ok_in p0 (0 : Int32) ((g 9) - 1) ) hc15
    obtain ⟨f7, f8, f9⟩ : ((r15.toInt = 1 → (0 : Int32).toInt ≤ p0.toInt ∧ p0.toInt ≤ ((g 9) - 1).toInt)) ∧ ((r15.toInt = 0 → p0.toInt < (0 : Int32).toInt ∨ ((g 9) - 1).toInt < p0.toInt)) ∧ ((0 ≤ r15.toInt ∧ r15.toInt ≤ 1)) := hq15
    refine pw_ite (fun c18 => ?_) (fun c18 => ?_)
    · have c18 := congrArg Int32.toInt c18
      refine pw_j0 ej21 ?_
      have qq0 : (¬ (isw (F 0) (g 1).toInt ∧ 0 ≤ p0.toInt ∧ p0.toInt < (g 9).toInt) → (-2 : Int32).toInt = -2 ∧ (g 47) = (g 47) ∧ (F 45) = (F 45) ∧ (F 46) = (F 46)) := by intro _; exact ⟨by omega, rfl, rfl, rfl⟩
      have qq1 : (isw (F 0) (g 1).toInt ∧ 0 ≤ p0.toInt ∧ p0.toInt < (g 9).toInt → lkE (d (Int32.toNatClampNeg p0)).1 (wdl (F 0) 0 (Int32.toNatClampNeg (g 1))) = some none → (-2 : Int32).toInt = -10 ∧ (g 47) = (g 47) ∧ (F 45) = (F 45) ∧ (F 46) = (F 46)) := by intro h; exfalso; have h2 := h.2; omega
      have qq2 : (isw (F 0) (g 1).toInt ∧ 0 ≤ p0.toInt ∧ p0.toInt < (g 9).toInt → ∀ v, lkE (d (Int32.toNatClampNeg p0)).1 (wdl (F 0) 0 (Int32.toNatClampNeg (g 1))) = some (some v) → (-2 : Int32).toInt = -11 ∧ (g 47) = (g 47) ∧ (F 45) = (F 45) ∧ (F 46) = (F 46)) := by intro h; exfalso; have h2 := h.2; omega
      have qq3 : (isw (F 0) (g 1).toInt ∧ 0 ≤ p0.toInt ∧ p0.toInt < (g 9).toInt → lkE (d (Int32.toNatClampNeg p0)).1 (wdl (F 0) 0 (Int32.toNatClampNeg (g 1))) = none → (-2 : Int32).toInt = (((cwF (d (Int32.toNatClampNeg p0)) (wdl (F 0) 0 (Int32.toNatClampNeg (g 1)))).length : Nat) : Int) ∧ RWS lenP (g 47).toInt (F 46) (F 45) (cwF (d (Int32.toNatClampNeg p0)) (wdl (F 0) 0 (Int32.toNatClampNeg (g 1))))) := by intro h; exfalso; have h2 := h.2; omega
      exact pw_some ⟨qq0, qq1, qq2, qq3⟩
    · have c18 := z_ne c18
      obtain ⟨i1, i2, i3⟩ := p1_0 (by omega)
      have cp0 := clampI (x := p0) (by omega)
      obtain ⟨hd, hwf⟩ := hrd (Int32.toNatClampNeg p0) (by omega)
      have hd1 : (d (Int32.toNatClampNeg p0)).1 = entR ((F 13) (Int32.toNatClampNeg p0)) (F 20) (F 21) (80 * Int32.toNatClampNeg p0) := by rw [← hd]; rfl
      have hd2 : (d (Int32.toNatClampNeg p0)).2.1 = prtR ((F 12) (Int32.toNatClampNeg p0)) (F 18) (F 19) (40 * Int32.toNatClampNeg p0) := by rw [← hd]; rfl
      have hMI26 : id (MInv (upd (upd g 1 c1_g1) 23 c1_g23) (upF F 22 c1_F22)) := show MInv (upd (upd g 1 c1_g1) 23 c1_g23) (upF F 22 c1_F22) from (MInv_i hg1 ((hI9.2.1)) ((hI9.2.2.1)) ((hI9.2.2.2.1)) ((hI9.2.2.2.2.1)) ((hI9.2.2.2.2.2.1)) ((hI9.2.2.2.2.2.2.1)) ((hI9.2.2.2.2.2.2.2.1)) hzg9 hg2 ((hI9.2.2.2.2.2.2.2.2.2.2.1)) ((hI9.2.2.2.2.2.2.2.2.2.2.2.1)) ((hI9.2.2.2.2.2.2.2.2.2.2.2.2.1)) ((hI9.2.2.2.2.2.2.2.2.2.2.2.2.2.1)) ((hI9.2.2.2.2.2.2.2.2.2.2.2.2.2.2.1)) ((hI9.2.2.2.2.2.2.2.2.2.2.2.2.2.2.2.1)) hzg47 ((hI9.2.2.2.2.2.2.2.2.2.2.2.2.2.2.2.2.2.1)) ((hI9.2.2.2.2.2.2.2.2.2.2.2.2.2.2.2.2.2.2.1)) ((hI9.2.2.2.2.2.2.2.2.2.2.2.2.2.2.2.2.2.2.2.1)) ((hI9.2.2.2.2.2.2.2.2.2.2.2.2.2.2.2.2.2.2.2.2.1)) ((hI9.2.2.2.2.2.2.2.2.2.2.2.2.2.2.2.2.2.2.2.2.2.1)) ((hI9.2.2.2.2.2.2.2.2.2.2.2.2.2.2.2.2.2.2.2.2.2.2.1)) ((hI9.2.2.2.2.2.2.2.2.2.2.2.2.2.2.2.2.2.2.2.2.2.2.2.1)) ((hI9.2.2.2.2.2.2.2.2.2.2.2.2.2.2.2.2.2.2.2.2.2.2.2.2.1)) hzF11 hzF12 hzF13 hzF15 hzF19 hzF21 hzF24 hzF25 hzF26 hzF33 hzF38 hzF41 hzF43 hzF45 hzF46 hzF50 hzF53 hzF54 hzLQ)
      have hpr26_0 : (0 ≤ p0.toInt ∧ p0.toInt ≤ 6) := by first | assumption | omega
      refine pw_b1 (fun r26 hc26 => ?_)
      have hq26 := wp_at (ok_listedAs (upd (upd g 1 c1_g1) 23 c1_g23) (upF F 22 c1_F22) p0 hMI26 hpr26_0) hc26
      have f10 : (r26.toInt = -1 ∨ (40 * p0.toInt ≤ r26.toInt ∧ r26.toInt < 40 * p0.toInt + 40)) := hq26
      clear hq26
      have h826_hes : entR ((F 13) (Int32.toNatClampNeg p0)) (F 20) (F 21) (80 * Int32.toNatClampNeg p0) = ((d (Int32.toNatClampNeg p0)).1) := by exact hd1.symm
      have h826_hW : wdl c1_F22 0 (Int32.toNatClampNeg c1_g23) = (wdl (F 0) 0 (Int32.toNatClampNeg (g 1))) := by exact i3
      have h826_hne : id (∀ e, e ∈ ((d (Int32.toNatClampNeg p0)).1) → e.1 ≠ []) := show ∀ e, e ∈ ((d (Int32.toNatClampNeg p0)).1) → e.1 ≠ [] from by exact fun e he => (hwf.1 e he).1
      have hx26 := pwq (fn_listedAs (upd (upd g 1 c1_g1) 23 c1_g23) (upF F 22 c1_F22) p0 ((d (Int32.toNatClampNeg p0)).1) (wdl (F 0) 0 (Int32.toNatClampNeg (g 1))) hMI26 hpr26_0 h826_hes h826_hW h826_hne) hc26
      obtain ⟨p26_0, p26_1⟩ : (id ((r26.toInt = -1 → lkE ((d (Int32.toNatClampNeg p0)).1) (wdl (F 0) 0 (Int32.toNatClampNeg (g 1))) = none))) ∧ (id ((r26.toInt ≠ -1 → 40 * p0.toInt ≤ r26.toInt ∧ r26.toInt < 40 * p0.toInt + ((F 13) (Int32.toNatClampNeg p0)).toInt ∧ ∃ e, ((d (Int32.toNatClampNeg p0)).1)[Int32.toNatClampNeg r26 - 40 * Int32.toNatClampNeg p0]? = some e ∧ e.1 = (wdl (F 0) 0 (Int32.toNatClampNeg (g 1))) ∧ lkE ((d (Int32.toNatClampNeg p0)).1) (wdl (F 0) 0 (Int32.toNatClampNeg (g 1))) = some e.2))) := hx26
      refine pw_ite (fun c32 => ?_) (fun c32 => ?_)
      · have c32 := congrArg Int32.toInt c32
        have hMI59 : id (MInv (upd (upd g 1 c1_g1) 23 c1_g23) (upF F 22 c1_F22)) := show MInv (upd (upd g 1 c1_g1) 23 c1_g23) (upF F 22 c1_F22) from (MInv_i hg1 ((hI9.2.1)) ((hI9.2.2.1)) ((hI9.2.2.2.1)) ((hI9.2.2.2.2.1)) ((hI9.2.2.2.2.2.1)) ((hI9.2.2.2.2.2.2.1)) ((hI9.2.2.2.2.2.2.2.1)) hzg9 hg2 ((hI9.2.2.2.2.2.2.2.2.2.2.1)) ((hI9.2.2.2.2.2.2.2.2.2.2.2.1)) ((hI9.2.2.2.2.2.2.2.2.2.2.2.2.1)) ((hI9.2.2.2.2.2.2.2.2.2.2.2.2.2.1)) ((hI9.2.2.2.2.2.2.2.2.2.2.2.2.2.2.1)) ((hI9.2.2.2.2.2.2.2.2.2.2.2.2.2.2.2.1)) hzg47 ((hI9.2.2.2.2.2.2.2.2.2.2.2.2.2.2.2.2.2.1)) ((hI9.2.2.2.2.2.2.2.2.2.2.2.2.2.2.2.2.2.2.1)) ((hI9.2.2.2.2.2.2.2.2.2.2.2.2.2.2.2.2.2.2.2.1)) ((hI9.2.2.2.2.2.2.2.2.2.2.2.2.2.2.2.2.2.2.2.2.1)) ((hI9.2.2.2.2.2.2.2.2.2.2.2.2.2.2.2.2.2.2.2.2.2.1)) ((hI9.2.2.2.2.2.2.2.2.2.2.2.2.2.2.2.2.2.2.2.2.2.2.1)) ((hI9.2.2.2.2.2.2.2.2.2.2.2.2.2.2.2.2.2.2.2.2.2.2.2.1)) ((hI9.2.2.2.2.2.2.2.2.2.2.2.2.2.2.2.2.2.2.2.2.2.2.2.2.1)) hzF11 hzF12 hzF13 hzF15 hzF19 hzF21 hzF24 hzF25 hzF26 hzF33 hzF38 hzF41 hzF43 hzF45 hzF46 hzF50 hzF53 hzF54 hzLQ)
        have hpr59_0 : (0 ≤ p0.toInt ∧ p0.toInt ≤ 6) := by first | assumption | omega
        refine pw_b5 (fun c59_g27 c59_F24 c59_F25 c59_F26 c59_F28 hc59 => ?_)
        have hq59 := wp_at (ok_makeWays (upd (upd g 1 c1_g1) 23 c1_g23) (upF F 22 c1_F22) p0 hMI59 hpr59_0) hc59
        obtain ⟨hg11, hg12, hg13, hg14, f15⟩ : (((0) ≤ c59_g27.toInt ∧ c59_g27.toInt ≤ 30)) ∧ (rng (0) 24 c59_F24) ∧ (rng (0) 24 c59_F25) ∧ (rng (0) 24 c59_F26) ∧ (WS c59_F25 c59_F26 c59_g27) := hq59
        have h859_hps : prtR ((F 12) (Int32.toNatClampNeg p0)) (F 18) (F 19) (40 * Int32.toNatClampNeg p0) = ((d (Int32.toNatClampNeg p0)).2.1) := by exact hd2.symm
        have h859_hW : wdl c1_F22 0 (Int32.toNatClampNeg c1_g23) = (wdl (F 0) 0 (Int32.toNatClampNeg (g 1))) := by exact i3
        have h859_hl1 : 1 ≤ c1_g23.toInt := by have h9 := i1.1; omega
        have hx59 := pwq (fn_makeWays (upd (upd g 1 c1_g1) 23 c1_g23) (upF F 22 c1_F22) p0 ((d (Int32.toNatClampNeg p0)).2.1) (wdl (F 0) 0 (Int32.toNatClampNeg (g 1))) hMI59 hpr59_0 h859_hps h859_hW h859_hl1) hc59
        have p59_0 : RWS lenP c59_g27.toInt c59_F26 c59_F25 ((wy ((d (Int32.toNatClampNeg p0)).2.1) (wdl (F 0) 0 (Int32.toNatClampNeg (g 1))) 0).take 30) := hx59
        clear hx59
        obtain ⟨hr1, hr2⟩ := p59_0.1
        have hrow : ∀ k : Nat, (k : Int) < c59_g27.toInt → 0 ≤ (c59_F26 k).toInt ∧ (c59_F26 k).toInt ≤ 24 := fun k hk => by obtain ⟨w, hw⟩ := get_ex (l := (wy (d (Int32.toNatClampNeg p0)).2.1 (wdl (F 0) 0 (Int32.toNatClampNeg (g 1))) 0).take 30) (i := k) (by omega); obtain ⟨a1, a2, a3⟩ := p59_0.2 k w hw; omega
        have hg16 : ((0) ≤ c59_g27.toInt ∧ c59_g27.toInt ≤ 30) := ⟨by omega, by omega⟩
        have lp72 : ∀ (n72 : Nat) (y72_3 : Int32) (d72_F45 : (Nat → Int32)) (d72_F46 : (Nat → Int32)), rng (0) 24 d72_F45 → rng (0) 24 d72_F46 → (0 ≤ y72_3.toInt ∧ y72_3.toInt ≤ 30) → y72_3.toInt ≤ c59_g27.toInt → (∀ k : Nat, (k : Int) < y72_3.toInt → d72_F46 k = c59_F26 k) → (∀ k i : Nat, (k : Int) < y72_3.toInt → (i : Int) < (c59_F26 k).toInt → d72_F45 (24 * k + i) = c59_F25 (24 * k + i)) → pw (L_partings_72 c1_g1 c1_g23 c1_F22 c59_g27 c59_F24 c59_F25 c59_F26 c59_F28 n72 y72_3 d72_F45 d72_F46) (QF_partings g F p0 d) := by
          intro n72
          induction n72 with
          | zero => intros; exact pw_none
          | succ n72 ih72 =>
            intro y72_3 d72_F45 d72_F46 hg17 hg18 f19 f20 ia72 ib72
            show pw (B_partings_72 c1_g1 c1_g23 c1_F22 c59_g27 c59_F24 c59_F25 c59_F26 c59_F28 (L_partings_72 c1_g1 c1_g23 c1_F22 c59_g27 c59_F24 c59_F25 c59_F26 c59_F28 n72) y72_3 d72_F45 d72_F46) _
            unfold B_partings_72
            refine pw_ite (fun c77 => ?_) (fun c77 => ?_)
            · have c77 := (z_le _ _).mp c77
              have qq0 : (¬ (isw (F 0) (g 1).toInt ∧ 0 ≤ p0.toInt ∧ p0.toInt < (g 9).toInt) → c59_g27.toInt = -2 ∧ c59_g27 = (g 47) ∧ d72_F45 = (F 45) ∧ d72_F46 = (F 46)) := by intro h; exfalso; exact h ⟨i1, by omega, by omega⟩
              have qq1 : (isw (F 0) (g 1).toInt ∧ 0 ≤ p0.toInt ∧ p0.toInt < (g 9).toInt → lkE (d (Int32.toNatClampNeg p0)).1 (wdl (F 0) 0 (Int32.toNatClampNeg (g 1))) = some none → c59_g27.toInt = -10 ∧ c59_g27 = (g 47) ∧ d72_F45 = (F 45) ∧ d72_F46 = (F 46)) := by intro _ h; exfalso; rw [p26_0 (by omega)] at h; cases h
              have qq2 : (isw (F 0) (g 1).toInt ∧ 0 ≤ p0.toInt ∧ p0.toInt < (g 9).toInt → ∀ v, lkE (d (Int32.toNatClampNeg p0)).1 (wdl (F 0) 0 (Int32.toNatClampNeg (g 1))) = some (some v) → c59_g27.toInt = -11 ∧ c59_g27 = (g 47) ∧ d72_F45 = (F 45) ∧ d72_F46 = (F 46)) := by intro _ v h; exfalso; rw [p26_0 (by omega)] at h; cases h
              have qq3 : (isw (F 0) (g 1).toInt ∧ 0 ≤ p0.toInt ∧ p0.toInt < (g 9).toInt → lkE (d (Int32.toNatClampNeg p0)).1 (wdl (F 0) 0 (Int32.toNatClampNeg (g 1))) = none → c59_g27.toInt = (((cwF (d (Int32.toNatClampNeg p0)) (wdl (F 0) 0 (Int32.toNatClampNeg (g 1)))).length : Nat) : Int) ∧ RWS lenP c59_g27.toInt d72_F46 d72_F45 (cwF (d (Int32.toNatClampNeg p0)) (wdl (F 0) 0 (Int32.toNatClampNeg (g 1))))) := by intro _ _; exact ⟨hr1, RWS_cp p59_0 (fun k hk => ia72 k (by omega)) (fun k i hk hi => ib72 k i (by omega) hi)⟩
              exact pw_some ⟨qq0, qq1, qq2, qq3⟩
            · have c77 := z_nle c77
              have hrk := hrow (Int32.toNatClampNeg y72_3) (by have k3 := clampI (x := y72_3) (by omega); omega)
              refine pw_if (fun hb90 => ?_)
              obtain ⟨hbl90, hbr90⟩ := hb90
              have f21 := hg14 (Int32.toNatClampNeg y72_3)
              refine pw_if (fun hb91 => ?_)
              obtain ⟨hbl91, hbr91⟩ := hb91
              refine pw_vl (fun w91 ew91 => ?_)
              have hF22 : rng (0) 24 w91 := by rw [ew91]; exact rng_upd hg18 (by omega) (by omega)
              refine pw_jE (fun k136 ek136 => ?_)
              have lp95 : ∀ (n95 : Nat) (y95_4 : Int32) (d95_F45 : (Nat → Int32)), rng (0) 24 d95_F45 → 0 ≤ y95_4.toInt → y95_4.toInt ≤ (c59_F26 (Int32.toNatClampNeg y72_3)).toInt → (∀ i : Nat, (i : Int) < y95_4.toInt → d95_F45 (24 * Int32.toNatClampNeg y72_3 + i) = c59_F25 (24 * Int32.toNatClampNeg y72_3 + i)) → (∀ q, q < 24 * Int32.toNatClampNeg y72_3 → d95_F45 q = d72_F45 q) → pw (L_partings_95 c59_F25 c59_F26 y72_3 k136 n95 y95_4 d95_F45) (QF_partings g F p0 d) := by
                intro n95
                induction n95 with
                | zero => intros; exact pw_none
                | succ n95 ih95 =>
                  intro y95_4 d95_F45 hg23 f24 f25 jn95 jo95
                  show pw (B_partings_95 c59_F25 c59_F26 y72_3 k136 (L_partings_95 c59_F25 c59_F26 y72_3 k136 n95) y95_4 d95_F45) _
                  unfold B_partings_95
                  refine pw_if (fun hb102 => ?_)
                  obtain ⟨hbl102, hbr102⟩ := hb102
                  refine pw_ite (fun c103 => ?_) (fun c103 => ?_)
                  · have c103 := (z_le _ _).mp c103
                    refine pw_j1 ek136 (fun z136_1 ez136_1 => ?_)
                    subst ez136_1
                    have f27 : (y72_3 + 1).toInt = y72_3.toInt + (1) := z_addc (by decide +kernel) (by omega) (by omega)
                    have iv72_0 : (0 ≤ (y72_3 + 1).toInt ∧ (y72_3 + 1).toInt ≤ 30) := by omega
                    have iv72_1 : (y72_3 + 1).toInt ≤ c59_g27.toInt := by omega
                    have iv72_2 : (∀ k : Nat, (k : Int) < (y72_3 + 1).toInt → w91 k = c59_F26 k) := by have k3 := clampI (x := y72_3) (by omega); intro k hk; by_cases q : k = Int32.toNatClampNeg y72_3; (rw [q, ew91, pk_us]); (rw [ew91, pk_un q]; exact ia72 k (by omega))
                    have iv72_3 : (∀ k i : Nat, (k : Int) < (y72_3 + 1).toInt → (i : Int) < (c59_F26 k).toInt → d95_F45 (24 * k + i) = c59_F25 (24 * k + i)) := by have k3 := clampI (x := y72_3) (by omega); intro k i hk hi; by_cases q : k = Int32.toNatClampNeg y72_3; (subst q; exact jn95 i (by omega)); (rw [jo95 (24 * k + i) (by have := (hrow k (by omega)).2; omega)]; exact ib72 k i (by omega) hi)
                    exact ih72 (y72_3 + 1) d95_F45 w91 hg23 hF22 iv72_0 iv72_1 iv72_2 iv72_3
                  · have c103 := z_nle c103
                    have f28 : (24 * y72_3).toInt = 24 * y72_3.toInt := z_muld (by decide +kernel) (by omega) (by omega)
                    have f29 : ((24 * y72_3) + y95_4).toInt = (24 * y72_3).toInt + y95_4.toInt := z_add (by omega) (by omega)
                    refine pw_if (fun hb128 => ?_)
                    obtain ⟨hbl128, hbr128⟩ := hb128
                    have f32 := hg13 (Int32.toNatClampNeg ((24 * y72_3) + y95_4))
                    refine pw_if (fun hb129 => ?_)
                    obtain ⟨hbl129, hbr129⟩ := hb129
                    refine pw_vl (fun w129 ew129 => ?_)
                    have hF33 : rng (0) 24 w129 := by rw [ew129]; exact rng_upd hg23 (by omega) (by omega)
                    have f34 : (y95_4 + 1).toInt = y95_4.toInt + (1) := z_addc (by decide +kernel) (by omega) (by omega)
                    have iv95_0 : 0 ≤ (y95_4 + 1).toInt := by omega
                    have iv95_1 : (y95_4 + 1).toInt ≤ (c59_F26 (Int32.toNatClampNeg y72_3)).toInt := by omega
                    have iv95_2 : (∀ i : Nat, (i : Int) < (y95_4 + 1).toInt → w129 (24 * Int32.toNatClampNeg y72_3 + i) = c59_F25 (24 * Int32.toNatClampNeg y72_3 + i)) := by have k3 := clampI (x := y72_3) (by omega); have k4 := clampI (x := y95_4) (by omega); have ki := clampI (x := (24 * y72_3) + y95_4) (by omega); intro i hi; by_cases q : (i : Int) < y95_4.toInt; (rw [ew129, pk_un (by omega)]; exact jn95 i q); (rw [show 24 * Int32.toNatClampNeg y72_3 + i = Int32.toNatClampNeg ((24 * y72_3) + y95_4) by omega, ew129, pk_us])
                    have iv95_3 : (∀ q, q < 24 * Int32.toNatClampNeg y72_3 → w129 q = d72_F45 q) := by have k3 := clampI (x := y72_3) (by omega); have ki := clampI (x := (24 * y72_3) + y95_4) (by omega); intro q hq; rw [ew129, pk_un (by omega)]; exact jo95 q hq
                    exact ih95 (y95_4 + 1) w129 hF33 iv95_0 iv95_1 iv95_2 iv95_3
              exact lp95 NN (0 : Int32) d72_F45 hg17 (show 0 ≤ (0 : Int32).toInt from by omega) (show (0 : Int32).toInt ≤ (c59_F26 (Int32.toNatClampNeg y72_3)).toInt from by omega) (show (∀ i : Nat, (i : Int) < (0 : Int32).toInt → d72_F45 (24 * Int32.toNatClampNeg y72_3 + i) = c59_F25 (24 * Int32.toNatClampNeg y72_3 + i)) from by intro i hi; omega) (show (∀ q, q < 24 * Int32.toNatClampNeg y72_3 → d72_F45 q = d72_F45 q) from by intro q hq; rfl)
        exact lp72 NN (0 : Int32) (F 45) (F 46) hzF45 hzF46 (show (0 ≤ (0 : Int32).toInt ∧ (0 : Int32).toInt ≤ 30) from by omega) (show (0 : Int32).toInt ≤ c59_g27.toInt from by omega) (show (∀ k : Nat, (k : Int) < (0 : Int32).toInt → (F 46) k = c59_F26 k) from by intro k hk; omega) (show (∀ k i : Nat, (k : Int) < (0 : Int32).toInt → (i : Int) < (c59_F26 k).toInt → (F 45) (24 * k + i) = c59_F25 (24 * k + i)) from by intro k i hk hi; omega)
      · have c32 := z_ne c32
        obtain ⟨q1, q2, e, e2, e3, e4⟩ := p26_1 (by omega)
        have cr := clampI (x := r26) (by omega)
        rw [hd1] at e2
        obtain ⟨k1, k2, k3⟩ := entR_at e2
        have f2r : (2 * r26).toInt = 2 * r26.toInt := z_muld (by decide +kernel) (by omega) (by omega)
        have f2s : ((2 * r26) + 1).toInt = (2 * r26).toInt + 1 := z_addc (by decide +kernel) (by omega) (by omega)
        have ci := clampI (x := (2 * r26) + 1) (by omega)
        rw [show 80 * Int32.toNatClampNeg p0 + 2 * (Int32.toNatClampNeg r26 - 40 * Int32.toNatClampNeg p0) + 1 = Int32.toNatClampNeg ((2 * r26) + 1) by omega] at k2 k3
        have f35 : (2 * r26).toInt = 2 * r26.toInt := z_muld (by decide +kernel) (by omega) (by omega)
        have f36 : ((2 * r26) + 1).toInt = (2 * r26).toInt + 1 := z_addc (by decide +kernel) (by omega) (by omega)
        refine pw_if (fun hb44 => ?_)
        obtain ⟨hbl44, hbr44⟩ := hb44
        have f37 := hzF21 (Int32.toNatClampNeg ((2 * r26) + 1))
        refine pw_jE (fun j56 ej56 => ?_)
        refine pw_ite (fun c46 => ?_) (fun c46 => ?_)
        · have c46 := congrArg Int32.toInt c46
          refine pw_j1 ej56 (fun t56_0 et56_0 => ?_)
          have et56_0 := et56_0.symm
          have f_t56_0 : t56_0.toInt = (-10) := by rw [et56_0]; decide +kernel
          have qq0 : (¬ (isw (F 0) (g 1).toInt ∧ 0 ≤ p0.toInt ∧ p0.toInt < (g 9).toInt) → t56_0.toInt = -2 ∧ (g 47) = (g 47) ∧ (F 45) = (F 45) ∧ (F 46) = (F 46)) := by intro h; exfalso; exact h ⟨i1, by omega, by omega⟩
          have qq1 : (isw (F 0) (g 1).toInt ∧ 0 ≤ p0.toInt ∧ p0.toInt < (g 9).toInt → lkE (d (Int32.toNatClampNeg p0)).1 (wdl (F 0) 0 (Int32.toNatClampNeg (g 1))) = some none → t56_0.toInt = -10 ∧ (g 47) = (g 47) ∧ (F 45) = (F 45) ∧ (F 46) = (F 46)) := by intro _ _; exact ⟨by omega, rfl, rfl, rfl⟩
          have qq2 : (isw (F 0) (g 1).toInt ∧ 0 ≤ p0.toInt ∧ p0.toInt < (g 9).toInt → ∀ v, lkE (d (Int32.toNatClampNeg p0)).1 (wdl (F 0) 0 (Int32.toNatClampNeg (g 1))) = some (some v) → t56_0.toInt = -11 ∧ (g 47) = (g 47) ∧ (F 45) = (F 45) ∧ (F 46) = (F 46)) := by intro _ v h; exfalso; rw [e4, k2 (by omega)] at h; cases h
          have qq3 : (isw (F 0) (g 1).toInt ∧ 0 ≤ p0.toInt ∧ p0.toInt < (g 9).toInt → lkE (d (Int32.toNatClampNeg p0)).1 (wdl (F 0) 0 (Int32.toNatClampNeg (g 1))) = none → t56_0.toInt = (((cwF (d (Int32.toNatClampNeg p0)) (wdl (F 0) 0 (Int32.toNatClampNeg (g 1)))).length : Nat) : Int) ∧ RWS lenP (g 47).toInt (F 46) (F 45) (cwF (d (Int32.toNatClampNeg p0)) (wdl (F 0) 0 (Int32.toNatClampNeg (g 1))))) := by intro _ h; exfalso; rw [e4] at h; cases h
          exact pw_some ⟨qq0, qq1, qq2, qq3⟩
        · have c46 := z_ne c46
          refine pw_j1 ej56 (fun t56_0 et56_0 => ?_)
          have et56_0 := et56_0.symm
          have f_t56_0 : t56_0.toInt = (-11) := by rw [et56_0]; decide +kernel
          have qq0 : (¬ (isw (F 0) (g 1).toInt ∧ 0 ≤ p0.toInt ∧ p0.toInt < (g 9).toInt) → t56_0.toInt = -2 ∧ (g 47) = (g 47) ∧ (F 45) = (F 45) ∧ (F 46) = (F 46)) := by intro h; exfalso; exact h ⟨i1, by omega, by omega⟩
          have qq1 : (isw (F 0) (g 1).toInt ∧ 0 ≤ p0.toInt ∧ p0.toInt < (g 9).toInt → lkE (d (Int32.toNatClampNeg p0)).1 (wdl (F 0) 0 (Int32.toNatClampNeg (g 1))) = some none → t56_0.toInt = -10 ∧ (g 47) = (g 47) ∧ (F 45) = (F 45) ∧ (F 46) = (F 46)) := by intro _ h; exfalso; rw [e4, k3 (by omega)] at h; cases h
          have qq2 : (isw (F 0) (g 1).toInt ∧ 0 ≤ p0.toInt ∧ p0.toInt < (g 9).toInt → ∀ v, lkE (d (Int32.toNatClampNeg p0)).1 (wdl (F 0) 0 (Int32.toNatClampNeg (g 1))) = some (some v) → t56_0.toInt = -11 ∧ (g 47) = (g 47) ∧ (F 45) = (F 45) ∧ (F 46) = (F 46)) := by intro _ _ _; exact ⟨by omega, rfl, rfl, rfl⟩
          have qq3 : (isw (F 0) (g 1).toInt ∧ 0 ≤ p0.toInt ∧ p0.toInt < (g 9).toInt → lkE (d (Int32.toNatClampNeg p0)).1 (wdl (F 0) 0 (Int32.toNatClampNeg (g 1))) = none → t56_0.toInt = (((cwF (d (Int32.toNatClampNeg p0)) (wdl (F 0) 0 (Int32.toNatClampNeg (g 1)))).length : Nat) : Int) ∧ RWS lenP (g 47).toInt (F 46) (F 45) (cwF (d (Int32.toNatClampNeg p0)) (wdl (F 0) 0 (Int32.toNatClampNeg (g 1))))) := by intro _ h; exfalso; rw [e4] at h; cases h
          exact pw_some ⟨qq0, qq1, qq2, qq3⟩