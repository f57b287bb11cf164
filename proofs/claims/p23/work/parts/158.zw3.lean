abbrev QF_write (g : Nat → Int32) (F : Nat → Nat → Int32) (p0 : Int32) (p1 : Int32) (d : Nat → Dr) : (Int32 × Int32 × Int32 × Int32 × Int32 × Int32 × Int32 × Int32 × Int32 × Int32 × Int32 × (Nat → Int32) × (Nat → Int32) × (Nat → Int32) × (Nat → Int32) × (Nat → Int32) × (Nat → Int32) × (Nat → Int32) × (Nat → Int32) × (Nat → Int32) × (Nat → Int32) × (Nat → Int32) × (Nat → Int32) × (Nat → Int32) × (Nat → Int32) × (Nat → Int32) × (Nat → Int32) × (Nat → Int32)) → Prop := (fun t => ((¬ (0 ≤ p0.toInt ∧ p0.toInt ≤ p1.toInt ∧ p1.toInt ≤ (g 9).toInt) → (t.1).toInt = -2 ∧ (t.2.2.2.2.2.2.2.2.1) = (g 62) ∧ (t.2.2.2.2.2.2.2.2.2.2.2.2.2.2.2.2.2.2.2.2.2.2.2.2.1) = (F 60) ∧ (t.2.2.2.2.2.2.2.2.2.2.2.2.2.2.2.2.2.2.2.2.2.2.2.2.2.2.1) = (F 63) ∧ (t.2.2.2.2.2.2.2.2.2.1) = (g 65))) ∧ (((0 ≤ p0.toInt ∧ p0.toInt ≤ p1.toInt ∧ p1.toInt ≤ (g 9).toInt) → ¬ (NZR (F 0) (Int32.toNatClampNeg (g 1)) ∧ (wcR (F 0) (Int32.toNatClampNeg (g 1)) d (Int32.toNatClampNeg p0) (Int32.toNatClampNeg p1 - Int32.toNatClampNeg p0) 0 false ([], tz0)).1.length ≤ 2500) → (t.1).toInt = -1 ∧ (t.2.2.2.2.2.2.2.2.1) = (g 62) ∧ (t.2.2.2.2.2.2.2.2.2.2.2.2.2.2.2.2.2.2.2.2.2.2.2.2.1) = (F 60) ∧ (t.2.2.2.2.2.2.2.2.2.2.2.2.2.2.2.2.2.2.2.2.2.2.2.2.2.2.1) = (F 63) ∧ (t.2.2.2.2.2.2.2.2.2.1) = (g 65))) ∧ (((0 ≤ p0.toInt ∧ p0.toInt ≤ p1.toInt ∧ p1.toInt ≤ (g 9).toInt) → NZR (F 0) (Int32.toNatClampNeg (g 1)) → (wcR (F 0) (Int32.toNatClampNeg (g 1)) d (Int32.toNatClampNeg p0) (Int32.toNatClampNeg p1 - Int32.toNatClampNeg p0) 0 false ([], tz0)).1.length ≤ 2500 → (t.1).toInt = (((wcR (F 0) (Int32.toNatClampNeg (g 1)) d (Int32.toNatClampNeg p0) (Int32.toNatClampNeg p1 - Int32.toNatClampNeg p0) 0 false ([], tz0)).1.length : Nat) : Int) ∧ (t.2.2.2.2.2.2.2.2.1) = (t.1) ∧ wdl (t.2.2.2.2.2.2.2.2.2.2.2.2.2.2.2.2.2.2.2.2.2.2.2.2.1) 0 (Int32.toNatClampNeg (t.2.2.2.2.2.2.2.2.1)) = (wcR (F 0) (Int32.toNatClampNeg (g 1)) d (Int32.toNatClampNeg p0) (Int32.toNatClampNeg p1 - Int32.toNatClampNeg p0) 0 false ([], tz0)).1 ∧ TYA (t.2.2.2.2.2.2.2.2.2.2.2.2.2.2.2.2.2.2.2.2.2.2.2.2.2.2.1) (wcR (F 0) (Int32.toNatClampNeg (g 1)) d (Int32.toNatClampNeg p0) (Int32.toNatClampNeg p1 - Int32.toNatClampNeg p0) 0 false ([], tz0)).2 ∧ (t.2.2.2.2.2.2.2.2.2.1).toInt ≠ 0)))
set_option maxHeartbeats 4000000 in
set_option maxRecDepth 100000 in
theorem fn_write (g : Nat → Int32) (F : Nat → Nat → Int32) (p0 : Int32) (p1 : Int32) (d : Nat → Dr) (hI : MInv g F) (hrd : ∀ q, q < Int32.toNatClampNeg (g 9) → RVd (F 13) (F 20) (F 21) (F 12) (F 18) (F 19) (F 11) (F 14) (F 15) (F 16) (F 17) q = d q ∧ WFD (d q)) (hfit : ∀ i, fits .byte (.int ((F 0) i)) = true) : pw (f_write g F p0 p1) (QF_write g F p0 p1 d) := by
  unfold f_write
  have hI9 : id (MInv g F) := hI
  obtain ⟨hzg1, -, -, -, -, -, -, -, hzg9, hzg23, hzg27, hzg30, hzg34, hzg36, hzg39, -, -, -, -, -, -, hzg62, hzg65, -, -, hzF11, hzF12, hzF13, hzF15, hzF19, hzF21, hzF24, hzF25, hzF26, hzF33, hzF38, hzF41, hzF43, hzF45, hzF46, hzF50, hzF53, hzF54, hzLQ⟩ := hI
  have zkm2 : (-2 : Int32).toInt = -2 := by decide +kernel
  have zkm1 : (-1 : Int32).toInt = -1 := by decide +kernel
  have zk0 : (0 : Int32).toInt = 0 := by decide +kernel
  have zk1 : (1 : Int32).toInt = 1 := by decide +kernel
  have zk5 : (5 : Int32).toInt = 5 := by decide +kernel
  have zk34 : (34 : Int32).toInt = 34 := by decide +kernel
  have hb9 := hzg9
  have c9 := clampI (x := g 9) (by omega)
  have hb1 := hzg1
  have c1 := clampI (x := g 1) (by omega)
  have hg1 : ((0) ≤ (0 : Int32).toInt ∧ (0 : Int32).toInt ≤ 2000) := ⟨by omega, by omega⟩
  have hMI12 : id (MInv (upd g 1 0) F) := show MInv (upd g 1 0) F from (MInv_i hg1 ((hI9.2.1)) ((hI9.2.2.1)) ((hI9.2.2.2.1)) ((hI9.2.2.2.2.1)) ((hI9.2.2.2.2.2.1)) ((hI9.2.2.2.2.2.2.1)) ((hI9.2.2.2.2.2.2.2.1)) hzg9 hzg23 hzg27 hzg30 hzg34 hzg36 hzg39 ((hI9.2.2.2.2.2.2.2.2.2.2.2.2.2.2.2.1)) ((hI9.2.2.2.2.2.2.2.2.2.2.2.2.2.2.2.2.1)) ((hI9.2.2.2.2.2.2.2.2.2.2.2.2.2.2.2.2.2.1)) ((hI9.2.2.2.2.2.2.2.2.2.2.2.2.2.2.2.2.2.2.1)) ((hI9.2.2.2.2.2.2.2.2.2.2.2.2.2.2.2.2.2.2.2.1)) ((hI9.2.2.2.2.2.2.2.2.2.2.2.2.2.2.2.2.2.2.2.2.1)) hzg62 hzg65 ((hI9.2.2.2.2.2.2.2.2.2.2.2.2.2.2.2.2.2.2.2.2.2.2.2.1)) ((hI9.2.2.2.2.2.2.2.2.2.2.2.2.2.2.2.2.2.2.2.2.2.2.2.2.1)) hzF11 hzF12 hzF13 hzF15 hzF19 hzF21 hzF24 hzF25 hzF26 hzF33 hzF38 hzF41 hzF43 hzF45 hzF46 hzF50 hzF53 hzF54 hzLQ)
  refine pw_b1 (fun r12 hc12 => ?_)
  have hq12 := wp_at (ok_isStage (upd g 1 0) F p0 hMI12) hc12
  obtain ⟨f2, f3⟩ : ((r12.toInt = 1 → 0 ≤ p0.toInt ∧ p0.toInt ≤ (g 9).toInt)) ∧ ((0 ≤ r12.toInt ∧ r12.toInt ≤ 1)) := hq12
  have hx12 := pwq (fn_isStage (upd g 1 0) F p0 hMI12) hc12
  obtain ⟨p12_0, p12_1⟩ : ((r12.toInt ≠ 0 → 0 ≤ p0.toInt ∧ p0.toInt ≤ (g 9).toInt)) ∧ ((r12.toInt = 0 → ¬ (0 ≤ p0.toInt ∧ p0.toInt ≤ (g 9).toInt))) := hx12
  refine pw_jE (fun j31 ej31 => ?_)
  refine pw_ite (fun c15 => ?_) (fun c15 => ?_)
  · have c15 := congrArg Int32.toInt c15
    refine pw_j0 ej31 ?_
    have qq0 : (¬ (0 ≤ p0.toInt ∧ p0.toInt ≤ p1.toInt ∧ p1.toInt ≤ (g 9).toInt) → (-2 : Int32).toInt = -2 ∧ (g 62) = (g 62) ∧ (F 60) = (F 60) ∧ (F 63) = (F 63) ∧ (g 65) = (g 65)) := by intro _; exact ⟨by omega, rfl, rfl, rfl, rfl⟩
    have qq1 : ((0 ≤ p0.toInt ∧ p0.toInt ≤ p1.toInt ∧ p1.toInt ≤ (g 9).toInt) → ¬ (NZR (F 0) (Int32.toNatClampNeg (g 1)) ∧ (wcR (F 0) (Int32.toNatClampNeg (g 1)) d (Int32.toNatClampNeg p0) (Int32.toNatClampNeg p1 - Int32.toNatClampNeg p0) 0 false ([], tz0)).1.length ≤ 2500) → (-2 : Int32).toInt = -1 ∧ (g 62) = (g 62) ∧ (F 60) = (F 60) ∧ (F 63) = (F 63) ∧ (g 65) = (g 65)) := by intro h; exfalso; exact p12_1 (by omega) ⟨by omega, by omega⟩
    have qq2 : ((0 ≤ p0.toInt ∧ p0.toInt ≤ p1.toInt ∧ p1.toInt ≤ (g 9).toInt) → NZR (F 0) (Int32.toNatClampNeg (g 1)) → (wcR (F 0) (Int32.toNatClampNeg (g 1)) d (Int32.toNatClampNeg p0) (Int32.toNatClampNeg p1 - Int32.toNatClampNeg p0) 0 false ([], tz0)).1.length ≤ 2500 → (-2 : Int32).toInt = (((wcR (F 0) (Int32.toNatClampNeg (g 1)) d (Int32.toNatClampNeg p0) (Int32.toNatClampNeg p1 - Int32.toNatClampNeg p0) 0 false ([], tz0)).1.length : Nat) : Int) ∧ (g 62) = (-2 : Int32) ∧ wdl (F 60) 0 (Int32.toNatClampNeg (g 62)) = (wcR (F 0) (Int32.toNatClampNeg (g 1)) d (Int32.toNatClampNeg p0) (Int32.toNatClampNeg p1 - Int32.toNatClampNeg p0) 0 false ([], tz0)).1 ∧ TYA (F 63) (wcR (F 0) (Int32.toNatClampNeg (g 1)) d (Int32.toNatClampNeg p0) (Int32.toNatClampNeg p1 - Int32.toNatClampNeg p0) 0 false ([], tz0)).2 ∧ (g 65).toInt ≠ 0) := by intro h; exfalso; exact p12_1 (by omega) ⟨by omega, by omega⟩
    exact pw_some ⟨qq0, qq1, qq2⟩
  · have c15 := z_ne c15
    have hMI20 : id (MInv (upd g 1 0) F) := show MInv (upd g 1 0) F from (MInv_i hg1 ((hI9.2.1)) ((hI9.2.2.1)) ((hI9.2.2.2.1)) ((hI9.2.2.2.2.1)) ((hI9.2.2.2.2.2.1)) ((hI9.2.2.2.2.2.2.1)) ((hI9.2.2.2.2.2.2.2.1)) hzg9 hzg23 hzg27 hzg30 hzg34 hzg36 hzg39 ((hI9.2.2.2.2.2.2.2.2.2.2.2.2.2.2.2.1)) ((hI9.2.2.2.2.2.2.2.2.2.2.2.2.2.2.2.2.1)) ((hI9.2.2.2.2.2.2.2.2.2.2.2.2.2.2.2.2.2.1)) ((hI9.2.2.2.2.2.2.2.2.2.2.2.2.2.2.2.2.2.2.1)) ((hI9.2.2.2.2.2.2.2.2.2.2.2.2.2.2.2.2.2.2.2.1)) ((hI9.2.2.2.2.2.2.2.2.2.2.2.2.2.2.2.2.2.2.2.2.1)) hzg62 hzg65 ((hI9.2.2.2.2.2.2.2.2.2.2.2.2.2.2.2.2.2.2.2.2.2.2.2.1)) ((hI9.2.2.2.2.2.2.2.2.2.2.2.2.2.2.2.2.2.2.2.2.2.2.2.2.1)) hzF11 hzF12 hzF13 hzF15 hzF19 hzF21 hzF24 hzF25 hzF26 hzF33 hzF38 hzF41 hzF43 hzF45 hzF46 hzF50 hzF53 hzF54 hzLQ)
    refine pw_b1 (fun r20 hc20 => ?_)
    have hq20 := wp_at (ok_isStage (upd g 1 0) F p1 hMI20) hc20
    obtain ⟨f4, f5⟩ : ((r20.toInt = 1 → 0 ≤ p1.toInt ∧ p1.toInt ≤ (g 9).toInt)) ∧ ((0 ≤ r20.toInt ∧ r20.toInt ≤ 1)) := hq20
    have hx20 := pwq (fn_isStage (upd g 1 0) F p1 hMI20) hc20
    obtain ⟨p20_0, p20_1⟩ : ((r20.toInt ≠ 0 → 0 ≤ p1.toInt ∧ p1.toInt ≤ (g 9).toInt)) ∧ ((r20.toInt = 0 → ¬ (0 ≤ p1.toInt ∧ p1.toInt ≤ (g 9).toInt))) := hx20
    refine pw_ite (fun c23 => ?_) (fun c23 => ?_)
    · have c23 := congrArg Int32.toInt c23
      refine pw_j0 ej31 ?_
      have qq0 : (¬ (0 ≤ p0.toInt ∧ p0.toInt ≤ p1.toInt ∧ p1.toInt ≤ (g 9).toInt) → (-2 : Int32).toInt = -2 ∧ (g 62) = (g 62) ∧ (F 60) = (F 60) ∧ (F 63) = (F 63) ∧ (g 65) = (g 65)) := by intro _; exact ⟨by omega, rfl, rfl, rfl, rfl⟩
      have qq1 : ((0 ≤ p0.toInt ∧ p0.toInt ≤ p1.toInt ∧ p1.toInt ≤ (g 9).toInt) → ¬ (NZR (F 0) (Int32.toNatClampNeg (g 1)) ∧ (wcR (F 0) (Int32.toNatClampNeg (g 1)) d (Int32.toNatClampNeg p0) (Int32.toNatClampNeg p1 - Int32.toNatClampNeg p0) 0 false ([], tz0)).1.length ≤ 2500) → (-2 : Int32).toInt = -1 ∧ (g 62) = (g 62) ∧ (F 60) = (F 60) ∧ (F 63) = (F 63) ∧ (g 65) = (g 65)) := by intro h; exfalso; exact p20_1 (by omega) ⟨by omega, by omega⟩
      have qq2 : ((0 ≤ p0.toInt ∧ p0.toInt ≤ p1.toInt ∧ p1.toInt ≤ (g 9).toInt) → NZR (F 0) (Int32.toNatClampNeg (g 1)) → (wcR (F 0) (Int32.toNatClampNeg (g 1)) d (Int32.toNatClampNeg p0) (Int32.toNatClampNeg p1 - Int32.toNatClampNeg p0) 0 false ([], tz0)).1.length ≤ 2500 → (-2 : Int32).toInt = (((wcR (F 0) (Int32.toNatClampNeg (g 1)) d (Int32.toNatClampNeg p0) (Int32.toNatClampNeg p1 - Int32.toNatClampNeg p0) 0 false ([], tz0)).1.length : Nat) : Int) ∧ (g 62) = (-2 : Int32) ∧ wdl (F 60) 0 (Int32.toNatClampNeg (g 62)) = (wcR (F 0) (Int32.toNatClampNeg (g 1)) d (Int32.toNatClampNeg p0) (Int32.toNatClampNeg p1 - Int32.toNatClampNeg p0) 0 false ([], tz0)).1 ∧ TYA (F 63) (wcR (F 0) (Int32.toNatClampNeg (g 1)) d (Int32.toNatClampNeg p0) (Int32.toNatClampNeg p1 - Int32.toNatClampNeg p0) 0 false ([], tz0)).2 ∧ (g 65).toInt ≠ 0) := by intro h; exfalso; exact p20_1 (by omega) ⟨by omega, by omega⟩
      exact pw_some ⟨qq0, qq1, qq2⟩
    · have c23 := z_ne c23
      refine pw_ite (fun c28 => ?_) (fun c28 => ?_)
      · have c28 := (z_le _ _).mp c28
        have s1 := p12_0 (by omega)
        have s2 := p20_0 (by omega)
        have cp0 := clampI (x := p0) (by omega)
        have cp1 := clampI (x := p1) (by omega)
        have hMI36 : id (MInv (upd g 1 0) F) := show MInv (upd g 1 0) F from (MInv_i hg1 ((hI9.2.1)) ((hI9.2.2.1)) ((hI9.2.2.2.1)) ((hI9.2.2.2.2.1)) ((hI9.2.2.2.2.2.1)) ((hI9.2.2.2.2.2.2.1)) ((hI9.2.2.2.2.2.2.2.1)) hzg9 hzg23 hzg27 hzg30 hzg34 hzg36 hzg39 ((hI9.2.2.2.2.2.2.2.2.2.2.2.2.2.2.2.1)) ((hI9.2.2.2.2.2.2.2.2.2.2.2.2.2.2.2.2.1)) ((hI9.2.2.2.2.2.2.2.2.2.2.2.2.2.2.2.2.2.1)) ((hI9.2.2.2.2.2.2.2.2.2.2.2.2.2.2.2.2.2.2.1)) ((hI9.2.2.2.2.2.2.2.2.2.2.2.2.2.2.2.2.2.2.2.1)) ((hI9.2.2.2.2.2.2.2.2.2.2.2.2.2.2.2.2.2.2.2.2.1)) hzg62 hzg65 ((hI9.2.2.2.2.2.2.2.2.2.2.2.2.2.2.2.2.2.2.2.2.2.2.2.1)) ((hI9.2.2.2.2.2.2.2.2.2.2.2.2.2.2.2.2.2.2.2.2.2.2.2.2.1)) hzF11 hzF12 hzF13 hzF15 hzF19 hzF21 hzF24 hzF25 hzF26 hzF33 hzF38 hzF41 hzF43 hzF45 hzF46 hzF50 hzF53 hzF54 hzLQ)
        have hpr36_0 : (g 1).toInt ≤ 2000 := by first | assumption | omega
        refine pw_b1 (fun r36 hc36 => ?_)
        have hq36 := wp_at (ok_hasNought (upd g 1 0) F (g 1) hMI36 hpr36_0) hc36
        have f6 : (0 ≤ r36.toInt ∧ r36.toInt ≤ 1) := hq36
        clear hq36
        have hx36 := pwq (fn_hasNought (upd g 1 0) F (g 1) hMI36 hpr36_0) hc36
        obtain ⟨p36_0, p36_1⟩ : (id ((r36.toInt ≠ 0 → ¬ NZR (F 0) (Int32.toNatClampNeg (g 1))))) ∧ (id ((r36.toInt = 0 → NZR (F 0) (Int32.toNatClampNeg (g 1))))) := hx36
        refine pw_ite (fun c39 => ?_) (fun c39 => ?_)
        · have c39 := congrArg Int32.toInt c39
          have hnz := p36_1 (by omega)
          have hg7 : ((0) ≤ (0 : Int32).toInt ∧ (0 : Int32).toInt ≤ 2500) := ⟨by omega, by omega⟩
          refine pw_jE (fun k72 ek72 => ?_)
          have lp52 : ∀ (n52 : Nat) (y52_4 : Int32) (d52_F64 : (Nat → Int32)), (0 ≤ y52_4.toInt ∧ y52_4.toInt ≤ 5) → (∀ j, j < Int32.toNatClampNeg y52_4 → d52_F64 j = 0) → pw (L_write_52 k72 n52 y52_4 d52_F64) (QF_write g F p0 p1 d) := by
            intro n52
            induction n52 with
            | zero => intros; exact pw_none
            | succ n52 ih52 =>
              intro y52_4 d52_F64 f8 iz52
              show pw (B_write_52 k72 (L_write_52 k72 n52) y52_4 d52_F64) _
              unfold B_write_52
              refine pw_ite (fun c55 => ?_) (fun c55 => ?_)
              · have c55 := (z_le _ _).mp c55
                have hcz : TYA d52_F64 tz0 := TYA_0 (fun j hj => iz52 j (by have k4 := clampI (x := y52_4) (by omega); omega))
                refine pw_j1 ek72 (fun z72_1 ez72_1 => ?_)
                subst ez72_1
                refine pw_jE (fun k208 ek208 => ?_)
                have lp75 : ∀ (n75 : Nat) (y75_4 : Int32) (d75_g23 : Int32) (d75_g27 : Int32) (d75_g30 : Int32) (d75_g34 : Int32) (d75_g36 : Int32) (d75_g39 : Int32) (d75_g66 : Int32) (d75_F22 : (Nat → Int32)) (d75_F24 : (Nat → Int32)) (d75_F25 : (Nat → Int32)) (d75_F26 : (Nat → Int32)) (d75_F28 : (Nat → Int32)) (d75_F29 : (Nat → Int32)) (d75_F31 : (Nat → Int32)) (d75_F32 : (Nat → Int32)) (d75_F33 : (Nat → Int32)) (d75_F37 : (Nat → Int32)) (d75_F38 : (Nat → Int32)) (d75_F40 : (Nat → Int32)) (d75_F41 : (Nat → Int32)) (d75_F61 : (Nat → Int32)) (d75_F64 : (Nat → Int32)), ((0) ≤ d75_g23.toInt ∧ d75_g23.toInt ≤ 24) → ((0) ≤ d75_g27.toInt ∧ d75_g27.toInt ≤ 30) → ((0) ≤ d75_g30.toInt ∧ d75_g30.toInt ≤ 384) → ((0) ≤ d75_g34.toInt ∧ d75_g34.toInt ≤ 30) → ((0) ≤ d75_g36.toInt ∧ d75_g36.toInt ≤ 1) → ((0) ≤ d75_g39.toInt ∧ d75_g39.toInt ≤ 12) → ((0) ≤ d75_g66.toInt ∧ d75_g66.toInt ≤ 2500) → rng (0) 24 d75_F24 → rng (0) 24 d75_F25 → rng (0) 24 d75_F26 → rng (0) 24 d75_F33 → rng (0) 24 d75_F38 → rng (0) 24 d75_F41 → (0 ≤ y75_4.toInt ∧ y75_4.toInt ≤ (g 1).toInt) → (WIV (F 0) (Int32.toNatClampNeg (g 1)) d (Int32.toNatClampNeg p0) (Int32.toNatClampNeg p1 - Int32.toNatClampNeg p0) (Int32.toNatClampNeg y75_4) (wdl d75_F61 0 (Int32.toNatClampNeg d75_g66)) d75_F64) → (BW (wdl d75_F61 0 (Int32.toNatClampNeg d75_g66))) → pw (L_write_75 g F p0 p1 k208 n75 y75_4 d75_g23 d75_g27 d75_g30 d75_g34 d75_g36 d75_g39 d75_g66 d75_F22 d75_F24 d75_F25 d75_F26 d75_F28 d75_F29 d75_F31 d75_F32 d75_F33 d75_F37 d75_F38 d75_F40 d75_F41 d75_F61 d75_F64) (QF_write g F p0 p1 d) := by
                  intro n75
                  induction n75 with
                  | zero => intros; exact pw_none
                  | succ n75 ih75 =>
                    intro y75_4 d75_g23 d75_g27 d75_g30 d75_g34 d75_g36 d75_g39 d75_g66 d75_F22 d75_F24 d75_F25 d75_F26 d75_F28 d75_F29 d75_F31 d75_F32 d75_F33 d75_F37 d75_F38 d75_F40 d75_F41 d75_F61 d75_F64 hg9 hg10 hg11 hg12 hg13 hg14 hg15 hg16 hg17 hg18 hg19 hg20 hg21 f22 iw75 ib75
                    show pw (B_write_75 g F p0 p1 k208 (L_write_75 g F p0 p1 k208 n75) y75_4 d75_g23 d75_g27 d75_g30 d75_g34 d75_g36 d75_g39 d75_g66 d75_F22 d75_F24 d75_F25 d75_F26 d75_F28 d75_F29 d75_F31 d75_F32 d75_F33 d75_F37 d75_F38 d75_F40 d75_F41 d75_F61 d75_F64) _
                    unfold B_write_75
                    refine pw_ite (fun c78 => ?_) (fun c78 => ?_)
                    · have c78 := (z_le _ _).mp c78
                      have k4 := clampI (x := y75_4) (by omega)
                      have hfin := WIV_end iw75 (by omega)
                      have hbd := ib75
                      have hb66 := hg15
                      have c66 := clampI (x := d75_g66) (by omega)
                      refine pw_j22 ek208 (fun z208_1 ez208_1 z208_2 ez208_2 z208_3 ez208_3 z208_4 ez208_4 z208_5 ez208_5 z208_6 ez208_6 z208_7 ez208_7 z208_8 ez208_8 z208_9 ez208_9 z208_10 ez208_10 z208_11 ez208_11 z208_12 ez208_12 z208_13 ez208_13 z208_14 ez208_14 z208_15 ez208_15 z208_16 ez208_16 z208_17 ez208_17 z208_18 ez208_18 z208_19 ez208_19 z208_20 ez208_20 z208_21 ez208_21 z208_22 ez208_22 => ?_)
                      subst ez208_1 ez208_2 ez208_3 ez208_4 ez208_5 ez208_6 ez208_7 ez208_8 ez208_9 ez208_10 ez208_11 ez208_12 ez208_13 ez208_14 ez208_15 ez208_16 ez208_17 ez208_18 ez208_19 ez208_20 ez208_21 ez208_22
                      have hg23 : ((0) ≤ d75_g66.toInt ∧ d75_g66.toInt ≤ 2500) := ⟨by omega, by omega⟩
                      have hg24 : ((0) ≤ (1 : Int32).toInt ∧ (1 : Int32).toInt ≤ 1) := ⟨by omega, by omega⟩
                      refine pw_jE (fun k253 ek253 => ?_)
                      have lp224 : ∀ (n224 : Nat) (y224_5 : Int32) (d224_F60 : (Nat → Int32)), 0 ≤ y224_5.toInt → y224_5.toInt ≤ d75_g66.toInt → (wdl d224_F60 0 (Int32.toNatClampNeg y224_5) = wdl d75_F61 0 (Int32.toNatClampNeg y224_5)) → pw (L_write_224 d75_g66 d75_F61 k253 n224 y224_5 d224_F60) (QF_write g F p0 p1 d) := by
                        intro n224
                        induction n224 with
                        | zero => intros; exact pw_none
                        | succ n224 ih224 =>
                          intro y224_5 d224_F60 f25 f26 ic224
                          show pw (B_write_224 d75_g66 d75_F61 k253 (L_write_224 d75_g66 d75_F61 k253 n224) y224_5 d224_F60) _
                          unfold B_write_224
                          refine pw_ite (fun c230 => ?_) (fun c230 => ?_)
                          · have c230 := (z_le _ _).mp c230
                            have htx : wdl d224_F60 0 (Int32.toNatClampNeg d75_g66) = wdl d75_F61 0 (Int32.toNatClampNeg d75_g66) := by have k5 := clampI (x := y224_5) (by omega); have h9 := ic224; rw [show Int32.toNatClampNeg y224_5 = Int32.toNatClampNeg d75_g66 by omega] at h9; exact h9
                            refine pw_j1 ek253 (fun z253_1 ez253_1 => ?_)
                            subst ez253_1
                            have lp256 : ∀ (n256 : Nat) (y256_5 : Int32) (d256_F63 : (Nat → Int32)), (0 ≤ y256_5.toInt ∧ y256_5.toInt ≤ 5) → (∀ j, j < Int32.toNatClampNeg y256_5 → d256_F63 j = d75_F64 j) → pw (L_write_256 d75_g23 d75_g27 d75_g30 d75_g34 d75_g36 d75_g39 d75_g66 d75_F22 d75_F24 d75_F25 d75_F26 d75_F28 d75_F29 d75_F31 d75_F32 d75_F33 d75_F37 d75_F38 d75_F40 d75_F41 d75_F61 d75_F64 d224_F60 n256 y256_5 d256_F63) (QF_write g F p0 p1 d) := by
                              intro n256
                              induction n256 with
                              | zero => intros; exact pw_none
                              | succ n256 ih256 =>
                                intro y256_5 d256_F63 f27 id256
                                show pw (B_write_256 d75_g23 d75_g27 d75_g30 d75_g34 d75_g36 d75_g39 d75_g66 d75_F22 d75_F24 d75_F25 d75_F26 d75_F28 d75_F29 d75_F31 d75_F32 d75_F33 d75_F37 d75_F38 d75_F40 d75_F41 d75_F61 d75_F64 d224_F60 (L_write_256 d75_g23 d75_g27 d75_g30 d75_g34 d75_g36 d75_g39 d75_g66 d75_F22 d75_F24 d75_F25 d75_F26 d75_F28 d75_F29 d75_F31 d75_F32 d75_F33 d75_F37 d75_F38 d75_F40 d75_F41 d75_F61 d75_F64 d224_F60 n256) y256_5 d256_F63) _
                                unfold B_write_256
                                refine pw_ite (fun c259 => ?_) (fun c259 => ?_)
                                · have c259 := (z_le _ _).mp c259
                                  have qq0 : (¬ (0 ≤ p0.toInt ∧ p0.toInt ≤ p1.toInt ∧ p1.toInt ≤ (g 9).toInt) → d75_g66.toInt = -2 ∧ d75_g66 = (g 62) ∧ d224_F60 = (F 60) ∧ d256_F63 = (F 63) ∧ (1 : Int32) = (g 65)) := by intro h; exfalso; exact h ⟨by omega, by omega, by omega⟩
                                  have qq1 : ((0 ≤ p0.toInt ∧ p0.toInt ≤ p1.toInt ∧ p1.toInt ≤ (g 9).toInt) → ¬ (NZR (F 0) (Int32.toNatClampNeg (g 1)) ∧ (wcR (F 0) (Int32.toNatClampNeg (g 1)) d (Int32.toNatClampNeg p0) (Int32.toNatClampNeg p1 - Int32.toNatClampNeg p0) 0 false ([], tz0)).1.length ≤ 2500) → d75_g66.toInt = -1 ∧ d75_g66 = (g 62) ∧ d224_F60 = (F 60) ∧ d256_F63 = (F 63) ∧ (1 : Int32) = (g 65)) := by intro _ h; exfalso; refine h ⟨hnz, ?_⟩; obtain ⟨t9, h8, h9⟩ := hfin; rw [h9]; show (wdl d75_F61 0 _).length ≤ 2500; rw [wdl_len]; omega
                                  have qq2 : ((0 ≤ p0.toInt ∧ p0.toInt ≤ p1.toInt ∧ p1.toInt ≤ (g 9).toInt) → NZR (F 0) (Int32.toNatClampNeg (g 1)) → (wcR (F 0) (Int32.toNatClampNeg (g 1)) d (Int32.toNatClampNeg p0) (Int32.toNatClampNeg p1 - Int32.toNatClampNeg p0) 0 false ([], tz0)).1.length ≤ 2500 → d75_g66.toInt = (((wcR (F 0) (Int32.toNatClampNeg (g 1)) d (Int32.toNatClampNeg p0) (Int32.toNatClampNeg p1 - Int32.toNatClampNeg p0) 0 false ([], tz0)).1.length : Nat) : Int) ∧ d75_g66 = d75_g66 ∧ wdl d224_F60 0 (Int32.toNatClampNeg d75_g66) = (wcR (F 0) (Int32.toNatClampNeg (g 1)) d (Int32.toNatClampNeg p0) (Int32.toNatClampNeg p1 - Int32.toNatClampNeg p0) 0 false ([], tz0)).1 ∧ TYA d256_F63 (wcR (F 0) (Int32.toNatClampNeg (g 1)) d (Int32.toNatClampNeg p0) (Int32.toNatClampNeg p1 - Int32.toNatClampNeg p0) 0 false ([], tz0)).2 ∧ (1 : Int32).toInt ≠ 0) := by intro _ _ _; obtain ⟨t9, h8, h9⟩ := hfin; rw [h9]; refine ⟨?_, rfl, htx, TYA_cp h8 (fun j hj => id256 j (by have k5 := clampI (x := y256_5) (by omega); omega)), by omega⟩; show _ = ((wdl d75_F61 0 _).length : Int); rw [wdl_len]; omega
                                  exact pw_some ⟨qq0, qq1, qq2⟩
                                · have c259 := z_nle c259
                                  refine pw_if (fun hb274 => ?_)
                                  obtain ⟨hbl274, hbr274⟩ := hb274
                                  refine pw_if (fun hb275 => ?_)
                                  obtain ⟨hbl275, hbr275⟩ := hb275
                                  refine pw_vl (fun w275 ew275 => ?_)
                                  have f28 : (y256_5 + 1).toInt = y256_5.toInt + (1) := z_addc (by decide +kernel) (by omega) (by omega)
                                  have iv256_0 : (0 ≤ (y256_5 + 1).toInt ∧ (y256_5 + 1).toInt ≤ 5) := by omega
                                  have iv256_1 : (∀ j, j < Int32.toNatClampNeg (y256_5 + 1) → w275 j = d75_F64 j) := by have k5 := clampI (x := y256_5) (by omega); have k6 := clampI (x := y256_5 + 1) (by omega); intro j hj; by_cases q9 : j = Int32.toNatClampNeg y256_5; (rw [q9, ew275, pk_us]); (rw [ew275, pk_un q9]; exact id256 j (by omega))
                                  exact ih256 (y256_5 + 1) w275 iv256_0 iv256_1
                            exact lp256 NN (0 : Int32) (F 63) (show (0 ≤ (0 : Int32).toInt ∧ (0 : Int32).toInt ≤ 5) from by omega) (show (∀ j, j < Int32.toNatClampNeg (0 : Int32) → (F 63) j = d75_F64 j) from by intro j hj; exact absurd hj (Nat.not_lt_zero _))
                          · have c230 := z_nle c230
                            refine pw_if (fun hb245 => ?_)
                            obtain ⟨hbl245, hbr245⟩ := hb245
                            refine pw_if (fun hb246 => ?_)
                            obtain ⟨hbl246, hbr246⟩ := hb246
                            refine pw_vl (fun w246 ew246 => ?_)
                            have f29 : (y224_5 + 1).toInt = y224_5.toInt + (1) := z_addc (by decide +kernel) (by omega) (by omega)
                            have iv224_0 : 0 ≤ (y224_5 + 1).toInt := by omega
                            have iv224_1 : (y224_5 + 1).toInt ≤ d75_g66.toInt := by omega
                            have iv224_2 : (wdl w246 0 (Int32.toNatClampNeg (y224_5 + 1)) = wdl d75_F61 0 (Int32.toNatClampNeg (y224_5 + 1))) := by have k5 := clampI (x := y224_5) (by omega); have k6 := clampI (x := y224_5 + 1) (by omega); rw [ew246, show Int32.toNatClampNeg (y224_5 + 1) = Int32.toNatClampNeg y224_5 + 1 by omega, wdl_up rfl, ic224, wdl_s1, Nat.zero_add, bw_at hbd rfl (by omega)]
                            exact ih224 (y224_5 + 1) w246 iv224_0 iv224_1 iv224_2
                      exact lp224 NN (0 : Int32) (F 60) (show 0 ≤ (0 : Int32).toInt from by omega) (show (0 : Int32).toInt ≤ d75_g66.toInt from by omega) (show (wdl (F 60) 0 (Int32.toNatClampNeg (0 : Int32)) = wdl d75_F61 0 (Int32.toNatClampNeg (0 : Int32))) from by exact (wdl_nil.mpr rfl).trans (wdl_nil.mpr rfl).symm)
                    · have c78 := z_nle c78
                      have k4 := clampI (x := y75_4) (by omega)
                      have f30 : (y75_4 + 1).toInt = y75_4.toInt + 1 := z_addc (by decide +kernel) (by omega) (by omega)
                      refine pw_vl (fun x85 ex85 => ?_)
                      have f31 : x85.toInt = (y75_4 + 1).toInt := congrArg Int32.toInt ex85
                      refine pw_if (fun hb93 => ?_)
                      obtain ⟨hbl93, hbr93⟩ := hb93
                      refine pw_jE (fun j194 ej194 => ?_)
                      refine pw_ite (fun c96 => ?_) (fun c96 => ?_)
                      · have c96 := congrArg Int32.toInt c96
                        have kx85 := clampI (x := x85) (by omega)
                        have hMI103 : id (MInv (upd (upd (upd (upd (upd (upd (upd (upd g 1 0) 23 d75_g23) 27 d75_g27) 30 d75_g30) 34 d75_g34) 36 d75_g36) 39 d75_g39) 66 d75_g66) (upF (upF (upF (upF (upF (upF (upF (upF (upF (upF (upF (upF (upF (upF (upF F 22 d75_F22) 24 d75_F24) 25 d75_F25) 26 d75_F26) 28 d75_F28) 29 d75_F29) 31 d75_F31) 32 d75_F32) 33 d75_F33) 37 d75_F37) 38 d75_F38) 40 d75_F40) 41 d75_F41) 61 d75_F61) 64 d75_F64)) := show MInv (upd (upd (upd (upd (upd (upd (upd (upd g 1 0) 23 d75_g23) 27 d75_g27) 30 d75_g30) 34 d75_g34) 36 d75_g36) 39 d75_g39) 66 d75_g66) (upF (upF (upF (upF (upF (upF (upF (upF (upF (upF (upF (upF (upF (upF (upF F 22 d75_F22) 24 d75_F24) 25 d75_F25) 26 d75_F26) 28 d75_F28) 29 d75_F29) 31 d75_F31) 32 d75_F32) 33 d75_F33) 37 d75_F37) 38 d75_F38) 40 d75_F40) 41 d75_F41) 61 d75_F61) 64 d75_F64) from (MInv_i hg1 ((hI9.2.1)) ((hI9.2.2.1)) ((hI9.2.2.2.1)) ((hI9.2.2.2.2.1)) ((hI9.2.2.2.2.2.1)) ((hI9.2.2.2.2.2.2.1)) ((hI9.2.2.2.2.2.2.2.1)) hzg9 hg9 hg10 hg11 hg12 hg13 hg14 ((hI9.2.2.2.2.2.2.2.2.2.2.2.2.2.2.2.1)) ((hI9.2.2.2.2.2.2.2.2.2.2.2.2.2.2.2.2.1)) ((hI9.2.2.2.2.2.2.2.2.2.2.2.2.2.2.2.2.2.1)) ((hI9.2.2.2.2.2.2.2.2.2.2.2.2.2.2.2.2.2.2.1)) ((hI9.2.2.2.2.2.2.2.2.2.2.2.2.2.2.2.2.2.2.2.1)) ((hI9.2.2.2.2.2.2.2.2.2.2.2.2.2.2.2.2.2.2.2.2.1)) hzg62 hzg65 hg15 ((hI9.2.2.2.2.2.2.2.2.2.2.2.2.2.2.2.2.2.2.2.2.2.2.2.2.1)) hzF11 hzF12 hzF13 hzF15 hzF19 hzF21 hg16 hg17 hg18 hg19 hg20 hg21 hzF43 hzF45 hzF46 hzF50 hzF53 hzF54 hzLQ)
                        have hpr103_0 : 0 ≤ y75_4.toInt := by first | assumption | omega
                        have hpr103_1 : y75_4.toInt < (g 1).toInt := by first | assumption | omega
                        have hpr103_2 : (g 1).toInt ≤ 2000 := by first | assumption | omega
                        refine pw_b1 (fun r103 hc103 => ?_)
                        have hq103 := wp_at (ok_quoted (upd (upd (upd (upd (upd (upd (upd (upd g 1 0) 23 d75_g23) 27 d75_g27) 30 d75_g30) 34 d75_g34) 36 d75_g36) 39 d75_g39) 66 d75_g66) (upF (upF (upF (upF (upF (upF (upF (upF (upF (upF (upF (upF (upF (upF (upF F 22 d75_F22) 24 d75_F24) 25 d75_F25) 26 d75_F26) 28 d75_F28) 29 d75_F29) 31 d75_F31) 32 d75_F32) 33 d75_F33) 37 d75_F37) 38 d75_F38) 40 d75_F40) 41 d75_F41) 61 d75_F61) 64 d75_F64) y75_4 (g 1) hMI103 hpr103_0 hpr103_1 hpr103_2) hc103
                        have f32 : (y75_4.toInt < r103.toInt ∧ r103.toInt ≤ (g 1).toInt) := hq103
                        clear hq103
                        have hx103 := pwq (fn_quoted (upd (upd (upd (upd (upd (upd (upd (upd g 1 0) 23 d75_g23) 27 d75_g27) 30 d75_g30) 34 d75_g34) 36 d75_g36) 39 d75_g39) 66 d75_g66) (upF (upF (upF (upF (upF (upF (upF (upF (upF (upF (upF (upF (upF (upF (upF F 22 d75_F22) 24 d75_F24) 25 d75_F25) 26 d75_F26) 28 d75_F28) 29 d75_F29) 31 d75_F31) 32 d75_F32) 33 d75_F33) 37 d75_F37) 38 d75_F38) 40 d75_F40) 41 d75_F41) 61 d75_F61) 64 d75_F64) y75_4 (g 1) hMI103 hpr103_0 hpr103_1 hpr103_2) hc103
                        have p103_0 : Int32.toNatClampNeg r103 = qN (F 0) (Int32.toNatClampNeg (g 1)) (Int32.toNatClampNeg y75_4 + 1) := hx103
                        clear hx103
                        have k103 := clampI (x := r103) (by omega)
                        have f33 : (r103 - y75_4).toInt = r103.toInt - y75_4.toInt := z_sub (by omega) (by omega)
                        have hMI120 : id (MInv (upd (upd (upd (upd (upd (upd (upd (upd g 1 0) 23 d75_g23) 27 d75_g27) 30 d75_g30) 34 d75_g34) 36 d75_g36) 39 d75_g39) 66 d75_g66) (upF (upF (upF (upF (upF (upF (upF (upF (upF (upF (upF (upF (upF (upF (upF F 22 d75_F22) 24 d75_F24) 25 d75_F25) 26 d75_F26) 28 d75_F28) 29 d75_F29) 31 d75_F31) 32 d75_F32) 33 d75_F33) 37 d75_F37) 38 d75_F38) 40 d75_F40) 41 d75_F41) 61 d75_F61) 64 d75_F64)) := show MInv (upd (upd (upd (upd (upd (upd (upd (upd g 1 0) 23 d75_g23) 27 d75_g27) 30 d75_g30) 34 d75_g34) 36 d75_g36) 39 d75_g39) 66 d75_g66) (upF (upF (upF (upF (upF (upF (upF (upF (upF (upF (upF (upF (upF (upF (upF F 22 d75_F22) 24 d75_F24) 25 d75_F25) 26 d75_F26) 28 d75_F28) 29 d75_F29) 31 d75_F31) 32 d75_F32) 33 d75_F33) 37 d75_F37) 38 d75_F38) 40 d75_F40) 41 d75_F41) 61 d75_F61) 64 d75_F64) from (MInv_i hg1 ((hI9.2.1)) ((hI9.2.2.1)) ((hI9.2.2.2.1)) ((hI9.2.2.2.2.1)) ((hI9.2.2.2.2.2.1)) ((hI9.2.2.2.2.2.2.1)) ((hI9.2.2.2.2.2.2.2.1)) hzg9 hg9 hg10 hg11 hg12 hg13 hg14 ((hI9.2.2.2.2.2.2.2.2.2.2.2.2.2.2.2.1)) ((hI9.2.2.2.2.2.2.2.2.2.2.2.2.2.2.2.2.1)) ((hI9.2.2.2.2.2.2.2.2.2.2.2.2.2.2.2.2.2.1)) ((hI9.2.2.2.2.2.2.2.2.2.2.2.2.2.2.2.2.2.2.1)) ((hI9.2.2.2.2.2.2.2.2.2.2.2.2.2.2.2.2.2.2.2.1)) ((hI9.2.2.2.2.2.2.2.2.2.2.2.2.2.2.2.2.2.2.2.2.1)) hzg62 hzg65 hg15 ((hI9.2.2.2.2.2.2.2.2.2.2.2.2.2.2.2.2.2.2.2.2.2.2.2.2.1)) hzF11 hzF12 hzF13 hzF15 hzF19 hzF21 hg16 hg17 hg18 hg19 hg20 hg21 hzF43 hzF45 hzF46 hzF50 hzF53 hzF54 hzLQ)
                        have hpr120_0 : (0 ≤ y75_4.toInt ∧ 0 ≤ (r103 - y75_4).toInt ∧ y75_4.toInt + (r103 - y75_4).toInt ≤ 2000) := by first | assumption | omega
                        have hpr120_1 : 2000 ≤ 2500 := by first | assumption | omega
                        refine pw_b3 (fun r120 c120_g66 c120_F61 hc120 => ?_)
                        have hq120 := wp_at (ok_write1 (upd (upd (upd (upd (upd (upd (upd (upd g 1 0) 23 d75_g23) 27 d75_g27) 30 d75_g30) 34 d75_g34) 36 d75_g36) 39 d75_g39) 66 d75_g66) (upF (upF (upF (upF (upF (upF (upF (upF (upF (upF (upF (upF (upF (upF (upF F 22 d75_F22) 24 d75_F24) 25 d75_F25) 26 d75_F26) 28 d75_F28) 29 d75_F29) 31 d75_F31) 32 d75_F32) 33 d75_F33) 37 d75_F37) 38 d75_F38) 40 d75_F40) 41 d75_F41) 61 d75_F61) 64 d75_F64) (F 0) 2000 y75_4 (r103 - y75_4) hMI120 hpr120_0 hpr120_1) hc120
                        obtain ⟨hg34, f35⟩ : (((0) ≤ c120_g66.toInt ∧ c120_g66.toInt ≤ 2500)) ∧ ((0 ≤ r120.toInt ∧ r120.toInt ≤ 1)) := hq120
                        have h8120_hbx : BW (wdl (F 0) (Int32.toNatClampNeg y75_4) (Int32.toNatClampNeg (r103 - y75_4))) := by intro y hy; unfold wdl at hy; obtain ⟨j, _, e9⟩ := List.mem_map.mp hy; rw [← e9]; exact fit_id (hfit _)
                        have hx120 := pwq (fn_write1 (upd (upd (upd (upd (upd (upd (upd (upd g 1 0) 23 d75_g23) 27 d75_g27) 30 d75_g30) 34 d75_g34) 36 d75_g36) 39 d75_g39) 66 d75_g66) (upF (upF (upF (upF (upF (upF (upF (upF (upF (upF (upF (upF (upF (upF (upF F 22 d75_F22) 24 d75_F24) 25 d75_F25) 26 d75_F26) 28 d75_F28) 29 d75_F29) 31 d75_F31) 32 d75_F32) 33 d75_F33) 37 d75_F37) 38 d75_F38) 40 d75_F40) 41 d75_F41) 61 d75_F61) 64 d75_F64) (F 0) 2000 y75_4 (r103 - y75_4) hMI120 hpr120_0 hpr120_1 h8120_hbx) hc120
                        obtain ⟨p120_0, p120_1, p120_2⟩ : (id ((r120.toInt ≠ 0 → wdl c120_F61 0 (Int32.toNatClampNeg c120_g66) = wdl d75_F61 0 (Int32.toNatClampNeg d75_g66) ++ wdl (F 0) (Int32.toNatClampNeg y75_4) (Int32.toNatClampNeg (r103 - y75_4))))) ∧ (id ((r120.toInt = 0 → 2500 < Int32.toNatClampNeg d75_g66 + Int32.toNatClampNeg (r103 - y75_4)))) ∧ (id ((BW (wdl d75_F61 0 (Int32.toNatClampNeg d75_g66)) → BW (wdl c120_F61 0 (Int32.toNatClampNeg c120_g66))))) := hx120
                        refine pw_j24 ej194 (fun x194_5 ex194_5 x194_6 ex194_6 z194_1 ez194_1 z194_2 ez194_2 z194_3 ez194_3 z194_4 ez194_4 z194_5 ez194_5 z194_6 ez194_6 z194_7 ez194_7 z194_8 ez194_8 z194_9 ez194_9 z194_10 ez194_10 z194_11 ez194_11 z194_12 ez194_12 z194_13 ez194_13 z194_14 ez194_14 z194_15 ez194_15 z194_16 ez194_16 z194_17 ez194_17 z194_18 ez194_18 z194_19 ez194_19 z194_20 ez194_20 z194_21 ez194_21 z194_22 ez194_22 => ?_)
                        subst ez194_1 ez194_2 ez194_3 ez194_4 ez194_5 ez194_6 ez194_7 ez194_8 ez194_9 ez194_10 ez194_11 ez194_12 ez194_13 ez194_14 ez194_15 ez194_16 ez194_17 ez194_18 ez194_19 ez194_20 ez194_21 ez194_22
                        have ex194_5 := ex194_5.symm
                        have f_x194_5 : x194_5.toInt = r103.toInt := by rw [ex194_5]
                        have ex194_6 := ex194_6.symm
                        have f_x194_6 : x194_6.toInt = r120.toInt := by rw [ex194_6]
                        refine pw_ite (fun c196 => ?_) (fun c196 => ?_)
                        · have c196 := congrArg Int32.toInt c196
                          have qq0 : (¬ (0 ≤ p0.toInt ∧ p0.toInt ≤ p1.toInt ∧ p1.toInt ≤ (g 9).toInt) → (-1 : Int32).toInt = -2 ∧ (g 62) = (g 62) ∧ (F 60) = (F 60) ∧ (F 63) = (F 63) ∧ (g 65) = (g 65)) := by intro h; exfalso; exact h ⟨by omega, by omega, by omega⟩
                          have qq1 : ((0 ≤ p0.toInt ∧ p0.toInt ≤ p1.toInt ∧ p1.toInt ≤ (g 9).toInt) → ¬ (NZR (F 0) (Int32.toNatClampNeg (g 1)) ∧ (wcR (F 0) (Int32.toNatClampNeg (g 1)) d (Int32.toNatClampNeg p0) (Int32.toNatClampNeg p1 - Int32.toNatClampNeg p0) 0 false ([], tz0)).1.length ≤ 2500) → (-1 : Int32).toInt = -1 ∧ (g 62) = (g 62) ∧ (F 60) = (F 60) ∧ (F 63) = (F 63) ∧ (g 65) = (g 65)) := by intro _ _; exact ⟨by omega, rfl, rfl, rfl, rfl⟩
                          have qq2 : ((0 ≤ p0.toInt ∧ p0.toInt ≤ p1.toInt ∧ p1.toInt ≤ (g 9).toInt) → NZR (F 0) (Int32.toNatClampNeg (g 1)) → (wcR (F 0) (Int32.toNatClampNeg (g 1)) d (Int32.toNatClampNeg p0) (Int32.toNatClampNeg p1 - Int32.toNatClampNeg p0) 0 false ([], tz0)).1.length ≤ 2500 → (-1 : Int32).toInt = (((wcR (F 0) (Int32.toNatClampNeg (g 1)) d (Int32.toNatClampNeg p0) (Int32.toNatClampNeg p1 - Int32.toNatClampNeg p0) 0 false ([], tz0)).1.length : Nat) : Int) ∧ (g 62) = (-1 : Int32) ∧ wdl (F 60) 0 (Int32.toNatClampNeg (g 62)) = (wcR (F 0) (Int32.toNatClampNeg (g 1)) d (Int32.toNatClampNeg p0) (Int32.toNatClampNeg p1 - Int32.toNatClampNeg p0) 0 false ([], tz0)).1 ∧ TYA (F 63) (wcR (F 0) (Int32.toNatClampNeg (g 1)) d (Int32.toNatClampNeg p0) (Int32.toNatClampNeg p1 - Int32.toNatClampNeg p0) 0 false ([], tz0)).2 ∧ (g 65).toInt ≠ 0) := by intro _ _ h; exfalso; have h8 := p120_1 (by omega); have k9 := clampI (x := r103 - y75_4) (by omega); have kd := clampI (x := d75_g66) (by have h7 := hg34; omega); have h9 := WIV_le (WIV_q iw75 (by omega) c96 p103_0); rw [List.length_append, wdl_len, wdl_len] at h9; omega
                          exact pw_some ⟨qq0, qq1, qq2⟩
                        · have c196 := z_ne c196
                          have iv75_0 : (0 ≤ x194_5.toInt ∧ x194_5.toInt ≤ (g 1).toInt) := by omega
                          have iv75_1 : (WIV (F 0) (Int32.toNatClampNeg (g 1)) d (Int32.toNatClampNeg p0) (Int32.toNatClampNeg p1 - Int32.toNatClampNeg p0) (Int32.toNatClampNeg x194_5) (wdl c120_F61 0 (Int32.toNatClampNeg c120_g66)) d75_F64) := by have k9 := clampI (x := r103 - y75_4) (by omega); rw [p120_0 (by omega), ex194_5, show Int32.toNatClampNeg (r103 - y75_4) = Int32.toNatClampNeg r103 - Int32.toNatClampNeg y75_4 by omega]; exact WIV_q iw75 (by omega) c96 p103_0
                          have iv75_2 : (BW (wdl c120_F61 0 (Int32.toNatClampNeg c120_g66))) := by exact p120_2 ib75
                          exact ih75 x194_5 d75_g23 d75_g27 d75_g30 d75_g34 d75_g36 d75_g39 c120_g66 d75_F22 d75_F24 d75_F25 d75_F26 d75_F28 d75_F29 d75_F31 d75_F32 d75_F33 d75_F37 d75_F38 d75_F40 d75_F41 c120_F61 d75_F64 hg9 hg10 hg11 hg12 hg13 hg14 hg34 hg16 hg17 hg18 hg19 hg20 hg21 iv75_0 iv75_1 iv75_2
                      · have c96 := z_ne c96
                        have kx85 := clampI (x := x85) (by omega)
                        refine pw_if (fun hb134 => ?_)
                        obtain ⟨hbl134, hbr134⟩ := hb134
                        refine pw_b1 (fun r135 hc135 => ?_)
                        have hq135 := wp_at (ok_isLetter ((F 0) (Int32.toNatClampNeg y75_4)) ) hc135
                        obtain ⟨f36, f37⟩ : ((r135.toInt = 1 → 65 ≤ ((F 0) (Int32.toNatClampNeg y75_4)).toInt)) ∧ ((0 ≤ r135.toInt ∧ r135.toInt ≤ 1)) := hq135
                        have hx135 := pwq (fn_isLetter ((F 0) (Int32.toNatClampNeg y75_4)) ) hc135
                        obtain ⟨p135_0, p135_1⟩ : ((r135.toInt ≠ 0 → ((97 ≤ ((F 0) (Int32.toNatClampNeg y75_4)).toInt ∧ ((F 0) (Int32.toNatClampNeg y75_4)).toInt ≤ 122) ∨ (65 ≤ ((F 0) (Int32.toNatClampNeg y75_4)).toInt ∧ ((F 0) (Int32.toNatClampNeg y75_4)).toInt ≤ 90)))) ∧ ((r135.toInt = 0 → ¬ ((97 ≤ ((F 0) (Int32.toNatClampNeg y75_4)).toInt ∧ ((F 0) (Int32.toNatClampNeg y75_4)).toInt ≤ 122) ∨ (65 ≤ ((F 0) (Int32.toNatClampNeg y75_4)).toInt ∧ ((F 0) (Int32.toNatClampNeg y75_4)).toInt ≤ 90)))) := hx135
                        refine pw_ite (fun c138 => ?_) (fun c138 => ?_)
                        · have c138 := congrArg Int32.toInt c138
                          have hMI189 : id (MInv (upd (upd (upd (upd (upd (upd (upd (upd g 1 0) 23 d75_g23) 27 d75_g27) 30 d75_g30) 34 d75_g34) 36 d75_g36) 39 d75_g39) 66 d75_g66) (upF (upF (upF (upF (upF (upF (upF (upF (upF (upF (upF (upF (upF (upF (upF F 22 d75_F22) 24 d75_F24) 25 d75_F25) 26 d75_F26) 28 d75_F28) 29 d75_F29) 31 d75_F31) 32 d75_F32) 33 d75_F33) 37 d75_F37) 38 d75_F38) 40 d75_F40) 41 d75_F41) 61 d75_F61) 64 d75_F64)) := show MInv (upd (upd (upd (upd (upd (upd (upd (upd g 1 0) 23 d75_g23) 27 d75_g27) 30 d75_g30) 34 d75_g34) 36 d75_g36) 39 d75_g39) 66 d75_g66) (upF (upF (upF (upF (upF (upF (upF (upF (upF (upF (upF (upF (upF (upF (upF F 22 d75_F22) 24 d75_F24) 25 d75_F25) 26 d75_F26) 28 d75_F28) 29 d75_F29) 31 d75_F31) 32 d75_F32) 33 d75_F33) 37 d75_F37) 38 d75_F38) 40 d75_F40) 41 d75_F41) 61 d75_F61) 64 d75_F64) from (MInv_i hg1 ((hI9.2.1)) ((hI9.2.2.1)) ((hI9.2.2.2.1)) ((hI9.2.2.2.2.1)) ((hI9.2.2.2.2.2.1)) ((hI9.2.2.2.2.2.2.1)) ((hI9.2.2.2.2.2.2.2.1)) hzg9 hg9 hg10 hg11 hg12 hg13 hg14 ((hI9.2.2.2.2.2.2.2.2.2.2.2.2.2.2.2.1)) ((hI9.2.2.2.2.2.2.2.2.2.2.2.2.2.2.2.2.1)) ((hI9.2.2.2.2.2.2.2.2.2.2.2.2.2.2.2.2.2.1)) ((hI9.2.2.2.2.2.2.2.2.2.2.2.2.2.2.2.2.2.2.1)) ((hI9.2.2.2.2.2.2.2.2.2.2.2.2.2.2.2.2.2.2.2.1)) ((hI9.2.2.2.2.2.2.2.2.2.2.2.2.2.2.2.2.2.2.2.2.1)) hzg62 hzg65 hg15 ((hI9.2.2.2.2.2.2.2.2.2.2.2.2.2.2.2.2.2.2.2.2.2.2.2.2.1)) hzF11 hzF12 hzF13 hzF15 hzF19 hzF21 hg16 hg17 hg18 hg19 hg20 hg21 hzF43 hzF45 hzF46 hzF50 hzF53 hzF54 hzLQ)
                          have hpr189_0 : (0 ≤ y75_4.toInt ∧ 0 ≤ (1 : Int32).toInt ∧ y75_4.toInt + (1 : Int32).toInt ≤ 2000) := by first | assumption | omega
                          have hpr189_1 : 2000 ≤ 2500 := by first | assumption | omega
                          refine pw_b3 (fun r189 c189_g66 c189_F61 hc189 => ?_)
                          have hq189 := wp_at (ok_write1 (upd (upd (upd (upd (upd (upd (upd (upd g 1 0) 23 d75_g23) 27 d75_g27) 30 d75_g30) 34 d75_g34) 36 d75_g36) 39 d75_g39) 66 d75_g66) (upF (upF (upF (upF (upF (upF (upF (upF (upF (upF (upF (upF (upF (upF (upF F 22 d75_F22) 24 d75_F24) 25 d75_F25) 26 d75_F26) 28 d75_F28) 29 d75_F29) 31 d75_F31) 32 d75_F32) 33 d75_F33) 37 d75_F37) 38 d75_F38) 40 d75_F40) 41 d75_F41) 61 d75_F61) 64 d75_F64) (F 0) 2000 y75_4 (1 : Int32) hMI189 hpr189_0 hpr189_1) hc189
                          obtain ⟨hg38, f39⟩ : (((0) ≤ c189_g66.toInt ∧ c189_g66.toInt ≤ 2500)) ∧ ((0 ≤ r189.toInt ∧ r189.toInt ≤ 1)) := hq189
                          have h8189_hbx : BW (wdl (F 0) (Int32.toNatClampNeg y75_4) (Int32.toNatClampNeg (1 : Int32))) := by intro y hy; unfold wdl at hy; obtain ⟨j, _, e9⟩ := List.mem_map.mp hy; rw [← e9]; exact fit_id (hfit _)
                          have hx189 := pwq (fn_write1 (upd (upd (upd (upd (upd (upd (upd (upd g 1 0) 23 d75_g23) 27 d75_g27) 30 d75_g30) 34 d75_g34) 36 d75_g36) 39 d75_g39) 66 d75_g66) (upF (upF (upF (upF (upF (upF (upF (upF (upF (upF (upF (upF (upF (upF (upF F 22 d75_F22) 24 d75_F24) 25 d75_F25) 26 d75_F26) 28 d75_F28) 29 d75_F29) 31 d75_F31) 32 d75_F32) 33 d75_F33) 37 d75_F37) 38 d75_F38) 40 d75_F40) 41 d75_F41) 61 d75_F61) 64 d75_F64) (F 0) 2000 y75_4 (1 : Int32) hMI189 hpr189_0 hpr189_1 h8189_hbx) hc189
                          obtain ⟨p189_0, p189_1, p189_2⟩ : (id ((r189.toInt ≠ 0 → wdl c189_F61 0 (Int32.toNatClampNeg c189_g66) = wdl d75_F61 0 (Int32.toNatClampNeg d75_g66) ++ wdl (F 0) (Int32.toNatClampNeg y75_4) (Int32.toNatClampNeg (1 : Int32))))) ∧ (id ((r189.toInt = 0 → 2500 < Int32.toNatClampNeg d75_g66 + Int32.toNatClampNeg (1 : Int32)))) ∧ (id ((BW (wdl d75_F61 0 (Int32.toNatClampNeg d75_g66)) → BW (wdl c189_F61 0 (Int32.toNatClampNeg c189_g66))))) := hx189
                          rw [show Int32.toNatClampNeg (1 : Int32) = 1 from rfl] at p189_0 p189_1
                          refine pw_j24 ej194 (fun x194_5 ex194_5 x194_6 ex194_6 z194_1 ez194_1 z194_2 ez194_2 z194_3 ez194_3 z194_4 ez194_4 z194_5 ez194_5 z194_6 ez194_6 z194_7 ez194_7 z194_8 ez194_8 z194_9 ez194_9 z194_10 ez194_10 z194_11 ez194_11 z194_12 ez194_12 z194_13 ez194_13 z194_14 ez194_14 z194_15 ez194_15 z194_16 ez194_16 z194_17 ez194_17 z194_18 ez194_18 z194_19 ez194_19 z194_20 ez194_20 z194_21 ez194_21 z194_22 ez194_22 => ?_)
                          subst ez194_1 ez194_2 ez194_3 ez194_4 ez194_5 ez194_6 ez194_7 ez194_8 ez194_9 ez194_10 ez194_11 ez194_12 ez194_13 ez194_14 ez194_15 ez194_16 ez194_17 ez194_18 ez194_19 ez194_20 ez194_21 ez194_22
                          have ex194_5 := ex194_5.symm
                          have f_x194_5 : x194_5.toInt = x85.toInt := by rw [ex194_5]
                          have ex194_6 := ex194_6.symm
                          have f_x194_6 : x194_6.toInt = r189.toInt := by rw [ex194_6]
                          refine pw_ite (fun c196 => ?_) (fun c196 => ?_)
                          · have c196 := congrArg Int32.toInt c196
                            have qq0 : (¬ (0 ≤ p0.toInt ∧ p0.toInt ≤ p1.toInt ∧ p1.toInt ≤ (g 9).toInt) → (-1 : Int32).toInt = -2 ∧ (g 62) = (g 62) ∧ (F 60) = (F 60) ∧ (F 63) = (F 63) ∧ (g 65) = (g 65)) := by intro h; exfalso; exact h ⟨by omega, by omega, by omega⟩
                            have qq1 : ((0 ≤ p0.toInt ∧ p0.toInt ≤ p1.toInt ∧ p1.toInt ≤ (g 9).toInt) → ¬ (NZR (F 0) (Int32.toNatClampNeg (g 1)) ∧ (wcR (F 0) (Int32.toNatClampNeg (g 1)) d (Int32.toNatClampNeg p0) (Int32.toNatClampNeg p1 - Int32.toNatClampNeg p0) 0 false ([], tz0)).1.length ≤ 2500) → (-1 : Int32).toInt = -1 ∧ (g 62) = (g 62) ∧ (F 60) = (F 60) ∧ (F 63) = (F 63) ∧ (g 65) = (g 65)) := by intro _ _; exact ⟨by omega, rfl, rfl, rfl, rfl⟩
                            have qq2 : ((0 ≤ p0.toInt ∧ p0.toInt ≤ p1.toInt ∧ p1.toInt ≤ (g 9).toInt) → NZR (F 0) (Int32.toNatClampNeg (g 1)) → (wcR (F 0) (Int32.toNatClampNeg (g 1)) d (Int32.toNatClampNeg p0) (Int32.toNatClampNeg p1 - Int32.toNatClampNeg p0) 0 false ([], tz0)).1.length ≤ 2500 → (-1 : Int32).toInt = (((wcR (F 0) (Int32.toNatClampNeg (g 1)) d (Int32.toNatClampNeg p0) (Int32.toNatClampNeg p1 - Int32.toNatClampNeg p0) 0 false ([], tz0)).1.length : Nat) : Int) ∧ (g 62) = (-1 : Int32) ∧ wdl (F 60) 0 (Int32.toNatClampNeg (g 62)) = (wcR (F 0) (Int32.toNatClampNeg (g 1)) d (Int32.toNatClampNeg p0) (Int32.toNatClampNeg p1 - Int32.toNatClampNeg p0) 0 false ([], tz0)).1 ∧ TYA (F 63) (wcR (F 0) (Int32.toNatClampNeg (g 1)) d (Int32.toNatClampNeg p0) (Int32.toNatClampNeg p1 - Int32.toNatClampNeg p0) 0 false ([], tz0)).2 ∧ (g 65).toInt ≠ 0) := by intro _ _ h; exfalso; have h8 := p189_1 (by omega); have h9 := WIV_le (WIV_c iw75 (by omega) (fun z => by omega) (p135_1 (by omega))); rw [List.length_append, wdl_len, wdl_len] at h9; omega
                            exact pw_some ⟨qq0, qq1, qq2⟩
                          · have c196 := z_ne c196
                            have iv75_0 : (0 ≤ x194_5.toInt ∧ x194_5.toInt ≤ (g 1).toInt) := by omega
                            have iv75_1 : (WIV (F 0) (Int32.toNatClampNeg (g 1)) d (Int32.toNatClampNeg p0) (Int32.toNatClampNeg p1 - Int32.toNatClampNeg p0) (Int32.toNatClampNeg x194_5) (wdl c189_F61 0 (Int32.toNatClampNeg c189_g66)) d75_F64) := by rw [p189_0 (by omega), ex194_5, show Int32.toNatClampNeg x85 = Int32.toNatClampNeg y75_4 + 1 by omega]; exact WIV_c iw75 (by omega) (fun z => by omega) (p135_1 (by omega))
                            have iv75_2 : (BW (wdl c189_F61 0 (Int32.toNatClampNeg c189_g66))) := by exact p189_2 ib75
                            exact ih75 x194_5 d75_g23 d75_g27 d75_g30 d75_g34 d75_g36 d75_g39 c189_g66 d75_F22 d75_F24 d75_F25 d75_F26 d75_F28 d75_F29 d75_F31 d75_F32 d75_F33 d75_F37 d75_F38 d75_F40 d75_F41 c189_F61 d75_F64 hg9 hg10 hg11 hg12 hg13 hg14 hg38 hg16 hg17 hg18 hg19 hg20 hg21 iv75_0 iv75_1 iv75_2
                        · have c138 := z_ne c138
                          obtain ⟨tw, hw1, hw2⟩ := iw75
                          refine pw_jE (fun k166 ek166 => ?_)
                          have lp141 : ∀ (n141 : Nat) (y141_5 : Int32), (y75_4.toInt + 1 ≤ y141_5.toInt ∧ y141_5.toInt ≤ (g 1).toInt) → (lnd (F 0) (Int32.toNatClampNeg (g 1)) (Int32.toNatClampNeg y75_4 + 1) = lnd (F 0) (Int32.toNatClampNeg (g 1)) (Int32.toNatClampNeg y141_5)) → pw (L_write_141 g F k166 n141 y141_5) (QF_write g F p0 p1 d) := by
                            intro n141
                            induction n141 with
                            | zero => intros; exact pw_none
                            | succ n141 ih141 =>
                              intro y141_5 f40 il141
                              show pw (B_write_141 g F k166 (L_write_141 g F k166 n141) y141_5) _
                              unfold B_write_141
                              refine pw_ite (fun c144 => ?_) (fun c144 => ?_)
                              · have c144 := (z_le _ _).mp c144
                                have k5 := clampI (x := y141_5) (by omega)
                                have hend : lnd (F 0) (Int32.toNatClampNeg (g 1)) (Int32.toNatClampNeg y75_4 + 1) = Int32.toNatClampNeg y141_5 := il141.trans (lnd_e (fun z => by omega))
                                refine pw_j1 ek166 (fun x166_5 ex166_5 => ?_)
                                have ex166_5 := ex166_5.symm
                                have f_x166_5 : x166_5.toInt = y141_5.toInt := by rw [ex166_5]
                                have k166 := clampI (x := x166_5) (by omega)
                                have hend6 : lnd (F 0) (Int32.toNatClampNeg (g 1)) (Int32.toNatClampNeg y75_4 + 1) = Int32.toNatClampNeg x166_5 := by rw [ex166_5]; exact hend
                                have hMI173 : id (MInv (upd (upd (upd (upd (upd (upd (upd (upd g 1 0) 23 d75_g23) 27 d75_g27) 30 d75_g30) 34 d75_g34) 36 d75_g36) 39 d75_g39) 66 d75_g66) (upF (upF (upF (upF (upF (upF (upF (upF (upF (upF (upF (upF (upF (upF (upF F 22 d75_F22) 24 d75_F24) 25 d75_F25) 26 d75_F26) 28 d75_F28) 29 d75_F29) 31 d75_F31) 32 d75_F32) 33 d75_F33) 37 d75_F37) 38 d75_F38) 40 d75_F40) 41 d75_F41) 61 d75_F61) 64 d75_F64)) := show MInv (upd (upd (upd (upd (upd (upd (upd (upd g 1 0) 23 d75_g23) 27 d75_g27) 30 d75_g30) 34 d75_g34) 36 d75_g36) 39 d75_g39) 66 d75_g66) (upF (upF (upF (upF (upF (upF (upF (upF (upF (upF (upF (upF (upF (upF (upF F 22 d75_F22) 24 d75_F24) 25 d75_F25) 26 d75_F26) 28 d75_F28) 29 d75_F29) 31 d75_F31) 32 d75_F32) 33 d75_F33) 37 d75_F37) 38 d75_F38) 40 d75_F40) 41 d75_F41) 61 d75_F61) 64 d75_F64) from (MInv_i hg1 ((hI9.2.1)) ((hI9.2.2.1)) ((hI9.2.2.2.1)) ((hI9.2.2.2.2.1)) ((hI9.2.2.2.2.2.1)) ((hI9.2.2.2.2.2.2.1)) ((hI9.2.2.2.2.2.2.2.1)) hzg9 hg9 hg10 hg11 hg12 hg13 hg14 ((hI9.2.2.2.2.2.2.2.2.2.2.2.2.2.2.2.1)) ((hI9.2.2.2.2.2.2.2.2.2.2.2.2.2.2.2.2.1)) ((hI9.2.2.2.2.2.2.2.2.2.2.2.2.2.2.2.2.2.1)) ((hI9.2.2.2.2.2.2.2.2.2.2.2.2.2.2.2.2.2.2.1)) ((hI9.2.2.2.2.2.2.2.2.2.2.2.2.2.2.2.2.2.2.2.1)) ((hI9.2.2.2.2.2.2.2.2.2.2.2.2.2.2.2.2.2.2.2.2.1)) hzg62 hzg65 hg15 ((hI9.2.2.2.2.2.2.2.2.2.2.2.2.2.2.2.2.2.2.2.2.2.2.2.2.1)) hzF11 hzF12 hzF13 hzF15 hzF19 hzF21 hg16 hg17 hg18 hg19 hg20 hg21 hzF43 hzF45 hzF46 hzF50 hzF53 hzF54 hzLQ)
                                have hpr173_0 : (0 ≤ y75_4.toInt ∧ y75_4.toInt ≤ x166_5.toInt ∧ x166_5.toInt ≤ 2000) := by first | assumption | omega
                                have hpr173_1 : (0 ≤ p0.toInt ∧ p0.toInt ≤ 6) := by first | assumption | omega
                                have hpr173_2 : p1.toInt ≤ (g 9).toInt := by first | assumption | omega
                                refine pw_b23 (fun r173 c173_g23 c173_g27 c173_g30 c173_g34 c173_g36 c173_g39 c173_g66 c173_F22 c173_F24 c173_F25 c173_F26 c173_F28 c173_F29 c173_F31 c173_F32 c173_F33 c173_F37 c173_F38 c173_F40 c173_F41 c173_F61 c173_F64 hc173 => ?_)
                                have hq173 := wp_at (ok_writeWord (upd (upd (upd (upd (upd (upd (upd (upd g 1 0) 23 d75_g23) 27 d75_g27) 30 d75_g30) 34 d75_g34) 36 d75_g36) 39 d75_g39) 66 d75_g66) (upF (upF (upF (upF (upF (upF (upF (upF (upF (upF (upF (upF (upF (upF (upF F 22 d75_F22) 24 d75_F24) 25 d75_F25) 26 d75_F26) 28 d75_F28) 29 d75_F29) 31 d75_F31) 32 d75_F32) 33 d75_F33) 37 d75_F37) 38 d75_F38) 40 d75_F40) 41 d75_F41) 61 d75_F61) 64 d75_F64) y75_4 x166_5 p0 p1 hMI173 hpr173_0 hpr173_1 hpr173_2) hc173
                                obtain ⟨hg41, hg42, hg43, hg44, hg45, hg46, hg47, hg48, hg49, hg50, hg51, hg52, hg53, f54⟩ : (((0) ≤ c173_g23.toInt ∧ c173_g23.toInt ≤ 24)) ∧ (((0) ≤ c173_g27.toInt ∧ c173_g27.toInt ≤ 30)) ∧ (((0) ≤ c173_g30.toInt ∧ c173_g30.toInt ≤ 384)) ∧ (((0) ≤ c173_g34.toInt ∧ c173_g34.toInt ≤ 30)) ∧ (((0) ≤ c173_g36.toInt ∧ c173_g36.toInt ≤ 1)) ∧ (((0) ≤ c173_g39.toInt ∧ c173_g39.toInt ≤ 12)) ∧ (((0) ≤ c173_g66.toInt ∧ c173_g66.toInt ≤ 2500)) ∧ (rng (0) 24 c173_F24) ∧ (rng (0) 24 c173_F25) ∧ (rng (0) 24 c173_F26) ∧ (rng (0) 24 c173_F33) ∧ (rng (0) 24 c173_F38) ∧ (rng (0) 24 c173_F41) ∧ ((0 ≤ r173.toInt ∧ r173.toInt ≤ 1)) := hq173
                                have h8173_hrv : id (∀ q : Nat, p0.toInt ≤ (q : Int) → (q : Int) < p1.toInt → RVd (F 13) (F 20) (F 21) (F 12) (F 18) (F 19) (F 11) (F 14) (F 15) (F 16) (F 17) q = d q ∧ WFD (d q)) := show ∀ q : Nat, p0.toInt ≤ (q : Int) → (q : Int) < p1.toInt → RVd (F 13) (F 20) (F 21) (F 12) (F 18) (F 19) (F 11) (F 14) (F 15) (F 16) (F 17) q = d q ∧ WFD (d q) from by exact fun q h1 h2 => hrd q (by omega)
                                have h8173_hfit : ∀ i, fits .byte (.int ((F 0) i)) = true := by exact hfit
                                have h8173_hlt : y75_4.toInt < x166_5.toInt := by omega
                                have h8173_hst : wdl d75_F61 0 (Int32.toNatClampNeg d75_g66) = ((wdl d75_F61 0 (Int32.toNatClampNeg d75_g66), tw)).1 ∧ TYA d75_F64 ((wdl d75_F61 0 (Int32.toNatClampNeg d75_g66), tw)).2 := by exact ⟨rfl, hw1⟩
                                have hx173 := pwq (fn_writeWord (upd (upd (upd (upd (upd (upd (upd (upd g 1 0) 23 d75_g23) 27 d75_g27) 30 d75_g30) 34 d75_g34) 36 d75_g36) 39 d75_g39) 66 d75_g66) (upF (upF (upF (upF (upF (upF (upF (upF (upF (upF (upF (upF (upF (upF (upF F 22 d75_F22) 24 d75_F24) 25 d75_F25) 26 d75_F26) 28 d75_F28) 29 d75_F29) 31 d75_F31) 32 d75_F32) 33 d75_F33) 37 d75_F37) 38 d75_F38) 40 d75_F40) 41 d75_F41) 61 d75_F61) 64 d75_F64) y75_4 x166_5 p0 p1 (d) ((wdl d75_F61 0 (Int32.toNatClampNeg d75_g66), tw)) hMI173 hpr173_0 hpr173_1 hpr173_2 h8173_hrv h8173_hfit h8173_hlt h8173_hst) hc173
                                obtain ⟨p173_0, p173_1, p173_2⟩ : (id ((r173.toInt ≠ 0 → wdl c173_F61 0 (Int32.toNatClampNeg c173_g66) = (wdS d (Int32.toNatClampNeg p0) (Int32.toNatClampNeg p1 - Int32.toNatClampNeg p0) (wdl (F 0) (Int32.toNatClampNeg y75_4) (Int32.toNatClampNeg x166_5 - Int32.toNatClampNeg y75_4)) ((wdl d75_F61 0 (Int32.toNatClampNeg d75_g66), tw))).1 ∧ TYA c173_F64 (wdS d (Int32.toNatClampNeg p0) (Int32.toNatClampNeg p1 - Int32.toNatClampNeg p0) (wdl (F 0) (Int32.toNatClampNeg y75_4) (Int32.toNatClampNeg x166_5 - Int32.toNatClampNeg y75_4)) ((wdl d75_F61 0 (Int32.toNatClampNeg d75_g66), tw))).2))) ∧ (id ((r173.toInt = 0 → 2500 < (wdS d (Int32.toNatClampNeg p0) (Int32.toNatClampNeg p1 - Int32.toNatClampNeg p0) (wdl (F 0) (Int32.toNatClampNeg y75_4) (Int32.toNatClampNeg x166_5 - Int32.toNatClampNeg y75_4)) ((wdl d75_F61 0 (Int32.toNatClampNeg d75_g66), tw))).1.length))) ∧ (id ((BW (wdl d75_F61 0 (Int32.toNatClampNeg d75_g66)) → BW (wdl c173_F61 0 (Int32.toNatClampNeg c173_g66))))) := hx173
                                refine pw_j24 ej194 (fun x194_5 ex194_5 x194_6 ex194_6 z194_1 ez194_1 z194_2 ez194_2 z194_3 ez194_3 z194_4 ez194_4 z194_5 ez194_5 z194_6 ez194_6 z194_7 ez194_7 z194_8 ez194_8 z194_9 ez194_9 z194_10 ez194_10 z194_11 ez194_11 z194_12 ez194_12 z194_13 ez194_13 z194_14 ez194_14 z194_15 ez194_15 z194_16 ez194_16 z194_17 ez194_17 z194_18 ez194_18 z194_19 ez194_19 z194_20 ez194_20 z194_21 ez194_21 z194_22 ez194_22 => ?_)
                                subst ez194_1 ez194_2 ez194_3 ez194_4 ez194_5 ez194_6 ez194_7 ez194_8 ez194_9 ez194_10 ez194_11 ez194_12 ez194_13 ez194_14 ez194_15 ez194_16 ez194_17 ez194_18 ez194_19 ez194_20 ez194_21 ez194_22
                                have ex194_5 := ex194_5.symm
                                have f_x194_5 : x194_5.toInt = x166_5.toInt := by rw [ex194_5]
                                have ex194_6 := ex194_6.symm
                                have f_x194_6 : x194_6.toInt = r173.toInt := by rw [ex194_6]
                                refine pw_ite (fun c196 => ?_) (fun c196 => ?_)
                                · have c196 := congrArg Int32.toInt c196
                                  have qq0 : (¬ (0 ≤ p0.toInt ∧ p0.toInt ≤ p1.toInt ∧ p1.toInt ≤ (g 9).toInt) → (-1 : Int32).toInt = -2 ∧ (g 62) = (g 62) ∧ (F 60) = (F 60) ∧ (F 63) = (F 63) ∧ (g 65) = (g 65)) := by intro h; exfalso; exact h ⟨by omega, by omega, by omega⟩
                                  have qq1 : ((0 ≤ p0.toInt ∧ p0.toInt ≤ p1.toInt ∧ p1.toInt ≤ (g 9).toInt) → ¬ (NZR (F 0) (Int32.toNatClampNeg (g 1)) ∧ (wcR (F 0) (Int32.toNatClampNeg (g 1)) d (Int32.toNatClampNeg p0) (Int32.toNatClampNeg p1 - Int32.toNatClampNeg p0) 0 false ([], tz0)).1.length ≤ 2500) → (-1 : Int32).toInt = -1 ∧ (g 62) = (g 62) ∧ (F 60) = (F 60) ∧ (F 63) = (F 63) ∧ (g 65) = (g 65)) := by intro _ _; exact ⟨by omega, rfl, rfl, rfl, rfl⟩
                                  have qq2 : ((0 ≤ p0.toInt ∧ p0.toInt ≤ p1.toInt ∧ p1.toInt ≤ (g 9).toInt) → NZR (F 0) (Int32.toNatClampNeg (g 1)) → (wcR (F 0) (Int32.toNatClampNeg (g 1)) d (Int32.toNatClampNeg p0) (Int32.toNatClampNeg p1 - Int32.toNatClampNeg p0) 0 false ([], tz0)).1.length ≤ 2500 → (-1 : Int32).toInt = (((wcR (F 0) (Int32.toNatClampNeg (g 1)) d (Int32.toNatClampNeg p0) (Int32.toNatClampNeg p1 - Int32.toNatClampNeg p0) 0 false ([], tz0)).1.length : Nat) : Int) ∧ (g 62) = (-1 : Int32) ∧ wdl (F 60) 0 (Int32.toNatClampNeg (g 62)) = (wcR (F 0) (Int32.toNatClampNeg (g 1)) d (Int32.toNatClampNeg p0) (Int32.toNatClampNeg p1 - Int32.toNatClampNeg p0) 0 false ([], tz0)).1 ∧ TYA (F 63) (wcR (F 0) (Int32.toNatClampNeg (g 1)) d (Int32.toNatClampNeg p0) (Int32.toNatClampNeg p1 - Int32.toNatClampNeg p0) 0 false ([], tz0)).2 ∧ (g 65).toInt ≠ 0) := by intro _ _ h; exfalso; have h8 := p173_1 (by omega); have h9 := WIV_wl hw2 (by omega) (p135_0 (by omega)) hend6; omega
                                  exact pw_some ⟨qq0, qq1, qq2⟩
                                · have c196 := z_ne c196
                                  have iv75_0 : (0 ≤ x194_5.toInt ∧ x194_5.toInt ≤ (g 1).toInt) := by omega
                                  have iv75_1 : (WIV (F 0) (Int32.toNatClampNeg (g 1)) d (Int32.toNatClampNeg p0) (Int32.toNatClampNeg p1 - Int32.toNatClampNeg p0) (Int32.toNatClampNeg x194_5) (wdl c173_F61 0 (Int32.toNatClampNeg c173_g66)) c173_F64) := by have h9 := p173_0 (by omega); rw [ex194_5]; exact WIV_w hw2 (by omega) (p135_0 (by omega)) hend6 h9.1 h9.2
                                  have iv75_2 : (BW (wdl c173_F61 0 (Int32.toNatClampNeg c173_g66))) := by exact p173_2 ib75
                                  exact ih75 x194_5 c173_g23 c173_g27 c173_g30 c173_g34 c173_g36 c173_g39 c173_g66 c173_F22 c173_F24 c173_F25 c173_F26 c173_F28 c173_F29 c173_F31 c173_F32 c173_F33 c173_F37 c173_F38 c173_F40 c173_F41 c173_F61 c173_F64 hg41 hg42 hg43 hg44 hg45 hg46 hg47 hg48 hg49 hg50 hg51 hg52 hg53 iv75_0 iv75_1 iv75_2
                              · have c144 := z_nle c144
                                refine pw_if (fun hb153 => ?_)
                                obtain ⟨hbl153, hbr153⟩ := hb153
                                refine pw_b1 (fun r154 hc154 => ?_)
                                have hq154 := wp_at (ok_isLetter ((F 0) (Int32.toNatClampNeg y141_5)) ) hc154
                                obtain ⟨f55, f56⟩ : ((r154.toInt = 1 → 65 ≤ ((F 0) (Int32.toNatClampNeg y141_5)).toInt)) ∧ ((0 ≤ r154.toInt ∧ r154.toInt ≤ 1)) := hq154
                                have hx154 := pwq (fn_isLetter ((F 0) (Int32.toNatClampNeg y141_5)) ) hc154
                                obtain ⟨p154_0, p154_1⟩ : ((r154.toInt ≠ 0 → ((97 ≤ ((F 0) (Int32.toNatClampNeg y141_5)).toInt ∧ ((F 0) (Int32.toNatClampNeg y141_5)).toInt ≤ 122) ∨ (65 ≤ ((F 0) (Int32.toNatClampNeg y141_5)).toInt ∧ ((F 0) (Int32.toNatClampNeg y141_5)).toInt ≤ 90)))) ∧ ((r154.toInt = 0 → ¬ ((97 ≤ ((F 0) (Int32.toNatClampNeg y141_5)).toInt ∧ ((F 0) (Int32.toNatClampNeg y141_5)).toInt ≤ 122) ∨ (65 ≤ ((F 0) (Int32.toNatClampNeg y141_5)).toInt ∧ ((F 0) (Int32.toNatClampNeg y141_5)).toInt ≤ 90)))) := hx154
                                refine pw_ite (fun c157 => ?_) (fun c157 => ?_)
                                · have c157 := congrArg Int32.toInt c157
                                  have k5 := clampI (x := y141_5) (by omega)
                                  have hend : lnd (F 0) (Int32.toNatClampNeg (g 1)) (Int32.toNatClampNeg y75_4 + 1) = Int32.toNatClampNeg y141_5 := il141.trans (lnd_e (fun z => p154_1 (by omega) z.2))
                                  refine pw_j1 ek166 (fun x166_5 ex166_5 => ?_)
                                  have ex166_5 := ex166_5.symm
                                  have f_x166_5 : x166_5.toInt = y141_5.toInt := by rw [ex166_5]
                                  have k166 := clampI (x := x166_5) (by omega)
                                  have hend6 : lnd (F 0) (Int32.toNatClampNeg (g 1)) (Int32.toNatClampNeg y75_4 + 1) = Int32.toNatClampNeg x166_5 := by rw [ex166_5]; exact hend
                                  have hMI173 : id (MInv (upd (upd (upd (upd (upd (upd (upd (upd g 1 0) 23 d75_g23) 27 d75_g27) 30 d75_g30) 34 d75_g34) 36 d75_g36) 39 d75_g39) 66 d75_g66) (upF (upF (upF (upF (upF (upF (upF (upF (upF (upF (upF (upF (upF (upF (upF F 22 d75_F22) 24 d75_F24) 25 d75_F25) 26 d75_F26) 28 d75_F28) 29 d75_F29) 31 d75_F31) 32 d75_F32) 33 d75_F33) 37 d75_F37) 38 d75_F38) 40 d75_F40) 41 d75_F41) 61 d75_F61) 64 d75_F64)) := show MInv (upd (upd (upd (upd (upd (upd (upd (upd g 1 0) 23 d75_g23) 27 d75_g27) 30 d75_g30) 34 d75_g34) 36 d75_g36) 39 d75_g39) 66 d75_g66) (upF (upF (upF (upF (upF (upF (upF (upF (upF (upF (upF (upF (upF (upF (upF F 22 d75_F22) 24 d75_F24) 25 d75_F25) 26 d75_F26) 28 d75_F28) 29 d75_F29) 31 d75_F31) 32 d75_F32) 33 d75_F33) 37 d75_F37) 38 d75_F38) 40 d75_F40) 41 d75_F41) 61 d75_F61) 64 d75_F64) from (MInv_i hg1 ((hI9.2.1)) ((hI9.2.2.1)) ((hI9.2.2.2.1)) ((hI9.2.2.2.2.1)) ((hI9.2.2.2.2.2.1)) ((hI9.2.2.2.2.2.2.1)) ((hI9.2.2.2.2.2.2.2.1)) hzg9 hg9 hg10 hg11 hg12 hg13 hg14 ((hI9.2.2.2.2.2.2.2.2.2.2.2.2.2.2.2.1)) ((hI9.2.2.2.2.2.2.2.2.2.2.2.2.2.2.2.2.1)) ((hI9.2.2.2.2.2.2.2.2.2.2.2.2.2.2.2.2.2.1)) ((hI9.2.2.2.2.2.2.2.2.2.2.2.2.2.2.2.2.2.2.1)) ((hI9.2.2.2.2.2.2.2.2.2.2.2.2.2.2.2.2.2.2.2.1)) ((hI9.2.2.2.2.2.2.2.2.2.2.2.2.2.2.2.2.2.2.2.2.1)) hzg62 hzg65 hg15 ((hI9.2.2.2.2.2.2.2.2.2.2.2.2.2.2.2.2.2.2.2.2.2.2.2.2.1)) hzF11 hzF12 hzF13 hzF15 hzF19 hzF21 hg16 hg17 hg18 hg19 hg20 hg21 hzF43 hzF45 hzF46 hzF50 hzF53 hzF54 hzLQ)
                                  have hpr173_0 : (0 ≤ y75_4.toInt ∧ y75_4.toInt ≤ x166_5.toInt ∧ x166_5.toInt ≤ 2000) := by first | assumption | omega
                                  have hpr173_1 : (0 ≤ p0.toInt ∧ p0.toInt ≤ 6) := by first | assumption | omega
                                  have hpr173_2 : p1.toInt ≤ (g 9).toInt := by first | assumption | omega
                                  refine pw_b23 (fun r173 c173_g23 c173_g27 c173_g30 c173_g34 c173_g36 c173_g39 c173_g66 c173_F22 c173_F24 c173_F25 c173_F26 c173_F28 c173_F29 c173_F31 c173_F32 c173_F33 c173_F37 c173_F38 c173_F40 c173_F41 c173_F61 c173_F64 hc173 => ?_)
                                  have hq173 := wp_at (ok_writeWord (upd (upd (upd (upd (upd (upd (upd (upd g 1 0) 23 d75_g23) 27 d75_g27) 30 d75_g30) 34 d75_g34) 36 d75_g36) 39 d75_g39) 66 d75_g66) (upF (upF (upF (upF (upF (upF (upF (upF (upF (upF (upF (upF (upF (upF (upF F 22 d75_F22) 24 d75_F24) 25 d75_F25) 26 d75_F26) 28 d75_F28) 29 d75_F29) 31 d75_F31) 32 d75_F32) 33 d75_F33) 37 d75_F37) 38 d75_F38) 40 d75_F40) 41 d75_F41) 61 d75_F61) 64 d75_F64) y75_4 x166_5 p0 p1 hMI173 hpr173_0 hpr173_1 hpr173_2) hc173
                                  obtain ⟨hg57, hg58, hg59, hg60, hg61, hg62, hg63, hg64, hg65, hg66, hg67, hg68, hg69, f70⟩ : (((0) ≤ c173_g23.toInt ∧ c173_g23.toInt ≤ 24)) ∧ (((0) ≤ c173_g27.toInt ∧ c173_g27.toInt ≤ 30)) ∧ (((0) ≤ c173_g30.toInt ∧ c173_g30.toInt ≤ 384)) ∧ (((0) ≤ c173_g34.toInt ∧ c173_g34.toInt ≤ 30)) ∧ (((0) ≤ c173_g36.toInt ∧ c173_g36.toInt ≤ 1)) ∧ (((0) ≤ c173_g39.toInt ∧ c173_g39.toInt ≤ 12)) ∧ (((0) ≤ c173_g66.toInt ∧ c173_g66.toInt ≤ 2500)) ∧ (rng (0) 24 c173_F24) ∧ (rng (0) 24 c173_F25) ∧ (rng (0) 24 c173_F26) ∧ (rng (0) 24 c173_F33) ∧ (rng (0) 24 c173_F38) ∧ (rng (0) 24 c173_F41) ∧ ((0 ≤ r173.toInt ∧ r173.toInt ≤ 1)) := hq173
                                  have h8173_hrv : id (∀ q : Nat, p0.toInt ≤ (q : Int) → (q : Int) < p1.toInt → RVd (F 13) (F 20) (F 21) (F 12) (F 18) (F 19) (F 11) (F 14) (F 15) (F 16) (F 17) q = d q ∧ WFD (d q)) := show ∀ q : Nat, p0.toInt ≤ (q : Int) → (q : Int) < p1.toInt → RVd (F 13) (F 20) (F 21) (F 12) (F 18) (F 19) (F 11) (F 14) (F 15) (F 16) (F 17) q = d q ∧ WFD (d q) from by exact fun q h1 h2 => hrd q (by omega)
                                  have h8173_hfit : ∀ i, fits .byte (.int ((F 0) i)) = true := by exact hfit
                                  have h8173_hlt : y75_4.toInt < x166_5.toInt := by omega
                                  have h8173_hst : wdl d75_F61 0 (Int32.toNatClampNeg d75_g66) = ((wdl d75_F61 0 (Int32.toNatClampNeg d75_g66), tw)).1 ∧ TYA d75_F64 ((wdl d75_F61 0 (Int32.toNatClampNeg d75_g66), tw)).2 := by exact ⟨rfl, hw1⟩
                                  have hx173 := pwq (fn_writeWord (upd (upd (upd (upd (upd (upd (upd (upd g 1 0) 23 d75_g23) 27 d75_g27) 30 d75_g30) 34 d75_g34) 36 d75_g36) 39 d75_g39) 66 d75_g66) (upF (upF (upF (upF (upF (upF (upF (upF (upF (upF (upF (upF (upF (upF (upF F 22 d75_F22) 24 d75_F24) 25 d75_F25) 26 d75_F26) 28 d75_F28) 29 d75_F29) 31 d75_F31) 32 d75_F32) 33 d75_F33) 37 d75_F37) 38 d75_F38) 40 d75_F40) 41 d75_F41) 61 d75_F61) 64 d75_F64) y75_4 x166_5 p0 p1 (d) ((wdl d75_F61 0 (Int32.toNatClampNeg d75_g66), tw)) hMI173 hpr173_0 hpr173_1 hpr173_2 h8173_hrv h8173_hfit h8173_hlt h8173_hst) hc173
                                  obtain ⟨p173_0, p173_1, p173_2⟩ : (id ((r173.toInt ≠ 0 → wdl c173_F61 0 (Int32.toNatClampNeg c173_g66) = (wdS d (Int32.toNatClampNeg p0) (Int32.toNatClampNeg p1 - Int32.toNatClampNeg p0) (wdl (F 0) (Int32.toNatClampNeg y75_4) (Int32.toNatClampNeg x166_5 - Int32.toNatClampNeg y75_4)) ((wdl d75_F61 0 (Int32.toNatClampNeg d75_g66), tw))).1 ∧ TYA c173_F64 (wdS d (Int32.toNatClampNeg p0) (Int32.toNatClampNeg p1 - Int32.toNatClampNeg p0) (wdl (F 0) (Int32.toNatClampNeg y75_4) (Int32.toNatClampNeg x166_5 - Int32.toNatClampNeg y75_4)) ((wdl d75_F61 0 (Int32.toNatClampNeg d75_g66), tw))).2))) ∧ (id ((r173.toInt = 0 → 2500 < (wdS d (Int32.toNatClampNeg p0) (Int32.toNatClampNeg p1 - Int32.toNatClampNeg p0) (wdl (F 0) (Int32.toNatClampNeg y75_4) (Int32.toNatClampNeg x166_5 - Int32.toNatClampNeg y75_4)) ((wdl d75_F61 0 (Int32.toNatClampNeg d75_g66), tw))).1.length))) ∧ (id ((BW (wdl d75_F61 0 (Int32.toNatClampNeg d75_g66)) → BW (wdl c173_F61 0 (Int32.toNatClampNeg c173_g66))))) := hx173
                                  refine pw_j24 ej194 (fun x194_5 ex194_5 x194_6 ex194_6 z194_1 ez194_1 z194_2 ez194_2 z194_3 ez194_3 z194_4 ez194_4 z194_5 ez194_5 z194_6 ez194_6 z194_7 ez194_7 z194_8 ez194_8 z194_9 ez194_9 z194_10 ez194_10 z194_11 ez194_11 z194_12 ez194_12 z194_13 ez194_13 z194_14 ez194_14 z194_15 ez194_15 z194_16 ez194_16 z194_17 ez194_17 z194_18 ez194_18 z194_19 ez194_19 z194_20 ez194_20 z194_21 ez194_21 z194_22 ez194_22 => ?_)
                                  subst ez194_1 ez194_2 ez194_3 ez194_4 ez194_5 ez194_6 ez194_7 ez194_8 ez194_9 ez194_10 ez194_11 ez194_12 ez194_13 ez194_14 ez194_15 ez194_16 ez194_17 ez194_18 ez194_19 ez194_20 ez194_21 ez194_22
                                  have ex194_5 := ex194_5.symm
                                  have f_x194_5 : x194_5.toInt = x166_5.toInt := by rw [ex194_5]
                                  have ex194_6 := ex194_6.symm
                                  have f_x194_6 : x194_6.toInt = r173.toInt := by rw [ex194_6]
                                  refine pw_ite (fun c196 => ?_) (fun c196 => ?_)
                                  · have c196 := congrArg Int32.toInt c196
                                    have qq0 : (¬ (0 ≤ p0.toInt ∧ p0.toInt ≤ p1.toInt ∧ p1.toInt ≤ (g 9).toInt) → (-1 : Int32).toInt = -2 ∧ (g 62) = (g 62) ∧ (F 60) = (F 60) ∧ (F 63) = (F 63) ∧ (g 65) = (g 65)) := by intro h; exfalso; exact h ⟨by omega, by omega, by omega⟩
                                    have qq1 : ((0 ≤ p0.toInt ∧ p0.toInt ≤ p1.toInt ∧ p1.toInt ≤ (g 9).toInt) → ¬ (NZR (F 0) (Int32.toNatClampNeg (g 1)) ∧ (wcR (F 0) (Int32.toNatClampNeg (g 1)) d (Int32.toNatClampNeg p0) (Int32.toNatClampNeg p1 - Int32.toNatClampNeg p0) 0 false ([], tz0)).1.length ≤ 2500) → (-1 : Int32).toInt = -1 ∧ (g 62) = (g 62) ∧ (F 60) = (F 60) ∧ (F 63) = (F 63) ∧ (g 65) = (g 65)) := by intro _ _; exact ⟨by omega, rfl, rfl, rfl, rfl⟩
                                    have qq2 : ((0 ≤ p0.toInt ∧ p0.toInt ≤ p1.toInt ∧ p1.toInt ≤ (g 9).toInt) → NZR (F 0) (Int32.toNatClampNeg (g 1)) → (wcR (F 0) (Int32.toNatClampNeg (g 1)) d (Int32.toNatClampNeg p0) (Int32.toNatClampNeg p1 - Int32.toNatClampNeg p0) 0 false ([], tz0)).1.length ≤ 2500 → (-1 : Int32).toInt = (((wcR (F 0) (Int32.toNatClampNeg (g 1)) d (Int32.toNatClampNeg p0) (Int32.toNatClampNeg p1 - Int32.toNatClampNeg p0) 0 false ([], tz0)).1.length : Nat) : Int) ∧ (g 62) = (-1 : Int32) ∧ wdl (F 60) 0 (Int32.toNatClampNeg (g 62)) = (wcR (F 0) (Int32.toNatClampNeg (g 1)) d (Int32.toNatClampNeg p0) (Int32.toNatClampNeg p1 - Int32.toNatClampNeg p0) 0 false ([], tz0)).1 ∧ TYA (F 63) (wcR (F 0) (Int32.toNatClampNeg (g 1)) d (Int32.toNatClampNeg p0) (Int32.toNatClampNeg p1 - Int32.toNatClampNeg p0) 0 false ([], tz0)).2 ∧ (g 65).toInt ≠ 0) := by intro _ _ h; exfalso; have h8 := p173_1 (by omega); have h9 := WIV_wl hw2 (by omega) (p135_0 (by omega)) hend6; omega
                                    exact pw_some ⟨qq0, qq1, qq2⟩
                                  · have c196 := z_ne c196
                                    have iv75_0 : (0 ≤ x194_5.toInt ∧ x194_5.toInt ≤ (g 1).toInt) := by omega
                                    have iv75_1 : (WIV (F 0) (Int32.toNatClampNeg (g 1)) d (Int32.toNatClampNeg p0) (Int32.toNatClampNeg p1 - Int32.toNatClampNeg p0) (Int32.toNatClampNeg x194_5) (wdl c173_F61 0 (Int32.toNatClampNeg c173_g66)) c173_F64) := by have h9 := p173_0 (by omega); rw [ex194_5]; exact WIV_w hw2 (by omega) (p135_0 (by omega)) hend6 h9.1 h9.2
                                    have iv75_2 : (BW (wdl c173_F61 0 (Int32.toNatClampNeg c173_g66))) := by exact p173_2 ib75
                                    exact ih75 x194_5 c173_g23 c173_g27 c173_g30 c173_g34 c173_g36 c173_g39 c173_g66 c173_F22 c173_F24 c173_F25 c173_F26 c173_F28 c173_F29 c173_F31 c173_F32 c173_F33 c173_F37 c173_F38 c173_F40 c173_F41 c173_F61 c173_F64 hg57 hg58 hg59 hg60 hg61 hg62 hg63 hg64 hg65 hg66 hg67 hg68 hg69 iv75_0 iv75_1 iv75_2
                                · have c157 := z_ne c157
                                  have f71 : (y141_5 + 1).toInt = y141_5.toInt + (1) := z_addc (by decide +kernel) (by omega) (by omega)
                                  have iv141_0 : (y75_4.toInt + 1 ≤ (y141_5 + 1).toInt ∧ (y141_5 + 1).toInt ≤ (g 1).toInt) := by omega
                                  have iv141_1 : (lnd (F 0) (Int32.toNatClampNeg (g 1)) (Int32.toNatClampNeg y75_4 + 1) = lnd (F 0) (Int32.toNatClampNeg (g 1)) (Int32.toNatClampNeg (y141_5 + 1))) := by have k5 := clampI (x := y141_5) (by omega); have k6 := clampI (x := y141_5 + 1) (by omega); rw [il141, lnd_s (by omega) (p154_0 (by omega)), show Int32.toNatClampNeg y141_5 + 1 = Int32.toNatClampNeg (y141_5 + 1) by omega]
                                  exact ih141 (y141_5 + 1) iv141_0 iv141_1
                          exact lp141 NN x85 (show (y75_4.toInt + 1 ≤ x85.toInt ∧ x85.toInt ≤ (g 1).toInt) from by omega) (show (lnd (F 0) (Int32.toNatClampNeg (g 1)) (Int32.toNatClampNeg y75_4 + 1) = lnd (F 0) (Int32.toNatClampNeg (g 1)) (Int32.toNatClampNeg x85)) from by rw [show Int32.toNatClampNeg y75_4 + 1 = Int32.toNatClampNeg x85 by omega])
                exact lp75 NN (0 : Int32) (g 23) (g 27) (g 30) (g 34) (g 36) (g 39) (0 : Int32) (F 22) (F 24) (F 25) (F 26) (F 28) (F 29) (F 31) (F 32) (F 33) (F 37) (F 38) (F 40) (F 41) (F 61) d52_F64 hzg23 hzg27 hzg30 hzg34 hzg36 hzg39 hg7 hzF24 hzF25 hzF26 hzF33 hzF38 hzF41 (show (0 ≤ (0 : Int32).toInt ∧ (0 : Int32).toInt ≤ (g 1).toInt) from by omega) (show (WIV (F 0) (Int32.toNatClampNeg (g 1)) d (Int32.toNatClampNeg p0) (Int32.toNatClampNeg p1 - Int32.toNatClampNeg p0) (Int32.toNatClampNeg (0 : Int32)) (wdl (F 61) 0 (Int32.toNatClampNeg (0 : Int32))) d52_F64) from by exact WIV_0 hcz rfl rfl) (show (BW (wdl (F 61) 0 (Int32.toNatClampNeg (0 : Int32)))) from by exact fun x hx => by cases hx)
              · have c55 := z_nle c55
                refine pw_if (fun hb65 => ?_)
                obtain ⟨hbl65, hbr65⟩ := hb65
                refine pw_vl (fun w65 ew65 => ?_)
                have f72 : (y52_4 + 1).toInt = y52_4.toInt + (1) := z_addc (by decide +kernel) (by omega) (by omega)
                have iv52_0 : (0 ≤ (y52_4 + 1).toInt ∧ (y52_4 + 1).toInt ≤ 5) := by omega
                have iv52_1 : (∀ j, j < Int32.toNatClampNeg (y52_4 + 1) → w65 j = 0) := by have k4 := clampI (x := y52_4) (by omega); have k5 := clampI (x := y52_4 + 1) (by omega); intro j hj; by_cases q9 : j = Int32.toNatClampNeg y52_4; (rw [q9, ew65, pk_us]); (rw [ew65, pk_un q9]; exact iz52 j (by omega))
                exact ih52 (y52_4 + 1) w65 iv52_0 iv52_1
          exact lp52 NN (0 : Int32) (F 64) (show (0 ≤ (0 : Int32).toInt ∧ (0 : Int32).toInt ≤ 5) from by omega) (show (∀ j, j < Int32.toNatClampNeg (0 : Int32) → (F 64) j = 0) from by intro j hj; exact absurd hj (Nat.not_lt_zero _))
        · have c39 := z_ne c39
          have qq0 : (¬ (0 ≤ p0.toInt ∧ p0.toInt ≤ p1.toInt ∧ p1.toInt ≤ (g 9).toInt) → (-1 : Int32).toInt = -2 ∧ (g 62) = (g 62) ∧ (F 60) = (F 60) ∧ (F 63) = (F 63) ∧ (g 65) = (g 65)) := by intro h; exfalso; exact h ⟨by omega, by omega, by omega⟩
          have qq1 : ((0 ≤ p0.toInt ∧ p0.toInt ≤ p1.toInt ∧ p1.toInt ≤ (g 9).toInt) → ¬ (NZR (F 0) (Int32.toNatClampNeg (g 1)) ∧ (wcR (F 0) (Int32.toNatClampNeg (g 1)) d (Int32.toNatClampNeg p0) (Int32.toNatClampNeg p1 - Int32.toNatClampNeg p0) 0 false ([], tz0)).1.length ≤ 2500) → (-1 : Int32).toInt = -1 ∧ (g 62) = (g 62) ∧ (F 60) = (F 60) ∧ (F 63) = (F 63) ∧ (g 65) = (g 65)) := by intro _ _; exact ⟨by omega, rfl, rfl, rfl, rfl⟩
          have qq2 : ((0 ≤ p0.toInt ∧ p0.toInt ≤ p1.toInt ∧ p1.toInt ≤ (g 9).toInt) → NZR (F 0) (Int32.toNatClampNeg (g 1)) → (wcR (F 0) (Int32.toNatClampNeg (g 1)) d (Int32.toNatClampNeg p0) (Int32.toNatClampNeg p1 - Int32.toNatClampNeg p0) 0 false ([], tz0)).1.length ≤ 2500 → (-1 : Int32).toInt = (((wcR (F 0) (Int32.toNatClampNeg (g 1)) d (Int32.toNatClampNeg p0) (Int32.toNatClampNeg p1 - Int32.toNatClampNeg p0) 0 false ([], tz0)).1.length : Nat) : Int) ∧ (g 62) = (-1 : Int32) ∧ wdl (F 60) 0 (Int32.toNatClampNeg (g 62)) = (wcR (F 0) (Int32.toNatClampNeg (g 1)) d (Int32.toNatClampNeg p0) (Int32.toNatClampNeg p1 - Int32.toNatClampNeg p0) 0 false ([], tz0)).1 ∧ TYA (F 63) (wcR (F 0) (Int32.toNatClampNeg (g 1)) d (Int32.toNatClampNeg p0) (Int32.toNatClampNeg p1 - Int32.toNatClampNeg p0) 0 false ([], tz0)).2 ∧ (g 65).toInt ≠ 0) := by intro _ h; exfalso; exact p36_0 (by omega) h
          exact pw_some ⟨qq0, qq1, qq2⟩
      · have c28 := z_nle c28
        refine pw_j0 ej31 ?_
        have qq0 : (¬ (0 ≤ p0.toInt ∧ p0.toInt ≤ p1.toInt ∧ p1.toInt ≤ (g 9).toInt) → (-2 : Int32).toInt = -2 ∧ (g 62) = (g 62) ∧ (F 60) = (F 60) ∧ (F 63) = (F 63) ∧ (g 65) = (g 65)) := by intro _; exact ⟨by omega, rfl, rfl, rfl, rfl⟩
        have qq1 : ((0 ≤ p0.toInt ∧ p0.toInt ≤ p1.toInt ∧ p1.toInt ≤ (g 9).toInt) → ¬ (NZR (F 0) (Int32.toNatClampNeg (g 1)) ∧ (wcR (F 0) (Int32.toNatClampNeg (g 1)) d (Int32.toNatClampNeg p0) (Int32.toNatClampNeg p1 - Int32.toNatClampNeg p0) 0 false ([], tz0)).1.length ≤ 2500) → (-2 : Int32).toInt = -1 ∧ (g 62) = (g 62) ∧ (F 60) = (F 60) ∧ (F 63) = (F 63) ∧ (g 65) = (g 65)) := by intro h; exfalso; omega
        have qq2 : ((0 ≤ p0.toInt ∧ p0.toInt ≤ p1.toInt ∧ p1.toInt ≤ (g 9).toInt) → NZR (F 0) (Int32.toNatClampNeg (g 1)) → (wcR (F 0) (Int32.toNatClampNeg (g 1)) d (Int32.toNatClampNeg p0) (Int32.toNatClampNeg p1 - Int32.toNatClampNeg p0) 0 false ([], tz0)).1.length ≤ 2500 → (-2 : Int32).toInt = (((wcR (F 0) (Int32.toNatClampNeg (g 1)) d (Int32.toNatClampNeg p0) (Int32.toNatClampNeg p1 - Int32.toNatClampNeg p0) 0 false ([], tz0)).1.length : Nat) : Int) ∧ (g 62) = (-2 : Int32) ∧ wdl (F 60) 0 (Int32.toNatClampNeg (g 62)) = (wcR (F 0) (Int32.toNatClampNeg (g 1)) d (Int32.toNatClampNeg p0) (Int32.toNatClampNeg p1 - Int32.toNatClampNeg p0) 0 false ([], tz0)).1 ∧ TYA (F 63) (wcR (F 0) (Int32.toNatClampNeg (g 1)) d (Int32.toNatClampNeg p0) (Int32.toNatClampNeg p1 - Int32.toNatClampNeg p0) 0 false ([], tz0)).2 ∧ (g 65).toInt ≠ 0) := by intro h; exfalso; omega
        exact pw_some ⟨qq0, qq1, qq2⟩
abbrev QF_counted (g : Nat → Int32) (F : Nat → Nat → Int32) (p0 : Int32) : (Int32) → Prop := (fun t => ((((g 65).toInt ≠ 0 ∧ 0 ≤ p0.toInt ∧ p0.toInt < 5) → t = (F 63) (Int32.toNatClampNeg p0))) ∧ ((¬ ((g 65).toInt ≠ 0 ∧ 0 ≤ p0.toInt ∧ p0.toInt < 5) → t.toInt = -1)))
set_option maxHeartbeats 4000000 in
set_option maxRecDepth 100000 in
theorem fn_counted (g : Nat → Int32) (F : Nat → Nat → Int32) (p0 : Int32) (hI : MInv g F) : pw (f_counted g F p0) (QF_counted g F p0) := by
  unfold f_counted
  have hI9 : id (MInv g F) := hI
  obtain ⟨-, -, -, -, -, -, -, -, -, -, -, -, -, -, -, -, -, -, -, -, -, -, hzg65, -, -, hzF11, hzF12, hzF13, hzF15, hzF19, hzF21, hzF24, hzF25, hzF26, hzF33, hzF38, hzF41, hzF43, hzF45, hzF46, hzF50, hzF53, hzF54, hzLQ⟩ := hI
  have zkm1 : (-1 : Int32).toInt = -1 := by decide +kernel
  have zk0 : (0 : Int32).toInt = 0 := by decide +kernel
  have zk4 : (4 : Int32).toInt = 4 := by decide +kernel
  refine pw_jE (fun j26 ej26 => ?_)
  refine pw_jE (fun j25 ej25 => ?_)
  refine pw_ite (fun c4 => ?_) (fun c4 => ?_)
  · have c4 := congrArg Int32.toInt c4
    refine pw_j0 ej25 ?_
    refine pw_j1 ej26 (fun t26_0 et26_0 => ?_)
    have et26_0 := et26_0.symm
    have f_t26_0 : t26_0.toInt = (-1) := by rw [et26_0]; decide +kernel
    have qq0 : (((g 65).toInt ≠ 0 ∧ 0 ≤ p0.toInt ∧ p0.toInt < 5) → t26_0 = (F 63) (Int32.toNatClampNeg p0)) := by intro h; exfalso; omega
    have qq1 : (¬ ((g 65).toInt ≠ 0 ∧ 0 ≤ p0.toInt ∧ p0.toInt < 5) → t26_0.toInt = -1) := by intro _; omega
    exact pw_some ⟨qq0, qq1⟩
  · have c4 := z_ne c4
    refine pw_b1 (fun r10 hc10 => ?_)
    have hq10 := wp_at (ok_in p0 (0 : Int32) (4 : Int32) ) hc10
    obtain ⟨f1, f2, f3⟩ : ((r10.toInt = 1 → (0 : Int32).toInt ≤ p0.toInt ∧ p0.toInt ≤ (4 : Int32).toInt)) ∧ ((r10.toInt = 0 → p0.toInt < (0 : Int32).toInt ∨ (4 : Int32).toInt < p0.toInt)) ∧ ((0 ≤ r10.toInt ∧ r10.toInt ≤ 1)) := hq10
    refine pw_ite (fun c13 => ?_) (fun c13 => ?_)
    · have c13 := congrArg Int32.toInt c13
      refine pw_j0 ej25 ?_
      refine pw_j1 ej26 (fun t26_0 et26_0 => ?_)
      have et26_0 := et26_0.symm
      have f_t26_0 : t26_0.toInt = (-1) := by rw [et26_0]; decide +kernel
      have qq0 : (((g 65).toInt ≠ 0 ∧ 0 ≤ p0.toInt ∧ p0.toInt < 5) → t26_0 = (F 63) (Int32.toNatClampNeg p0)) := by intro h; exfalso; omega
      have qq1 : (¬ ((g 65).toInt ≠ 0 ∧ 0 ≤ p0.toInt ∧ p0.toInt < 5) → t26_0.toInt = -1) := by intro _; omega
      exact pw_some ⟨qq0, qq1⟩
    · have c13 := z_ne c13
      refine pw_if (fun hb21 => ?_)
      obtain ⟨hbl21, hbr21⟩ := hb21
      refine pw_j1 ej26 (fun t26_0 et26_0 => ?_)
      have et26_0 := et26_0.symm
      have f_t26_0 : t26_0.toInt = ((F 63) (Int32.toNatClampNeg p0)).toInt := by rw [et26_0]
      have qq0 : (((g 65).toInt ≠ 0 ∧ 0 ≤ p0.toInt ∧ p0.toInt < 5) → t26_0 = (F 63) (Int32.toNatClampNeg p0)) := by intro _; first | rfl | assumption
      have qq1 : (¬ ((g 65).toInt ≠ 0 ∧ 0 ≤ p0.toInt ∧ p0.toInt < 5) → t26_0.toInt = -1) := by intro h; exfalso; omega
      exact pw_some ⟨qq0, qq1⟩
