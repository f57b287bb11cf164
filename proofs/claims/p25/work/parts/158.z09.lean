abbrev QF_tell (g : Nat → Int32) (F : Nat → Nat → Int32) (p0 : Int32) (p1 : Int32) (d : Nat → Dr) (Ws : List Wd) : (Int32 × Int32 × Int32 × Int32 × Int32 × Int32 × Int32 × Int32 × (Nat → Int32) × (Nat → Int32) × (Nat → Int32) × (Nat → Int32) × (Nat → Int32) × (Nat → Int32) × (Nat → Int32) × (Nat → Int32) × (Nat → Int32) × (Nat → Int32) × (Nat → Int32) × (Nat → Int32) × (Nat → Int32) × (Nat → Int32) × (Nat → Int32) × (Nat → Int32)) → Prop := (fun t => ((¬ ((0 ≤ p0.toInt ∧ p0.toInt ≤ (g 9).toInt) ∧ 0 ≤ p1.toInt ∧ p1.toInt ≤ 2) → (t.1).toInt = -2)) ∧ (((0 ≤ p0.toInt ∧ p0.toInt ≤ (g 9).toInt) ∧ 0 ≤ p1.toInt ∧ p1.toInt ≤ 2 → (t.1).toInt = ((cnB (fun w => tlB (FMT d Ws (Int32.toNatClampNeg p0) w) (Ws.getD w []) p1.toInt) Ws.length : Nat) : Int))) ∧ (((t.2.2.2.2.2.2.2.1).toInt ≠ 0 → MKT (t.2.2.2.2.2.2.2.2.2.2.2.2.2.2.2.2.2.2.2.2.2.2.2) (t.2.2.2.2.2.2.2.2.2.2.2.2.2.2.2.2.2.2.2.2.2.1) (t.2.2.2.2.2.2.2.2.2.2.2.2.2.2.2.2.2.2.2.2.2.2.1) d Ws (fun w s => w < Int32.toNatClampNeg (g 48) ∧ s ≤ Int32.toNatClampNeg (g 9)))))
set_option maxHeartbeats 4000000 in
set_option maxRecDepth 100000 in
theorem fn_tell (g : Nat → Int32) (F : Nat → Nat → Int32) (p0 : Int32) (p1 : Int32) (d : Nat → Dr) (Ws : List Wd) (hI : MInv g F) (hrd : ∀ q, q < Int32.toNatClampNeg (g 9) → RVd (F 13) (F 20) (F 21) (F 12) (F 18) (F 19) (F 11) (F 14) (F 15) (F 16) (F 17) q = d q ∧ WFD (d q)) (hWs : rwW (g 48) (F 49) (F 50) 24 = Ws) (hWw : WDS Ws) (hmk : (g 51).toInt ≠ 0 → MKT (F 54) (F 52) (F 53) d Ws (fun w s => w < Int32.toNatClampNeg (g 48) ∧ s ≤ Int32.toNatClampNeg (g 9))) : pw (f_tell g F p0 p1) (QF_tell g F p0 p1 d Ws) := by
  unfold f_tell
  have hI9 : id (MInv g F) := hI
  obtain ⟨-, -, -, -, -, -, -, -, hzg9, hzg23, -, -, -, -, -, -, -, hzg48, hzg51, -, -, -, -, -, -, hzF11, hzF12, hzF13, hzF15, hzF19, hzF21, hzF24, hzF25, hzF26, hzF33, hzF38, hzF41, hzF43, hzF45, hzF46, hzF50, hzF53, hzF54, hzLQ⟩ := hI
  have zkm2 : (-2 : Int32).toInt = -2 := by decide +kernel
  have zk0 : (0 : Int32).toInt = 0 := by decide +kernel
  have zk1 : (1 : Int32).toInt = 1 := by decide +kernel
  have zk2 : (2 : Int32).toInt = 2 := by decide +kernel
  have zk7 : (7 : Int32).toInt = 7 := by decide +kernel
  have zk24 : (24 : Int32).toInt = 24 := by decide +kernel
  have hb9 := hzg9
  have c9 := clampI (x := g 9) (by omega)
  have hb48 := hzg48
  have c48 := clampI (x := g 48) (by omega)
  have hWl : Ws.length = Int32.toNatClampNeg (g 48) := by rw [← hWs]; exact rw_len
  have hMI2 : id (MInv g F) := show MInv g F from (MInv_i ((hI9.1)) ((hI9.2.1)) ((hI9.2.2.1)) ((hI9.2.2.2.1)) ((hI9.2.2.2.2.1)) ((hI9.2.2.2.2.2.1)) ((hI9.2.2.2.2.2.2.1)) ((hI9.2.2.2.2.2.2.2.1)) hzg9 hzg23 ((hI9.2.2.2.2.2.2.2.2.2.2.1)) ((hI9.2.2.2.2.2.2.2.2.2.2.2.1)) ((hI9.2.2.2.2.2.2.2.2.2.2.2.2.1)) ((hI9.2.2.2.2.2.2.2.2.2.2.2.2.2.1)) ((hI9.2.2.2.2.2.2.2.2.2.2.2.2.2.2.1)) ((hI9.2.2.2.2.2.2.2.2.2.2.2.2.2.2.2.1)) ((hI9.2.2.2.2.2.2.2.2.2.2.2.2.2.2.2.2.1)) hzg48 hzg51 ((hI9.2.2.2.2.2.2.2.2.2.2.2.2.2.2.2.2.2.2.2.1)) ((hI9.2.2.2.2.2.2.2.2.2.2.2.2.2.2.2.2.2.2.2.2.1)) ((hI9.2.2.2.2.2.2.2.2.2.2.2.2.2.2.2.2.2.2.2.2.2.1)) ((hI9.2.2.2.2.2.2.2.2.2.2.2.2.2.2.2.2.2.2.2.2.2.2.1)) ((hI9.2.2.2.2.2.2.2.2.2.2.2.2.2.2.2.2.2.2.2.2.2.2.2.1)) ((hI9.2.2.2.2.2.2.2.2.2.2.2.2.2.2.2.2.2.2.2.2.2.2.2.2.1)) hzF11 hzF12 hzF13 hzF15 hzF19 hzF21 hzF24 hzF25 hzF26 hzF33 hzF38 hzF41 hzF43 hzF45 hzF46 hzF50 hzF53 hzF54 hzLQ)
  refine pw_b1 (fun r2 hc2 => ?_)
  have hq2 := wp_at (ok_isStage g F p0 hMI2) hc2
  obtain ⟨f1, f2⟩ : ((r2.toInt = 1 → 0 ≤ p0.toInt ∧ p0.toInt ≤ (g 9).toInt)) ∧ ((0 ≤ r2.toInt ∧ r2.toInt ≤ 1)) := hq2
  have hx2 := pwq (fn_isStage g F p0 hMI2) hc2
  obtain ⟨p2_0, p2_1⟩ : ((r2.toInt ≠ 0 → 0 ≤ p0.toInt ∧ p0.toInt ≤ (g 9).toInt)) ∧ ((r2.toInt = 0 → ¬ (0 ≤ p0.toInt ∧ p0.toInt ≤ (g 9).toInt))) := hx2
  refine pw_jE (fun j17 ej17 => ?_)
  refine pw_ite (fun c5 => ?_) (fun c5 => ?_)
  · have c5 := congrArg Int32.toInt c5
    refine pw_j0 ej17 ?_
    have qq0 : (¬ ((0 ≤ p0.toInt ∧ p0.toInt ≤ (g 9).toInt) ∧ 0 ≤ p1.toInt ∧ p1.toInt ≤ 2) → (-2 : Int32).toInt = -2) := by intro _; omega
    have qq1 : ((0 ≤ p0.toInt ∧ p0.toInt ≤ (g 9).toInt) ∧ 0 ≤ p1.toInt ∧ p1.toInt ≤ 2 → (-2 : Int32).toInt = ((cnB (fun w => tlB (FMT d Ws (Int32.toNatClampNeg p0) w) (Ws.getD w []) p1.toInt) Ws.length : Nat) : Int)) := by intro h; exfalso; exact p2_1 (by omega) h.1
    have qq2 : ((g 51).toInt ≠ 0 → MKT (F 54) (F 52) (F 53) d Ws (fun w s => w < Int32.toNatClampNeg (g 48) ∧ s ≤ Int32.toNatClampNeg (g 9))) := by exact hmk
    exact pw_some ⟨qq0, qq1, qq2⟩
  · have c5 := z_ne c5
    refine pw_b1 (fun r11 hc11 => ?_)
    have hq11 := wp_at (ok_in p1 (0 : Int32) (2 : Int32) ) hc11
    obtain ⟨f3, f4, f5⟩ : ((r11.toInt = 1 → (0 : Int32).toInt ≤ p1.toInt ∧ p1.toInt ≤ (2 : Int32).toInt)) ∧ ((r11.toInt = 0 → p1.toInt < (0 : Int32).toInt ∨ (2 : Int32).toInt < p1.toInt)) ∧ ((0 ≤ r11.toInt ∧ r11.toInt ≤ 1)) := hq11
    refine pw_ite (fun c14 => ?_) (fun c14 => ?_)
    · have c14 := congrArg Int32.toInt c14
      refine pw_j0 ej17 ?_
      have qq0 : (¬ ((0 ≤ p0.toInt ∧ p0.toInt ≤ (g 9).toInt) ∧ 0 ≤ p1.toInt ∧ p1.toInt ≤ 2) → (-2 : Int32).toInt = -2) := by intro _; omega
      have qq1 : ((0 ≤ p0.toInt ∧ p0.toInt ≤ (g 9).toInt) ∧ 0 ≤ p1.toInt ∧ p1.toInt ≤ 2 → (-2 : Int32).toInt = ((cnB (fun w => tlB (FMT d Ws (Int32.toNatClampNeg p0) w) (Ws.getD w []) p1.toInt) Ws.length : Nat) : Int)) := by intro h; exfalso; have h2 := h.2; omega
      have qq2 : ((g 51).toInt ≠ 0 → MKT (F 54) (F 52) (F 53) d Ws (fun w s => w < Int32.toNatClampNeg (g 48) ∧ s ≤ Int32.toNatClampNeg (g 9))) := by exact hmk
      exact pw_some ⟨qq0, qq1, qq2⟩
    · have c14 := z_ne c14
      have s1 := p2_0 (by omega)
      have cp0 := clampI (x := p0) (by omega)
      have s2 : 0 ≤ p1.toInt ∧ p1.toInt ≤ 2 := by omega
      have hMI21 : id (MInv g F) := show MInv g F from (MInv_i ((hI9.1)) ((hI9.2.1)) ((hI9.2.2.1)) ((hI9.2.2.2.1)) ((hI9.2.2.2.2.1)) ((hI9.2.2.2.2.2.1)) ((hI9.2.2.2.2.2.2.1)) ((hI9.2.2.2.2.2.2.2.1)) hzg9 hzg23 ((hI9.2.2.2.2.2.2.2.2.2.2.1)) ((hI9.2.2.2.2.2.2.2.2.2.2.2.1)) ((hI9.2.2.2.2.2.2.2.2.2.2.2.2.1)) ((hI9.2.2.2.2.2.2.2.2.2.2.2.2.2.1)) ((hI9.2.2.2.2.2.2.2.2.2.2.2.2.2.2.1)) ((hI9.2.2.2.2.2.2.2.2.2.2.2.2.2.2.2.1)) ((hI9.2.2.2.2.2.2.2.2.2.2.2.2.2.2.2.2.1)) hzg48 hzg51 ((hI9.2.2.2.2.2.2.2.2.2.2.2.2.2.2.2.2.2.2.2.1)) ((hI9.2.2.2.2.2.2.2.2.2.2.2.2.2.2.2.2.2.2.2.2.1)) ((hI9.2.2.2.2.2.2.2.2.2.2.2.2.2.2.2.2.2.2.2.2.2.1)) ((hI9.2.2.2.2.2.2.2.2.2.2.2.2.2.2.2.2.2.2.2.2.2.2.1)) ((hI9.2.2.2.2.2.2.2.2.2.2.2.2.2.2.2.2.2.2.2.2.2.2.2.1)) ((hI9.2.2.2.2.2.2.2.2.2.2.2.2.2.2.2.2.2.2.2.2.2.2.2.2.1)) hzF11 hzF12 hzF13 hzF15 hzF19 hzF21 hzF24 hzF25 hzF26 hzF33 hzF38 hzF41 hzF43 hzF45 hzF46 hzF50 hzF53 hzF54 hzLQ)
      refine pw_b23 (fun c21_g23 c21_g27 c21_g30 c21_g34 c21_g36 c21_g39 c21_g51 c21_F22 c21_F24 c21_F25 c21_F26 c21_F28 c21_F29 c21_F31 c21_F32 c21_F33 c21_F37 c21_F38 c21_F40 c21_F41 c21_F52 c21_F53 c21_F54 hc21 => ?_)
      have hq21 := wp_at (ok_make g F hMI21) hc21
      obtain ⟨hg6, hg7, hg8, hg9, hg10, hg11, hg12, hg13, hg14, hg15, hg16, hg17, hg18, hg19, hg20⟩ : (((0) ≤ c21_g23.toInt ∧ c21_g23.toInt ≤ 24)) ∧ (((0) ≤ c21_g27.toInt ∧ c21_g27.toInt ≤ 30)) ∧ (((0) ≤ c21_g30.toInt ∧ c21_g30.toInt ≤ 384)) ∧ (((0) ≤ c21_g34.toInt ∧ c21_g34.toInt ≤ 30)) ∧ (((0) ≤ c21_g36.toInt ∧ c21_g36.toInt ≤ 1)) ∧ (((0) ≤ c21_g39.toInt ∧ c21_g39.toInt ≤ 12)) ∧ (((0) ≤ c21_g51.toInt ∧ c21_g51.toInt ≤ 1)) ∧ (rng (0) 24 c21_F24) ∧ (rng (0) 24 c21_F25) ∧ (rng (0) 24 c21_F26) ∧ (rng (0) 24 c21_F33) ∧ (rng (0) 24 c21_F38) ∧ (rng (0) 24 c21_F41) ∧ (rng (0) 24 c21_F53) ∧ (rng (0) 12 c21_F54) := hq21
      have h821_hrd : id (∀ q, q < Int32.toNatClampNeg (g 9) → RVd (F 13) (F 20) (F 21) (F 12) (F 18) (F 19) (F 11) (F 14) (F 15) (F 16) (F 17) q = d q ∧ WFD (d q)) := show ∀ q, q < Int32.toNatClampNeg (g 9) → RVd (F 13) (F 20) (F 21) (F 12) (F 18) (F 19) (F 11) (F 14) (F 15) (F 16) (F 17) q = d q ∧ WFD (d q) from by exact hrd
      have h821_hWs : rwW (g 48) (F 49) (F 50) 24 = Ws := by exact hWs
      have h821_hWw : WDS Ws := by exact hWw
      have h821_hmk : id ((g 51).toInt ≠ 0 → MKT (F 54) (F 52) (F 53) d Ws (fun w s => w < Int32.toNatClampNeg (g 48) ∧ s ≤ Int32.toNatClampNeg (g 9))) := show (g 51).toInt ≠ 0 → MKT (F 54) (F 52) (F 53) d Ws (fun w s => w < Int32.toNatClampNeg (g 48) ∧ s ≤ Int32.toNatClampNeg (g 9)) from by exact hmk
      have hx21 := pwq (fn_make g F (d) (Ws) hMI21 h821_hrd h821_hWs h821_hWw h821_hmk) hc21
      obtain ⟨p21_0, p21_1⟩ : (MKT c21_F54 c21_F52 c21_F53 d Ws (fun w s => w < Int32.toNatClampNeg (g 48) ∧ s ≤ Int32.toNatClampNeg (g 9))) ∧ (c21_g51.toInt ≠ 0) := hx21
      have lp29 : ∀ (n29 : Nat) (y29_3 : Int32) (y29_4 : Int32), (0 ≤ y29_4.toInt ∧ y29_4.toInt ≤ 100) → (0 ≤ y29_3.toInt ∧ y29_3.toInt ≤ y29_4.toInt) → y29_4.toInt ≤ (g 48).toInt → (y29_3.toInt = ((cnB (fun w => tlB (FMT d Ws (Int32.toNatClampNeg p0) w) (Ws.getD w []) p1.toInt) (Int32.toNatClampNeg y29_4) : Nat) : Int)) → pw (L_tell_29 g F p0 p1 c21_g23 c21_g27 c21_g30 c21_g34 c21_g36 c21_g39 c21_g51 c21_F22 c21_F24 c21_F25 c21_F26 c21_F28 c21_F29 c21_F31 c21_F32 c21_F33 c21_F37 c21_F38 c21_F40 c21_F41 c21_F52 c21_F53 c21_F54 n29 y29_3 y29_4) (QF_tell g F p0 p1 d Ws) := by
        intro n29
        induction n29 with
        | zero => intros; exact pw_none
        | succ n29 ih29 =>
          intro y29_3 y29_4 f21 f22 f23 io29
          show pw (B_tell_29 g F p0 p1 c21_g23 c21_g27 c21_g30 c21_g34 c21_g36 c21_g39 c21_g51 c21_F22 c21_F24 c21_F25 c21_F26 c21_F28 c21_F29 c21_F31 c21_F32 c21_F33 c21_F37 c21_F38 c21_F40 c21_F41 c21_F52 c21_F53 c21_F54 (L_tell_29 g F p0 p1 c21_g23 c21_g27 c21_g30 c21_g34 c21_g36 c21_g39 c21_g51 c21_F22 c21_F24 c21_F25 c21_F26 c21_F28 c21_F29 c21_F31 c21_F32 c21_F33 c21_F37 c21_F38 c21_F40 c21_F41 c21_F52 c21_F53 c21_F54 n29) y29_3 y29_4) _
          unfold B_tell_29
          refine pw_ite (fun c35 => ?_) (fun c35 => ?_)
          · have c35 := (z_le _ _).mp c35
            have qq0 : (¬ ((0 ≤ p0.toInt ∧ p0.toInt ≤ (g 9).toInt) ∧ 0 ≤ p1.toInt ∧ p1.toInt ≤ 2) → y29_3.toInt = -2) := by intro h; exfalso; exact h ⟨s1, s2⟩
            have qq1 : ((0 ≤ p0.toInt ∧ p0.toInt ≤ (g 9).toInt) ∧ 0 ≤ p1.toInt ∧ p1.toInt ≤ 2 → y29_3.toInt = ((cnB (fun w => tlB (FMT d Ws (Int32.toNatClampNeg p0) w) (Ws.getD w []) p1.toInt) Ws.length : Nat) : Int)) := by intro _; have k4 := clampI (x := y29_4) (by omega); have h9 := io29; rw [show Int32.toNatClampNeg y29_4 = Ws.length by omega] at h9; exact h9
            have qq2 : (c21_g51.toInt ≠ 0 → MKT c21_F54 c21_F52 c21_F53 d Ws (fun w s => w < Int32.toNatClampNeg (g 48) ∧ s ≤ Int32.toNatClampNeg (g 9))) := by exact fun _ => p21_0
            exact pw_some ⟨qq0, qq1, qq2⟩
          · have c35 := z_nle c35
            have kL4 := clampI (x := y29_4) (by omega)
            have hxL4 : Ws[Int32.toNatClampNeg y29_4]? = some ((wdl (F 49) (24 * Int32.toNatClampNeg y29_4) (Int32.toNatClampNeg ((F 50) (Int32.toNatClampNeg y29_4))))) := by rw [← hWs]; exact rw_at (by omega)
            have hgL4 : Ws.getD (Int32.toNatClampNeg y29_4) [] = (wdl (F 49) (24 * Int32.toNatClampNeg y29_4) (Int32.toNatClampNeg ((F 50) (Int32.toNatClampNeg y29_4)))) := by rw [List.getD_eq_getElem?_getD, hxL4]; rfl
            have hwL4 := hWw _ (List.mem_of_getElem? hxL4)
            rw [wdl_len] at hwL4
            have kzL4 : ((F 50) (Int32.toNatClampNeg y29_4)).toInt = ((Int32.toNatClampNeg ((F 50) (Int32.toNatClampNeg y29_4)) : Nat) : Int) := by have h9 : Int32.toNatClampNeg ((F 50) (Int32.toNatClampNeg y29_4)) = ((F 50) (Int32.toNatClampNeg y29_4)).toInt.toNat := rfl; have h8 := hwL4.1; omega
            have f24L4 : (24 * y29_4).toInt = 24 * y29_4.toInt := z_muld (by decide +kernel) (by omega) (by omega)
            have k24L4 := clampI (x := 24 * y29_4) (by omega)
            have e24L4 : Int32.toNatClampNeg (24 * y29_4) = 24 * Int32.toNatClampNeg y29_4 := by omega
            have f7ka : (7 * y29_4).toInt = 7 * y29_4.toInt := z_muld (by decide +kernel) (by omega) (by omega)
            have f7ka2 : ((7 * y29_4) + p0).toInt = (7 * y29_4).toInt + p0.toInt := z_add (by omega) (by omega)
            have ka := clampI (x := (7 * y29_4) + p0) (by omega)
            have hka : Int32.toNatClampNeg ((7 * y29_4) + p0) = 7 * Int32.toNatClampNeg y29_4 + Int32.toNatClampNeg p0 := by omega
            have hT9 := p21_0 (Int32.toNatClampNeg y29_4) (Int32.toNatClampNeg p0) ⟨by omega, by omega⟩
            have hTl : (FMT d Ws (Int32.toNatClampNeg p0) (Int32.toNatClampNeg y29_4)).length = Int32.toNatClampNeg (c21_F54 (Int32.toNatClampNeg ((7 * y29_4) + p0))) := by rw [hka, ← hT9]; exact rwO_len
            have hz54 := hg20 (Int32.toNatClampNeg ((7 * y29_4) + p0))
            have c54 := clampI (x := c21_F54 (Int32.toNatClampNeg ((7 * y29_4) + p0))) (by omega)
            have f24 : (7 * y29_4).toInt = 7 * y29_4.toInt := z_muld (by decide +kernel) (by omega) (by omega)
            have f25 : ((7 * y29_4) + p0).toInt = (7 * y29_4).toInt + p0.toInt := z_add (by omega) (by omega)
            refine pw_if (fun hb49 => ?_)
            obtain ⟨hbl49, hbr49⟩ := hb49
            have f26 := hg20 (Int32.toNatClampNeg ((7 * y29_4) + p0))
            refine pw_vl (fun x50 ex50 => ?_)
            have f27 : x50.toInt = (c21_F54 (Int32.toNatClampNeg ((7 * y29_4) + p0))).toInt := congrArg Int32.toInt ex50
            refine pw_jE (fun j125 ej125 => ?_)
            refine pw_ite (fun c53 => ?_) (fun c53 => ?_)
            · have c53 := congrArg Int32.toInt c53
              refine pw_ite (fun c59 => ?_) (fun c59 => ?_)
              · have c59 := (z_le _ _).mp c59
                refine pw_j1 ej125 (fun t125_0 et125_0 => ?_)
                have et125_0 := et125_0.symm
                have f_t125_0 : t125_0.toInt = 0 := by rw [et125_0]; decide +kernel
                refine pw_jE (fun j138 ej138 => ?_)
                refine pw_ite (fun c130 => ?_) (fun c130 => ?_)
                · have c130 := congrArg Int32.toInt c130
                  refine pw_j1 ej138 (fun t138_0 et138_0 => ?_)
                  have et138_0 := et138_0.symm
                  have f_t138_0 : t138_0.toInt = 0 := by rw [et138_0]; decide +kernel
                  have f28 : (y29_3 + t138_0).toInt = y29_3.toInt + t138_0.toInt := z_add (by omega) (by omega)
                  refine pw_vl (fun x139 ex139 => ?_)
                  have f29 : x139.toInt = (y29_3 + t138_0).toInt := congrArg Int32.toInt ex139
                  have f30 : (y29_4 + 1).toInt = y29_4.toInt + (1) := z_addc (by decide +kernel) (by omega) (by omega)
                  have iv29_0 : (0 ≤ (y29_4 + 1).toInt ∧ (y29_4 + 1).toInt ≤ 100) := by omega
                  have iv29_1 : (0 ≤ x139.toInt ∧ x139.toInt ≤ (y29_4 + 1).toInt) := by omega
                  have iv29_2 : (y29_4 + 1).toInt ≤ (g 48).toInt := by omega
                  have iv29_3 : (x139.toInt = ((cnB (fun w => tlB (FMT d Ws (Int32.toNatClampNeg p0) w) (Ws.getD w []) p1.toInt) (Int32.toNatClampNeg (y29_4 + 1)) : Nat) : Int)) := by have k5 := clampI (x := y29_4 + 1) (by omega); rw [cnB_n (k := Int32.toNatClampNeg y29_4) (by show tlB _ (Ws.getD _ []) _ = false; rw [hgL4]; unfold tlB; rw [if_pos (by omega)]; exact decide_eq_false (by omega)) (by omega)]; have h9 := io29; omega
                  exact ih29 x139 (y29_4 + 1) iv29_0 iv29_1 iv29_2 iv29_3
                · have c130 := z_ne c130
                  refine pw_j1 ej138 (fun t138_0 et138_0 => ?_)
                  have et138_0 := et138_0.symm
                  have f_t138_0 : t138_0.toInt = 1 := by rw [et138_0]; decide +kernel
                  have f31 : (y29_3 + t138_0).toInt = y29_3.toInt + t138_0.toInt := z_add (by omega) (by omega)
                  refine pw_vl (fun x139 ex139 => ?_)
                  have f32 : x139.toInt = (y29_3 + t138_0).toInt := congrArg Int32.toInt ex139
                  have f33 : (y29_4 + 1).toInt = y29_4.toInt + (1) := z_addc (by decide +kernel) (by omega) (by omega)
                  have iv29_0 : (0 ≤ (y29_4 + 1).toInt ∧ (y29_4 + 1).toInt ≤ 100) := by omega
                  have iv29_1 : (0 ≤ x139.toInt ∧ x139.toInt ≤ (y29_4 + 1).toInt) := by omega
                  have iv29_2 : (y29_4 + 1).toInt ≤ (g 48).toInt := by omega
                  have iv29_3 : (x139.toInt = ((cnB (fun w => tlB (FMT d Ws (Int32.toNatClampNeg p0) w) (Ws.getD w []) p1.toInt) (Int32.toNatClampNeg (y29_4 + 1)) : Nat) : Int)) := by exfalso; omega
                  exact ih29 x139 (y29_4 + 1) iv29_0 iv29_1 iv29_2 iv29_3
              · have c59 := z_nle c59
                refine pw_j1 ej125 (fun t125_0 et125_0 => ?_)
                have et125_0 := et125_0.symm
                have f_t125_0 : t125_0.toInt = 1 := by rw [et125_0]; decide +kernel
                refine pw_jE (fun j138 ej138 => ?_)
                refine pw_ite (fun c130 => ?_) (fun c130 => ?_)
                · have c130 := congrArg Int32.toInt c130
                  refine pw_j1 ej138 (fun t138_0 et138_0 => ?_)
                  have et138_0 := et138_0.symm
                  have f_t138_0 : t138_0.toInt = 0 := by rw [et138_0]; decide +kernel
                  have f34 : (y29_3 + t138_0).toInt = y29_3.toInt + t138_0.toInt := z_add (by omega) (by omega)
                  refine pw_vl (fun x139 ex139 => ?_)
                  have f35 : x139.toInt = (y29_3 + t138_0).toInt := congrArg Int32.toInt ex139
                  have f36 : (y29_4 + 1).toInt = y29_4.toInt + (1) := z_addc (by decide +kernel) (by omega) (by omega)
                  have iv29_0 : (0 ≤ (y29_4 + 1).toInt ∧ (y29_4 + 1).toInt ≤ 100) := by omega
                  have iv29_1 : (0 ≤ x139.toInt ∧ x139.toInt ≤ (y29_4 + 1).toInt) := by omega
                  have iv29_2 : (y29_4 + 1).toInt ≤ (g 48).toInt := by omega
                  have iv29_3 : (x139.toInt = ((cnB (fun w => tlB (FMT d Ws (Int32.toNatClampNeg p0) w) (Ws.getD w []) p1.toInt) (Int32.toNatClampNeg (y29_4 + 1)) : Nat) : Int)) := by exfalso; omega
                  exact ih29 x139 (y29_4 + 1) iv29_0 iv29_1 iv29_2 iv29_3
                · have c130 := z_ne c130
                  refine pw_j1 ej138 (fun t138_0 et138_0 => ?_)
                  have et138_0 := et138_0.symm
                  have f_t138_0 : t138_0.toInt = 1 := by rw [et138_0]; decide +kernel
                  have f37 : (y29_3 + t138_0).toInt = y29_3.toInt + t138_0.toInt := z_add (by omega) (by omega)
                  refine pw_vl (fun x139 ex139 => ?_)
                  have f38 : x139.toInt = (y29_3 + t138_0).toInt := congrArg Int32.toInt ex139
                  have f39 : (y29_4 + 1).toInt = y29_4.toInt + (1) := z_addc (by decide +kernel) (by omega) (by omega)
                  have iv29_0 : (0 ≤ (y29_4 + 1).toInt ∧ (y29_4 + 1).toInt ≤ 100) := by omega
                  have iv29_1 : (0 ≤ x139.toInt ∧ x139.toInt ≤ (y29_4 + 1).toInt) := by omega
                  have iv29_2 : (y29_4 + 1).toInt ≤ (g 48).toInt := by omega
                  have iv29_3 : (x139.toInt = ((cnB (fun w => tlB (FMT d Ws (Int32.toNatClampNeg p0) w) (Ws.getD w []) p1.toInt) (Int32.toNatClampNeg (y29_4 + 1)) : Nat) : Int)) := by have k5 := clampI (x := y29_4 + 1) (by omega); rw [cnB_y (k := Int32.toNatClampNeg y29_4) (by show tlB _ (Ws.getD _ []) _ = true; rw [hgL4]; unfold tlB; rw [if_pos (by omega)]; exact decide_eq_true (by omega)) (by omega)]; have h9 := io29; omega
                  exact ih29 x139 (y29_4 + 1) iv29_0 iv29_1 iv29_2 iv29_3
            · have c53 := z_ne c53
              refine pw_ite (fun c72 => ?_) (fun c72 => ?_)
              · have c72 := congrArg Int32.toInt c72
                refine pw_ite (fun c77 => ?_) (fun c77 => ?_)
                · have c77 := congrArg Int32.toInt c77
                  refine pw_j1 ej125 (fun t125_0 et125_0 => ?_)
                  have et125_0 := et125_0.symm
                  have f_t125_0 : t125_0.toInt = 1 := by rw [et125_0]; decide +kernel
                  refine pw_jE (fun j138 ej138 => ?_)
                  refine pw_ite (fun c130 => ?_) (fun c130 => ?_)
                  · have c130 := congrArg Int32.toInt c130
                    refine pw_j1 ej138 (fun t138_0 et138_0 => ?_)
                    have et138_0 := et138_0.symm
                    have f_t138_0 : t138_0.toInt = 0 := by rw [et138_0]; decide +kernel
                    have f40 : (y29_3 + t138_0).toInt = y29_3.toInt + t138_0.toInt := z_add (by omega) (by omega)
                    refine pw_vl (fun x139 ex139 => ?_)
                    have f41 : x139.toInt = (y29_3 + t138_0).toInt := congrArg Int32.toInt ex139
                    have f42 : (y29_4 + 1).toInt = y29_4.toInt + (1) := z_addc (by decide +kernel) (by omega) (by omega)
                    have iv29_0 : (0 ≤ (y29_4 + 1).toInt ∧ (y29_4 + 1).toInt ≤ 100) := by omega
                    have iv29_1 : (0 ≤ x139.toInt ∧ x139.toInt ≤ (y29_4 + 1).toInt) := by omega
                    have iv29_2 : (y29_4 + 1).toInt ≤ (g 48).toInt := by omega
                    have iv29_3 : (x139.toInt = ((cnB (fun w => tlB (FMT d Ws (Int32.toNatClampNeg p0) w) (Ws.getD w []) p1.toInt) (Int32.toNatClampNeg (y29_4 + 1)) : Nat) : Int)) := by exfalso; omega
                    exact ih29 x139 (y29_4 + 1) iv29_0 iv29_1 iv29_2 iv29_3
                  · have c130 := z_ne c130
                    refine pw_j1 ej138 (fun t138_0 et138_0 => ?_)
                    have et138_0 := et138_0.symm
                    have f_t138_0 : t138_0.toInt = 1 := by rw [et138_0]; decide +kernel
                    have f43 : (y29_3 + t138_0).toInt = y29_3.toInt + t138_0.toInt := z_add (by omega) (by omega)
                    refine pw_vl (fun x139 ex139 => ?_)
                    have f44 : x139.toInt = (y29_3 + t138_0).toInt := congrArg Int32.toInt ex139
                    have f45 : (y29_4 + 1).toInt = y29_4.toInt + (1) := z_addc (by decide +kernel) (by omega) (by omega)
                    have iv29_0 : (0 ≤ (y29_4 + 1).toInt ∧ (y29_4 + 1).toInt ≤ 100) := by omega
                    have iv29_1 : (0 ≤ x139.toInt ∧ x139.toInt ≤ (y29_4 + 1).toInt) := by omega
                    have iv29_2 : (y29_4 + 1).toInt ≤ (g 48).toInt := by omega
                    have iv29_3 : (x139.toInt = ((cnB (fun w => tlB (FMT d Ws (Int32.toNatClampNeg p0) w) (Ws.getD w []) p1.toInt) (Int32.toNatClampNeg (y29_4 + 1)) : Nat) : Int)) := by have k5 := clampI (x := y29_4 + 1) (by omega); rw [cnB_y (k := Int32.toNatClampNeg y29_4) (by show tlB _ (Ws.getD _ []) _ = true; rw [hgL4]; unfold tlB; rw [if_neg (by omega), if_pos (by omega)]; exact decide_eq_true (by omega)) (by omega)]; have h9 := io29; omega
                    exact ih29 x139 (y29_4 + 1) iv29_0 iv29_1 iv29_2 iv29_3
                · have c77 := z_ne c77
                  refine pw_j1 ej125 (fun t125_0 et125_0 => ?_)
                  have et125_0 := et125_0.symm
                  have f_t125_0 : t125_0.toInt = 0 := by rw [et125_0]; decide +kernel
                  refine pw_jE (fun j138 ej138 => ?_)
                  refine pw_ite (fun c130 => ?_) (fun c130 => ?_)
                  · have c130 := congrArg Int32.toInt c130
                    refine pw_j1 ej138 (fun t138_0 et138_0 => ?_)
                    have et138_0 := et138_0.symm
                    have f_t138_0 : t138_0.toInt = 0 := by rw [et138_0]; decide +kernel
                    have f46 : (y29_3 + t138_0).toInt = y29_3.toInt + t138_0.toInt := z_add (by omega) (by omega)
                    refine pw_vl (fun x139 ex139 => ?_)
                    have f47 : x139.toInt = (y29_3 + t138_0).toInt := congrArg Int32.toInt ex139
                    have f48 : (y29_4 + 1).toInt = y29_4.toInt + (1) := z_addc (by decide +kernel) (by omega) (by omega)
                    have iv29_0 : (0 ≤ (y29_4 + 1).toInt ∧ (y29_4 + 1).toInt ≤ 100) := by omega
                    have iv29_1 : (0 ≤ x139.toInt ∧ x139.toInt ≤ (y29_4 + 1).toInt) := by omega
                    have iv29_2 : (y29_4 + 1).toInt ≤ (g 48).toInt := by omega
                    have iv29_3 : (x139.toInt = ((cnB (fun w => tlB (FMT d Ws (Int32.toNatClampNeg p0) w) (Ws.getD w []) p1.toInt) (Int32.toNatClampNeg (y29_4 + 1)) : Nat) : Int)) := by have k5 := clampI (x := y29_4 + 1) (by omega); rw [cnB_n (k := Int32.toNatClampNeg y29_4) (by show tlB _ (Ws.getD _ []) _ = false; rw [hgL4]; unfold tlB; rw [if_neg (by omega), if_pos (by omega)]; exact decide_eq_false (by omega)) (by omega)]; have h9 := io29; omega
                    exact ih29 x139 (y29_4 + 1) iv29_0 iv29_1 iv29_2 iv29_3
                  · have c130 := z_ne c130
                    refine pw_j1 ej138 (fun t138_0 et138_0 => ?_)
                    have et138_0 := et138_0.symm
                    have f_t138_0 : t138_0.toInt = 1 := by rw [et138_0]; decide +kernel
                    have f49 : (y29_3 + t138_0).toInt = y29_3.toInt + t138_0.toInt := z_add (by omega) (by omega)
                    refine pw_vl (fun x139 ex139 => ?_)
                    have f50 : x139.toInt = (y29_3 + t138_0).toInt := congrArg Int32.toInt ex139
                    have f51 : (y29_4 + 1).toInt = y29_4.toInt + (1) := z_addc (by decide +kernel) (by omega) (by omega)
                    have iv29_0 : (0 ≤ (y29_4 + 1).toInt ∧ (y29_4 + 1).toInt ≤ 100) := by omega
                    have iv29_1 : (0 ≤ x139.toInt ∧ x139.toInt ≤ (y29_4 + 1).toInt) := by omega
                    have iv29_2 : (y29_4 + 1).toInt ≤ (g 48).toInt := by omega
                    have iv29_3 : (x139.toInt = ((cnB (fun w => tlB (FMT d Ws (Int32.toNatClampNeg p0) w) (Ws.getD w []) p1.toInt) (Int32.toNatClampNeg (y29_4 + 1)) : Nat) : Int)) := by exfalso; omega
                    exact ih29 x139 (y29_4 + 1) iv29_0 iv29_1 iv29_2 iv29_3
              · have c72 := z_ne c72
                refine pw_jE (fun j124 ej124 => ?_)
                refine pw_ite (fun c91 => ?_) (fun c91 => ?_)
                · have c91 := congrArg Int32.toInt c91
                  have f52 : (24 * y29_4).toInt = 24 * y29_4.toInt := z_muld (by decide +kernel) (by omega) (by omega)
                  refine pw_if (fun hb113 => ?_)
                  obtain ⟨hbl113, hbr113⟩ := hb113
                  have f53 := hzF50 (Int32.toNatClampNeg y29_4)
                  have hMI114 : id (MInv (upd (upd (upd (upd (upd (upd (upd g 23 c21_g23) 27 c21_g27) 30 c21_g30) 34 c21_g34) 36 c21_g36) 39 c21_g39) 51 c21_g51) (upF (upF (upF (upF (upF (upF (upF (upF (upF (upF (upF (upF (upF (upF (upF (upF F 22 c21_F22) 24 c21_F24) 25 c21_F25) 26 c21_F26) 28 c21_F28) 29 c21_F29) 31 c21_F31) 32 c21_F32) 33 c21_F33) 37 c21_F37) 38 c21_F38) 40 c21_F40) 41 c21_F41) 52 c21_F52) 53 c21_F53) 54 c21_F54)) := show MInv (upd (upd (upd (upd (upd (upd (upd g 23 c21_g23) 27 c21_g27) 30 c21_g30) 34 c21_g34) 36 c21_g36) 39 c21_g39) 51 c21_g51) (upF (upF (upF (upF (upF (upF (upF (upF (upF (upF (upF (upF (upF (upF (upF (upF F 22 c21_F22) 24 c21_F24) 25 c21_F25) 26 c21_F26) 28 c21_F28) 29 c21_F29) 31 c21_F31) 32 c21_F32) 33 c21_F33) 37 c21_F37) 38 c21_F38) 40 c21_F40) 41 c21_F41) 52 c21_F52) 53 c21_F53) 54 c21_F54) from (MInv_i ((hI9.1)) ((hI9.2.1)) ((hI9.2.2.1)) ((hI9.2.2.2.1)) ((hI9.2.2.2.2.1)) ((hI9.2.2.2.2.2.1)) ((hI9.2.2.2.2.2.2.1)) ((hI9.2.2.2.2.2.2.2.1)) hzg9 hg6 hg7 hg8 hg9 hg10 hg11 ((hI9.2.2.2.2.2.2.2.2.2.2.2.2.2.2.2.1)) ((hI9.2.2.2.2.2.2.2.2.2.2.2.2.2.2.2.2.1)) hzg48 hg12 ((hI9.2.2.2.2.2.2.2.2.2.2.2.2.2.2.2.2.2.2.2.1)) ((hI9.2.2.2.2.2.2.2.2.2.2.2.2.2.2.2.2.2.2.2.2.1)) ((hI9.2.2.2.2.2.2.2.2.2.2.2.2.2.2.2.2.2.2.2.2.2.1)) ((hI9.2.2.2.2.2.2.2.2.2.2.2.2.2.2.2.2.2.2.2.2.2.2.1)) ((hI9.2.2.2.2.2.2.2.2.2.2.2.2.2.2.2.2.2.2.2.2.2.2.2.1)) ((hI9.2.2.2.2.2.2.2.2.2.2.2.2.2.2.2.2.2.2.2.2.2.2.2.2.1)) hzF11 hzF12 hzF13 hzF15 hzF19 hzF21 hg13 hg14 hg15 hg16 hg17 hg18 hzF43 hzF45 hzF46 hzF50 hg19 hg20 hzLQ)
                  have hpr114_0 : (0 ≤ y29_4.toInt ∧ y29_4.toInt ≤ 99) := by first | assumption | omega
                  have hpr114_1 : (0 ≤ p0.toInt ∧ p0.toInt ≤ 6) := by first | assumption | omega
                  have hpr114_2 : (0 ≤ (24 * y29_4).toInt ∧ (24 * y29_4).toInt + ((F 50) (Int32.toNatClampNeg y29_4)).toInt ≤ 2400) := by first | assumption | omega
                  have hpr114_3 : 2400 ≤ 500000 := by first | assumption | omega
                  refine pw_b1 (fun r114 hc114 => ?_)
                  have hq114 := wp_at (ok_hasForm (upd (upd (upd (upd (upd (upd (upd g 23 c21_g23) 27 c21_g27) 30 c21_g30) 34 c21_g34) 36 c21_g36) 39 c21_g39) 51 c21_g51) (upF (upF (upF (upF (upF (upF (upF (upF (upF (upF (upF (upF (upF (upF (upF (upF F 22 c21_F22) 24 c21_F24) 25 c21_F25) 26 c21_F26) 28 c21_F28) 29 c21_F29) 31 c21_F31) 32 c21_F32) 33 c21_F33) 37 c21_F37) 38 c21_F38) 40 c21_F40) 41 c21_F41) 52 c21_F52) 53 c21_F53) 54 c21_F54) y29_4 p0 (F 49) 2400 (24 * y29_4) ((F 50) (Int32.toNatClampNeg y29_4)) hMI114 hpr114_0 hpr114_1 hpr114_2 hpr114_3) hc114
                  have f54 : (0 ≤ r114.toInt ∧ r114.toInt ≤ 1) := hq114
                  clear hq114
                  have h8114_hT : rwO (c21_F54 (7 * Int32.toNatClampNeg y29_4 + Int32.toNatClampNeg p0)) c21_F52 c21_F53 (7 * Int32.toNatClampNeg y29_4 + Int32.toNatClampNeg p0) = (FMT d Ws (Int32.toNatClampNeg p0) (Int32.toNatClampNeg y29_4)) := by exact hT9
                  have h8114_hTw : WDS (FMT d Ws (Int32.toNatClampNeg p0) (Int32.toNatClampNeg y29_4)) := by exact FMT_wds hWw (fun q hq => (hrd q (by omega)).2)
                  have h8114_hA : wdl (F 49) (Int32.toNatClampNeg (24 * y29_4)) (Int32.toNatClampNeg ((F 50) (Int32.toNatClampNeg y29_4))) = ((wdl (F 49) (24 * Int32.toNatClampNeg y29_4) (Int32.toNatClampNeg ((F 50) (Int32.toNatClampNeg y29_4))))) := by rw [e24L4]
                  have h8114_h04 : 0 ≤ ((F 50) (Int32.toNatClampNeg y29_4)).toInt := by omega
                  have hx114 := pwq (fn_hasForm (upd (upd (upd (upd (upd (upd (upd g 23 c21_g23) 27 c21_g27) 30 c21_g30) 34 c21_g34) 36 c21_g36) 39 c21_g39) 51 c21_g51) (upF (upF (upF (upF (upF (upF (upF (upF (upF (upF (upF (upF (upF (upF (upF (upF F 22 c21_F22) 24 c21_F24) 25 c21_F25) 26 c21_F26) 28 c21_F28) 29 c21_F29) 31 c21_F31) 32 c21_F32) 33 c21_F33) 37 c21_F37) 38 c21_F38) 40 c21_F40) 41 c21_F41) 52 c21_F52) 53 c21_F53) 54 c21_F54) y29_4 p0 (F 49) 2400 (24 * y29_4) ((F 50) (Int32.toNatClampNeg y29_4)) (FMT d Ws (Int32.toNatClampNeg p0) (Int32.toNatClampNeg y29_4)) ((wdl (F 49) (24 * Int32.toNatClampNeg y29_4) (Int32.toNatClampNeg ((F 50) (Int32.toNatClampNeg y29_4))))) hMI114 hpr114_0 hpr114_1 hpr114_2 hpr114_3 h8114_hT h8114_hTw h8114_hA h8114_h04) hc114
                  obtain ⟨p114_0, p114_1⟩ : (id ((r114.toInt ≠ 0 → ((wdl (F 49) (24 * Int32.toNatClampNeg y29_4) (Int32.toNatClampNeg ((F 50) (Int32.toNatClampNeg y29_4))))) ∈ (FMT d Ws (Int32.toNatClampNeg p0) (Int32.toNatClampNeg y29_4))))) ∧ (id ((r114.toInt = 0 → ((wdl (F 49) (24 * Int32.toNatClampNeg y29_4) (Int32.toNatClampNeg ((F 50) (Int32.toNatClampNeg y29_4))))) ∉ (FMT d Ws (Int32.toNatClampNeg p0) (Int32.toNatClampNeg y29_4))))) := hx114
                  refine pw_ite (fun c117 => ?_) (fun c117 => ?_)
                  · have c117 := congrArg Int32.toInt c117
                    refine pw_j0 ej124 ?_
                    refine pw_j1 ej125 (fun t125_0 et125_0 => ?_)
                    have et125_0 := et125_0.symm
                    have f_t125_0 : t125_0.toInt = 0 := by rw [et125_0]; decide +kernel
                    refine pw_jE (fun j138 ej138 => ?_)
                    refine pw_ite (fun c130 => ?_) (fun c130 => ?_)
                    · have c130 := congrArg Int32.toInt c130
                      refine pw_j1 ej138 (fun t138_0 et138_0 => ?_)
                      have et138_0 := et138_0.symm
                      have f_t138_0 : t138_0.toInt = 0 := by rw [et138_0]; decide +kernel
                      have f55 : (y29_3 + t138_0).toInt = y29_3.toInt + t138_0.toInt := z_add (by omega) (by omega)
                      refine pw_vl (fun x139 ex139 => ?_)
                      have f56 : x139.toInt = (y29_3 + t138_0).toInt := congrArg Int32.toInt ex139
                      have f57 : (y29_4 + 1).toInt = y29_4.toInt + (1) := z_addc (by decide +kernel) (by omega) (by omega)
                      have iv29_0 : (0 ≤ (y29_4 + 1).toInt ∧ (y29_4 + 1).toInt ≤ 100) := by omega
                      have iv29_1 : (0 ≤ x139.toInt ∧ x139.toInt ≤ (y29_4 + 1).toInt) := by omega
                      have iv29_2 : (y29_4 + 1).toInt ≤ (g 48).toInt := by omega
                      have iv29_3 : (x139.toInt = ((cnB (fun w => tlB (FMT d Ws (Int32.toNatClampNeg p0) w) (Ws.getD w []) p1.toInt) (Int32.toNatClampNeg (y29_4 + 1)) : Nat) : Int)) := by have k5 := clampI (x := y29_4 + 1) (by omega); rw [cnB_n (k := Int32.toNatClampNeg y29_4) (by show tlB _ (Ws.getD _ []) _ = false; rw [hgL4]; unfold tlB; rw [if_neg (by omega), if_neg (by omega)]; exact decide_eq_false (fun q => p114_1 (by omega) q.2)) (by omega)]; have h9 := io29; omega
                      exact ih29 x139 (y29_4 + 1) iv29_0 iv29_1 iv29_2 iv29_3
                    · have c130 := z_ne c130
                      refine pw_j1 ej138 (fun t138_0 et138_0 => ?_)
                      have et138_0 := et138_0.symm
                      have f_t138_0 : t138_0.toInt = 1 := by rw [et138_0]; decide +kernel
                      have f58 : (y29_3 + t138_0).toInt = y29_3.toInt + t138_0.toInt := z_add (by omega) (by omega)
                      refine pw_vl (fun x139 ex139 => ?_)
                      have f59 : x139.toInt = (y29_3 + t138_0).toInt := congrArg Int32.toInt ex139
                      have f60 : (y29_4 + 1).toInt = y29_4.toInt + (1) := z_addc (by decide +kernel) (by omega) (by omega)
                      have iv29_0 : (0 ≤ (y29_4 + 1).toInt ∧ (y29_4 + 1).toInt ≤ 100) := by omega
                      have iv29_1 : (0 ≤ x139.toInt ∧ x139.toInt ≤ (y29_4 + 1).toInt) := by omega
                      have iv29_2 : (y29_4 + 1).toInt ≤ (g 48).toInt := by omega
                      have iv29_3 : (x139.toInt = ((cnB (fun w => tlB (FMT d Ws (Int32.toNatClampNeg p0) w) (Ws.getD w []) p1.toInt) (Int32.toNatClampNeg (y29_4 + 1)) : Nat) : Int)) := by exfalso; omega
                      exact ih29 x139 (y29_4 + 1) iv29_0 iv29_1 iv29_2 iv29_3
                  · have c117 := z_ne c117
                    refine pw_j1 ej125 (fun t125_0 et125_0 => ?_)
                    have et125_0 := et125_0.symm
                    have f_t125_0 : t125_0.toInt = 1 := by rw [et125_0]; decide +kernel
                    refine pw_jE (fun j138 ej138 => ?_)
                    refine pw_ite (fun c130 => ?_) (fun c130 => ?_)
                    · have c130 := congrArg Int32.toInt c130
                      refine pw_j1 ej138 (fun t138_0 et138_0 => ?_)
                      have et138_0 := et138_0.symm
                      have f_t138_0 : t138_0.toInt = 0 := by rw [et138_0]; decide +kernel
                      have f61 : (y29_3 + t138_0).toInt = y29_3.toInt + t138_0.toInt := z_add (by omega) (by omega)
                      refine pw_vl (fun x139 ex139 => ?_)
                      have f62 : x139.toInt = (y29_3 + t138_0).toInt := congrArg Int32.toInt ex139
                      have f63 : (y29_4 + 1).toInt = y29_4.toInt + (1) := z_addc (by decide +kernel) (by omega) (by omega)
                      have iv29_0 : (0 ≤ (y29_4 + 1).toInt ∧ (y29_4 + 1).toInt ≤ 100) := by omega
                      have iv29_1 : (0 ≤ x139.toInt ∧ x139.toInt ≤ (y29_4 + 1).toInt) := by omega
                      have iv29_2 : (y29_4 + 1).toInt ≤ (g 48).toInt := by omega
                      have iv29_3 : (x139.toInt = ((cnB (fun w => tlB (FMT d Ws (Int32.toNatClampNeg p0) w) (Ws.getD w []) p1.toInt) (Int32.toNatClampNeg (y29_4 + 1)) : Nat) : Int)) := by exfalso; omega
                      exact ih29 x139 (y29_4 + 1) iv29_0 iv29_1 iv29_2 iv29_3
                    · have c130 := z_ne c130
                      refine pw_j1 ej138 (fun t138_0 et138_0 => ?_)
                      have et138_0 := et138_0.symm
                      have f_t138_0 : t138_0.toInt = 1 := by rw [et138_0]; decide +kernel
                      have f64 : (y29_3 + t138_0).toInt = y29_3.toInt + t138_0.toInt := z_add (by omega) (by omega)
                      refine pw_vl (fun x139 ex139 => ?_)
                      have f65 : x139.toInt = (y29_3 + t138_0).toInt := congrArg Int32.toInt ex139
                      have f66 : (y29_4 + 1).toInt = y29_4.toInt + (1) := z_addc (by decide +kernel) (by omega) (by omega)
                      have iv29_0 : (0 ≤ (y29_4 + 1).toInt ∧ (y29_4 + 1).toInt ≤ 100) := by omega
                      have iv29_1 : (0 ≤ x139.toInt ∧ x139.toInt ≤ (y29_4 + 1).toInt) := by omega
                      have iv29_2 : (y29_4 + 1).toInt ≤ (g 48).toInt := by omega
                      have iv29_3 : (x139.toInt = ((cnB (fun w => tlB (FMT d Ws (Int32.toNatClampNeg p0) w) (Ws.getD w []) p1.toInt) (Int32.toNatClampNeg (y29_4 + 1)) : Nat) : Int)) := by have k5 := clampI (x := y29_4 + 1) (by omega); rw [cnB_y (k := Int32.toNatClampNeg y29_4) (by show tlB _ (Ws.getD _ []) _ = true; rw [hgL4]; unfold tlB; rw [if_neg (by omega), if_neg (by omega)]; exact decide_eq_true (⟨by omega, p114_0 (by omega)⟩)) (by omega)]; have h9 := io29; omega
                      exact ih29 x139 (y29_4 + 1) iv29_0 iv29_1 iv29_2 iv29_3
                · have c91 := z_ne c91
                  refine pw_j0 ej124 ?_
                  refine pw_j1 ej125 (fun t125_0 et125_0 => ?_)
                  have et125_0 := et125_0.symm
                  have f_t125_0 : t125_0.toInt = 0 := by rw [et125_0]; decide +kernel
                  refine pw_jE (fun j138 ej138 => ?_)
                  refine pw_ite (fun c130 => ?_) (fun c130 => ?_)
                  · have c130 := congrArg Int32.toInt c130
                    refine pw_j1 ej138 (fun t138_0 et138_0 => ?_)
                    have et138_0 := et138_0.symm
                    have f_t138_0 : t138_0.toInt = 0 := by rw [et138_0]; decide +kernel
                    have f67 : (y29_3 + t138_0).toInt = y29_3.toInt + t138_0.toInt := z_add (by omega) (by omega)
                    refine pw_vl (fun x139 ex139 => ?_)
                    have f68 : x139.toInt = (y29_3 + t138_0).toInt := congrArg Int32.toInt ex139
                    have f69 : (y29_4 + 1).toInt = y29_4.toInt + (1) := z_addc (by decide +kernel) (by omega) (by omega)
                    have iv29_0 : (0 ≤ (y29_4 + 1).toInt ∧ (y29_4 + 1).toInt ≤ 100) := by omega
                    have iv29_1 : (0 ≤ x139.toInt ∧ x139.toInt ≤ (y29_4 + 1).toInt) := by omega
                    have iv29_2 : (y29_4 + 1).toInt ≤ (g 48).toInt := by omega
                    have iv29_3 : (x139.toInt = ((cnB (fun w => tlB (FMT d Ws (Int32.toNatClampNeg p0) w) (Ws.getD w []) p1.toInt) (Int32.toNatClampNeg (y29_4 + 1)) : Nat) : Int)) := by have k5 := clampI (x := y29_4 + 1) (by omega); rw [cnB_n (k := Int32.toNatClampNeg y29_4) (by show tlB _ (Ws.getD _ []) _ = false; rw [hgL4]; unfold tlB; rw [if_neg (by omega), if_neg (by omega)]; exact decide_eq_false (fun q => by have q9 := q.1; omega)) (by omega)]; have h9 := io29; omega
                    exact ih29 x139 (y29_4 + 1) iv29_0 iv29_1 iv29_2 iv29_3
                  · have c130 := z_ne c130
                    refine pw_j1 ej138 (fun t138_0 et138_0 => ?_)
                    have et138_0 := et138_0.symm
                    have f_t138_0 : t138_0.toInt = 1 := by rw [et138_0]; decide +kernel
                    have f70 : (y29_3 + t138_0).toInt = y29_3.toInt + t138_0.toInt := z_add (by omega) (by omega)
                    refine pw_vl (fun x139 ex139 => ?_)
                    have f71 : x139.toInt = (y29_3 + t138_0).toInt := congrArg Int32.toInt ex139
                    have f72 : (y29_4 + 1).toInt = y29_4.toInt + (1) := z_addc (by decide +kernel) (by omega) (by omega)
                    have iv29_0 : (0 ≤ (y29_4 + 1).toInt ∧ (y29_4 + 1).toInt ≤ 100) := by omega
                    have iv29_1 : (0 ≤ x139.toInt ∧ x139.toInt ≤ (y29_4 + 1).toInt) := by omega
                    have iv29_2 : (y29_4 + 1).toInt ≤ (g 48).toInt := by omega
                    have iv29_3 : (x139.toInt = ((cnB (fun w => tlB (FMT d Ws (Int32.toNatClampNeg p0) w) (Ws.getD w []) p1.toInt) (Int32.toNatClampNeg (y29_4 + 1)) : Nat) : Int)) := by exfalso; omega
                    exact ih29 x139 (y29_4 + 1) iv29_0 iv29_1 iv29_2 iv29_3
      exact lp29 NN (0 : Int32) (0 : Int32) (show (0 ≤ (0 : Int32).toInt ∧ (0 : Int32).toInt ≤ 100) from by omega) (show (0 ≤ (0 : Int32).toInt ∧ (0 : Int32).toInt ≤ (0 : Int32).toInt) from by omega) (show (0 : Int32).toInt ≤ (g 48).toInt from by omega) (show ((0 : Int32).toInt = ((cnB (fun w => tlB (FMT d Ws (Int32.toNatClampNeg p0) w) (Ws.getD w []) p1.toInt) (Int32.toNatClampNeg (0 : Int32)) : Nat) : Int)) from by rfl)
