abbrev QF_isKnown (g : Nat → Int32) (F : Nat → Nat → Int32) (p0 : Int32) (p1 : Int32) (p2 : Int32) (d : Nat → Dr) (Ws : List Wd) : (Int32) → Prop := (fun t => ((t.toInt ≠ 0 → knB d Ws (Int32.toNatClampNeg p0) (wdl (F 0) (Int32.toNatClampNeg p1) (Int32.toNatClampNeg p2 - Int32.toNatClampNeg p1)) = true)) ∧ ((t.toInt = 0 → knB d Ws (Int32.toNatClampNeg p0) (wdl (F 0) (Int32.toNatClampNeg p1) (Int32.toNatClampNeg p2 - Int32.toNatClampNeg p1)) = false)))
set_option maxHeartbeats 4000000 in
set_option maxRecDepth 100000 in
theorem fn_isKnown (g : Nat → Int32) (F : Nat → Nat → Int32) (p0 : Int32) (p1 : Int32) (p2 : Int32) (d : Nat → Dr) (Ws : List Wd) (hI : MInv g F) (hp0 : (0 ≤ p0.toInt ∧ p0.toInt ≤ 6)) (hp1 : (0 ≤ p1.toInt ∧ p1.toInt ≤ p2.toInt ∧ p2.toInt ≤ 2000)) (hmt : MKT (F 54) (F 52) (F 53) d Ws (fun w s => w < Int32.toNatClampNeg (g 48) ∧ s ≤ Int32.toNatClampNeg (g 9))) (hfw : ∀ s w, s ≤ Int32.toNatClampNeg (g 9) → WDS (FMT d Ws s w)) (hWl : Ws.length = Int32.toNatClampNeg (g 48)) (hps : p0.toInt ≤ (g 9).toInt) : pw (f_isKnown g F p0 p1 p2) (QF_isKnown g F p0 p1 p2 d Ws) := by
  unfold f_isKnown
  have hI9 : id (MInv g F) := hI
  obtain ⟨-, -, -, -, -, -, -, -, hzg9, -, -, -, -, -, -, -, -, hzg48, -, -, -, -, -, -, -, hzF11, hzF12, hzF13, hzF15, hzF19, hzF21, hzF24, hzF25, hzF26, hzF33, hzF38, hzF41, hzF43, hzF45, hzF46, hzF50, hzF53, hzF54, hzLQ⟩ := hI
  have zk0 : (0 : Int32).toInt = 0 := by decide +kernel
  have zk1 : (1 : Int32).toInt = 1 := by decide +kernel
  have cp0 := clampI (x := p0) (by omega)
  have cp1 := clampI (x := p1) (by omega)
  have cp2 := clampI (x := p2) (by omega)
  have hb9 := hzg9
  have c9 := clampI (x := g 9) (by omega)
  have hb48 := hzg48
  have c48 := clampI (x := g 48) (by omega)
  have lp3 : ∀ (n3 : Nat) (y3_4 : Int32), (0 ≤ y3_4.toInt ∧ y3_4.toInt ≤ 100) → (∀ w, w < Int32.toNatClampNeg y3_4 → (wdl (F 0) (Int32.toNatClampNeg p1) (Int32.toNatClampNeg p2 - Int32.toNatClampNeg p1)) ∉ FMT d Ws (Int32.toNatClampNeg p0) w) → pw (L_isKnown_3 g F p0 p1 p2 n3 y3_4) (QF_isKnown g F p0 p1 p2 d Ws) := by
    intro n3
    induction n3 with
    | zero => intros; exact pw_none
    | succ n3 ih3 =>
      intro y3_4 f1 in3
      show pw (B_isKnown_3 g F p0 p1 p2 (L_isKnown_3 g F p0 p1 p2 n3) y3_4) _
      unfold B_isKnown_3
      refine pw_ite (fun c9 => ?_) (fun c9 => ?_)
      · have c9 := (z_le _ _).mp c9
        have qq0 : ((0 : Int32).toInt ≠ 0 → knB d Ws (Int32.toNatClampNeg p0) (wdl (F 0) (Int32.toNatClampNeg p1) (Int32.toNatClampNeg p2 - Int32.toNatClampNeg p1)) = true) := by intro h; exfalso; omega
        have qq1 : ((0 : Int32).toInt = 0 → knB d Ws (Int32.toNatClampNeg p0) (wdl (F 0) (Int32.toNatClampNeg p1) (Int32.toNatClampNeg p2 - Int32.toNatClampNeg p1)) = false) := by intro _; have k4 := clampI (x := y3_4) (by omega); exact knB_f (fun w hw => in3 w (by omega))
        exact pw_some ⟨qq0, qq1⟩
      · have c9 := z_nle c9
        have k4 := clampI (x := y3_4) (by omega)
        have f2 : (p2 - p1).toInt = p2.toInt - p1.toInt := z_sub (by omega) (by omega)
        have hMI24 : id (MInv g F) := show MInv g F from (MInv_i ((hI9.1)) ((hI9.2.1)) ((hI9.2.2.1)) ((hI9.2.2.2.1)) ((hI9.2.2.2.2.1)) ((hI9.2.2.2.2.2.1)) ((hI9.2.2.2.2.2.2.1)) ((hI9.2.2.2.2.2.2.2.1)) hzg9 ((hI9.2.2.2.2.2.2.2.2.2.1)) ((hI9.2.2.2.2.2.2.2.2.2.2.1)) ((hI9.2.2.2.2.2.2.2.2.2.2.2.1)) ((hI9.2.2.2.2.2.2.2.2.2.2.2.2.1)) ((hI9.2.2.2.2.2.2.2.2.2.2.2.2.2.1)) ((hI9.2.2.2.2.2.2.2.2.2.2.2.2.2.2.1)) ((hI9.2.2.2.2.2.2.2.2.2.2.2.2.2.2.2.1)) ((hI9.2.2.2.2.2.2.2.2.2.2.2.2.2.2.2.2.1)) hzg48 ((hI9.2.2.2.2.2.2.2.2.2.2.2.2.2.2.2.2.2.2.1)) ((hI9.2.2.2.2.2.2.2.2.2.2.2.2.2.2.2.2.2.2.2.1)) ((hI9.2.2.2.2.2.2.2.2.2.2.2.2.2.2.2.2.2.2.2.2.1)) ((hI9.2.2.2.2.2.2.2.2.2.2.2.2.2.2.2.2.2.2.2.2.2.1)) ((hI9.2.2.2.2.2.2.2.2.2.2.2.2.2.2.2.2.2.2.2.2.2.2.1)) ((hI9.2.2.2.2.2.2.2.2.2.2.2.2.2.2.2.2.2.2.2.2.2.2.2.1)) ((hI9.2.2.2.2.2.2.2.2.2.2.2.2.2.2.2.2.2.2.2.2.2.2.2.2.1)) hzF11 hzF12 hzF13 hzF15 hzF19 hzF21 hzF24 hzF25 hzF26 hzF33 hzF38 hzF41 hzF43 hzF45 hzF46 hzF50 hzF53 hzF54 hzLQ)
        have hpr24_0 : (0 ≤ y3_4.toInt ∧ y3_4.toInt ≤ 99) := by first | assumption | omega
        have hpr24_1 : (0 ≤ p0.toInt ∧ p0.toInt ≤ 6) := by first | assumption | omega
        have hpr24_2 : (0 ≤ p1.toInt ∧ p1.toInt + (p2 - p1).toInt ≤ 2000) := by first | assumption | omega
        have hpr24_3 : 2000 ≤ 500000 := by first | assumption | omega
        refine pw_b1 (fun r24 hc24 => ?_)
        have hq24 := wp_at (ok_hasForm g F y3_4 p0 (F 0) 2000 p1 (p2 - p1) hMI24 hpr24_0 hpr24_1 hpr24_2 hpr24_3) hc24
        have f3 : (0 ≤ r24.toInt ∧ r24.toInt ≤ 1) := hq24
        clear hq24
        have h824_hT : rwO ((F 54) (7 * Int32.toNatClampNeg y3_4 + Int32.toNatClampNeg p0)) (F 52) (F 53) (7 * Int32.toNatClampNeg y3_4 + Int32.toNatClampNeg p0) = (FMT d Ws (Int32.toNatClampNeg p0) (Int32.toNatClampNeg y3_4)) := by exact hmt _ _ ⟨by omega, by omega⟩
        have h824_hTw : WDS (FMT d Ws (Int32.toNatClampNeg p0) (Int32.toNatClampNeg y3_4)) := by exact hfw _ _ (by omega)
        have h824_hA : wdl (F 0) (Int32.toNatClampNeg p1) (Int32.toNatClampNeg (p2 - p1)) = ((wdl (F 0) (Int32.toNatClampNeg p1) (Int32.toNatClampNeg p2 - Int32.toNatClampNeg p1))) := by have km := clampI (x := p2 - p1) (by omega); rw [show Int32.toNatClampNeg (p2 - p1) = Int32.toNatClampNeg p2 - Int32.toNatClampNeg p1 by omega]
        have h824_h04 : 0 ≤ (p2 - p1).toInt := by omega
        have hx24 := pwq (fn_hasForm g F y3_4 p0 (F 0) 2000 p1 (p2 - p1) (FMT d Ws (Int32.toNatClampNeg p0) (Int32.toNatClampNeg y3_4)) ((wdl (F 0) (Int32.toNatClampNeg p1) (Int32.toNatClampNeg p2 - Int32.toNatClampNeg p1))) hMI24 hpr24_0 hpr24_1 hpr24_2 hpr24_3 h824_hT h824_hTw h824_hA h824_h04) hc24
        obtain ⟨p24_0, p24_1⟩ : (id ((r24.toInt ≠ 0 → ((wdl (F 0) (Int32.toNatClampNeg p1) (Int32.toNatClampNeg p2 - Int32.toNatClampNeg p1))) ∈ (FMT d Ws (Int32.toNatClampNeg p0) (Int32.toNatClampNeg y3_4))))) ∧ (id ((r24.toInt = 0 → ((wdl (F 0) (Int32.toNatClampNeg p1) (Int32.toNatClampNeg p2 - Int32.toNatClampNeg p1))) ∉ (FMT d Ws (Int32.toNatClampNeg p0) (Int32.toNatClampNeg y3_4))))) := hx24
        refine pw_ite (fun c27 => ?_) (fun c27 => ?_)
        · have c27 := congrArg Int32.toInt c27
          have f4 : (y3_4 + 1).toInt = y3_4.toInt + (1) := z_addc (by decide +kernel) (by omega) (by omega)
          have iv3_0 : (0 ≤ (y3_4 + 1).toInt ∧ (y3_4 + 1).toInt ≤ 100) := by omega
          have iv3_1 : (∀ w, w < Int32.toNatClampNeg (y3_4 + 1) → (wdl (F 0) (Int32.toNatClampNeg p1) (Int32.toNatClampNeg p2 - Int32.toNatClampNeg p1)) ∉ FMT d Ws (Int32.toNatClampNeg p0) w) := by have k4 := clampI (x := y3_4) (by omega); have k5 := clampI (x := y3_4 + 1) (by omega); intro w hw; by_cases q9 : w = Int32.toNatClampNeg y3_4; (rw [q9]; exact p24_1 (by omega)); (exact in3 w (by omega))
          exact ih3 (y3_4 + 1) iv3_0 iv3_1
        · have c27 := z_ne c27
          have qq0 : ((1 : Int32).toInt ≠ 0 → knB d Ws (Int32.toNatClampNeg p0) (wdl (F 0) (Int32.toNatClampNeg p1) (Int32.toNatClampNeg p2 - Int32.toNatClampNeg p1)) = true) := by intro _; exact knB_t (w := Int32.toNatClampNeg y3_4) (by omega) (p24_0 (by omega))
          have qq1 : ((1 : Int32).toInt = 0 → knB d Ws (Int32.toNatClampNeg p0) (wdl (F 0) (Int32.toNatClampNeg p1) (Int32.toNatClampNeg p2 - Int32.toNatClampNeg p1)) = false) := by intro h; exfalso; omega
          exact pw_some ⟨qq0, qq1⟩
  exact lp3 NN (0 : Int32) (show (0 ≤ (0 : Int32).toInt ∧ (0 : Int32).toInt ≤ 100) from by omega) (show (∀ w, w < Int32.toNatClampNeg (0 : Int32) → (wdl (F 0) (Int32.toNatClampNeg p1) (Int32.toNatClampNeg p2 - Int32.toNatClampNeg p1)) ∉ FMT d Ws (Int32.toNatClampNeg p0) w) from by intro w hw; exact absurd hw (Nat.not_lt_zero _))
abbrev QF_onward (g : Nat → Int32) (F : Nat → Nat → Int32) (p0 : Int32) (p1 : Int32) (p2 : Int32) : (Int32) → Prop := (fun t => (t = owF2 (fun t => (F 68) (7 * Int32.toNatClampNeg p0 + t)) (Int32.toNatClampNeg (g 9)) p2 p1.toInt))
set_option maxHeartbeats 4000000 in
set_option maxRecDepth 100000 in
theorem fn_onward (g : Nat → Int32) (F : Nat → Nat → Int32) (p0 : Int32) (p1 : Int32) (p2 : Int32) (hI : MInv g F) (hp0 : (0 ≤ p0.toInt ∧ p0.toInt ≤ 40)) : pw (f_onward g F p0 p1 p2) (QF_onward g F p0 p1 p2) := by
  unfold f_onward
  have hI9 : id (MInv g F) := hI
  obtain ⟨-, -, -, -, -, -, -, -, hzg9, -, -, -, -, -, -, -, -, -, -, -, -, -, -, -, -, hzF11, hzF12, hzF13, hzF15, hzF19, hzF21, hzF24, hzF25, hzF26, hzF33, hzF38, hzF41, hzF43, hzF45, hzF46, hzF50, hzF53, hzF54, hzLQ⟩ := hI
  have zkm1 : (-1 : Int32).toInt = -1 := by decide +kernel
  have zk0 : (0 : Int32).toInt = 0 := by decide +kernel
  have zk7 : (7 : Int32).toInt = 7 := by decide +kernel
  have zk2147483647 : (2147483647 : Int32).toInt = 2147483647 := by decide +kernel
  have cp0 := clampI (x := p0) (by omega)
  have hb9 := hzg9
  have c9 := clampI (x := g 9) (by omega)
  have lp8 : ∀ (n8 : Nat) (y8_4 : Int32) (y8_5 : Int32), (0 ≤ y8_5.toInt ∧ y8_5.toInt ≤ (g 9).toInt + 1) → (OWI (fun t => (F 68) (7 * Int32.toNatClampNeg p0 + t) + prF p2 p1.toInt t) (Int32.toNatClampNeg y8_5) y8_4) → pw (L_onward_8 g F p0 p1 p2 n8 y8_4 y8_5) (QF_onward g F p0 p1 p2) := by
    intro n8
    induction n8 with
    | zero => intros; exact pw_none
    | succ n8 ih8 =>
      intro y8_4 y8_5 f1 io8
      show pw (B_onward_8 g F p0 p1 p2 (L_onward_8 g F p0 p1 p2 n8) y8_4 y8_5) _
      unfold B_onward_8
      refine pw_ite (fun c14 => ?_) (fun c14 => ?_)
      · have c14 := (z_lt _ _).mp c14
        have qq0 : y8_4 = owF2 (fun t => (F 68) (7 * Int32.toNatClampNeg p0 + t)) (Int32.toNatClampNeg (g 9)) p2 p1.toInt := by have k5 := clampI (x := y8_5) (by omega); exact OWI_end io8 (by omega)
        exact pw_some qq0
      · have c14 := z_nlt c14
        have f2 : (7 * p0).toInt = 7 * p0.toInt := z_muld (by decide +kernel) (by omega) (by omega)
        have f3 : ((7 * p0) + y8_5).toInt = (7 * p0).toInt + y8_5.toInt := z_add (by omega) (by omega)
        refine pw_if (fun hb28 => ?_)
        obtain ⟨hbl28, hbr28⟩ := hb28
        refine pw_jE (fun j45 ej45 => ?_)
        refine pw_jE (fun j40 ej40 => ?_)
        refine pw_ite (fun c31 => ?_) (fun c31 => ?_)
        · have c31 := congrArg Int32.toInt c31
          refine pw_j0 ej40 ?_
          refine pw_j1 ej45 (fun t45_0 et45_0 => ?_)
          have et45_0 := et45_0.symm
          have f_t45_0 : t45_0.toInt = 0 := by rw [et45_0]; decide +kernel
          refine pw_vl (fun x46 ex46 => ?_)
          have f4 : x46.toInt = (((F 68) (Int32.toNatClampNeg ((7 * p0) + y8_5))) + t45_0).toInt := congrArg Int32.toInt ex46
          refine pw_jE (fun j62 ej62 => ?_)
          refine pw_ite (fun c52 => ?_) (fun c52 => ?_)
          · have c52 := (z_le _ _).mp c52
            refine pw_j1 ej62 (fun t62_0 et62_0 => ?_)
            have et62_0 := et62_0.symm
            have f_t62_0 : t62_0.toInt = y8_4.toInt := by rw [et62_0]
            have f5 : (y8_5 + 1).toInt = y8_5.toInt + (1) := z_addc (by decide +kernel) (by omega) (by omega)
            have iv8_0 : (0 ≤ (y8_5 + 1).toInt ∧ (y8_5 + 1).toInt ≤ (g 9).toInt + 1) := by first | omega | exact ow_next (by assumption) (by omega)
            have iv8_1 : (OWI (fun t => (F 68) (7 * Int32.toNatClampNeg p0 + t) + prF p2 p1.toInt t) (Int32.toNatClampNeg (y8_5 + 1)) t62_0) := by have k5 := clampI (x := y8_5) (by omega); have k6 := clampI (x := y8_5 + 1) (by omega); have ki := clampI (x := (7 * p0) + y8_5) (by omega); have hx : x46 = (F 68) (7 * Int32.toNatClampNeg p0 + Int32.toNatClampNeg y8_5) + prF p2 p1.toInt (Int32.toNatClampNeg y8_5) := (by rw [ex46, show Int32.toNatClampNeg ((7 * p0) + y8_5) = 7 * Int32.toNatClampNeg p0 + Int32.toNatClampNeg y8_5 by omega, et45_0, prF_0 (by omega)]); rw [show Int32.toNatClampNeg (y8_5 + 1) = Int32.toNatClampNeg y8_5 + 1 by omega, et62_0]; exact OWI_ge (x := x46) io8 hx (by omega)
            exact ih8 t62_0 (y8_5 + 1) iv8_0 iv8_1
          · have c52 := z_nle c52
            refine pw_j1 ej62 (fun t62_0 et62_0 => ?_)
            have et62_0 := et62_0.symm
            have f_t62_0 : t62_0.toInt = x46.toInt := by rw [et62_0]
            have f6 : (y8_5 + 1).toInt = y8_5.toInt + (1) := z_addc (by decide +kernel) (by omega) (by omega)
            have iv8_0 : (0 ≤ (y8_5 + 1).toInt ∧ (y8_5 + 1).toInt ≤ (g 9).toInt + 1) := by first | omega | exact ow_next (by assumption) (by omega)
            have iv8_1 : (OWI (fun t => (F 68) (7 * Int32.toNatClampNeg p0 + t) + prF p2 p1.toInt t) (Int32.toNatClampNeg (y8_5 + 1)) t62_0) := by have k5 := clampI (x := y8_5) (by omega); have k6 := clampI (x := y8_5 + 1) (by omega); have ki := clampI (x := (7 * p0) + y8_5) (by omega); have hx : x46 = (F 68) (7 * Int32.toNatClampNeg p0 + Int32.toNatClampNeg y8_5) + prF p2 p1.toInt (Int32.toNatClampNeg y8_5) := (by rw [ex46, show Int32.toNatClampNeg ((7 * p0) + y8_5) = 7 * Int32.toNatClampNeg p0 + Int32.toNatClampNeg y8_5 by omega, et45_0, prF_0 (by omega)]); rw [show Int32.toNatClampNeg (y8_5 + 1) = Int32.toNatClampNeg y8_5 + 1 by omega, et62_0]; exact OWI_lt io8 hx (by omega)
            exact ih8 t62_0 (y8_5 + 1) iv8_0 iv8_1
        · have c31 := z_ne c31
          refine pw_ite (fun c37 => ?_) (fun c37 => ?_)
          · have c37 := congrArg Int32.toInt c37
            refine pw_j0 ej40 ?_
            refine pw_j1 ej45 (fun t45_0 et45_0 => ?_)
            have et45_0 := et45_0.symm
            have f_t45_0 : t45_0.toInt = 0 := by rw [et45_0]; decide +kernel
            refine pw_vl (fun x46 ex46 => ?_)
            have f7 : x46.toInt = (((F 68) (Int32.toNatClampNeg ((7 * p0) + y8_5))) + t45_0).toInt := congrArg Int32.toInt ex46
            refine pw_jE (fun j62 ej62 => ?_)
            refine pw_ite (fun c52 => ?_) (fun c52 => ?_)
            · have c52 := (z_le _ _).mp c52
              refine pw_j1 ej62 (fun t62_0 et62_0 => ?_)
              have et62_0 := et62_0.symm
              have f_t62_0 : t62_0.toInt = y8_4.toInt := by rw [et62_0]
              have f8 : (y8_5 + 1).toInt = y8_5.toInt + (1) := z_addc (by decide +kernel) (by omega) (by omega)
              have iv8_0 : (0 ≤ (y8_5 + 1).toInt ∧ (y8_5 + 1).toInt ≤ (g 9).toInt + 1) := by first | omega | exact ow_next (by assumption) (by omega)
              have iv8_1 : (OWI (fun t => (F 68) (7 * Int32.toNatClampNeg p0 + t) + prF p2 p1.toInt t) (Int32.toNatClampNeg (y8_5 + 1)) t62_0) := by have k5 := clampI (x := y8_5) (by omega); have k6 := clampI (x := y8_5 + 1) (by omega); have ki := clampI (x := (7 * p0) + y8_5) (by omega); have hx : x46 = (F 68) (7 * Int32.toNatClampNeg p0 + Int32.toNatClampNeg y8_5) + prF p2 p1.toInt (Int32.toNatClampNeg y8_5) := (by rw [ex46, show Int32.toNatClampNeg ((7 * p0) + y8_5) = 7 * Int32.toNatClampNeg p0 + Int32.toNatClampNeg y8_5 by omega, et45_0, prF_0 (by omega)]); rw [show Int32.toNatClampNeg (y8_5 + 1) = Int32.toNatClampNeg y8_5 + 1 by omega, et62_0]; exact OWI_ge (x := x46) io8 hx (by omega)
              exact ih8 t62_0 (y8_5 + 1) iv8_0 iv8_1
            · have c52 := z_nle c52
              refine pw_j1 ej62 (fun t62_0 et62_0 => ?_)
              have et62_0 := et62_0.symm
              have f_t62_0 : t62_0.toInt = x46.toInt := by rw [et62_0]
              have f9 : (y8_5 + 1).toInt = y8_5.toInt + (1) := z_addc (by decide +kernel) (by omega) (by omega)
              have iv8_0 : (0 ≤ (y8_5 + 1).toInt ∧ (y8_5 + 1).toInt ≤ (g 9).toInt + 1) := by first | omega | exact ow_next (by assumption) (by omega)
              have iv8_1 : (OWI (fun t => (F 68) (7 * Int32.toNatClampNeg p0 + t) + prF p2 p1.toInt t) (Int32.toNatClampNeg (y8_5 + 1)) t62_0) := by have k5 := clampI (x := y8_5) (by omega); have k6 := clampI (x := y8_5 + 1) (by omega); have ki := clampI (x := (7 * p0) + y8_5) (by omega); have hx : x46 = (F 68) (7 * Int32.toNatClampNeg p0 + Int32.toNatClampNeg y8_5) + prF p2 p1.toInt (Int32.toNatClampNeg y8_5) := (by rw [ex46, show Int32.toNatClampNeg ((7 * p0) + y8_5) = 7 * Int32.toNatClampNeg p0 + Int32.toNatClampNeg y8_5 by omega, et45_0, prF_0 (by omega)]); rw [show Int32.toNatClampNeg (y8_5 + 1) = Int32.toNatClampNeg y8_5 + 1 by omega, et62_0]; exact OWI_lt io8 hx (by omega)
              exact ih8 t62_0 (y8_5 + 1) iv8_0 iv8_1
          · have c37 := z_ne c37
            refine pw_j1 ej45 (fun t45_0 et45_0 => ?_)
            have et45_0 := et45_0.symm
            have f_t45_0 : t45_0.toInt = p2.toInt := by rw [et45_0]
            refine pw_vl (fun x46 ex46 => ?_)
            have f10 : x46.toInt = (((F 68) (Int32.toNatClampNeg ((7 * p0) + y8_5))) + t45_0).toInt := congrArg Int32.toInt ex46
            refine pw_jE (fun j62 ej62 => ?_)
            refine pw_ite (fun c52 => ?_) (fun c52 => ?_)
            · have c52 := (z_le _ _).mp c52
              refine pw_j1 ej62 (fun t62_0 et62_0 => ?_)
              have et62_0 := et62_0.symm
              have f_t62_0 : t62_0.toInt = y8_4.toInt := by rw [et62_0]
              have f11 : (y8_5 + 1).toInt = y8_5.toInt + (1) := z_addc (by decide +kernel) (by omega) (by omega)
              have iv8_0 : (0 ≤ (y8_5 + 1).toInt ∧ (y8_5 + 1).toInt ≤ (g 9).toInt + 1) := by first | omega | exact ow_next (by assumption) (by omega)
              have iv8_1 : (OWI (fun t => (F 68) (7 * Int32.toNatClampNeg p0 + t) + prF p2 p1.toInt t) (Int32.toNatClampNeg (y8_5 + 1)) t62_0) := by have k5 := clampI (x := y8_5) (by omega); have k6 := clampI (x := y8_5 + 1) (by omega); have ki := clampI (x := (7 * p0) + y8_5) (by omega); have hx : x46 = (F 68) (7 * Int32.toNatClampNeg p0 + Int32.toNatClampNeg y8_5) + prF p2 p1.toInt (Int32.toNatClampNeg y8_5) := (by rw [ex46, show Int32.toNatClampNeg ((7 * p0) + y8_5) = 7 * Int32.toNatClampNeg p0 + Int32.toNatClampNeg y8_5 by omega, et45_0, prF_1 (by omega)]); rw [show Int32.toNatClampNeg (y8_5 + 1) = Int32.toNatClampNeg y8_5 + 1 by omega, et62_0]; exact OWI_ge (x := x46) io8 hx (by omega)
              exact ih8 t62_0 (y8_5 + 1) iv8_0 iv8_1
            · have c52 := z_nle c52
              refine pw_j1 ej62 (fun t62_0 et62_0 => ?_)
              have et62_0 := et62_0.symm
              have f_t62_0 : t62_0.toInt = x46.toInt := by rw [et62_0]
              have f12 : (y8_5 + 1).toInt = y8_5.toInt + (1) := z_addc (by decide +kernel) (by omega) (by omega)
              have iv8_0 : (0 ≤ (y8_5 + 1).toInt ∧ (y8_5 + 1).toInt ≤ (g 9).toInt + 1) := by first | omega | exact ow_next (by assumption) (by omega)
              have iv8_1 : (OWI (fun t => (F 68) (7 * Int32.toNatClampNeg p0 + t) + prF p2 p1.toInt t) (Int32.toNatClampNeg (y8_5 + 1)) t62_0) := by have k5 := clampI (x := y8_5) (by omega); have k6 := clampI (x := y8_5 + 1) (by omega); have ki := clampI (x := (7 * p0) + y8_5) (by omega); have hx : x46 = (F 68) (7 * Int32.toNatClampNeg p0 + Int32.toNatClampNeg y8_5) + prF p2 p1.toInt (Int32.toNatClampNeg y8_5) := (by rw [ex46, show Int32.toNatClampNeg ((7 * p0) + y8_5) = 7 * Int32.toNatClampNeg p0 + Int32.toNatClampNeg y8_5 by omega, et45_0, prF_1 (by omega)]); rw [show Int32.toNatClampNeg (y8_5 + 1) = Int32.toNatClampNeg y8_5 + 1 by omega, et62_0]; exact OWI_lt io8 hx (by omega)
              exact ih8 t62_0 (y8_5 + 1) iv8_0 iv8_1
  exact lp8 NN (2147483647 : Int32) (0 : Int32) (show (0 ≤ (0 : Int32).toInt ∧ (0 : Int32).toInt ≤ (g 9).toInt + 1) from by first | omega | exact Or.inl ⟨(by omega), (by omega)⟩) (show (OWI (fun t => (F 68) (7 * Int32.toNatClampNeg p0 + t) + prF p2 p1.toInt t) (Int32.toNatClampNeg (0 : Int32)) (2147483647 : Int32)) from by exact Or.inl ⟨rfl, by decide⟩)
abbrev QF_line (g : Nat → Int32) (F : Nat → Nat → Int32) (p0 : Int32) : (Int32) → Prop := (fun t => (((0 ≤ p0.toInt ∧ p0.toInt < (g 70).toInt) → t = (F 69) (Int32.toNatClampNeg p0))) ∧ ((¬ (0 ≤ p0.toInt ∧ p0.toInt < (g 70).toInt) → t.toInt = -1)))
set_option maxHeartbeats 4000000 in
set_option maxRecDepth 100000 in
theorem fn_line (g : Nat → Int32) (F : Nat → Nat → Int32) (p0 : Int32) (hI : MInv g F) : pw (f_line g F p0) (QF_line g F p0) := by
  unfold f_line
  have hI9 : id (MInv g F) := hI
  obtain ⟨-, -, -, -, -, -, -, -, -, -, -, -, -, -, -, -, -, -, -, -, -, -, -, -, hzg70, hzF11, hzF12, hzF13, hzF15, hzF19, hzF21, hzF24, hzF25, hzF26, hzF33, hzF38, hzF41, hzF43, hzF45, hzF46, hzF50, hzF53, hzF54, hzLQ⟩ := hI
  have zkm1 : (-1 : Int32).toInt = -1 := by decide +kernel
  have zk0 : (0 : Int32).toInt = 0 := by decide +kernel
  have zk1 : (1 : Int32).toInt = 1 := by decide +kernel
  have hb70 := hzg70
  have f1 : ((g 70) - 1).toInt = (g 70).toInt - 1 := z_subc (by decide +kernel) (by omega) (by omega)
  refine pw_b1 (fun r8 hc8 => ?_)
  have hq8 := wp_at (ok_in p0 (0 : Int32) ((g 70) - 1) ) hc8
  obtain ⟨f2, f3, f4⟩ : ((r8.toInt = 1 → (0 : Int32).toInt ≤ p0.toInt ∧ p0.toInt ≤ ((g 70) - 1).toInt)) ∧ ((r8.toInt = 0 → p0.toInt < (0 : Int32).toInt ∨ ((g 70) - 1).toInt < p0.toInt)) ∧ ((0 ≤ r8.toInt ∧ r8.toInt ≤ 1)) := hq8
  refine pw_jE (fun j24 ej24 => ?_)
  refine pw_ite (fun c11 => ?_) (fun c11 => ?_)
  · have c11 := congrArg Int32.toInt c11
    refine pw_j1 ej24 (fun t24_0 et24_0 => ?_)
    have et24_0 := et24_0.symm
    have f_t24_0 : t24_0.toInt = (-1) := by rw [et24_0]; decide +kernel
    have qq0 : ((0 ≤ p0.toInt ∧ p0.toInt < (g 70).toInt) → t24_0 = (F 69) (Int32.toNatClampNeg p0)) := by intro h; exfalso; omega
    have qq1 : (¬ (0 ≤ p0.toInt ∧ p0.toInt < (g 70).toInt) → t24_0.toInt = -1) := by intro _; omega
    exact pw_some ⟨qq0, qq1⟩
  · have c11 := z_ne c11
    refine pw_if (fun hb19 => ?_)
    obtain ⟨hbl19, hbr19⟩ := hb19
    refine pw_j1 ej24 (fun t24_0 et24_0 => ?_)
    have et24_0 := et24_0.symm
    have f_t24_0 : t24_0.toInt = ((F 69) (Int32.toNatClampNeg p0)).toInt := by rw [et24_0]
    have qq0 : ((0 ≤ p0.toInt ∧ p0.toInt < (g 70).toInt) → t24_0 = (F 69) (Int32.toNatClampNeg p0)) := by intro _; first | rfl | assumption
    have qq1 : (¬ (0 ≤ p0.toInt ∧ p0.toInt < (g 70).toInt) → t24_0.toInt = -1) := by intro h; exfalso; omega
    exact pw_some ⟨qq0, qq1⟩
