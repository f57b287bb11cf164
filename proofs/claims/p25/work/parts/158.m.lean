abbrev QF_scan (g : Nat → Int32) (F : Nat → Nat → Int32) (f : Nat → Int32) (n : Nat) (e : Nat) : (Int32 × Int32 × Int32 × Int32) → Prop := (fun t => (TKS f n e (t.1).toInt (t.2.1).toInt (t.2.2.1).toInt (t.2.2.2).toInt))
set_option maxHeartbeats 4000000 in
set_option maxRecDepth 100000 in
theorem fn_scan (g : Nat → Int32) (F : Nat → Nat → Int32) (f : Nat → Int32) (n : Nat) (e : Nat) (hI : MInv g F) (hf : (F 0) = f) (hn : Int32.toNatClampNeg (g 2) = n) (he : Int32.toNatClampNeg (g 6) = e) (hfit : ∀ i, fits .byte (.int (f i)) = true) : pw (f_scan g F) (QF_scan g F f n e) := by
  intro x hx
  have h := (wp_at (fx_scan g F hI (by rw [hf]; exact hfit)) hx).2.2.2.2.2.2.2
  rw [hf, hn, he] at h
  exact h
abbrev QF_wrong (g : Nat → Int32) (F : Nat → Nat → Int32) (p0 : Int32) : (Int32 × Int32 × Int32) → Prop := (fun t => ((t.1).toInt = 0) ∧ ((t.2.1).toInt = p0.toInt) ∧ ((t.2.2).toInt = (g 5).toInt))
set_option maxHeartbeats 4000000 in
set_option maxRecDepth 100000 in
theorem fn_wrong (g : Nat → Int32) (F : Nat → Nat → Int32) (p0 : Int32) (hI : MInv g F) (hp0 : 0 ≤ p0.toInt ∧ p0.toInt ≤ 4) : pw (f_wrong g F p0) (QF_wrong g F p0) := by
  unfold f_wrong
  have hI9 : id (MInv g F) := hI
  obtain ⟨-, -, -, -, hzg5, -, -, -, -, -, -, -, -, -, -, -, -, -, -, -, -, -, -, -, -, hzF11, hzF12, hzF13, hzF15, hzF19, hzF21, hzF24, hzF25, hzF26, hzF33, hzF38, hzF41, hzF43, hzF45, hzF46, hzF50, hzF53, hzF54, hzLQ⟩ := hI
  have zk0 : (0 : Int32).toInt = 0 := by decide +kernel
  have hg1 : ((0) ≤ p0.toInt ∧ p0.toInt ≤ 4) := ⟨by omega, by omega⟩
  have hg2 : ((-1) ≤ (g 5).toInt ∧ (g 5).toInt ≤ 2001) := ⟨by omega, by omega⟩
  have qq0 : (0 : Int32).toInt = 0 := by omega
  have qq1 : p0.toInt = p0.toInt := by omega
  have qq2 : (g 5).toInt = (g 5).toInt := by omega
  exact pw_some ⟨qq0, qq1, qq2⟩
abbrev QF_take (g : Nat → Int32) (F : Nat → Nat → Int32) (A0 : (Nat → Int32)) (n0 : Nat) (A1 : (Nat → Int32)) (n1 : Nat) (p2 : Int32) (p3 : Int32) (f : Nat → Int32) (n : Nat) (e : Nat) (sm : Bool) : (Int32 × Int32 × Int32 × (Nat → Int32) × (Nat → Int32)) → Prop := (fun t => (((t.1).toInt ≠ 0 → fLet f n e sm = none ∧ TAKEN A0 (t.2.2.2.1) A1 (t.2.2.2.2) (Int32.toNatClampNeg p2) f (tP f n e + 1) (tL f n e) ∧ (t.2.1).toInt = (g 7).toInt ∧ (t.2.2.1).toInt = (g 8).toInt ∧ (g 6).toInt = ((tE f n e : Nat) : Int))) ∧ (((t.1).toInt = 0 → ERR (fLet f n e sm) (t.2.1) (t.2.2.1))) ∧ (((t.1).toInt = 0 → (t.2.2.2.1) = A0 ∧ (t.2.2.2.2) = A1)))
set_option maxHeartbeats 4000000 in
set_option maxRecDepth 100000 in
theorem fn_take (g : Nat → Int32) (F : Nat → Nat → Int32) (A0 : (Nat → Int32)) (n0 : Nat) (A1 : (Nat → Int32)) (n1 : Nat) (p2 : Int32) (p3 : Int32) (f : Nat → Int32) (n : Nat) (e : Nat) (sm : Bool) (hI : MInv g F) (hzA1 : rng (-1) 16 A1) (hp0 : (0 ≤ p2.toInt ∧ p2.toInt < n1)) (hp1 : 16 * n1 ≤ n0) (hp2 : n0 ≤ 500000) (hp3 : ((g 3).toInt = 2 → (g 5).toInt + 2 ≤ (g 6).toInt ∧ (g 6).toInt ≤ (g 5).toInt + 18 ∧ (g 6).toInt ≤ 2000)) (hf : (F 0) = f) (htk : TKS f n e (g 3).toInt (g 4).toInt (g 5).toInt (g 6).toInt) (hsm : sm = decide (p3.toInt ≠ 0)) (hfit : ∀ i, fits .byte (.int (f i)) = true) : pw (f_take g F A0 n0 A1 n1 p2 p3) (QF_take g F A0 n0 A1 n1 p2 p3 f n e sm) := by
  unfold f_take
  have hI9 : id (MInv g F) := hI
  obtain ⟨-, -, hzg3, hzg4, hzg5, hzg6, hzg7, hzg8, -, -, -, -, -, -, -, -, -, -, -, -, -, -, -, -, -, hzF11, hzF12, hzF13, hzF15, hzF19, hzF21, hzF24, hzF25, hzF26, hzF33, hzF38, hzF41, hzF43, hzF45, hzF46, hzF50, hzF53, hzF54, hzLQ⟩ := hI
  have zk0 : (0 : Int32).toInt = 0 := by decide +kernel
  have zk1 : (1 : Int32).toInt = 1 := by decide +kernel
  have zk2 : (2 : Int32).toInt = 2 := by decide +kernel
  have zk16 : (16 : Int32).toInt = 16 := by decide +kernel
  have t1 := TKS_at htk
  have cp2 := clampI (x := p2) (by omega)
  refine pw_ite (fun c5 => ?_) (fun c5 => ?_)
  · have c5 := congrArg Int32.toInt c5
    obtain ⟨t2, t3⟩ := TKS_2 htk (by omega)
    have t4 := tE_2 t2
    have t5 := tL_2 t2
    have f1 : ((g 6) - (g 5)).toInt = (g 6).toInt - (g 5).toInt := z_sub (by omega) (by omega)
    have f2 : (((g 6) - (g 5)) - 2).toInt = ((g 6) - (g 5)).toInt - 2 := z_subc (by decide +kernel) (by omega) (by omega)
    refine pw_vl (fun x25 ex25 => ?_)
    have f3 : x25.toInt = (((g 6) - (g 5)) - 2).toInt := congrArg Int32.toInt ex25
    refine pw_jE (fun j43 ej43 => ?_)
    refine pw_ite (fun c29 => ?_) (fun c29 => ?_)
    · have c29 := congrArg Int32.toInt c29
      refine pw_j0 ej43 ?_
      have lp46 : ∀ (n46 : Nat) (y46_6 : Int32) (d46_A0 : (Nat → Int32)), 0 ≤ y46_6.toInt → y46_6.toInt ≤ x25.toInt → (d46_A0 = va_cpy f A0 (tP f n e + 1) (16 * Int32.toNatClampNeg p2) (Int32.toNatClampNeg y46_6)) → pw (L_take_46 g F n0 A1 n1 p2 x25 n46 y46_6 d46_A0) (QF_take g F A0 n0 A1 n1 p2 p3 f n e sm) := by
        intro n46
        induction n46 with
        | zero => intros; exact pw_none
        | succ n46 ih46 =>
          intro y46_6 d46_A0 f4 f5 it46
          show pw (B_take_46 g F n0 A1 n1 p2 x25 (L_take_46 g F n0 A1 n1 p2 x25 n46) y46_6 d46_A0) _
          unfold B_take_46
          refine pw_ite (fun c50 => ?_) (fun c50 => ?_)
          · have c50 := (z_le _ _).mp c50
            refine pw_if (fun hb86 => ?_)
            obtain ⟨hbl86, hbr86⟩ := hb86
            refine pw_vl (fun w86 ew86 => ?_)
            have hF6 : rng (-1) 16 w86 := by rw [ew86]; exact rng_upd hzA1 (by omega) (by omega)
            have qq0 : ((1 : Int32).toInt ≠ 0 → fLet f n e sm = none ∧ TAKEN A0 d46_A0 A1 w86 (Int32.toNatClampNeg p2) f (tP f n e + 1) (tL f n e) ∧ (g 7).toInt = (g 7).toInt ∧ (g 8).toInt = (g 8).toInt ∧ (g 6).toInt = ((tE f n e : Nat) : Int)) := by intro _; have c6 := clampI (x := y46_6) (by omega); refine ⟨fLet_ok t2 (fun z => by rw [hsm] at z; have z2 := of_decide_eq_true z; omega), ⟨t5.1, ?_, x25, by omega, ew86⟩, by omega, by omega, by omega⟩; have h := it46; rw [show Int32.toNatClampNeg y46_6 = tL f n e by omega] at h; exact h
            have qq1 : ((1 : Int32).toInt = 0 → ERR (fLet f n e sm) (g 7) (g 8)) := by intro h; omega
            have qq2 : ((1 : Int32).toInt = 0 → d46_A0 = A0 ∧ w86 = A1) := by intro h; omega
            exact pw_some ⟨qq0, qq1, qq2⟩
          · have c50 := z_nle c50
            have f7 : (16 * p2).toInt = 16 * p2.toInt := z_muld (by decide +kernel) (by omega) (by omega)
            have f8 : ((16 * p2) + y46_6).toInt = (16 * p2).toInt + y46_6.toInt := z_add (by omega) (by omega)
            have f9 : ((g 5) + 1).toInt = (g 5).toInt + 1 := z_addc (by decide +kernel) (by omega) (by omega)
            have f10 : (((g 5) + 1) + y46_6).toInt = ((g 5) + 1).toInt + y46_6.toInt := z_add (by omega) (by omega)
            refine pw_if (fun hb74 => ?_)
            obtain ⟨hbl74, hbr74⟩ := hb74
            refine pw_if (fun hb75 => ?_)
            obtain ⟨hbl75, hbr75⟩ := hb75
            refine pw_vl (fun w75 ew75 => ?_)
            have f11 : (y46_6 + 1).toInt = y46_6.toInt + (1) := z_addc (by decide +kernel) (by omega) (by omega)
            have iv46_0 : 0 ≤ (y46_6 + 1).toInt := by omega
            have iv46_1 : (y46_6 + 1).toInt ≤ x25.toInt := by omega
            have iv46_2 : (w75 = va_cpy f A0 (tP f n e + 1) (16 * Int32.toNatClampNeg p2) (Int32.toNatClampNeg (y46_6 + 1))) := by have c6 := clampI (x := y46_6) (by omega); have c7 := clampI (x := y46_6 + 1) (by omega); have c8 := clampI (x := ((g 5) + 1) + y46_6) (by omega); rw [ew75, show Int32.toNatClampNeg (y46_6 + 1) = Int32.toNatClampNeg y46_6 + 1 by omega]; exact cpw_stepS it46 (by omega) (by rw [hf, fit_id (hfit _)]; exact congrArg f (by omega))
            exact ih46 (y46_6 + 1) w75 iv46_0 iv46_1 iv46_2
      exact lp46 NN (0 : Int32) A0 (show 0 ≤ (0 : Int32).toInt from by omega) (show (0 : Int32).toInt ≤ x25.toInt from by omega) (show (A0 = va_cpy f A0 (tP f n e + 1) (16 * Int32.toNatClampNeg p2) (Int32.toNatClampNeg (0 : Int32))) from by exact cpw_0S)
    · have c29 := z_ne c29
      refine pw_ite (fun c34 => ?_) (fun c34 => ?_)
      · have c34 := congrArg Int32.toInt c34
        have hMI39 : id (MInv g F) := show MInv g F from (MInv_i ((hI9.1)) ((hI9.2.1)) hzg3 hzg4 hzg5 hzg6 hzg7 hzg8 ((hI9.2.2.2.2.2.2.2.2.1)) ((hI9.2.2.2.2.2.2.2.2.2.1)) ((hI9.2.2.2.2.2.2.2.2.2.2.1)) ((hI9.2.2.2.2.2.2.2.2.2.2.2.1)) ((hI9.2.2.2.2.2.2.2.2.2.2.2.2.1)) ((hI9.2.2.2.2.2.2.2.2.2.2.2.2.2.1)) ((hI9.2.2.2.2.2.2.2.2.2.2.2.2.2.2.1)) ((hI9.2.2.2.2.2.2.2.2.2.2.2.2.2.2.2.1)) ((hI9.2.2.2.2.2.2.2.2.2.2.2.2.2.2.2.2.1)) ((hI9.2.2.2.2.2.2.2.2.2.2.2.2.2.2.2.2.2.1)) ((hI9.2.2.2.2.2.2.2.2.2.2.2.2.2.2.2.2.2.2.1)) ((hI9.2.2.2.2.2.2.2.2.2.2.2.2.2.2.2.2.2.2.2.1)) ((hI9.2.2.2.2.2.2.2.2.2.2.2.2.2.2.2.2.2.2.2.2.1)) ((hI9.2.2.2.2.2.2.2.2.2.2.2.2.2.2.2.2.2.2.2.2.2.1)) ((hI9.2.2.2.2.2.2.2.2.2.2.2.2.2.2.2.2.2.2.2.2.2.2.1)) ((hI9.2.2.2.2.2.2.2.2.2.2.2.2.2.2.2.2.2.2.2.2.2.2.2.1)) ((hI9.2.2.2.2.2.2.2.2.2.2.2.2.2.2.2.2.2.2.2.2.2.2.2.2.1)) hzF11 hzF12 hzF13 hzF15 hzF19 hzF21 hzF24 hzF25 hzF26 hzF33 hzF38 hzF41 hzF43 hzF45 hzF46 hzF50 hzF53 hzF54 hzLQ)
        have hpr39_0 : 0 ≤ (2 : Int32).toInt ∧ (2 : Int32).toInt ≤ 4 := by first | assumption | omega
        refine pw_b3 (fun r39 c39_g7 c39_g8 hc39 => ?_)
        have hq39 := wp_at (ok_wrong g F (2 : Int32) hMI39 hpr39_0) hc39
        obtain ⟨hg12, hg13, f14, f15⟩ : (((0) ≤ c39_g7.toInt ∧ c39_g7.toInt ≤ 4)) ∧ (((-1) ≤ c39_g8.toInt ∧ c39_g8.toInt ≤ 2001)) ∧ (r39.toInt = 0) ∧ ((0 ≤ r39.toInt ∧ r39.toInt ≤ 1)) := hq39
        have hx39 := pwq (fn_wrong g F (2 : Int32) hMI39 hpr39_0) hc39
        obtain ⟨p39_0, p39_1, p39_2⟩ : (r39.toInt = 0) ∧ (c39_g7.toInt = (2 : Int32).toInt) ∧ (c39_g8.toInt = (g 5).toInt) := hx39
        refine pw_if (fun hb42 => ?_)
        obtain ⟨hbl42, hbr42⟩ := hb42
        have qq0 : (r39.toInt ≠ 0 → fLet f n e sm = none ∧ TAKEN A0 A0 A1 A1 (Int32.toNatClampNeg p2) f (tP f n e + 1) (tL f n e) ∧ c39_g7.toInt = (g 7).toInt ∧ c39_g8.toInt = (g 8).toInt ∧ (g 6).toInt = ((tE f n e : Nat) : Int)) := by intro h; omega
        have qq1 : (r39.toInt = 0 → ERR (fLet f n e sm) c39_g7 c39_g8) := by intro _; exact err_of (fLet_emp t2 (by rw [hsm]; exact decide_eq_true (by omega)) (by omega)) (by omega) (by omega) (by omega)
        have qq2 : (r39.toInt = 0 → A0 = A0 ∧ A1 = A1) := by exact fun _ => ⟨rfl, rfl⟩
        exact pw_some ⟨qq0, qq1, qq2⟩
      · have c34 := z_ne c34
        refine pw_j0 ej43 ?_
        have lp46 : ∀ (n46 : Nat) (y46_6 : Int32) (d46_A0 : (Nat → Int32)), 0 ≤ y46_6.toInt → y46_6.toInt ≤ x25.toInt → (d46_A0 = va_cpy f A0 (tP f n e + 1) (16 * Int32.toNatClampNeg p2) (Int32.toNatClampNeg y46_6)) → pw (L_take_46 g F n0 A1 n1 p2 x25 n46 y46_6 d46_A0) (QF_take g F A0 n0 A1 n1 p2 p3 f n e sm) := by
          intro n46
          induction n46 with
          | zero => intros; exact pw_none
          | succ n46 ih46 =>
            intro y46_6 d46_A0 f16 f17 it46
            show pw (B_take_46 g F n0 A1 n1 p2 x25 (L_take_46 g F n0 A1 n1 p2 x25 n46) y46_6 d46_A0) _
            unfold B_take_46
            refine pw_ite (fun c50 => ?_) (fun c50 => ?_)
            · have c50 := (z_le _ _).mp c50
              refine pw_if (fun hb86 => ?_)
              obtain ⟨hbl86, hbr86⟩ := hb86
              refine pw_vl (fun w86 ew86 => ?_)
              have hF18 : rng (-1) 16 w86 := by rw [ew86]; exact rng_upd hzA1 (by omega) (by omega)
              have qq0 : ((1 : Int32).toInt ≠ 0 → fLet f n e sm = none ∧ TAKEN A0 d46_A0 A1 w86 (Int32.toNatClampNeg p2) f (tP f n e + 1) (tL f n e) ∧ (g 7).toInt = (g 7).toInt ∧ (g 8).toInt = (g 8).toInt ∧ (g 6).toInt = ((tE f n e : Nat) : Int)) := by intro _; have c6 := clampI (x := y46_6) (by omega); refine ⟨fLet_ok t2 (fun z => by rw [hsm] at z; have z2 := of_decide_eq_true z; omega), ⟨t5.1, ?_, x25, by omega, ew86⟩, by omega, by omega, by omega⟩; have h := it46; rw [show Int32.toNatClampNeg y46_6 = tL f n e by omega] at h; exact h
              have qq1 : ((1 : Int32).toInt = 0 → ERR (fLet f n e sm) (g 7) (g 8)) := by intro h; omega
              have qq2 : ((1 : Int32).toInt = 0 → d46_A0 = A0 ∧ w86 = A1) := by intro h; omega
              exact pw_some ⟨qq0, qq1, qq2⟩
            · have c50 := z_nle c50
              have f19 : (16 * p2).toInt = 16 * p2.toInt := z_muld (by decide +kernel) (by omega) (by omega)
              have f20 : ((16 * p2) + y46_6).toInt = (16 * p2).toInt + y46_6.toInt := z_add (by omega) (by omega)
              have f21 : ((g 5) + 1).toInt = (g 5).toInt + 1 := z_addc (by decide +kernel) (by omega) (by omega)
              have f22 : (((g 5) + 1) + y46_6).toInt = ((g 5) + 1).toInt + y46_6.toInt := z_add (by omega) (by omega)
              refine pw_if (fun hb74 => ?_)
              obtain ⟨hbl74, hbr74⟩ := hb74
              refine pw_if (fun hb75 => ?_)
              obtain ⟨hbl75, hbr75⟩ := hb75
              refine pw_vl (fun w75 ew75 => ?_)
              have f23 : (y46_6 + 1).toInt = y46_6.toInt + (1) := z_addc (by decide +kernel) (by omega) (by omega)
              have iv46_0 : 0 ≤ (y46_6 + 1).toInt := by omega
              have iv46_1 : (y46_6 + 1).toInt ≤ x25.toInt := by omega
              have iv46_2 : (w75 = va_cpy f A0 (tP f n e + 1) (16 * Int32.toNatClampNeg p2) (Int32.toNatClampNeg (y46_6 + 1))) := by have c6 := clampI (x := y46_6) (by omega); have c7 := clampI (x := y46_6 + 1) (by omega); have c8 := clampI (x := ((g 5) + 1) + y46_6) (by omega); rw [ew75, show Int32.toNatClampNeg (y46_6 + 1) = Int32.toNatClampNeg y46_6 + 1 by omega]; exact cpw_stepS it46 (by omega) (by rw [hf, fit_id (hfit _)]; exact congrArg f (by omega))
              exact ih46 (y46_6 + 1) w75 iv46_0 iv46_1 iv46_2
        exact lp46 NN (0 : Int32) A0 (show 0 ≤ (0 : Int32).toInt from by omega) (show (0 : Int32).toInt ≤ x25.toInt from by omega) (show (A0 = va_cpy f A0 (tP f n e + 1) (16 * Int32.toNatClampNeg p2) (Int32.toNatClampNeg (0 : Int32))) from by exact cpw_0S)
  · have c5 := z_ne c5
    have hMI10 : id (MInv g F) := show MInv g F from (MInv_i ((hI9.1)) ((hI9.2.1)) hzg3 hzg4 hzg5 hzg6 hzg7 hzg8 ((hI9.2.2.2.2.2.2.2.2.1)) ((hI9.2.2.2.2.2.2.2.2.2.1)) ((hI9.2.2.2.2.2.2.2.2.2.2.1)) ((hI9.2.2.2.2.2.2.2.2.2.2.2.1)) ((hI9.2.2.2.2.2.2.2.2.2.2.2.2.1)) ((hI9.2.2.2.2.2.2.2.2.2.2.2.2.2.1)) ((hI9.2.2.2.2.2.2.2.2.2.2.2.2.2.2.1)) ((hI9.2.2.2.2.2.2.2.2.2.2.2.2.2.2.2.1)) ((hI9.2.2.2.2.2.2.2.2.2.2.2.2.2.2.2.2.1)) ((hI9.2.2.2.2.2.2.2.2.2.2.2.2.2.2.2.2.2.1)) ((hI9.2.2.2.2.2.2.2.2.2.2.2.2.2.2.2.2.2.2.1)) ((hI9.2.2.2.2.2.2.2.2.2.2.2.2.2.2.2.2.2.2.2.1)) ((hI9.2.2.2.2.2.2.2.2.2.2.2.2.2.2.2.2.2.2.2.2.1)) ((hI9.2.2.2.2.2.2.2.2.2.2.2.2.2.2.2.2.2.2.2.2.2.1)) ((hI9.2.2.2.2.2.2.2.2.2.2.2.2.2.2.2.2.2.2.2.2.2.2.1)) ((hI9.2.2.2.2.2.2.2.2.2.2.2.2.2.2.2.2.2.2.2.2.2.2.2.1)) ((hI9.2.2.2.2.2.2.2.2.2.2.2.2.2.2.2.2.2.2.2.2.2.2.2.2.1)) hzF11 hzF12 hzF13 hzF15 hzF19 hzF21 hzF24 hzF25 hzF26 hzF33 hzF38 hzF41 hzF43 hzF45 hzF46 hzF50 hzF53 hzF54 hzLQ)
    have hpr10_0 : 0 ≤ (1 : Int32).toInt ∧ (1 : Int32).toInt ≤ 4 := by first | assumption | omega
    refine pw_b3 (fun r10 c10_g7 c10_g8 hc10 => ?_)
    have hq10 := wp_at (ok_wrong g F (1 : Int32) hMI10 hpr10_0) hc10
    obtain ⟨hg24, hg25, f26, f27⟩ : (((0) ≤ c10_g7.toInt ∧ c10_g7.toInt ≤ 4)) ∧ (((-1) ≤ c10_g8.toInt ∧ c10_g8.toInt ≤ 2001)) ∧ (r10.toInt = 0) ∧ ((0 ≤ r10.toInt ∧ r10.toInt ≤ 1)) := hq10
    have hx10 := pwq (fn_wrong g F (1 : Int32) hMI10 hpr10_0) hc10
    obtain ⟨p10_0, p10_1, p10_2⟩ : (r10.toInt = 0) ∧ (c10_g7.toInt = (1 : Int32).toInt) ∧ (c10_g8.toInt = (g 5).toInt) := hx10
    refine pw_if (fun hb13 => ?_)
    obtain ⟨hbl13, hbr13⟩ := hb13
    have qq0 : (r10.toInt ≠ 0 → fLet f n e sm = none ∧ TAKEN A0 A0 A1 A1 (Int32.toNatClampNeg p2) f (tP f n e + 1) (tL f n e) ∧ c10_g7.toInt = (g 7).toInt ∧ c10_g8.toInt = (g 8).toInt ∧ (g 6).toInt = ((tE f n e : Nat) : Int)) := by intro h; omega
    have qq1 : (r10.toInt = 0 → ERR (fLet f n e sm) c10_g7 c10_g8) := by intro _; exact err_of (fLet_bad (TKS_n2 htk (by omega))) (by omega) (by omega) (by omega)
    have qq2 : (r10.toInt = 0 → A0 = A0 ∧ A1 = A1) := by exact fun _ => ⟨rfl, rfl⟩
    exact pw_some ⟨qq0, qq1, qq2⟩
abbrev QF_same (A0 : (Nat → Int32)) (n0 : Nat) (A1 : (Nat → Int32)) (n1 : Nat) (p2 : Int32) (p3 : Int32) : (Int32) → Prop := (fun t => ((t.toInt ≠ 0 → WR A0 A1 (Int32.toNatClampNeg p2) = WR A0 A1 (Int32.toNatClampNeg p3))) ∧ ((t.toInt = 0 → WR A0 A1 (Int32.toNatClampNeg p2) ≠ WR A0 A1 (Int32.toNatClampNeg p3))))
set_option maxHeartbeats 4000000 in
set_option maxRecDepth 100000 in
theorem fn_same (A0 : (Nat → Int32)) (n0 : Nat) (A1 : (Nat → Int32)) (n1 : Nat) (p2 : Int32) (p3 : Int32) (hzA1 : rng (-1) 16 A1) (hp0 : (0 ≤ p2.toInt ∧ p2.toInt < n1)) (hp1 : 16 * n1 ≤ n0) (hp2 : n0 ≤ 500000) (hp3 : (0 ≤ p3.toInt ∧ p3.toInt < n1)) (hsa : 0 ≤ (A1 (Int32.toNatClampNeg p2)).toInt) (hsb : 0 ≤ (A1 (Int32.toNatClampNeg p3)).toInt) : pw (f_same A0 n0 A1 n1 p2 p3) (QF_same A0 n0 A1 n1 p2 p3) := by
  unfold f_same
  have zk0 : (0 : Int32).toInt = 0 := by decide +kernel
  have zk1 : (1 : Int32).toInt = 1 := by decide +kernel
  have zk16 : (16 : Int32).toInt = 16 := by decide +kernel
  have cp2 := clampI (x := p2) (by omega)
  have cp3 := clampI (x := p3) (by omega)
  have csa := clampI hsa
  have csb := clampI hsb
  refine pw_if (fun hb2 => ?_)
  obtain ⟨hbl2, hbr2⟩ := hb2
  have f1 := hzA1 (Int32.toNatClampNeg p2)
  refine pw_if (fun hb5 => ?_)
  obtain ⟨hbl5, hbr5⟩ := hb5
  have f2 := hzA1 (Int32.toNatClampNeg p3)
  refine pw_ite (fun c6 => ?_) (fun c6 => ?_)
  · have c6 := congrArg Int32.toInt c6
    have lp14 : ∀ (n14 : Nat) (y14_4 : Int32), 0 ≤ y14_4.toInt → (∀ i : Nat, (i : Int) < y14_4.toInt → A0 (16 * Int32.toNatClampNeg p2 + i) = A0 (16 * Int32.toNatClampNeg p3 + i)) → pw (L_same_14 A0 n0 A1 n1 p2 p3 n14 y14_4) (QF_same A0 n0 A1 n1 p2 p3) := by
      intro n14
      induction n14 with
      | zero => intros; exact pw_none
      | succ n14 ih14 =>
        intro y14_4 f3 is14
        show pw (B_same_14 A0 n0 A1 n1 p2 p3 (L_same_14 A0 n0 A1 n1 p2 p3 n14) y14_4) _
        unfold B_same_14
        refine pw_if (fun hb18 => ?_)
        obtain ⟨hbl18, hbr18⟩ := hb18
        refine pw_ite (fun c19 => ?_) (fun c19 => ?_)
        · have c19 := (z_le _ _).mp c19
          have qq0 : ((1 : Int32).toInt ≠ 0 → WR A0 A1 (Int32.toNatClampNeg p2) = WR A0 A1 (Int32.toNatClampNeg p3)) := by intro _; exact wdl_inj.mpr ⟨by omega, fun i hi => is14 i (by omega)⟩
          have qq1 : ((1 : Int32).toInt = 0 → WR A0 A1 (Int32.toNatClampNeg p2) ≠ WR A0 A1 (Int32.toNatClampNeg p3)) := by intro h; omega
          exact pw_some ⟨qq0, qq1⟩
        · have c19 := z_nle c19
          have f5 : (16 * p2).toInt = 16 * p2.toInt := z_muld (by decide +kernel) (by omega) (by omega)
          have f6 : ((16 * p2) + y14_4).toInt = (16 * p2).toInt + y14_4.toInt := z_add (by omega) (by omega)
          refine pw_if (fun hb30 => ?_)
          obtain ⟨hbl30, hbr30⟩ := hb30
          have f7 : (16 * p3).toInt = 16 * p3.toInt := z_muld (by decide +kernel) (by omega) (by omega)
          have f8 : ((16 * p3) + y14_4).toInt = (16 * p3).toInt + y14_4.toInt := z_add (by omega) (by omega)
          refine pw_if (fun hb39 => ?_)
          obtain ⟨hbl39, hbr39⟩ := hb39
          refine pw_ite (fun c40 => ?_) (fun c40 => ?_)
          · have c40 := congrArg Int32.toInt c40
            have f9 : (y14_4 + 1).toInt = y14_4.toInt + (1) := z_addc (by decide +kernel) (by omega) (by omega)
            have iv14_0 : 0 ≤ (y14_4 + 1).toInt := by omega
            have iv14_1 : (∀ i : Nat, (i : Int) < (y14_4 + 1).toInt → A0 (16 * Int32.toNatClampNeg p2 + i) = A0 (16 * Int32.toNatClampNeg p3 + i)) := by intro i hi; by_cases q : (i : Int) < y14_4.toInt; (exact is14 i q); (have c4 := clampI (x := y14_4) (by omega); have c5 := clampI (x := (16 * p2) + y14_4) (by omega); have c6 := clampI (x := (16 * p3) + y14_4) (by omega); rw [show 16 * Int32.toNatClampNeg p2 + i = Int32.toNatClampNeg ((16 * p2) + y14_4) by omega, show 16 * Int32.toNatClampNeg p3 + i = Int32.toNatClampNeg ((16 * p3) + y14_4) by omega]; exact z_e c40)
            exact ih14 (y14_4 + 1) iv14_0 iv14_1
          · have c40 := z_ne c40
            have qq0 : ((0 : Int32).toInt ≠ 0 → WR A0 A1 (Int32.toNatClampNeg p2) = WR A0 A1 (Int32.toNatClampNeg p3)) := by intro h; omega
            have qq1 : ((0 : Int32).toInt = 0 → WR A0 A1 (Int32.toNatClampNeg p2) ≠ WR A0 A1 (Int32.toNatClampNeg p3)) := by intro _ h; have c4 := clampI (x := y14_4) (by omega); have c5 := clampI (x := (16 * p2) + y14_4) (by omega); have c6 := clampI (x := (16 * p3) + y14_4) (by omega); have h1 := (wdl_inj.mp h).2 (Int32.toNatClampNeg y14_4) (by omega); rw [show 16 * Int32.toNatClampNeg p2 + Int32.toNatClampNeg y14_4 = Int32.toNatClampNeg ((16 * p2) + y14_4) by omega, show 16 * Int32.toNatClampNeg p3 + Int32.toNatClampNeg y14_4 = Int32.toNatClampNeg ((16 * p3) + y14_4) by omega] at h1; exact c40 (congrArg Int32.toInt h1)
            exact pw_some ⟨qq0, qq1⟩
    exact lp14 NN (0 : Int32) (show 0 ≤ (0 : Int32).toInt from by omega) (show (∀ i : Nat, (i : Int) < (0 : Int32).toInt → A0 (16 * Int32.toNatClampNeg p2 + i) = A0 (16 * Int32.toNatClampNeg p3 + i)) from by intro i hi; omega)
  · have c6 := z_ne c6
    have qq0 : ((0 : Int32).toInt ≠ 0 → WR A0 A1 (Int32.toNatClampNeg p2) = WR A0 A1 (Int32.toNatClampNeg p3)) := by intro h; omega
    have qq1 : ((0 : Int32).toInt = 0 → WR A0 A1 (Int32.toNatClampNeg p2) ≠ WR A0 A1 (Int32.toNatClampNeg p3)) := by intro _ h; have h1 := (wdl_inj.mp h).1; omega
    exact pw_some ⟨qq0, qq1⟩
