abbrev QF_collide (g : Nat → Int32) (F : Nat → Nat → Int32) (p0 : Int32) (p1 : Int32) (p2 : Int32) (T1 : List Wd) (T2 : List Wd) : (Int32) → Prop := (fun t => ((t.toInt ≠ 0 → clB T1 T2 = true)) ∧ ((t.toInt = 0 → clB T1 T2 = false)))
set_option maxHeartbeats 4000000 in
set_option maxRecDepth 100000 in
theorem fn_collide (g : Nat → Int32) (F : Nat → Nat → Int32) (p0 : Int32) (p1 : Int32) (p2 : Int32) (T1 : List Wd) (T2 : List Wd) (hI : MInv g F) (hp0 : (0 ≤ p0.toInt ∧ p0.toInt ≤ 99)) (hp1 : (0 ≤ p1.toInt ∧ p1.toInt ≤ 99)) (hp2 : (0 ≤ p2.toInt ∧ p2.toInt ≤ 6)) (hT1 : rwO ((F 54) (7 * Int32.toNatClampNeg p0 + Int32.toNatClampNeg p2)) (F 52) (F 53) (7 * Int32.toNatClampNeg p0 + Int32.toNatClampNeg p2) = T1) (hT2 : rwO ((F 54) (7 * Int32.toNatClampNeg p1 + Int32.toNatClampNeg p2)) (F 52) (F 53) (7 * Int32.toNatClampNeg p1 + Int32.toNatClampNeg p2) = T2) (hw1 : WDS T1) (hw2 : WDS T2) : pw (f_collide g F p0 p1 p2) (QF_collide g F p0 p1 p2 T1 T2) := by
  unfold f_collide
  have hI9 : id (MInv g F) := hI
  obtain ⟨-, -, -, -, -, -, -, -, -, -, -, -, -, -, -, -, -, -, -, -, -, -, -, -, -, hzF11, hzF12, hzF13, hzF15, hzF19, hzF21, hzF24, hzF25, hzF26, hzF33, hzF38, hzF41, hzF43, hzF45, hzF46, hzF50, hzF53, hzF54, hzLQ⟩ := hI
  have zk0 : (0 : Int32).toInt = 0 := by decide +kernel
  have zk1 : (1 : Int32).toInt = 1 := by decide +kernel
  have zk7 : (7 : Int32).toInt = 7 := by decide +kernel
  have zk12 : (12 : Int32).toInt = 12 := by decide +kernel
  have zk24 : (24 : Int32).toInt = 24 := by decide +kernel
  have cp0 := clampI (x := p0) (by omega)
  have cp2 := clampI (x := p2) (by omega)
  have f7a : (7 * p0).toInt = 7 * p0.toInt := z_muld (by decide +kernel) (by omega) (by omega)
  have f7a2 : ((7 * p0) + p2).toInt = (7 * p0).toInt + p2.toInt := z_add (by omega) (by omega)
  have ka := clampI (x := (7 * p0) + p2) (by omega)
  have hka : Int32.toNatClampNeg ((7 * p0) + p2) = (7 * Int32.toNatClampNeg p0 + Int32.toNatClampNeg p2) := by omega
  have hFia := congrArg Int32.toInt (congrArg (F 54) hka)
  have hTl : T1.length = Int32.toNatClampNeg ((F 54) (7 * Int32.toNatClampNeg p0 + Int32.toNatClampNeg p2)) := by rw [← hT1]; exact rwO_len
  have hz54 := hzF54 (7 * Int32.toNatClampNeg p0 + Int32.toNatClampNeg p2)
  have c54 := clampI (x := (F 54) (7 * Int32.toNatClampNeg p0 + Int32.toNatClampNeg p2)) (by omega)
  have f1 : (7 * p0).toInt = 7 * p0.toInt := z_muld (by decide +kernel) (by omega) (by omega)
  have f2 : ((7 * p0) + p2).toInt = (7 * p0).toInt + p2.toInt := z_add (by omega) (by omega)
  have f3 : (12 * ((7 * p0) + p2)).toInt = 12 * ((7 * p0) + p2).toInt := z_muld (by decide +kernel) (by omega) (by omega)
  refine pw_vl (fun x9 ex9 => ?_)
  have f4 : x9.toInt = (12 * ((7 * p0) + p2)).toInt := congrArg Int32.toInt ex9
  have lp11 : ∀ (n11 : Nat) (y11_4 : Int32), (84 * p0.toInt + 12 * p2.toInt ≤ y11_4.toInt ∧ y11_4.toInt ≤ 84 * p0.toInt + 12 * p2.toInt + 12) → y11_4.toInt ≤ 12 * (((7 * Int32.toNatClampNeg p0 + Int32.toNatClampNeg p2) : Nat) : Int) + ((F 54) (7 * Int32.toNatClampNeg p0 + Int32.toNatClampNeg p2)).toInt → (∀ j y, 12 * (7 * Int32.toNatClampNeg p0 + Int32.toNatClampNeg p2) + j < Int32.toNatClampNeg y11_4 → T1[j]? = some y → y ∉ T2) → pw (L_collide_11 g F p0 p1 p2 n11 y11_4) (QF_collide g F p0 p1 p2 T1 T2) := by
    intro n11
    induction n11 with
    | zero => intros; exact pw_none
    | succ n11 ih11 =>
      intro y11_4 f5 f6 in11
      show pw (B_collide_11 g F p0 p1 p2 (L_collide_11 g F p0 p1 p2 n11) y11_4) _
      unfold B_collide_11
      have k4 := clampI (x := y11_4) (by omega)
      refine pw_if (fun hb32 => ?_)
      obtain ⟨hbl32, hbr32⟩ := hb32
      have f12 := hzF54 (Int32.toNatClampNeg ((7 * p0) + p2))
      have f13 : ((12 * ((7 * p0) + p2)) + ((F 54) (Int32.toNatClampNeg ((7 * p0) + p2)))).toInt = (12 * ((7 * p0) + p2)).toInt + ((F 54) (Int32.toNatClampNeg ((7 * p0) + p2))).toInt := z_add (by omega) (by omega)
      refine pw_ite (fun c34 => ?_) (fun c34 => ?_)
      · have c34 := (z_le _ _).mp c34
        have qq0 : ((0 : Int32).toInt ≠ 0 → clB T1 T2 = true) := by intro h; exfalso; omega
        have qq1 : ((0 : Int32).toInt = 0 → clB T1 T2 = false) := by intro _; refine clB_f (fun x hx => ?_); obtain ⟨j, hj⟩ := List.getElem?_of_mem hx; have hl := get_lt hj; exact in11 j x (by omega) hj
        exact pw_some ⟨qq0, qq1⟩
      · have c34 := z_nle c34
        have hxk : T1[Int32.toNatClampNeg y11_4 - 12 * (7 * Int32.toNatClampNeg p0 + Int32.toNatClampNeg p2)]? = some (wdl (F 52) (24 * Int32.toNatClampNeg y11_4) (Int32.toNatClampNeg ((F 53) (Int32.toNatClampNeg y11_4)))) := by have z9 := rwO_at (c := (F 54) (7 * Int32.toNatClampNeg p0 + Int32.toNatClampNeg p2)) (fl := F 52) (fs := F 53) (a := (7 * Int32.toNatClampNeg p0 + Int32.toNatClampNeg p2)) (k := Int32.toNatClampNeg y11_4 - 12 * (7 * Int32.toNatClampNeg p0 + Int32.toNatClampNeg p2)) (by omega); rw [hT1, show 12 * (7 * Int32.toNatClampNeg p0 + Int32.toNatClampNeg p2) + (Int32.toNatClampNeg y11_4 - 12 * (7 * Int32.toNatClampNeg p0 + Int32.toNatClampNeg p2)) = Int32.toNatClampNeg y11_4 by omega, show 288 * (7 * Int32.toNatClampNeg p0 + Int32.toNatClampNeg p2) + 24 * (Int32.toNatClampNeg y11_4 - 12 * (7 * Int32.toNatClampNeg p0 + Int32.toNatClampNeg p2)) = 24 * Int32.toNatClampNeg y11_4 by omega] at z9; exact z9
        have hxw := hw1 _ (List.mem_of_getElem? hxk)
        rw [wdl_len] at hxw
        have kz : ((F 53) (Int32.toNatClampNeg y11_4)).toInt = ((Int32.toNatClampNeg ((F 53) (Int32.toNatClampNeg y11_4)) : Nat) : Int) := by have h9 : Int32.toNatClampNeg ((F 53) (Int32.toNatClampNeg y11_4)) = ((F 53) (Int32.toNatClampNeg y11_4)).toInt.toNat := rfl; have h8 := hxw.1; omega
        have f24 : (24 * y11_4).toInt = 24 * y11_4.toInt := z_muld (by decide +kernel) (by omega) (by omega)
        have k24 := clampI (x := 24 * y11_4) (by omega)
        have e24 : Int32.toNatClampNeg (24 * y11_4) = 24 * Int32.toNatClampNeg y11_4 := by omega
        have f14 : (24 * y11_4).toInt = 24 * y11_4.toInt := z_muld (by decide +kernel) (by omega) (by omega)
        refine pw_if (fun hb55 => ?_)
        obtain ⟨hbl55, hbr55⟩ := hb55
        have f15 := hzF53 (Int32.toNatClampNeg y11_4)
        have hMI56 : id (MInv g F) := show MInv g F from (MInv_i ((hI9.1)) ((hI9.2.1)) ((hI9.2.2.1)) ((hI9.2.2.2.1)) ((hI9.2.2.2.2.1)) ((hI9.2.2.2.2.2.1)) ((hI9.2.2.2.2.2.2.1)) ((hI9.2.2.2.2.2.2.2.1)) ((hI9.2.2.2.2.2.2.2.2.1)) ((hI9.2.2.2.2.2.2.2.2.2.1)) ((hI9.2.2.2.2.2.2.2.2.2.2.1)) ((hI9.2.2.2.2.2.2.2.2.2.2.2.1)) ((hI9.2.2.2.2.2.2.2.2.2.2.2.2.1)) ((hI9.2.2.2.2.2.2.2.2.2.2.2.2.2.1)) ((hI9.2.2.2.2.2.2.2.2.2.2.2.2.2.2.1)) ((hI9.2.2.2.2.2.2.2.2.2.2.2.2.2.2.2.1)) ((hI9.2.2.2.2.2.2.2.2.2.2.2.2.2.2.2.2.1)) ((hI9.2.2.2.2.2.2.2.2.2.2.2.2.2.2.2.2.2.1)) ((hI9.2.2.2.2.2.2.2.2.2.2.2.2.2.2.2.2.2.2.1)) ((hI9.2.2.2.2.2.2.2.2.2.2.2.2.2.2.2.2.2.2.2.1)) ((hI9.2.2.2.2.2.2.2.2.2.2.2.2.2.2.2.2.2.2.2.2.1)) ((hI9.2.2.2.2.2.2.2.2.2.2.2.2.2.2.2.2.2.2.2.2.2.1)) ((hI9.2.2.2.2.2.2.2.2.2.2.2.2.2.2.2.2.2.2.2.2.2.2.1)) ((hI9.2.2.2.2.2.2.2.2.2.2.2.2.2.2.2.2.2.2.2.2.2.2.2.1)) ((hI9.2.2.2.2.2.2.2.2.2.2.2.2.2.2.2.2.2.2.2.2.2.2.2.2.1)) hzF11 hzF12 hzF13 hzF15 hzF19 hzF21 hzF24 hzF25 hzF26 hzF33 hzF38 hzF41 hzF43 hzF45 hzF46 hzF50 hzF53 hzF54 hzLQ)
        have hpr56_0 : (0 ≤ p1.toInt ∧ p1.toInt ≤ 99) := by first | assumption | omega
        have hpr56_1 : (0 ≤ p2.toInt ∧ p2.toInt ≤ 6) := by first | assumption | omega
        have hpr56_2 : (0 ≤ (24 * y11_4).toInt ∧ (24 * y11_4).toInt + ((F 53) (Int32.toNatClampNeg y11_4)).toInt ≤ 201600) := by first | assumption | omega
        have hpr56_3 : 201600 ≤ 500000 := by first | assumption | omega
        refine pw_b1 (fun r56 hc56 => ?_)
        have hq56 := wp_at (ok_hasForm g F p1 p2 (F 52) 201600 (24 * y11_4) ((F 53) (Int32.toNatClampNeg y11_4)) hMI56 hpr56_0 hpr56_1 hpr56_2 hpr56_3) hc56
        have f16 : (0 ≤ r56.toInt ∧ r56.toInt ≤ 1) := hq56
        clear hq56
        have h856_hT : rwO ((F 54) (7 * Int32.toNatClampNeg p1 + Int32.toNatClampNeg p2)) (F 52) (F 53) (7 * Int32.toNatClampNeg p1 + Int32.toNatClampNeg p2) = (T2) := by exact hT2
        have h856_hTw : WDS (T2) := by exact hw2
        have h856_hA : wdl (F 52) (Int32.toNatClampNeg (24 * y11_4)) (Int32.toNatClampNeg ((F 53) (Int32.toNatClampNeg y11_4))) = (wdl (F 52) (24 * Int32.toNatClampNeg y11_4) (Int32.toNatClampNeg ((F 53) (Int32.toNatClampNeg y11_4)))) := by rw [e24]
        have h856_h04 : 0 ≤ ((F 53) (Int32.toNatClampNeg y11_4)).toInt := by omega
        have hx56 := pwq (fn_hasForm g F p1 p2 (F 52) 201600 (24 * y11_4) ((F 53) (Int32.toNatClampNeg y11_4)) (T2) (wdl (F 52) (24 * Int32.toNatClampNeg y11_4) (Int32.toNatClampNeg ((F 53) (Int32.toNatClampNeg y11_4)))) hMI56 hpr56_0 hpr56_1 hpr56_2 hpr56_3 h856_hT h856_hTw h856_hA h856_h04) hc56
        obtain ⟨p56_0, p56_1⟩ : (id ((r56.toInt ≠ 0 → (wdl (F 52) (24 * Int32.toNatClampNeg y11_4) (Int32.toNatClampNeg ((F 53) (Int32.toNatClampNeg y11_4)))) ∈ (T2)))) ∧ (id ((r56.toInt = 0 → (wdl (F 52) (24 * Int32.toNatClampNeg y11_4) (Int32.toNatClampNeg ((F 53) (Int32.toNatClampNeg y11_4)))) ∉ (T2)))) := hx56
        refine pw_ite (fun c59 => ?_) (fun c59 => ?_)
        · have c59 := congrArg Int32.toInt c59
          have f17 : (y11_4 + 1).toInt = y11_4.toInt + (1) := z_addc (by decide +kernel) (by omega) (by omega)
          have iv11_0 : (84 * p0.toInt + 12 * p2.toInt ≤ (y11_4 + 1).toInt ∧ (y11_4 + 1).toInt ≤ 84 * p0.toInt + 12 * p2.toInt + 12) := by omega
          have iv11_1 : (y11_4 + 1).toInt ≤ 12 * (((7 * Int32.toNatClampNeg p0 + Int32.toNatClampNeg p2) : Nat) : Int) + ((F 54) (7 * Int32.toNatClampNeg p0 + Int32.toNatClampNeg p2)).toInt := by omega
          have iv11_2 : (∀ j y, 12 * (7 * Int32.toNatClampNeg p0 + Int32.toNatClampNeg p2) + j < Int32.toNatClampNeg (y11_4 + 1) → T1[j]? = some y → y ∉ T2) := by have k7 := clampI (x := y11_4 + 1) (by omega); intro j y hj hy; by_cases q9 : 12 * (7 * Int32.toNatClampNeg p0 + Int32.toNatClampNeg p2) + j = Int32.toNatClampNeg y11_4; (have e9 : j = Int32.toNatClampNeg y11_4 - 12 * (7 * Int32.toNatClampNeg p0 + Int32.toNatClampNeg p2) := (by omega); rw [e9, hxk] at hy; cases hy; exact p56_1 (by omega)); (exact in11 j y (by omega) hy)
          exact ih11 (y11_4 + 1) iv11_0 iv11_1 iv11_2
        · have c59 := z_ne c59
          have qq0 : ((1 : Int32).toInt ≠ 0 → clB T1 T2 = true) := by intro _; exact clB_t (List.mem_of_getElem? hxk) (p56_0 (by omega))
          have qq1 : ((1 : Int32).toInt = 0 → clB T1 T2 = false) := by intro h; exfalso; omega
          exact pw_some ⟨qq0, qq1⟩
  exact lp11 NN x9 (show (84 * p0.toInt + 12 * p2.toInt ≤ x9.toInt ∧ x9.toInt ≤ 84 * p0.toInt + 12 * p2.toInt + 12) from by omega) (show x9.toInt ≤ 12 * (((7 * Int32.toNatClampNeg p0 + Int32.toNatClampNeg p2) : Nat) : Int) + ((F 54) (7 * Int32.toNatClampNeg p0 + Int32.toNatClampNeg p2)).toInt from by omega) (show (∀ j y, 12 * (7 * Int32.toNatClampNeg p0 + Int32.toNatClampNeg p2) + j < Int32.toNatClampNeg x9 → T1[j]? = some y → y ∉ T2) from by intro j y hj; have k9 := clampI (x := x9) (by omega); exfalso; omega)
abbrev QF_rhyme (A0 : (Nat → Int32)) (n0 : Nat) (p1 : Int32) (p2 : Int32) (A3 : (Nat → Int32)) (n3 : Nat) (p4 : Int32) (p5 : Int32) : (Int32) → Prop := (fun t => ((t.toInt ≠ 0 → rh3 (wdl A0 (Int32.toNatClampNeg p1) (Int32.toNatClampNeg p2)) (wdl A3 (Int32.toNatClampNeg p4) (Int32.toNatClampNeg p5)))) ∧ ((t.toInt = 0 → ¬ rh3 (wdl A0 (Int32.toNatClampNeg p1) (Int32.toNatClampNeg p2)) (wdl A3 (Int32.toNatClampNeg p4) (Int32.toNatClampNeg p5)))))
set_option maxHeartbeats 4000000 in
set_option maxRecDepth 100000 in
theorem fn_rhyme (A0 : (Nat → Int32)) (n0 : Nat) (p1 : Int32) (p2 : Int32) (A3 : (Nat → Int32)) (n3 : Nat) (p4 : Int32) (p5 : Int32) (hp0 : (0 ≤ p1.toInt ∧ p1.toInt + p2.toInt ≤ n0)) (hp1 : n0 ≤ 500000) (hp2 : (0 ≤ p4.toInt ∧ p4.toInt + p5.toInt ≤ n3)) (hp3 : n3 ≤ 500000) (hp4 : p2.toInt ≤ 24) (hp5 : p5.toInt ≤ 24) (h02 : 0 ≤ p2.toInt) (h05 : 0 ≤ p5.toInt) : pw (f_rhyme A0 n0 p1 p2 A3 n3 p4 p5) (QF_rhyme A0 n0 p1 p2 A3 n3 p4 p5) := by
  unfold f_rhyme
  have zk0 : (0 : Int32).toInt = 0 := by decide +kernel
  have zk1 : (1 : Int32).toInt = 1 := by decide +kernel
  have zk2 : (2 : Int32).toInt = 2 := by decide +kernel
  have zk3 : (3 : Int32).toInt = 3 := by decide +kernel
  have cp1 := clampI (x := p1) (by omega)
  have cp2 := clampI (x := p2) (by omega)
  have cp4 := clampI (x := p4) (by omega)
  have cp5 := clampI (x := p5) (by omega)
  refine pw_jE (fun j38 ej38 => ?_)
  refine pw_jE (fun j37 ej37 => ?_)
  refine pw_ite (fun c2 => ?_) (fun c2 => ?_)
  · have c2 := (z_le _ _).mp c2
    refine pw_j0 ej37 ?_
    refine pw_j1 ej38 (fun t38_0 et38_0 => ?_)
    have et38_0 := et38_0.symm
    have f_t38_0 : t38_0.toInt = 0 := by rw [et38_0]; decide +kernel
    refine pw_if (fun hb38 => ?_)
    obtain ⟨hbl38, hbr38⟩ := hb38
    have qq0 : (t38_0.toInt ≠ 0 → rh3 (wdl A0 (Int32.toNatClampNeg p1) (Int32.toNatClampNeg p2)) (wdl A3 (Int32.toNatClampNeg p4) (Int32.toNatClampNeg p5))) := by intro h; exfalso; omega
    have qq1 : (t38_0.toInt = 0 → ¬ rh3 (wdl A0 (Int32.toNatClampNeg p1) (Int32.toNatClampNeg p2)) (wdl A3 (Int32.toNatClampNeg p4) (Int32.toNatClampNeg p5))) := by intro _ h; have h1 := h.1; have h2 := h.2.1; rw [wdl_len] at h1 h2; omega
    exact pw_some ⟨qq0, qq1⟩
  · have c2 := z_nle c2
    refine pw_ite (fun c8 => ?_) (fun c8 => ?_)
    · have c8 := (z_le _ _).mp c8
      refine pw_j0 ej37 ?_
      refine pw_j1 ej38 (fun t38_0 et38_0 => ?_)
      have et38_0 := et38_0.symm
      have f_t38_0 : t38_0.toInt = 0 := by rw [et38_0]; decide +kernel
      refine pw_if (fun hb38 => ?_)
      obtain ⟨hbl38, hbr38⟩ := hb38
      have qq0 : (t38_0.toInt ≠ 0 → rh3 (wdl A0 (Int32.toNatClampNeg p1) (Int32.toNatClampNeg p2)) (wdl A3 (Int32.toNatClampNeg p4) (Int32.toNatClampNeg p5))) := by intro h; exfalso; omega
      have qq1 : (t38_0.toInt = 0 → ¬ rh3 (wdl A0 (Int32.toNatClampNeg p1) (Int32.toNatClampNeg p2)) (wdl A3 (Int32.toNatClampNeg p4) (Int32.toNatClampNeg p5))) := by intro _ h; have h1 := h.1; have h2 := h.2.1; rw [wdl_len] at h1 h2; omega
      exact pw_some ⟨qq0, qq1⟩
    · have c8 := z_nle c8
      have f1 : (p1 + p2).toInt = p1.toInt + p2.toInt := z_add (by omega) (by omega)
      have f2 : ((p1 + p2) - 3).toInt = (p1 + p2).toInt - 3 := z_subc (by decide +kernel) (by omega) (by omega)
      have f3 : (p4 + p5).toInt = p4.toInt + p5.toInt := z_add (by omega) (by omega)
      have f4 : ((p4 + p5) - 3).toInt = (p4 + p5).toInt - 3 := z_subc (by decide +kernel) (by omega) (by omega)
      have hpr27_0 : (0 ≤ ((p1 + p2) - 3).toInt ∧ ((p1 + p2) - 3).toInt + (3 : Int32).toInt ≤ n0) := by first | assumption | omega
      have hpr27_1 : n0 ≤ 500000 := by first | assumption | omega
      have hpr27_2 : (0 ≤ ((p4 + p5) - 3).toInt ∧ ((p4 + p5) - 3).toInt + (3 : Int32).toInt ≤ n3) := by first | assumption | omega
      have hpr27_3 : n3 ≤ 500000 := by first | assumption | omega
      refine pw_b1 (fun r27 hc27 => ?_)
      have hq27 := wp_at (ok_sameBytes A0 n0 ((p1 + p2) - 3) (3 : Int32) A3 n3 ((p4 + p5) - 3) (3 : Int32) hpr27_0 hpr27_1 hpr27_2 hpr27_3) hc27
      have f5 : (0 ≤ r27.toInt ∧ r27.toInt ≤ 1) := hq27
      clear hq27
      have h827_h02 : 0 ≤ (3 : Int32).toInt := by omega
      have h827_h05 : 0 ≤ (3 : Int32).toInt := by omega
      have hx27 := pwq (fn_sameBytes A0 n0 ((p1 + p2) - 3) (3 : Int32) A3 n3 ((p4 + p5) - 3) (3 : Int32) hpr27_0 hpr27_1 hpr27_2 hpr27_3 h827_h02 h827_h05) hc27
      obtain ⟨p27_0, p27_1⟩ : (id ((r27.toInt ≠ 0 → wdl A0 (Int32.toNatClampNeg ((p1 + p2) - 3)) (Int32.toNatClampNeg (3 : Int32)) = wdl A3 (Int32.toNatClampNeg ((p4 + p5) - 3)) (Int32.toNatClampNeg (3 : Int32))))) ∧ (id ((r27.toInt = 0 → wdl A0 (Int32.toNatClampNeg ((p1 + p2) - 3)) (Int32.toNatClampNeg (3 : Int32)) ≠ wdl A3 (Int32.toNatClampNeg ((p4 + p5) - 3)) (Int32.toNatClampNeg (3 : Int32))))) := hx27
      have ka := clampI (x := (p1 + p2) - 3) (by omega)
      have kb := clampI (x := (p4 + p5) - 3) (by omega)
      have hri := rh_iff (f := A0) (g := A3) (a := Int32.toNatClampNeg p1) (n := Int32.toNatClampNeg p2) (b := Int32.toNatClampNeg p4) (m := Int32.toNatClampNeg p5) (by omega) (by omega)
      rw [show Int32.toNatClampNeg ((p1 + p2) - 3) = Int32.toNatClampNeg p1 + Int32.toNatClampNeg p2 - 3 by omega, show Int32.toNatClampNeg ((p4 + p5) - 3) = Int32.toNatClampNeg p4 + Int32.toNatClampNeg p5 - 3 by omega, show Int32.toNatClampNeg (3 : Int32) = 3 from rfl] at p27_0 p27_1
      refine pw_ite (fun c30 => ?_) (fun c30 => ?_)
      · have c30 := congrArg Int32.toInt c30
        refine pw_j0 ej37 ?_
        refine pw_j1 ej38 (fun t38_0 et38_0 => ?_)
        have et38_0 := et38_0.symm
        have f_t38_0 : t38_0.toInt = 0 := by rw [et38_0]; decide +kernel
        refine pw_if (fun hb38 => ?_)
        obtain ⟨hbl38, hbr38⟩ := hb38
        have qq0 : (t38_0.toInt ≠ 0 → rh3 (wdl A0 (Int32.toNatClampNeg p1) (Int32.toNatClampNeg p2)) (wdl A3 (Int32.toNatClampNeg p4) (Int32.toNatClampNeg p5))) := by intro h; exfalso; omega
        have qq1 : (t38_0.toInt = 0 → ¬ rh3 (wdl A0 (Int32.toNatClampNeg p1) (Int32.toNatClampNeg p2)) (wdl A3 (Int32.toNatClampNeg p4) (Int32.toNatClampNeg p5))) := by intro _ h; exact p27_1 (by omega) (hri.mp h)
        exact pw_some ⟨qq0, qq1⟩
      · have c30 := z_ne c30
        refine pw_j1 ej38 (fun t38_0 et38_0 => ?_)
        have et38_0 := et38_0.symm
        have f_t38_0 : t38_0.toInt = 1 := by rw [et38_0]; decide +kernel
        refine pw_if (fun hb38 => ?_)
        obtain ⟨hbl38, hbr38⟩ := hb38
        have qq0 : (t38_0.toInt ≠ 0 → rh3 (wdl A0 (Int32.toNatClampNeg p1) (Int32.toNatClampNeg p2)) (wdl A3 (Int32.toNatClampNeg p4) (Int32.toNatClampNeg p5))) := by intro _; exact hri.mpr (p27_0 (by omega))
        have qq1 : (t38_0.toInt = 0 → ¬ rh3 (wdl A0 (Int32.toNatClampNeg p1) (Int32.toNatClampNeg p2)) (wdl A3 (Int32.toNatClampNeg p4) (Int32.toNatClampNeg p5))) := by intro h; exfalso; omega
        exact pw_some ⟨qq0, qq1⟩
abbrev QF_rhymeAt (g : Nat → Int32) (F : Nat → Nat → Int32) (p0 : Int32) (p1 : Int32) (p2 : Int32) (T1 : List Wd) (T2 : List Wd) : (Int32) → Prop := (fun t => ((t.toInt ≠ 0 → rhB T1 T2 = true)) ∧ ((t.toInt = 0 → rhB T1 T2 = false)))
set_option maxHeartbeats 4000000 in
set_option maxRecDepth 100000 in
theorem fn_rhymeAt (g : Nat → Int32) (F : Nat → Nat → Int32) (p0 : Int32) (p1 : Int32) (p2 : Int32) (T1 : List Wd) (T2 : List Wd) (hI : MInv g F) (hp0 : (0 ≤ p0.toInt ∧ p0.toInt ≤ 99)) (hp1 : (0 ≤ p1.toInt ∧ p1.toInt ≤ 99)) (hp2 : (0 ≤ p2.toInt ∧ p2.toInt ≤ 6)) (hT1 : rwO ((F 54) (7 * Int32.toNatClampNeg p0 + Int32.toNatClampNeg p2)) (F 52) (F 53) (7 * Int32.toNatClampNeg p0 + Int32.toNatClampNeg p2) = T1) (hT2 : rwO ((F 54) (7 * Int32.toNatClampNeg p1 + Int32.toNatClampNeg p2)) (F 52) (F 53) (7 * Int32.toNatClampNeg p1 + Int32.toNatClampNeg p2) = T2) (hw1 : WDS T1) (hw2 : WDS T2) : pw (f_rhymeAt g F p0 p1 p2) (QF_rhymeAt g F p0 p1 p2 T1 T2) := by
  unfold f_rhymeAt
  have hI9 : id (MInv g F) := hI
  obtain ⟨-, -, -, -, -, -, -, -, -, -, -, -, -, -, -, -, -, -, -, -, -, -, -, -, -, hzF11, hzF12, hzF13, hzF15, hzF19, hzF21, hzF24, hzF25, hzF26, hzF33, hzF38, hzF41, hzF43, hzF45, hzF46, hzF50, hzF53, hzF54, hzLQ⟩ := hI
  have zk0 : (0 : Int32).toInt = 0 := by decide +kernel
  have zk1 : (1 : Int32).toInt = 1 := by decide +kernel
  have zk7 : (7 : Int32).toInt = 7 := by decide +kernel
  have zk12 : (12 : Int32).toInt = 12 := by decide +kernel
  have zk24 : (24 : Int32).toInt = 24 := by decide +kernel
  have cp0 := clampI (x := p0) (by omega)
  have cp1 := clampI (x := p1) (by omega)
  have cp2 := clampI (x := p2) (by omega)
  have f7a : (7 * p0).toInt = 7 * p0.toInt := z_muld (by decide +kernel) (by omega) (by omega)
  have f7a2 : ((7 * p0) + p2).toInt = (7 * p0).toInt + p2.toInt := z_add (by omega) (by omega)
  have ka := clampI (x := (7 * p0) + p2) (by omega)
  have hka : Int32.toNatClampNeg ((7 * p0) + p2) = (7 * Int32.toNatClampNeg p0 + Int32.toNatClampNeg p2) := by omega
  have hFia := congrArg Int32.toInt (congrArg (F 54) hka)
  have f7b : (7 * p1).toInt = 7 * p1.toInt := z_muld (by decide +kernel) (by omega) (by omega)
  have f7b2 : ((7 * p1) + p2).toInt = (7 * p1).toInt + p2.toInt := z_add (by omega) (by omega)
  have kb := clampI (x := (7 * p1) + p2) (by omega)
  have hkb : Int32.toNatClampNeg ((7 * p1) + p2) = (7 * Int32.toNatClampNeg p1 + Int32.toNatClampNeg p2) := by omega
  have hFib := congrArg Int32.toInt (congrArg (F 54) hkb)
  have hTl1 : T1.length = Int32.toNatClampNeg ((F 54) (7 * Int32.toNatClampNeg p0 + Int32.toNatClampNeg p2)) := by rw [← hT1]; exact rwO_len
  have hTl2 : T2.length = Int32.toNatClampNeg ((F 54) (7 * Int32.toNatClampNeg p1 + Int32.toNatClampNeg p2)) := by rw [← hT2]; exact rwO_len
  have hz54a := hzF54 (7 * Int32.toNatClampNeg p0 + Int32.toNatClampNeg p2)
  have c54a := clampI (x := (F 54) (7 * Int32.toNatClampNeg p0 + Int32.toNatClampNeg p2)) (by omega)
  have hz54b := hzF54 (7 * Int32.toNatClampNeg p1 + Int32.toNatClampNeg p2)
  have c54b := clampI (x := (F 54) (7 * Int32.toNatClampNeg p1 + Int32.toNatClampNeg p2)) (by omega)
  have f1 : (7 * p0).toInt = 7 * p0.toInt := z_muld (by decide +kernel) (by omega) (by omega)
  have f2 : ((7 * p0) + p2).toInt = (7 * p0).toInt + p2.toInt := z_add (by omega) (by omega)
  have f3 : (12 * ((7 * p0) + p2)).toInt = 12 * ((7 * p0) + p2).toInt := z_muld (by decide +kernel) (by omega) (by omega)
  refine pw_vl (fun x9 ex9 => ?_)
  have f4 : x9.toInt = (12 * ((7 * p0) + p2)).toInt := congrArg Int32.toInt ex9
  have lp11 : ∀ (n11 : Nat) (y11_4 : Int32), (84 * p0.toInt + 12 * p2.toInt ≤ y11_4.toInt ∧ y11_4.toInt ≤ 84 * p0.toInt + 12 * p2.toInt + 12) → y11_4.toInt ≤ 12 * (((7 * Int32.toNatClampNeg p0 + Int32.toNatClampNeg p2) : Nat) : Int) + ((F 54) (7 * Int32.toNatClampNeg p0 + Int32.toNatClampNeg p2)).toInt → (∀ j y, 12 * (7 * Int32.toNatClampNeg p0 + Int32.toNatClampNeg p2) + j < Int32.toNatClampNeg y11_4 → T1[j]? = some y → ∀ z, z ∈ T2 → ¬ rh3 y z) → pw (L_rhymeAt_11 F p0 p1 p2 n11 y11_4) (QF_rhymeAt g F p0 p1 p2 T1 T2) := by
    intro n11
    induction n11 with
    | zero => intros; exact pw_none
    | succ n11 ih11 =>
      intro y11_4 f5 f6 in11
      show pw (B_rhymeAt_11 F p0 p1 p2 (L_rhymeAt_11 F p0 p1 p2 n11) y11_4) _
      unfold B_rhymeAt_11
      have k4 := clampI (x := y11_4) (by omega)
      refine pw_if (fun hb32 => ?_)
      obtain ⟨hbl32, hbr32⟩ := hb32
      have f12 := hzF54 (Int32.toNatClampNeg ((7 * p0) + p2))
      have f13 : ((12 * ((7 * p0) + p2)) + ((F 54) (Int32.toNatClampNeg ((7 * p0) + p2)))).toInt = (12 * ((7 * p0) + p2)).toInt + ((F 54) (Int32.toNatClampNeg ((7 * p0) + p2))).toInt := z_add (by omega) (by omega)
      refine pw_ite (fun c34 => ?_) (fun c34 => ?_)
      · have c34 := (z_le _ _).mp c34
        have qq0 : ((0 : Int32).toInt ≠ 0 → rhB T1 T2 = true) := by intro h; exfalso; omega
        have qq1 : ((0 : Int32).toInt = 0 → rhB T1 T2 = false) := by intro _; refine rhB_f (fun x y hx hy => ?_); obtain ⟨j, hj⟩ := List.getElem?_of_mem hx; have hl := get_lt hj; exact in11 j x (by omega) hj y hy
        exact pw_some ⟨qq0, qq1⟩
      · have c34 := z_nle c34
        have hxk1 : T1[Int32.toNatClampNeg y11_4 - 12 * (7 * Int32.toNatClampNeg p0 + Int32.toNatClampNeg p2)]? = some (wdl (F 52) (24 * Int32.toNatClampNeg y11_4) (Int32.toNatClampNeg ((F 53) (Int32.toNatClampNeg y11_4)))) := by have z9 := rwO_at (c := (F 54) (7 * Int32.toNatClampNeg p0 + Int32.toNatClampNeg p2)) (fl := F 52) (fs := F 53) (a := (7 * Int32.toNatClampNeg p0 + Int32.toNatClampNeg p2)) (k := Int32.toNatClampNeg y11_4 - 12 * (7 * Int32.toNatClampNeg p0 + Int32.toNatClampNeg p2)) (by omega); rw [hT1, show 12 * (7 * Int32.toNatClampNeg p0 + Int32.toNatClampNeg p2) + (Int32.toNatClampNeg y11_4 - 12 * (7 * Int32.toNatClampNeg p0 + Int32.toNatClampNeg p2)) = Int32.toNatClampNeg y11_4 by omega, show 288 * (7 * Int32.toNatClampNeg p0 + Int32.toNatClampNeg p2) + 24 * (Int32.toNatClampNeg y11_4 - 12 * (7 * Int32.toNatClampNeg p0 + Int32.toNatClampNeg p2)) = 24 * Int32.toNatClampNeg y11_4 by omega] at z9; exact z9
        have hxw1 := hw1 _ (List.mem_of_getElem? hxk1)
        rw [wdl_len] at hxw1
        have kz1 : ((F 53) (Int32.toNatClampNeg y11_4)).toInt = ((Int32.toNatClampNeg ((F 53) (Int32.toNatClampNeg y11_4)) : Nat) : Int) := by have h9 : Int32.toNatClampNeg ((F 53) (Int32.toNatClampNeg y11_4)) = ((F 53) (Int32.toNatClampNeg y11_4)).toInt.toNat := rfl; have h8 := hxw1.1; omega
        have f241 : (24 * y11_4).toInt = 24 * y11_4.toInt := z_muld (by decide +kernel) (by omega) (by omega)
        have k241 := clampI (x := 24 * y11_4) (by omega)
        have e241 : Int32.toNatClampNeg (24 * y11_4) = 24 * Int32.toNatClampNeg y11_4 := by omega
        have f14 : (7 * p1).toInt = 7 * p1.toInt := z_muld (by decide +kernel) (by omega) (by omega)
        have f15 : ((7 * p1) + p2).toInt = (7 * p1).toInt + p2.toInt := z_add (by omega) (by omega)
        have f16 : (12 * ((7 * p1) + p2)).toInt = 12 * ((7 * p1) + p2).toInt := z_muld (by decide +kernel) (by omega) (by omega)
        refine pw_vl (fun x46 ex46 => ?_)
        have f17 : x46.toInt = (12 * ((7 * p1) + p2)).toInt := congrArg Int32.toInt ex46
        refine pw_jE (fun k120 ek120 => ?_)
        have lp48 : ∀ (n48 : Nat) (y48_5 : Int32), (84 * p1.toInt + 12 * p2.toInt ≤ y48_5.toInt ∧ y48_5.toInt ≤ 84 * p1.toInt + 12 * p2.toInt + 12) → y48_5.toInt ≤ 12 * (((7 * Int32.toNatClampNeg p1 + Int32.toNatClampNeg p2) : Nat) : Int) + ((F 54) (7 * Int32.toNatClampNeg p1 + Int32.toNatClampNeg p2)).toInt → (∀ i z, 12 * (7 * Int32.toNatClampNeg p1 + Int32.toNatClampNeg p2) + i < Int32.toNatClampNeg y48_5 → T2[i]? = some z → ¬ rh3 (wdl (F 52) (24 * Int32.toNatClampNeg y11_4) (Int32.toNatClampNeg ((F 53) (Int32.toNatClampNeg y11_4)))) z) → pw (L_rhymeAt_48 F p1 p2 y11_4 k120 n48 y48_5) (QF_rhymeAt g F p0 p1 p2 T1 T2) := by
          intro n48
          induction n48 with
          | zero => intros; exact pw_none
          | succ n48 ih48 =>
            intro y48_5 f18 f19 jn48
            show pw (B_rhymeAt_48 F p1 p2 y11_4 k120 (L_rhymeAt_48 F p1 p2 y11_4 k120 n48) y48_5) _
            unfold B_rhymeAt_48
            have k5 := clampI (x := y48_5) (by omega)
            refine pw_if (fun hb69 => ?_)
            obtain ⟨hbl69, hbr69⟩ := hb69
            have f25 := hzF54 (Int32.toNatClampNeg ((7 * p1) + p2))
            have f26 : ((12 * ((7 * p1) + p2)) + ((F 54) (Int32.toNatClampNeg ((7 * p1) + p2)))).toInt = (12 * ((7 * p1) + p2)).toInt + ((F 54) (Int32.toNatClampNeg ((7 * p1) + p2))).toInt := z_add (by omega) (by omega)
            refine pw_ite (fun c71 => ?_) (fun c71 => ?_)
            · have c71 := (z_le _ _).mp c71
              refine pw_j0 ek120 ?_
              have f27 : (y11_4 + 1).toInt = y11_4.toInt + (1) := z_addc (by decide +kernel) (by omega) (by omega)
              have iv11_0 : (84 * p0.toInt + 12 * p2.toInt ≤ (y11_4 + 1).toInt ∧ (y11_4 + 1).toInt ≤ 84 * p0.toInt + 12 * p2.toInt + 12) := by omega
              have iv11_1 : (y11_4 + 1).toInt ≤ 12 * (((7 * Int32.toNatClampNeg p0 + Int32.toNatClampNeg p2) : Nat) : Int) + ((F 54) (7 * Int32.toNatClampNeg p0 + Int32.toNatClampNeg p2)).toInt := by omega
              have iv11_2 : (∀ j y, 12 * (7 * Int32.toNatClampNeg p0 + Int32.toNatClampNeg p2) + j < Int32.toNatClampNeg (y11_4 + 1) → T1[j]? = some y → ∀ z, z ∈ T2 → ¬ rh3 y z) := by have k7 := clampI (x := y11_4 + 1) (by omega); intro j y hj hy z hz; by_cases q9 : 12 * (7 * Int32.toNatClampNeg p0 + Int32.toNatClampNeg p2) + j = Int32.toNatClampNeg y11_4; (have e9 : j = Int32.toNatClampNeg y11_4 - 12 * (7 * Int32.toNatClampNeg p0 + Int32.toNatClampNeg p2) := (by omega); rw [e9, hxk1] at hy; cases hy; obtain ⟨i, hi⟩ := List.getElem?_of_mem hz; have hl := get_lt hi; exact jn48 i z (by have k8 := clampI (x := y48_5) (by omega); omega) hi); (exact in11 j y (by omega) hy z hz)
              exact ih11 (y11_4 + 1) iv11_0 iv11_1 iv11_2
            · have c71 := z_nle c71
              have hxk2 : T2[Int32.toNatClampNeg y48_5 - 12 * (7 * Int32.toNatClampNeg p1 + Int32.toNatClampNeg p2)]? = some (wdl (F 52) (24 * Int32.toNatClampNeg y48_5) (Int32.toNatClampNeg ((F 53) (Int32.toNatClampNeg y48_5)))) := by have z9 := rwO_at (c := (F 54) (7 * Int32.toNatClampNeg p1 + Int32.toNatClampNeg p2)) (fl := F 52) (fs := F 53) (a := (7 * Int32.toNatClampNeg p1 + Int32.toNatClampNeg p2)) (k := Int32.toNatClampNeg y48_5 - 12 * (7 * Int32.toNatClampNeg p1 + Int32.toNatClampNeg p2)) (by omega); rw [hT2, show 12 * (7 * Int32.toNatClampNeg p1 + Int32.toNatClampNeg p2) + (Int32.toNatClampNeg y48_5 - 12 * (7 * Int32.toNatClampNeg p1 + Int32.toNatClampNeg p2)) = Int32.toNatClampNeg y48_5 by omega, show 288 * (7 * Int32.toNatClampNeg p1 + Int32.toNatClampNeg p2) + 24 * (Int32.toNatClampNeg y48_5 - 12 * (7 * Int32.toNatClampNeg p1 + Int32.toNatClampNeg p2)) = 24 * Int32.toNatClampNeg y48_5 by omega] at z9; exact z9
              have hxw2 := hw2 _ (List.mem_of_getElem? hxk2)
              rw [wdl_len] at hxw2
              have kz2 : ((F 53) (Int32.toNatClampNeg y48_5)).toInt = ((Int32.toNatClampNeg ((F 53) (Int32.toNatClampNeg y48_5)) : Nat) : Int) := by have h9 : Int32.toNatClampNeg ((F 53) (Int32.toNatClampNeg y48_5)) = ((F 53) (Int32.toNatClampNeg y48_5)).toInt.toNat := rfl; have h8 := hxw2.1; omega
              have f242 : (24 * y48_5).toInt = 24 * y48_5.toInt := z_muld (by decide +kernel) (by omega) (by omega)
              have k242 := clampI (x := 24 * y48_5) (by omega)
              have e242 : Int32.toNatClampNeg (24 * y48_5) = 24 * Int32.toNatClampNeg y48_5 := by omega
              have f28 : (24 * y11_4).toInt = 24 * y11_4.toInt := z_muld (by decide +kernel) (by omega) (by omega)
              refine pw_if (fun hb89 => ?_)
              obtain ⟨hbl89, hbr89⟩ := hb89
              have f29 := hzF53 (Int32.toNatClampNeg y11_4)
              have f30 : (24 * y48_5).toInt = 24 * y48_5.toInt := z_muld (by decide +kernel) (by omega) (by omega)
              refine pw_if (fun hb105 => ?_)
              obtain ⟨hbl105, hbr105⟩ := hb105
              have f31 := hzF53 (Int32.toNatClampNeg y48_5)
              have hpr106_0 : (0 ≤ (24 * y11_4).toInt ∧ (24 * y11_4).toInt + ((F 53) (Int32.toNatClampNeg y11_4)).toInt ≤ 201600) := by first | assumption | omega
              have hpr106_1 : 201600 ≤ 500000 := by first | assumption | omega
              have hpr106_2 : (0 ≤ (24 * y48_5).toInt ∧ (24 * y48_5).toInt + ((F 53) (Int32.toNatClampNeg y48_5)).toInt ≤ 201600) := by first | assumption | omega
              have hpr106_3 : 201600 ≤ 500000 := by first | assumption | omega
              have hpr106_4 : ((F 53) (Int32.toNatClampNeg y11_4)).toInt ≤ 24 := by first | assumption | omega
              have hpr106_5 : ((F 53) (Int32.toNatClampNeg y48_5)).toInt ≤ 24 := by first | assumption | omega
              refine pw_b1 (fun r106 hc106 => ?_)
              have hq106 := wp_at (ok_rhyme (F 52) 201600 (24 * y11_4) ((F 53) (Int32.toNatClampNeg y11_4)) (F 52) 201600 (24 * y48_5) ((F 53) (Int32.toNatClampNeg y48_5)) hpr106_0 hpr106_1 hpr106_2 hpr106_3 hpr106_4 hpr106_5) hc106
              have f32 : (0 ≤ r106.toInt ∧ r106.toInt ≤ 1) := hq106
              clear hq106
              have h8106_h02 : 0 ≤ ((F 53) (Int32.toNatClampNeg y11_4)).toInt := by omega
              have h8106_h05 : 0 ≤ ((F 53) (Int32.toNatClampNeg y48_5)).toInt := by omega
              have hx106 := pwq (fn_rhyme (F 52) 201600 (24 * y11_4) ((F 53) (Int32.toNatClampNeg y11_4)) (F 52) 201600 (24 * y48_5) ((F 53) (Int32.toNatClampNeg y48_5)) hpr106_0 hpr106_1 hpr106_2 hpr106_3 hpr106_4 hpr106_5 h8106_h02 h8106_h05) hc106
              obtain ⟨p106_0, p106_1⟩ : (id ((r106.toInt ≠ 0 → rh3 (wdl (F 52) (Int32.toNatClampNeg (24 * y11_4)) (Int32.toNatClampNeg ((F 53) (Int32.toNatClampNeg y11_4)))) (wdl (F 52) (Int32.toNatClampNeg (24 * y48_5)) (Int32.toNatClampNeg ((F 53) (Int32.toNatClampNeg y48_5))))))) ∧ (id ((r106.toInt = 0 → ¬ rh3 (wdl (F 52) (Int32.toNatClampNeg (24 * y11_4)) (Int32.toNatClampNeg ((F 53) (Int32.toNatClampNeg y11_4)))) (wdl (F 52) (Int32.toNatClampNeg (24 * y48_5)) (Int32.toNatClampNeg ((F 53) (Int32.toNatClampNeg y48_5))))))) := hx106
              rw [e241, e242] at p106_0 p106_1
              refine pw_ite (fun c109 => ?_) (fun c109 => ?_)
              · have c109 := congrArg Int32.toInt c109
                have f33 : (y48_5 + 1).toInt = y48_5.toInt + (1) := z_addc (by decide +kernel) (by omega) (by omega)
                have iv48_0 : (84 * p1.toInt + 12 * p2.toInt ≤ (y48_5 + 1).toInt ∧ (y48_5 + 1).toInt ≤ 84 * p1.toInt + 12 * p2.toInt + 12) := by omega
                have iv48_1 : (y48_5 + 1).toInt ≤ 12 * (((7 * Int32.toNatClampNeg p1 + Int32.toNatClampNeg p2) : Nat) : Int) + ((F 54) (7 * Int32.toNatClampNeg p1 + Int32.toNatClampNeg p2)).toInt := by omega
                have iv48_2 : (∀ i z, 12 * (7 * Int32.toNatClampNeg p1 + Int32.toNatClampNeg p2) + i < Int32.toNatClampNeg (y48_5 + 1) → T2[i]? = some z → ¬ rh3 (wdl (F 52) (24 * Int32.toNatClampNeg y11_4) (Int32.toNatClampNeg ((F 53) (Int32.toNatClampNeg y11_4)))) z) := by have k7 := clampI (x := y48_5 + 1) (by omega); intro i z hi hz; by_cases q9 : 12 * (7 * Int32.toNatClampNeg p1 + Int32.toNatClampNeg p2) + i = Int32.toNatClampNeg y48_5; (have e9 : i = Int32.toNatClampNeg y48_5 - 12 * (7 * Int32.toNatClampNeg p1 + Int32.toNatClampNeg p2) := (by omega); rw [e9, hxk2] at hz; cases hz; exact p106_1 (by omega)); (exact jn48 i z (by omega) hz)
                exact ih48 (y48_5 + 1) iv48_0 iv48_1 iv48_2
              · have c109 := z_ne c109
                have qq0 : ((1 : Int32).toInt ≠ 0 → rhB T1 T2 = true) := by intro _; exact rhB_t (List.mem_of_getElem? hxk1) (List.mem_of_getElem? hxk2) (p106_0 (by omega))
                have qq1 : ((1 : Int32).toInt = 0 → rhB T1 T2 = false) := by intro h; exfalso; omega
                exact pw_some ⟨qq0, qq1⟩
        exact lp48 NN x46 (show (84 * p1.toInt + 12 * p2.toInt ≤ x46.toInt ∧ x46.toInt ≤ 84 * p1.toInt + 12 * p2.toInt + 12) from by omega) (show x46.toInt ≤ 12 * (((7 * Int32.toNatClampNeg p1 + Int32.toNatClampNeg p2) : Nat) : Int) + ((F 54) (7 * Int32.toNatClampNeg p1 + Int32.toNatClampNeg p2)).toInt from by omega) (show (∀ i z, 12 * (7 * Int32.toNatClampNeg p1 + Int32.toNatClampNeg p2) + i < Int32.toNatClampNeg x46 → T2[i]? = some z → ¬ rh3 (wdl (F 52) (24 * Int32.toNatClampNeg y11_4) (Int32.toNatClampNeg ((F 53) (Int32.toNatClampNeg y11_4)))) z) from by intro i z hi; have k9 := clampI (x := x46) (by omega); exfalso; omega)
  exact lp11 NN x9 (show (84 * p0.toInt + 12 * p2.toInt ≤ x9.toInt ∧ x9.toInt ≤ 84 * p0.toInt + 12 * p2.toInt + 12) from by omega) (show x9.toInt ≤ 12 * (((7 * Int32.toNatClampNeg p0 + Int32.toNatClampNeg p2) : Nat) : Int) + ((F 54) (7 * Int32.toNatClampNeg p0 + Int32.toNatClampNeg p2)).toInt from by omega) (show (∀ j y, 12 * (7 * Int32.toNatClampNeg p0 + Int32.toNatClampNeg p2) + j < Int32.toNatClampNeg x9 → T1[j]? = some y → ∀ z, z ∈ T2 → ¬ rh3 y z) from by intro j y hj; have k9 := clampI (x := x9) (by omega); exfalso; omega)
abbrev QF_collisions (g : Nat → Int32) (F : Nat → Nat → Int32) (p0 : Int32) (d : Nat → Dr) (Ws : List Wd) : (Int32 × Int32 × Int32 × Int32 × Int32 × Int32 × Int32 × Int32 × Int32 × (Nat → Int32) × (Nat → Int32) × (Nat → Int32) × (Nat → Int32) × (Nat → Int32) × (Nat → Int32) × (Nat → Int32) × (Nat → Int32) × (Nat → Int32) × (Nat → Int32) × (Nat → Int32) × (Nat → Int32) × (Nat → Int32) × (Nat → Int32) × (Nat → Int32) × (Nat → Int32) × (Nat → Int32)) → Prop := (fun t => ((¬ (0 ≤ p0.toInt ∧ p0.toInt ≤ (g 9).toInt) → (t.1).toInt = -2)) ∧ ((0 ≤ p0.toInt ∧ p0.toInt ≤ (g 9).toInt → (t.1).toInt = ((cnO (fun a b => clB (FMT d Ws (Int32.toNatClampNeg p0) a) (FMT d Ws (Int32.toNatClampNeg p0) b)) Ws.length Ws.length : Nat) : Int))) ∧ (((t.2.2.2.2.2.2.2.1).toInt ≠ 0 → MKT (t.2.2.2.2.2.2.2.2.2.2.2.2.2.2.2.2.2.2.2.2.2.2.2.2.1) (t.2.2.2.2.2.2.2.2.2.2.2.2.2.2.2.2.2.2.2.2.2.2.1) (t.2.2.2.2.2.2.2.2.2.2.2.2.2.2.2.2.2.2.2.2.2.2.2.1) d Ws (fun w s => w < Int32.toNatClampNeg (g 48) ∧ s ≤ Int32.toNatClampNeg (g 9)))))
set_option maxHeartbeats 4000000 in
set_option maxRecDepth 100000 in
theorem fn_collisions (g : Nat → Int32) (F : Nat → Nat → Int32) (p0 : Int32) (d : Nat → Dr) (Ws : List Wd) (hI : MInv g F) (hrd : ∀ q, q < Int32.toNatClampNeg (g 9) → RVd (F 13) (F 20) (F 21) (F 12) (F 18) (F 19) (F 11) (F 14) (F 15) (F 16) (F 17) q = d q ∧ WFD (d q)) (hWs : rwW (g 48) (F 49) (F 50) 24 = Ws) (hWw : WDS Ws) (hmk : (g 51).toInt ≠ 0 → MKT (F 54) (F 52) (F 53) d Ws (fun w s => w < Int32.toNatClampNeg (g 48) ∧ s ≤ Int32.toNatClampNeg (g 9))) : pw (f_collisions g F p0) (QF_collisions g F p0 d Ws) := by
  unfold f_collisions
  have hI9 : id (MInv g F) := hI
  obtain ⟨-, -, -, -, -, -, -, -, hzg9, hzg23, -, -, -, -, -, -, -, hzg48, hzg51, -, -, -, -, -, -, hzF11, hzF12, hzF13, hzF15, hzF19, hzF21, hzF24, hzF25, hzF26, hzF33, hzF38, hzF41, hzF43, hzF45, hzF46, hzF50, hzF53, hzF54, hzLQ⟩ := hI
  have zkm2 : (-2 : Int32).toInt = -2 := by decide +kernel
  have zk0 : (0 : Int32).toInt = 0 := by decide +kernel
  have zk1 : (1 : Int32).toInt = 1 := by decide +kernel
  have zk200 : (200 : Int32).toInt = 200 := by decide +kernel
  have zk1000 : (1000 : Int32).toInt = 1000 := by decide +kernel
  have hb9 := hzg9
  have c9 := clampI (x := g 9) (by omega)
  have hb48 := hzg48
  have c48 := clampI (x := g 48) (by omega)
  have hWl : Ws.length = Int32.toNatClampNeg (g 48) := by rw [← hWs]; exact rw_len
  have hMI2 : id (MInv g F) := show MInv g F from (MInv_i ((hI9.1)) ((hI9.2.1)) ((hI9.2.2.1)) ((hI9.2.2.2.1)) ((hI9.2.2.2.2.1)) ((hI9.2.2.2.2.2.1)) ((hI9.2.2.2.2.2.2.1)) ((hI9.2.2.2.2.2.2.2.1)) hzg9 hzg23 ((hI9.2.2.2.2.2.2.2.2.2.2.1)) ((hI9.2.2.2.2.2.2.2.2.2.2.2.1)) ((hI9.2.2.2.2.2.2.2.2.2.2.2.2.1)) ((hI9.2.2.2.2.2.2.2.2.2.2.2.2.2.1)) ((hI9.2.2.2.2.2.2.2.2.2.2.2.2.2.2.1)) ((hI9.2.2.2.2.2.2.2.2.2.2.2.2.2.2.2.1)) ((hI9.2.2.2.2.2.2.2.2.2.2.2.2.2.2.2.2.1)) hzg48 hzg51 ((hI9.2.2.2.2.2.2.2.2.2.2.2.2.2.2.2.2.2.2.2.1)) ((hI9.2.2.2.2.2.2.2.2.2.2.2.2.2.2.2.2.2.2.2.2.1)) ((hI9.2.2.2.2.2.2.2.2.2.2.2.2.2.2.2.2.2.2.2.2.2.1)) ((hI9.2.2.2.2.2.2.2.2.2.2.2.2.2.2.2.2.2.2.2.2.2.2.1)) ((hI9.2.2.2.2.2.2.2.2.2.2.2.2.2.2.2.2.2.2.2.2.2.2.2.1)) ((hI9.2.2.2.2.2.2.2.2.2.2.2.2.2.2.2.2.2.2.2.2.2.2.2.2.1)) hzF11 hzF12 hzF13 hzF15 hzF19 hzF21 hzF24 hzF25 hzF26 hzF33 hzF38 hzF41 hzF43 hzF45 hzF46 hzF50 hzF53 hzF54 hzLQ)
  refine pw_b1 (fun r2 hc2 => ?_)
  have hq2 := wp_at (ok_isStage g F p0 hMI2) hc2
  obtain ⟨f1, f2⟩ : ((r2.toInt = 1 → 0 ≤ p0.toInt ∧ p0.toInt ≤ (g 9).toInt)) ∧ ((0 ≤ r2.toInt ∧ r2.toInt ≤ 1)) := hq2
  have hx2 := pwq (fn_isStage g F p0 hMI2) hc2
  obtain ⟨p2_0, p2_1⟩ : ((r2.toInt ≠ 0 → 0 ≤ p0.toInt ∧ p0.toInt ≤ (g 9).toInt)) ∧ ((r2.toInt = 0 → ¬ (0 ≤ p0.toInt ∧ p0.toInt ≤ (g 9).toInt))) := hx2
  refine pw_ite (fun c5 => ?_) (fun c5 => ?_)
  · have c5 := congrArg Int32.toInt c5
    have qq0 : (¬ (0 ≤ p0.toInt ∧ p0.toInt ≤ (g 9).toInt) → (-2 : Int32).toInt = -2) := by intro _; omega
    have qq1 : (0 ≤ p0.toInt ∧ p0.toInt ≤ (g 9).toInt → (-2 : Int32).toInt = ((cnO (fun a b => clB (FMT d Ws (Int32.toNatClampNeg p0) a) (FMT d Ws (Int32.toNatClampNeg p0) b)) Ws.length Ws.length : Nat) : Int)) := by intro h; exfalso; exact p2_1 (by omega) h
    have qq2 : ((g 51).toInt ≠ 0 → MKT (F 54) (F 52) (F 53) d Ws (fun w s => w < Int32.toNatClampNeg (g 48) ∧ s ≤ Int32.toNatClampNeg (g 9))) := by exact hmk
    exact pw_some ⟨qq0, qq1, qq2⟩
  · have c5 := z_ne c5
    have s1 := p2_0 (by omega)
    have cp0 := clampI (x := p0) (by omega)
    have hMI12 : id (MInv g F) := show MInv g F from (MInv_i ((hI9.1)) ((hI9.2.1)) ((hI9.2.2.1)) ((hI9.2.2.2.1)) ((hI9.2.2.2.2.1)) ((hI9.2.2.2.2.2.1)) ((hI9.2.2.2.2.2.2.1)) ((hI9.2.2.2.2.2.2.2.1)) hzg9 hzg23 ((hI9.2.2.2.2.2.2.2.2.2.2.1)) ((hI9.2.2.2.2.2.2.2.2.2.2.2.1)) ((hI9.2.2.2.2.2.2.2.2.2.2.2.2.1)) ((hI9.2.2.2.2.2.2.2.2.2.2.2.2.2.1)) ((hI9.2.2.2.2.2.2.2.2.2.2.2.2.2.2.1)) ((hI9.2.2.2.2.2.2.2.2.2.2.2.2.2.2.2.1)) ((hI9.2.2.2.2.2.2.2.2.2.2.2.2.2.2.2.2.1)) hzg48 hzg51 ((hI9.2.2.2.2.2.2.2.2.2.2.2.2.2.2.2.2.2.2.2.1)) ((hI9.2.2.2.2.2.2.2.2.2.2.2.2.2.2.2.2.2.2.2.2.1)) ((hI9.2.2.2.2.2.2.2.2.2.2.2.2.2.2.2.2.2.2.2.2.2.1)) ((hI9.2.2.2.2.2.2.2.2.2.2.2.2.2.2.2.2.2.2.2.2.2.2.1)) ((hI9.2.2.2.2.2.2.2.2.2.2.2.2.2.2.2.2.2.2.2.2.2.2.2.1)) ((hI9.2.2.2.2.2.2.2.2.2.2.2.2.2.2.2.2.2.2.2.2.2.2.2.2.1)) hzF11 hzF12 hzF13 hzF15 hzF19 hzF21 hzF24 hzF25 hzF26 hzF33 hzF38 hzF41 hzF43 hzF45 hzF46 hzF50 hzF53 hzF54 hzLQ)
    refine pw_b23 (fun c12_g23 c12_g27 c12_g30 c12_g34 c12_g36 c12_g39 c12_g51 c12_F22 c12_F24 c12_F25 c12_F26 c12_F28 c12_F29 c12_F31 c12_F32 c12_F33 c12_F37 c12_F38 c12_F40 c12_F41 c12_F52 c12_F53 c12_F54 hc12 => ?_)
    have hq12 := wp_at (ok_make g F hMI12) hc12
    obtain ⟨hg3, hg4, hg5, hg6, hg7, hg8, hg9, hg10, hg11, hg12, hg13, hg14, hg15, hg16, hg17⟩ : (((0) ≤ c12_g23.toInt ∧ c12_g23.toInt ≤ 24)) ∧ (((0) ≤ c12_g27.toInt ∧ c12_g27.toInt ≤ 30)) ∧ (((0) ≤ c12_g30.toInt ∧ c12_g30.toInt ≤ 384)) ∧ (((0) ≤ c12_g34.toInt ∧ c12_g34.toInt ≤ 30)) ∧ (((0) ≤ c12_g36.toInt ∧ c12_g36.toInt ≤ 1)) ∧ (((0) ≤ c12_g39.toInt ∧ c12_g39.toInt ≤ 12)) ∧ (((0) ≤ c12_g51.toInt ∧ c12_g51.toInt ≤ 1)) ∧ (rng (0) 24 c12_F24) ∧ (rng (0) 24 c12_F25) ∧ (rng (0) 24 c12_F26) ∧ (rng (0) 24 c12_F33) ∧ (rng (0) 24 c12_F38) ∧ (rng (0) 24 c12_F41) ∧ (rng (0) 24 c12_F53) ∧ (rng (0) 12 c12_F54) := hq12
    have h812_hrd : id (∀ q, q < Int32.toNatClampNeg (g 9) → RVd (F 13) (F 20) (F 21) (F 12) (F 18) (F 19) (F 11) (F 14) (F 15) (F 16) (F 17) q = d q ∧ WFD (d q)) := show ∀ q, q < Int32.toNatClampNeg (g 9) → RVd (F 13) (F 20) (F 21) (F 12) (F 18) (F 19) (F 11) (F 14) (F 15) (F 16) (F 17) q = d q ∧ WFD (d q) from by exact hrd
    have h812_hWs : rwW (g 48) (F 49) (F 50) 24 = Ws := by exact hWs
    have h812_hWw : WDS Ws := by exact hWw
    have h812_hmk : id ((g 51).toInt ≠ 0 → MKT (F 54) (F 52) (F 53) d Ws (fun w s => w < Int32.toNatClampNeg (g 48) ∧ s ≤ Int32.toNatClampNeg (g 9))) := show (g 51).toInt ≠ 0 → MKT (F 54) (F 52) (F 53) d Ws (fun w s => w < Int32.toNatClampNeg (g 48) ∧ s ≤ Int32.toNatClampNeg (g 9)) from by exact hmk
    have hx12 := pwq (fn_make g F (d) (Ws) hMI12 h812_hrd h812_hWs h812_hWw h812_hmk) hc12
    obtain ⟨p12_0, p12_1⟩ : (MKT c12_F54 c12_F52 c12_F53 d Ws (fun w s => w < Int32.toNatClampNeg (g 48) ∧ s ≤ Int32.toNatClampNeg (g 9))) ∧ (c12_g51.toInt ≠ 0) := hx12
    have hg18 : ((0) ≤ (0 : Int32).toInt ∧ (0 : Int32).toInt ≤ 200) := ⟨by omega, by omega⟩
    have lp24 : ∀ (n24 : Nat) (y24_2 : Int32) (y24_3 : Int32) (d24_g59 : Int32) (d24_F58 : (Nat → Int32)), ((0) ≤ d24_g59.toInt ∧ d24_g59.toInt ≤ 200) → (0 ≤ y24_3.toInt ∧ y24_3.toInt ≤ 100) → (0 ≤ y24_2.toInt ∧ y24_2.toInt ≤ 100 * y24_3.toInt) → y24_3.toInt ≤ (g 48).toInt → (y24_2.toInt = ((cnO (fun a b => clB (FMT d Ws (Int32.toNatClampNeg p0) a) (FMT d Ws (Int32.toNatClampNeg p0) b)) Ws.length (Int32.toNatClampNeg y24_3) : Nat) : Int)) → pw (L_collisions_24 g F p0 c12_g23 c12_g27 c12_g30 c12_g34 c12_g36 c12_g39 c12_g51 c12_F22 c12_F24 c12_F25 c12_F26 c12_F28 c12_F29 c12_F31 c12_F32 c12_F33 c12_F37 c12_F38 c12_F40 c12_F41 c12_F52 c12_F53 c12_F54 n24 y24_2 y24_3 d24_g59 d24_F58) (QF_collisions g F p0 d Ws) := by
      intro n24
      induction n24 with
      | zero => intros; exact pw_none
      | succ n24 ih24 =>
        intro y24_2 y24_3 d24_g59 d24_F58 hg19 f20 f21 f22 io24
        show pw (B_collisions_24 g F p0 c12_g23 c12_g27 c12_g30 c12_g34 c12_g36 c12_g39 c12_g51 c12_F22 c12_F24 c12_F25 c12_F26 c12_F28 c12_F29 c12_F31 c12_F32 c12_F33 c12_F37 c12_F38 c12_F40 c12_F41 c12_F52 c12_F53 c12_F54 (L_collisions_24 g F p0 c12_g23 c12_g27 c12_g30 c12_g34 c12_g36 c12_g39 c12_g51 c12_F22 c12_F24 c12_F25 c12_F26 c12_F28 c12_F29 c12_F31 c12_F32 c12_F33 c12_F37 c12_F38 c12_F40 c12_F41 c12_F52 c12_F53 c12_F54 n24) y24_2 y24_3 d24_g59 d24_F58) _
        unfold B_collisions_24
        refine pw_ite (fun c29 => ?_) (fun c29 => ?_)
        · have c29 := (z_le _ _).mp c29
          have qq0 : (¬ (0 ≤ p0.toInt ∧ p0.toInt ≤ (g 9).toInt) → y24_2.toInt = -2) := by intro h; exfalso; exact h s1
          have qq1 : (0 ≤ p0.toInt ∧ p0.toInt ≤ (g 9).toInt → y24_2.toInt = ((cnO (fun a b => clB (FMT d Ws (Int32.toNatClampNeg p0) a) (FMT d Ws (Int32.toNatClampNeg p0) b)) Ws.length Ws.length : Nat) : Int)) := by intro _; have k3 := clampI (x := y24_3) (by omega); have h9 := io24; rw [show Int32.toNatClampNeg y24_3 = Ws.length by omega] at h9; exact h9
          have qq2 : (c12_g51.toInt ≠ 0 → MKT c12_F54 c12_F52 c12_F53 d Ws (fun w s => w < Int32.toNatClampNeg (g 48) ∧ s ≤ Int32.toNatClampNeg (g 9))) := by exact fun _ => p12_0
          exact pw_some ⟨qq0, qq1, qq2⟩
        · have c29 := z_nle c29
          have k3 := clampI (x := y24_3) (by omega)
          have f23 : (y24_3 + 1).toInt = y24_3.toInt + 1 := z_addc (by decide +kernel) (by omega) (by omega)
          refine pw_vl (fun x35 ex35 => ?_)
          have f24 : x35.toInt = (y24_3 + 1).toInt := congrArg Int32.toInt ex35
          refine pw_jE (fun k109 ek109 => ?_)
          have lp37 : ∀ (n37 : Nat) (y37_2 : Int32) (y37_4 : Int32) (d37_g59 : Int32) (d37_F58 : (Nat → Int32)), ((0) ≤ d37_g59.toInt ∧ d37_g59.toInt ≤ 200) → (0 ≤ y37_4.toInt ∧ y37_4.toInt ≤ 100) → (0 ≤ y37_2.toInt ∧ y37_2.toInt ≤ 100 * y24_3.toInt + y37_4.toInt) → (y37_4.toInt ≤ (g 48).toInt ∧ y24_3.toInt + 1 ≤ y37_4.toInt) → (y37_2.toInt = ((cnO (fun a b => clB (FMT d Ws (Int32.toNatClampNeg p0) a) (FMT d Ws (Int32.toNatClampNeg p0) b)) Ws.length (Int32.toNatClampNeg y24_3) + cnI (fun a b => clB (FMT d Ws (Int32.toNatClampNeg p0) a) (FMT d Ws (Int32.toNatClampNeg p0) b)) (Int32.toNatClampNeg y24_3) (Int32.toNatClampNeg y37_4 - Int32.toNatClampNeg y24_3 - 1) : Nat) : Int)) → pw (L_collisions_37 g F p0 c12_g23 c12_g27 c12_g30 c12_g34 c12_g36 c12_g39 c12_g51 c12_F22 c12_F24 c12_F25 c12_F26 c12_F28 c12_F29 c12_F31 c12_F32 c12_F33 c12_F37 c12_F38 c12_F40 c12_F41 c12_F52 c12_F53 c12_F54 y24_3 k109 n37 y37_2 y37_4 d37_g59 d37_F58) (QF_collisions g F p0 d Ws) := by
            intro n37
            induction n37 with
            | zero => intros; exact pw_none
            | succ n37 ih37 =>
              intro y37_2 y37_4 d37_g59 d37_F58 hg25 f26 f27 f28 ii37
              show pw (B_collisions_37 g F p0 c12_g23 c12_g27 c12_g30 c12_g34 c12_g36 c12_g39 c12_g51 c12_F22 c12_F24 c12_F25 c12_F26 c12_F28 c12_F29 c12_F31 c12_F32 c12_F33 c12_F37 c12_F38 c12_F40 c12_F41 c12_F52 c12_F53 c12_F54 y24_3 k109 (L_collisions_37 g F p0 c12_g23 c12_g27 c12_g30 c12_g34 c12_g36 c12_g39 c12_g51 c12_F22 c12_F24 c12_F25 c12_F26 c12_F28 c12_F29 c12_F31 c12_F32 c12_F33 c12_F37 c12_F38 c12_F40 c12_F41 c12_F52 c12_F53 c12_F54 y24_3 k109 n37) y37_2 y37_4 d37_g59 d37_F58) _
              unfold B_collisions_37
              refine pw_ite (fun c43 => ?_) (fun c43 => ?_)
              · have c43 := (z_le _ _).mp c43
                refine pw_j3 ek109 (fun x109_2 ex109_2 z109_1 ez109_1 z109_2 ez109_2 => ?_)
                subst ez109_1 ez109_2
                have ex109_2 := ex109_2.symm
                have f_x109_2 : x109_2.toInt = y37_2.toInt := by rw [ex109_2]
                have iv24_0 : (0 ≤ (y24_3 + 1).toInt ∧ (y24_3 + 1).toInt ≤ 100) := by omega
                have iv24_1 : (0 ≤ x109_2.toInt ∧ x109_2.toInt ≤ 100 * (y24_3 + 1).toInt) := by omega
                have iv24_2 : (y24_3 + 1).toInt ≤ (g 48).toInt := by omega
                have iv24_3 : (x109_2.toInt = ((cnO (fun a b => clB (FMT d Ws (Int32.toNatClampNeg p0) a) (FMT d Ws (Int32.toNatClampNeg p0) b)) Ws.length (Int32.toNatClampNeg (y24_3 + 1)) : Nat) : Int)) := by have k4 := clampI (x := y24_3 + 1) (by omega); have k5 := clampI (x := y37_4) (by omega); rw [cnO_s (k := Int32.toNatClampNeg y24_3) (j := Int32.toNatClampNeg y37_4 - Int32.toNatClampNeg y24_3 - 1) (by omega) (by omega)]; have h9 := ii37; omega
                exact ih24 x109_2 (y24_3 + 1) d37_g59 d37_F58 hg25 iv24_0 iv24_1 iv24_2 iv24_3
              · have c43 := z_nle c43
                have k4 := clampI (x := y37_4) (by omega)
                have hMI51 : id (MInv (upd (upd (upd (upd (upd (upd (upd (upd g 23 c12_g23) 27 c12_g27) 30 c12_g30) 34 c12_g34) 36 c12_g36) 39 c12_g39) 51 c12_g51) 59 d37_g59) (upF (upF (upF (upF (upF (upF (upF (upF (upF (upF (upF (upF (upF (upF (upF (upF (upF F 22 c12_F22) 24 c12_F24) 25 c12_F25) 26 c12_F26) 28 c12_F28) 29 c12_F29) 31 c12_F31) 32 c12_F32) 33 c12_F33) 37 c12_F37) 38 c12_F38) 40 c12_F40) 41 c12_F41) 52 c12_F52) 53 c12_F53) 54 c12_F54) 58 d37_F58)) := show MInv (upd (upd (upd (upd (upd (upd (upd (upd g 23 c12_g23) 27 c12_g27) 30 c12_g30) 34 c12_g34) 36 c12_g36) 39 c12_g39) 51 c12_g51) 59 d37_g59) (upF (upF (upF (upF (upF (upF (upF (upF (upF (upF (upF (upF (upF (upF (upF (upF (upF F 22 c12_F22) 24 c12_F24) 25 c12_F25) 26 c12_F26) 28 c12_F28) 29 c12_F29) 31 c12_F31) 32 c12_F32) 33 c12_F33) 37 c12_F37) 38 c12_F38) 40 c12_F40) 41 c12_F41) 52 c12_F52) 53 c12_F53) 54 c12_F54) 58 d37_F58) from (MInv_i ((hI9.1)) ((hI9.2.1)) ((hI9.2.2.1)) ((hI9.2.2.2.1)) ((hI9.2.2.2.2.1)) ((hI9.2.2.2.2.2.1)) ((hI9.2.2.2.2.2.2.1)) ((hI9.2.2.2.2.2.2.2.1)) hzg9 hg3 hg4 hg5 hg6 hg7 hg8 ((hI9.2.2.2.2.2.2.2.2.2.2.2.2.2.2.2.1)) ((hI9.2.2.2.2.2.2.2.2.2.2.2.2.2.2.2.2.1)) hzg48 hg9 ((hI9.2.2.2.2.2.2.2.2.2.2.2.2.2.2.2.2.2.2.2.1)) hg25 ((hI9.2.2.2.2.2.2.2.2.2.2.2.2.2.2.2.2.2.2.2.2.2.1)) ((hI9.2.2.2.2.2.2.2.2.2.2.2.2.2.2.2.2.2.2.2.2.2.2.1)) ((hI9.2.2.2.2.2.2.2.2.2.2.2.2.2.2.2.2.2.2.2.2.2.2.2.1)) ((hI9.2.2.2.2.2.2.2.2.2.2.2.2.2.2.2.2.2.2.2.2.2.2.2.2.1)) hzF11 hzF12 hzF13 hzF15 hzF19 hzF21 hg10 hg11 hg12 hg13 hg14 hg15 hzF43 hzF45 hzF46 hzF50 hg16 hg17 hzLQ)
                have hpr51_0 : (0 ≤ y24_3.toInt ∧ y24_3.toInt ≤ 99) := by first | assumption | omega
                have hpr51_1 : (0 ≤ y37_4.toInt ∧ y37_4.toInt ≤ 99) := by first | assumption | omega
                have hpr51_2 : (0 ≤ p0.toInt ∧ p0.toInt ≤ 6) := by first | assumption | omega
                refine pw_b1 (fun r51 hc51 => ?_)
                have hq51 := wp_at (ok_collide (upd (upd (upd (upd (upd (upd (upd (upd g 23 c12_g23) 27 c12_g27) 30 c12_g30) 34 c12_g34) 36 c12_g36) 39 c12_g39) 51 c12_g51) 59 d37_g59) (upF (upF (upF (upF (upF (upF (upF (upF (upF (upF (upF (upF (upF (upF (upF (upF (upF F 22 c12_F22) 24 c12_F24) 25 c12_F25) 26 c12_F26) 28 c12_F28) 29 c12_F29) 31 c12_F31) 32 c12_F32) 33 c12_F33) 37 c12_F37) 38 c12_F38) 40 c12_F40) 41 c12_F41) 52 c12_F52) 53 c12_F53) 54 c12_F54) 58 d37_F58) y24_3 y37_4 p0 hMI51 hpr51_0 hpr51_1 hpr51_2) hc51
                have f30 : (0 ≤ r51.toInt ∧ r51.toInt ≤ 1) := hq51
                clear hq51
                have h851_hT1 : rwO (c12_F54 (7 * Int32.toNatClampNeg y24_3 + Int32.toNatClampNeg p0)) c12_F52 c12_F53 (7 * Int32.toNatClampNeg y24_3 + Int32.toNatClampNeg p0) = (FMT d Ws (Int32.toNatClampNeg p0) (Int32.toNatClampNeg y24_3)) := by exact p12_0 _ _ ⟨by omega, by omega⟩
                have h851_hT2 : rwO (c12_F54 (7 * Int32.toNatClampNeg y37_4 + Int32.toNatClampNeg p0)) c12_F52 c12_F53 (7 * Int32.toNatClampNeg y37_4 + Int32.toNatClampNeg p0) = (FMT d Ws (Int32.toNatClampNeg p0) (Int32.toNatClampNeg y37_4)) := by exact p12_0 _ _ ⟨by omega, by omega⟩
                have h851_hw1 : WDS (FMT d Ws (Int32.toNatClampNeg p0) (Int32.toNatClampNeg y24_3)) := by exact FMT_wds hWw (fun q hq => (hrd q (by omega)).2)
                have h851_hw2 : WDS (FMT d Ws (Int32.toNatClampNeg p0) (Int32.toNatClampNeg y37_4)) := by exact FMT_wds hWw (fun q hq => (hrd q (by omega)).2)
                have hx51 := pwq (fn_collide (upd (upd (upd (upd (upd (upd (upd (upd g 23 c12_g23) 27 c12_g27) 30 c12_g30) 34 c12_g34) 36 c12_g36) 39 c12_g39) 51 c12_g51) 59 d37_g59) (upF (upF (upF (upF (upF (upF (upF (upF (upF (upF (upF (upF (upF (upF (upF (upF (upF F 22 c12_F22) 24 c12_F24) 25 c12_F25) 26 c12_F26) 28 c12_F28) 29 c12_F29) 31 c12_F31) 32 c12_F32) 33 c12_F33) 37 c12_F37) 38 c12_F38) 40 c12_F40) 41 c12_F41) 52 c12_F52) 53 c12_F53) 54 c12_F54) 58 d37_F58) y24_3 y37_4 p0 (FMT d Ws (Int32.toNatClampNeg p0) (Int32.toNatClampNeg y24_3)) (FMT d Ws (Int32.toNatClampNeg p0) (Int32.toNatClampNeg y37_4)) hMI51 hpr51_0 hpr51_1 hpr51_2 h851_hT1 h851_hT2 h851_hw1 h851_hw2) hc51
                obtain ⟨p51_0, p51_1⟩ : (id ((r51.toInt ≠ 0 → clB (FMT d Ws (Int32.toNatClampNeg p0) (Int32.toNatClampNeg y24_3)) (FMT d Ws (Int32.toNatClampNeg p0) (Int32.toNatClampNeg y37_4)) = true))) ∧ (id ((r51.toInt = 0 → clB (FMT d Ws (Int32.toNatClampNeg p0) (Int32.toNatClampNeg y24_3)) (FMT d Ws (Int32.toNatClampNeg p0) (Int32.toNatClampNeg y37_4)) = false))) := hx51
                refine pw_jE (fun j103 ej103 => ?_)
                refine pw_ite (fun c54 => ?_) (fun c54 => ?_)
                · have c54 := congrArg Int32.toInt c54
                  refine pw_j3 ej103 (fun x103_2 ex103_2 z103_1 ez103_1 z103_2 ez103_2 => ?_)
                  subst ez103_1 ez103_2
                  have ex103_2 := ex103_2.symm
                  have f_x103_2 : x103_2.toInt = y37_2.toInt := by rw [ex103_2]
                  have f31 : (y37_4 + 1).toInt = y37_4.toInt + (1) := z_addc (by decide +kernel) (by omega) (by omega)
                  have iv37_0 : (0 ≤ (y37_4 + 1).toInt ∧ (y37_4 + 1).toInt ≤ 100) := by omega
                  have iv37_1 : (0 ≤ x103_2.toInt ∧ x103_2.toInt ≤ 100 * y24_3.toInt + (y37_4 + 1).toInt) := by omega
                  have iv37_2 : ((y37_4 + 1).toInt ≤ (g 48).toInt ∧ y24_3.toInt + 1 ≤ (y37_4 + 1).toInt) := by omega
                  have iv37_3 : (x103_2.toInt = ((cnO (fun a b => clB (FMT d Ws (Int32.toNatClampNeg p0) a) (FMT d Ws (Int32.toNatClampNeg p0) b)) Ws.length (Int32.toNatClampNeg y24_3) + cnI (fun a b => clB (FMT d Ws (Int32.toNatClampNeg p0) a) (FMT d Ws (Int32.toNatClampNeg p0) b)) (Int32.toNatClampNeg y24_3) (Int32.toNatClampNeg (y37_4 + 1) - Int32.toNatClampNeg y24_3 - 1) : Nat) : Int)) := by have k5 := clampI (x := y37_4 + 1) (by omega); rw [cnI_n (k := Int32.toNatClampNeg y37_4 - Int32.toNatClampNeg y24_3 - 1) (b := Int32.toNatClampNeg y37_4) (p51_1 (by omega)) (by omega) (by omega)]; have h9 := ii37; omega
                  exact ih37 x103_2 (y37_4 + 1) d37_g59 d37_F58 hg25 iv37_0 iv37_1 iv37_2 iv37_3
                · have c54 := z_ne c54
                  have f32 : (y37_2 + 1).toInt = y37_2.toInt + (1) := z_addc (by decide +kernel) (by omega) (by omega)
                  refine pw_ite (fun c70 => ?_) (fun c70 => ?_)
                  · have c70 := congrArg Int32.toInt c70
                    refine pw_j3 ej103 (fun x103_2 ex103_2 z103_1 ez103_1 z103_2 ez103_2 => ?_)
                    subst ez103_1 ez103_2
                    have ex103_2 := ex103_2.symm
                    have f_x103_2 : x103_2.toInt = (y37_2 + 1).toInt := by rw [ex103_2]
                    have f33 : (y37_4 + 1).toInt = y37_4.toInt + (1) := z_addc (by decide +kernel) (by omega) (by omega)
                    have iv37_0 : (0 ≤ (y37_4 + 1).toInt ∧ (y37_4 + 1).toInt ≤ 100) := by omega
                    have iv37_1 : (0 ≤ x103_2.toInt ∧ x103_2.toInt ≤ 100 * y24_3.toInt + (y37_4 + 1).toInt) := by omega
                    have iv37_2 : ((y37_4 + 1).toInt ≤ (g 48).toInt ∧ y24_3.toInt + 1 ≤ (y37_4 + 1).toInt) := by omega
                    have iv37_3 : (x103_2.toInt = ((cnO (fun a b => clB (FMT d Ws (Int32.toNatClampNeg p0) a) (FMT d Ws (Int32.toNatClampNeg p0) b)) Ws.length (Int32.toNatClampNeg y24_3) + cnI (fun a b => clB (FMT d Ws (Int32.toNatClampNeg p0) a) (FMT d Ws (Int32.toNatClampNeg p0) b)) (Int32.toNatClampNeg y24_3) (Int32.toNatClampNeg (y37_4 + 1) - Int32.toNatClampNeg y24_3 - 1) : Nat) : Int)) := by have k5 := clampI (x := y37_4 + 1) (by omega); rw [cnI_y (k := Int32.toNatClampNeg y37_4 - Int32.toNatClampNeg y24_3 - 1) (b := Int32.toNatClampNeg y37_4) (p51_0 (by omega)) (by omega) (by omega)]; have h9 := ii37; omega
                    exact ih37 x103_2 (y37_4 + 1) d37_g59 d37_F58 hg25 iv37_0 iv37_1 iv37_2 iv37_3
                  · have c70 := z_ne c70
                    have f34 : (1000 * y24_3).toInt = 1000 * y24_3.toInt := z_muld (by decide +kernel) (by omega) (by omega)
                    have f35 : ((1000 * y24_3) + y37_4).toInt = (1000 * y24_3).toInt + y37_4.toInt := z_add (by omega) (by omega)
                    refine pw_if (fun hb92 => ?_)
                    obtain ⟨hbl92, hbr92⟩ := hb92
                    refine pw_vl (fun w92 ew92 => ?_)
                    have f36 : (d37_g59 + 1).toInt = d37_g59.toInt + 1 := z_addc (by decide +kernel) (by omega) (by omega)
                    refine pw_vl (fun x100 ex100 => ?_)
                    have f37 : x100.toInt = (d37_g59 + 1).toInt := congrArg Int32.toInt ex100
                    have hg38 : ((0) ≤ x100.toInt ∧ x100.toInt ≤ 200) := ⟨by omega, by omega⟩
                    refine pw_j3 ej103 (fun x103_2 ex103_2 z103_1 ez103_1 z103_2 ez103_2 => ?_)
                    subst ez103_1 ez103_2
                    have ex103_2 := ex103_2.symm
                    have f_x103_2 : x103_2.toInt = (y37_2 + 1).toInt := by rw [ex103_2]
                    have f39 : (y37_4 + 1).toInt = y37_4.toInt + (1) := z_addc (by decide +kernel) (by omega) (by omega)
                    have iv37_0 : (0 ≤ (y37_4 + 1).toInt ∧ (y37_4 + 1).toInt ≤ 100) := by omega
                    have iv37_1 : (0 ≤ x103_2.toInt ∧ x103_2.toInt ≤ 100 * y24_3.toInt + (y37_4 + 1).toInt) := by omega
                    have iv37_2 : ((y37_4 + 1).toInt ≤ (g 48).toInt ∧ y24_3.toInt + 1 ≤ (y37_4 + 1).toInt) := by omega
                    have iv37_3 : (x103_2.toInt = ((cnO (fun a b => clB (FMT d Ws (Int32.toNatClampNeg p0) a) (FMT d Ws (Int32.toNatClampNeg p0) b)) Ws.length (Int32.toNatClampNeg y24_3) + cnI (fun a b => clB (FMT d Ws (Int32.toNatClampNeg p0) a) (FMT d Ws (Int32.toNatClampNeg p0) b)) (Int32.toNatClampNeg y24_3) (Int32.toNatClampNeg (y37_4 + 1) - Int32.toNatClampNeg y24_3 - 1) : Nat) : Int)) := by have k5 := clampI (x := y37_4 + 1) (by omega); rw [cnI_y (k := Int32.toNatClampNeg y37_4 - Int32.toNatClampNeg y24_3 - 1) (b := Int32.toNatClampNeg y37_4) (p51_0 (by omega)) (by omega) (by omega)]; have h9 := ii37; omega
                    exact ih37 x103_2 (y37_4 + 1) x100 w92 hg38 iv37_0 iv37_1 iv37_2 iv37_3
          exact lp37 NN y24_2 x35 d24_g59 d24_F58 hg19 (show (0 ≤ x35.toInt ∧ x35.toInt ≤ 100) from by omega) (show (0 ≤ y24_2.toInt ∧ y24_2.toInt ≤ 100 * y24_3.toInt + x35.toInt) from by omega) (show (x35.toInt ≤ (g 48).toInt ∧ y24_3.toInt + 1 ≤ x35.toInt) from by omega) (show (y24_2.toInt = ((cnO (fun a b => clB (FMT d Ws (Int32.toNatClampNeg p0) a) (FMT d Ws (Int32.toNatClampNeg p0) b)) Ws.length (Int32.toNatClampNeg y24_3) + cnI (fun a b => clB (FMT d Ws (Int32.toNatClampNeg p0) a) (FMT d Ws (Int32.toNatClampNeg p0) b)) (Int32.toNatClampNeg y24_3) (Int32.toNatClampNeg x35 - Int32.toNatClampNeg y24_3 - 1) : Nat) : Int)) from by have k5 := clampI (x := x35) (by omega); rw [show Int32.toNatClampNeg x35 - Int32.toNatClampNeg y24_3 - 1 = 0 by omega]; exact io24)
    exact lp24 NN (0 : Int32) (0 : Int32) (0 : Int32) (F 58) hg18 (show (0 ≤ (0 : Int32).toInt ∧ (0 : Int32).toInt ≤ 100) from by omega) (show (0 ≤ (0 : Int32).toInt ∧ (0 : Int32).toInt ≤ 100 * (0 : Int32).toInt) from by omega) (show (0 : Int32).toInt ≤ (g 48).toInt from by omega) (show ((0 : Int32).toInt = ((cnO (fun a b => clB (FMT d Ws (Int32.toNatClampNeg p0) a) (FMT d Ws (Int32.toNatClampNeg p0) b)) Ws.length (Int32.toNatClampNeg (0 : Int32)) : Nat) : Int)) from by rfl)
abbrev QF_rhymes (g : Nat → Int32) (F : Nat → Nat → Int32) (p0 : Int32) (d : Nat → Dr) (Ws : List Wd) : (Int32 × Int32 × Int32 × Int32 × Int32 × Int32 × Int32 × Int32 × (Nat → Int32) × (Nat → Int32) × (Nat → Int32) × (Nat → Int32) × (Nat → Int32) × (Nat → Int32) × (Nat → Int32) × (Nat → Int32) × (Nat → Int32) × (Nat → Int32) × (Nat → Int32) × (Nat → Int32) × (Nat → Int32) × (Nat → Int32) × (Nat → Int32) × (Nat → Int32)) → Prop := (fun t => ((¬ (0 ≤ p0.toInt ∧ p0.toInt ≤ (g 9).toInt) → (t.1).toInt = -2)) ∧ ((0 ≤ p0.toInt ∧ p0.toInt ≤ (g 9).toInt → (t.1).toInt = ((cnO (fun a b => decide (rh3 (Ws.getD a []) (Ws.getD b [])) && !(rhB (FMT d Ws (Int32.toNatClampNeg p0) a) (FMT d Ws (Int32.toNatClampNeg p0) b))) Ws.length Ws.length : Nat) : Int))) ∧ (((t.2.2.2.2.2.2.2.1).toInt ≠ 0 → MKT (t.2.2.2.2.2.2.2.2.2.2.2.2.2.2.2.2.2.2.2.2.2.2.2) (t.2.2.2.2.2.2.2.2.2.2.2.2.2.2.2.2.2.2.2.2.2.1) (t.2.2.2.2.2.2.2.2.2.2.2.2.2.2.2.2.2.2.2.2.2.2.1) d Ws (fun w s => w < Int32.toNatClampNeg (g 48) ∧ s ≤ Int32.toNatClampNeg (g 9)))))
set_option maxHeartbeats 4000000 in
set_option maxRecDepth 100000 in
theorem fn_rhymes (g : Nat → Int32) (F : Nat → Nat → Int32) (p0 : Int32) (d : Nat → Dr) (Ws : List Wd) (hI : MInv g F) (hrd : ∀ q, q < Int32.toNatClampNeg (g 9) → RVd (F 13) (F 20) (F 21) (F 12) (F 18) (F 19) (F 11) (F 14) (F 15) (F 16) (F 17) q = d q ∧ WFD (d q)) (hWs : rwW (g 48) (F 49) (F 50) 24 = Ws) (hWw : WDS Ws) (hmk : (g 51).toInt ≠ 0 → MKT (F 54) (F 52) (F 53) d Ws (fun w s => w < Int32.toNatClampNeg (g 48) ∧ s ≤ Int32.toNatClampNeg (g 9))) : pw (f_rhymes g F p0) (QF_rhymes g F p0 d Ws) := by
  unfold f_rhymes
  have hI9 : id (MInv g F) := hI
  obtain ⟨-, -, -, -, -, -, -, -, hzg9, hzg23, -, -, -, -, -, -, -, hzg48, hzg51, -, -, -, -, -, -, hzF11, hzF12, hzF13, hzF15, hzF19, hzF21, hzF24, hzF25, hzF26, hzF33, hzF38, hzF41, hzF43, hzF45, hzF46, hzF50, hzF53, hzF54, hzLQ⟩ := hI
  have zkm2 : (-2 : Int32).toInt = -2 := by decide +kernel
  have zk0 : (0 : Int32).toInt = 0 := by decide +kernel
  have zk1 : (1 : Int32).toInt = 1 := by decide +kernel
  have zk24 : (24 : Int32).toInt = 24 := by decide +kernel
  have hb9 := hzg9
  have c9 := clampI (x := g 9) (by omega)
  have hb48 := hzg48
  have c48 := clampI (x := g 48) (by omega)
  have hWl : Ws.length = Int32.toNatClampNeg (g 48) := by rw [← hWs]; exact rw_len
  have hMI2 : id (MInv g F) := show MInv g F from (MInv_i ((hI9.1)) ((hI9.2.1)) ((hI9.2.2.1)) ((hI9.2.2.2.1)) ((hI9.2.2.2.2.1)) ((hI9.2.2.2.2.2.1)) ((hI9.2.2.2.2.2.2.1)) ((hI9.2.2.2.2.2.2.2.1)) hzg9 hzg23 ((hI9.2.2.2.2.2.2.2.2.2.2.1)) ((hI9.2.2.2.2.2.2.2.2.2.2.2.1)) ((hI9.2.2.2.2.2.2.2.2.2.2.2.2.1)) ((hI9.2.2.2.2.2.2.2.2.2.2.2.2.2.1)) ((hI9.2.2.2.2.2.2.2.2.2.2.2.2.2.2.1)) ((hI9.2.2.2.2.2.2.2.2.2.2.2.2.2.2.2.1)) ((hI9.2.2.2.2.2.2.2.2.2.2.2.2.2.2.2.2.1)) hzg48 hzg51 ((hI9.2.2.2.2.2.2.2.2.2.2.2.2.2.2.2.2.2.2.2.1)) ((hI9.2.2.2.2.2.2.2.2.2.2.2.2.2.2.2.2.2.2.2.2.1)) ((hI9.2.2.2.2.2.2.2.2.2.2.2.2.2.2.2.2.2.2.2.2.2.1)) ((hI9.2.2.2.2.2.2.2.2.2.2.2.2.2.2.2.2.2.2.2.2.2.2.1)) ((hI9.2.2.2.2.2.2.2.2.2.2.2.2.2.2.2.2.2.2.2.2.2.2.2.1)) ((hI9.2.2.2.2.2.2.2.2.2.2.2.2.2.2.2.2.2.2.2.2.2.2.2.2.1)) hzF11 hzF12 hzF13 hzF15 hzF19 hzF21 hzF24 hzF25 hzF26 hzF33 hzF38 hzF41 hzF43 hzF45 hzF46 hzF50 hzF53 hzF54 hzLQ)
  refine pw_b1 (fun r2 hc2 => ?_)
  have hq2 := wp_at (ok_isStage g F p0 hMI2) hc2
  obtain ⟨f1, f2⟩ : ((r2.toInt = 1 → 0 ≤ p0.toInt ∧ p0.toInt ≤ (g 9).toInt)) ∧ ((0 ≤ r2.toInt ∧ r2.toInt ≤ 1)) := hq2
  have hx2 := pwq (fn_isStage g F p0 hMI2) hc2
  obtain ⟨p2_0, p2_1⟩ : ((r2.toInt ≠ 0 → 0 ≤ p0.toInt ∧ p0.toInt ≤ (g 9).toInt)) ∧ ((r2.toInt = 0 → ¬ (0 ≤ p0.toInt ∧ p0.toInt ≤ (g 9).toInt))) := hx2
  refine pw_ite (fun c5 => ?_) (fun c5 => ?_)
  · have c5 := congrArg Int32.toInt c5
    have qq0 : (¬ (0 ≤ p0.toInt ∧ p0.toInt ≤ (g 9).toInt) → (-2 : Int32).toInt = -2) := by intro _; omega
    have qq1 : (0 ≤ p0.toInt ∧ p0.toInt ≤ (g 9).toInt → (-2 : Int32).toInt = ((cnO (fun a b => decide (rh3 (Ws.getD a []) (Ws.getD b [])) && !(rhB (FMT d Ws (Int32.toNatClampNeg p0) a) (FMT d Ws (Int32.toNatClampNeg p0) b))) Ws.length Ws.length : Nat) : Int)) := by intro h; exfalso; exact p2_1 (by omega) h
    have qq2 : ((g 51).toInt ≠ 0 → MKT (F 54) (F 52) (F 53) d Ws (fun w s => w < Int32.toNatClampNeg (g 48) ∧ s ≤ Int32.toNatClampNeg (g 9))) := by exact hmk
    exact pw_some ⟨qq0, qq1, qq2⟩
  · have c5 := z_ne c5
    have s1 := p2_0 (by omega)
    have cp0 := clampI (x := p0) (by omega)
    have hMI12 : id (MInv g F) := show MInv g F from (MInv_i ((hI9.1)) ((hI9.2.1)) ((hI9.2.2.1)) ((hI9.2.2.2.1)) ((hI9.2.2.2.2.1)) ((hI9.2.2.2.2.2.1)) ((hI9.2.2.2.2.2.2.1)) ((hI9.2.2.2.2.2.2.2.1)) hzg9 hzg23 ((hI9.2.2.2.2.2.2.2.2.2.2.1)) ((hI9.2.2.2.2.2.2.2.2.2.2.2.1)) ((hI9.2.2.2.2.2.2.2.2.2.2.2.2.1)) ((hI9.2.2.2.2.2.2.2.2.2.2.2.2.2.1)) ((hI9.2.2.2.2.2.2.2.2.2.2.2.2.2.2.1)) ((hI9.2.2.2.2.2.2.2.2.2.2.2.2.2.2.2.1)) ((hI9.2.2.2.2.2.2.2.2.2.2.2.2.2.2.2.2.1)) hzg48 hzg51 ((hI9.2.2.2.2.2.2.2.2.2.2.2.2.2.2.2.2.2.2.2.1)) ((hI9.2.2.2.2.2.2.2.2.2.2.2.2.2.2.2.2.2.2.2.2.1)) ((hI9.2.2.2.2.2.2.2.2.2.2.2.2.2.2.2.2.2.2.2.2.2.1)) ((hI9.2.2.2.2.2.2.2.2.2.2.2.2.2.2.2.2.2.2.2.2.2.2.1)) ((hI9.2.2.2.2.2.2.2.2.2.2.2.2.2.2.2.2.2.2.2.2.2.2.2.1)) ((hI9.2.2.2.2.2.2.2.2.2.2.2.2.2.2.2.2.2.2.2.2.2.2.2.2.1)) hzF11 hzF12 hzF13 hzF15 hzF19 hzF21 hzF24 hzF25 hzF26 hzF33 hzF38 hzF41 hzF43 hzF45 hzF46 hzF50 hzF53 hzF54 hzLQ)
    refine pw_b23 (fun c12_g23 c12_g27 c12_g30 c12_g34 c12_g36 c12_g39 c12_g51 c12_F22 c12_F24 c12_F25 c12_F26 c12_F28 c12_F29 c12_F31 c12_F32 c12_F33 c12_F37 c12_F38 c12_F40 c12_F41 c12_F52 c12_F53 c12_F54 hc12 => ?_)
    have hq12 := wp_at (ok_make g F hMI12) hc12
    obtain ⟨hg3, hg4, hg5, hg6, hg7, hg8, hg9, hg10, hg11, hg12, hg13, hg14, hg15, hg16, hg17⟩ : (((0) ≤ c12_g23.toInt ∧ c12_g23.toInt ≤ 24)) ∧ (((0) ≤ c12_g27.toInt ∧ c12_g27.toInt ≤ 30)) ∧ (((0) ≤ c12_g30.toInt ∧ c12_g30.toInt ≤ 384)) ∧ (((0) ≤ c12_g34.toInt ∧ c12_g34.toInt ≤ 30)) ∧ (((0) ≤ c12_g36.toInt ∧ c12_g36.toInt ≤ 1)) ∧ (((0) ≤ c12_g39.toInt ∧ c12_g39.toInt ≤ 12)) ∧ (((0) ≤ c12_g51.toInt ∧ c12_g51.toInt ≤ 1)) ∧ (rng (0) 24 c12_F24) ∧ (rng (0) 24 c12_F25) ∧ (rng (0) 24 c12_F26) ∧ (rng (0) 24 c12_F33) ∧ (rng (0) 24 c12_F38) ∧ (rng (0) 24 c12_F41) ∧ (rng (0) 24 c12_F53) ∧ (rng (0) 12 c12_F54) := hq12
    have h812_hrd : id (∀ q, q < Int32.toNatClampNeg (g 9) → RVd (F 13) (F 20) (F 21) (F 12) (F 18) (F 19) (F 11) (F 14) (F 15) (F 16) (F 17) q = d q ∧ WFD (d q)) := show ∀ q, q < Int32.toNatClampNeg (g 9) → RVd (F 13) (F 20) (F 21) (F 12) (F 18) (F 19) (F 11) (F 14) (F 15) (F 16) (F 17) q = d q ∧ WFD (d q) from by exact hrd
    have h812_hWs : rwW (g 48) (F 49) (F 50) 24 = Ws := by exact hWs
    have h812_hWw : WDS Ws := by exact hWw
    have h812_hmk : id ((g 51).toInt ≠ 0 → MKT (F 54) (F 52) (F 53) d Ws (fun w s => w < Int32.toNatClampNeg (g 48) ∧ s ≤ Int32.toNatClampNeg (g 9))) := show (g 51).toInt ≠ 0 → MKT (F 54) (F 52) (F 53) d Ws (fun w s => w < Int32.toNatClampNeg (g 48) ∧ s ≤ Int32.toNatClampNeg (g 9)) from by exact hmk
    have hx12 := pwq (fn_make g F (d) (Ws) hMI12 h812_hrd h812_hWs h812_hWw h812_hmk) hc12
    obtain ⟨p12_0, p12_1⟩ : (MKT c12_F54 c12_F52 c12_F53 d Ws (fun w s => w < Int32.toNatClampNeg (g 48) ∧ s ≤ Int32.toNatClampNeg (g 9))) ∧ (c12_g51.toInt ≠ 0) := hx12
    have lp19 : ∀ (n19 : Nat) (y19_2 : Int32) (y19_3 : Int32), (0 ≤ y19_3.toInt ∧ y19_3.toInt ≤ 100) → (0 ≤ y19_2.toInt ∧ y19_2.toInt ≤ 100 * y19_3.toInt) → y19_3.toInt ≤ (g 48).toInt → (y19_2.toInt = ((cnO (fun a b => decide (rh3 (Ws.getD a []) (Ws.getD b [])) && !(rhB (FMT d Ws (Int32.toNatClampNeg p0) a) (FMT d Ws (Int32.toNatClampNeg p0) b))) Ws.length (Int32.toNatClampNeg y19_3) : Nat) : Int)) → pw (L_rhymes_19 g F p0 c12_g23 c12_g27 c12_g30 c12_g34 c12_g36 c12_g39 c12_g51 c12_F22 c12_F24 c12_F25 c12_F26 c12_F28 c12_F29 c12_F31 c12_F32 c12_F33 c12_F37 c12_F38 c12_F40 c12_F41 c12_F52 c12_F53 c12_F54 n19 y19_2 y19_3) (QF_rhymes g F p0 d Ws) := by
      intro n19
      induction n19 with
      | zero => intros; exact pw_none
      | succ n19 ih19 =>
        intro y19_2 y19_3 f18 f19 f20 io19
        show pw (B_rhymes_19 g F p0 c12_g23 c12_g27 c12_g30 c12_g34 c12_g36 c12_g39 c12_g51 c12_F22 c12_F24 c12_F25 c12_F26 c12_F28 c12_F29 c12_F31 c12_F32 c12_F33 c12_F37 c12_F38 c12_F40 c12_F41 c12_F52 c12_F53 c12_F54 (L_rhymes_19 g F p0 c12_g23 c12_g27 c12_g30 c12_g34 c12_g36 c12_g39 c12_g51 c12_F22 c12_F24 c12_F25 c12_F26 c12_F28 c12_F29 c12_F31 c12_F32 c12_F33 c12_F37 c12_F38 c12_F40 c12_F41 c12_F52 c12_F53 c12_F54 n19) y19_2 y19_3) _
        unfold B_rhymes_19
        refine pw_ite (fun c24 => ?_) (fun c24 => ?_)
        · have c24 := (z_le _ _).mp c24
          have qq0 : (¬ (0 ≤ p0.toInt ∧ p0.toInt ≤ (g 9).toInt) → y19_2.toInt = -2) := by intro h; exfalso; exact h s1
          have qq1 : (0 ≤ p0.toInt ∧ p0.toInt ≤ (g 9).toInt → y19_2.toInt = ((cnO (fun a b => decide (rh3 (Ws.getD a []) (Ws.getD b [])) && !(rhB (FMT d Ws (Int32.toNatClampNeg p0) a) (FMT d Ws (Int32.toNatClampNeg p0) b))) Ws.length Ws.length : Nat) : Int)) := by intro _; have k3 := clampI (x := y19_3) (by omega); have h9 := io19; rw [show Int32.toNatClampNeg y19_3 = Ws.length by omega] at h9; exact h9
          have qq2 : (c12_g51.toInt ≠ 0 → MKT c12_F54 c12_F52 c12_F53 d Ws (fun w s => w < Int32.toNatClampNeg (g 48) ∧ s ≤ Int32.toNatClampNeg (g 9))) := by exact fun _ => p12_0
          exact pw_some ⟨qq0, qq1, qq2⟩
        · have c24 := z_nle c24
          have kL3 := clampI (x := y19_3) (by omega)
          have hxL3 : Ws[Int32.toNatClampNeg y19_3]? = some ((wdl (F 49) (24 * Int32.toNatClampNeg y19_3) (Int32.toNatClampNeg ((F 50) (Int32.toNatClampNeg y19_3))))) := by rw [← hWs]; exact rw_at (by omega)
          have hgL3 : Ws.getD (Int32.toNatClampNeg y19_3) [] = (wdl (F 49) (24 * Int32.toNatClampNeg y19_3) (Int32.toNatClampNeg ((F 50) (Int32.toNatClampNeg y19_3)))) := by rw [List.getD_eq_getElem?_getD, hxL3]; rfl
          have hwL3 := hWw _ (List.mem_of_getElem? hxL3)
          rw [wdl_len] at hwL3
          have kzL3 : ((F 50) (Int32.toNatClampNeg y19_3)).toInt = ((Int32.toNatClampNeg ((F 50) (Int32.toNatClampNeg y19_3)) : Nat) : Int) := by have h9 : Int32.toNatClampNeg ((F 50) (Int32.toNatClampNeg y19_3)) = ((F 50) (Int32.toNatClampNeg y19_3)).toInt.toNat := rfl; have h8 := hwL3.1; omega
          have f24L3 : (24 * y19_3).toInt = 24 * y19_3.toInt := z_muld (by decide +kernel) (by omega) (by omega)
          have k24L3 := clampI (x := 24 * y19_3) (by omega)
          have e24L3 : Int32.toNatClampNeg (24 * y19_3) = 24 * Int32.toNatClampNeg y19_3 := by omega
          have f21 : (y19_3 + 1).toInt = y19_3.toInt + 1 := z_addc (by decide +kernel) (by omega) (by omega)
          refine pw_vl (fun x30 ex30 => ?_)
          have f22 : x30.toInt = (y19_3 + 1).toInt := congrArg Int32.toInt ex30
          refine pw_jE (fun k102 ek102 => ?_)
          have lp32 : ∀ (n32 : Nat) (y32_2 : Int32) (y32_4 : Int32), (0 ≤ y32_4.toInt ∧ y32_4.toInt ≤ 100) → (0 ≤ y32_2.toInt ∧ y32_2.toInt ≤ 100 * y19_3.toInt + y32_4.toInt) → (y32_4.toInt ≤ (g 48).toInt ∧ y19_3.toInt + 1 ≤ y32_4.toInt) → (y32_2.toInt = ((cnO (fun a b => decide (rh3 (Ws.getD a []) (Ws.getD b [])) && !(rhB (FMT d Ws (Int32.toNatClampNeg p0) a) (FMT d Ws (Int32.toNatClampNeg p0) b))) Ws.length (Int32.toNatClampNeg y19_3) + cnI (fun a b => decide (rh3 (Ws.getD a []) (Ws.getD b [])) && !(rhB (FMT d Ws (Int32.toNatClampNeg p0) a) (FMT d Ws (Int32.toNatClampNeg p0) b))) (Int32.toNatClampNeg y19_3) (Int32.toNatClampNeg y32_4 - Int32.toNatClampNeg y19_3 - 1) : Nat) : Int)) → pw (L_rhymes_32 g F p0 c12_g23 c12_g27 c12_g30 c12_g34 c12_g36 c12_g39 c12_g51 c12_F22 c12_F24 c12_F25 c12_F26 c12_F28 c12_F29 c12_F31 c12_F32 c12_F33 c12_F37 c12_F38 c12_F40 c12_F41 c12_F52 c12_F53 c12_F54 y19_3 k102 n32 y32_2 y32_4) (QF_rhymes g F p0 d Ws) := by
            intro n32
            induction n32 with
            | zero => intros; exact pw_none
            | succ n32 ih32 =>
              intro y32_2 y32_4 f23 f24 f25 ii32
              show pw (B_rhymes_32 g F p0 c12_g23 c12_g27 c12_g30 c12_g34 c12_g36 c12_g39 c12_g51 c12_F22 c12_F24 c12_F25 c12_F26 c12_F28 c12_F29 c12_F31 c12_F32 c12_F33 c12_F37 c12_F38 c12_F40 c12_F41 c12_F52 c12_F53 c12_F54 y19_3 k102 (L_rhymes_32 g F p0 c12_g23 c12_g27 c12_g30 c12_g34 c12_g36 c12_g39 c12_g51 c12_F22 c12_F24 c12_F25 c12_F26 c12_F28 c12_F29 c12_F31 c12_F32 c12_F33 c12_F37 c12_F38 c12_F40 c12_F41 c12_F52 c12_F53 c12_F54 y19_3 k102 n32) y32_2 y32_4) _
              unfold B_rhymes_32
              refine pw_ite (fun c38 => ?_) (fun c38 => ?_)
              · have c38 := (z_le _ _).mp c38
                refine pw_j1 ek102 (fun x102_2 ex102_2 => ?_)
                have ex102_2 := ex102_2.symm
                have f_x102_2 : x102_2.toInt = y32_2.toInt := by rw [ex102_2]
                have iv19_0 : (0 ≤ (y19_3 + 1).toInt ∧ (y19_3 + 1).toInt ≤ 100) := by omega
                have iv19_1 : (0 ≤ x102_2.toInt ∧ x102_2.toInt ≤ 100 * (y19_3 + 1).toInt) := by omega
                have iv19_2 : (y19_3 + 1).toInt ≤ (g 48).toInt := by omega
                have iv19_3 : (x102_2.toInt = ((cnO (fun a b => decide (rh3 (Ws.getD a []) (Ws.getD b [])) && !(rhB (FMT d Ws (Int32.toNatClampNeg p0) a) (FMT d Ws (Int32.toNatClampNeg p0) b))) Ws.length (Int32.toNatClampNeg (y19_3 + 1)) : Nat) : Int)) := by have k4 := clampI (x := y19_3 + 1) (by omega); have k5 := clampI (x := y32_4) (by omega); rw [cnO_s (k := Int32.toNatClampNeg y19_3) (j := Int32.toNatClampNeg y32_4 - Int32.toNatClampNeg y19_3 - 1) (by omega) (by omega)]; have h9 := ii32; omega
                exact ih19 x102_2 (y19_3 + 1) iv19_0 iv19_1 iv19_2 iv19_3
              · have c38 := z_nle c38
                have kL4 := clampI (x := y32_4) (by omega)
                have hxL4 : Ws[Int32.toNatClampNeg y32_4]? = some ((wdl (F 49) (24 * Int32.toNatClampNeg y32_4) (Int32.toNatClampNeg ((F 50) (Int32.toNatClampNeg y32_4))))) := by rw [← hWs]; exact rw_at (by omega)
                have hgL4 : Ws.getD (Int32.toNatClampNeg y32_4) [] = (wdl (F 49) (24 * Int32.toNatClampNeg y32_4) (Int32.toNatClampNeg ((F 50) (Int32.toNatClampNeg y32_4)))) := by rw [List.getD_eq_getElem?_getD, hxL4]; rfl
                have hwL4 := hWw _ (List.mem_of_getElem? hxL4)
                rw [wdl_len] at hwL4
                have kzL4 : ((F 50) (Int32.toNatClampNeg y32_4)).toInt = ((Int32.toNatClampNeg ((F 50) (Int32.toNatClampNeg y32_4)) : Nat) : Int) := by have h9 : Int32.toNatClampNeg ((F 50) (Int32.toNatClampNeg y32_4)) = ((F 50) (Int32.toNatClampNeg y32_4)).toInt.toNat := rfl; have h8 := hwL4.1; omega
                have f24L4 : (24 * y32_4).toInt = 24 * y32_4.toInt := z_muld (by decide +kernel) (by omega) (by omega)
                have k24L4 := clampI (x := 24 * y32_4) (by omega)
                have e24L4 : Int32.toNatClampNeg (24 * y32_4) = 24 * Int32.toNatClampNeg y32_4 := by omega
                have f27 : (24 * y19_3).toInt = 24 * y19_3.toInt := z_muld (by decide +kernel) (by omega) (by omega)
                refine pw_if (fun hb55 => ?_)
                obtain ⟨hbl55, hbr55⟩ := hb55
                have f28 := hzF50 (Int32.toNatClampNeg y19_3)
                have f29 : (24 * y32_4).toInt = 24 * y32_4.toInt := z_muld (by decide +kernel) (by omega) (by omega)
                refine pw_if (fun hb71 => ?_)
                obtain ⟨hbl71, hbr71⟩ := hb71
                have f30 := hzF50 (Int32.toNatClampNeg y32_4)
                have hpr72_0 : (0 ≤ (24 * y19_3).toInt ∧ (24 * y19_3).toInt + ((F 50) (Int32.toNatClampNeg y19_3)).toInt ≤ 2400) := by first | assumption | omega
                have hpr72_1 : 2400 ≤ 500000 := by first | assumption | omega
                have hpr72_2 : (0 ≤ (24 * y32_4).toInt ∧ (24 * y32_4).toInt + ((F 50) (Int32.toNatClampNeg y32_4)).toInt ≤ 2400) := by first | assumption | omega
                have hpr72_3 : 2400 ≤ 500000 := by first | assumption | omega
                have hpr72_4 : ((F 50) (Int32.toNatClampNeg y19_3)).toInt ≤ 24 := by first | assumption | omega
                have hpr72_5 : ((F 50) (Int32.toNatClampNeg y32_4)).toInt ≤ 24 := by first | assumption | omega
                refine pw_b1 (fun r72 hc72 => ?_)
                have hq72 := wp_at (ok_rhyme (F 49) 2400 (24 * y19_3) ((F 50) (Int32.toNatClampNeg y19_3)) (F 49) 2400 (24 * y32_4) ((F 50) (Int32.toNatClampNeg y32_4)) hpr72_0 hpr72_1 hpr72_2 hpr72_3 hpr72_4 hpr72_5) hc72
                have f31 : (0 ≤ r72.toInt ∧ r72.toInt ≤ 1) := hq72
                clear hq72
                have h872_h02 : 0 ≤ ((F 50) (Int32.toNatClampNeg y19_3)).toInt := by omega
                have h872_h05 : 0 ≤ ((F 50) (Int32.toNatClampNeg y32_4)).toInt := by omega
                have hx72 := pwq (fn_rhyme (F 49) 2400 (24 * y19_3) ((F 50) (Int32.toNatClampNeg y19_3)) (F 49) 2400 (24 * y32_4) ((F 50) (Int32.toNatClampNeg y32_4)) hpr72_0 hpr72_1 hpr72_2 hpr72_3 hpr72_4 hpr72_5 h872_h02 h872_h05) hc72
                obtain ⟨p72_0, p72_1⟩ : (id ((r72.toInt ≠ 0 → rh3 (wdl (F 49) (Int32.toNatClampNeg (24 * y19_3)) (Int32.toNatClampNeg ((F 50) (Int32.toNatClampNeg y19_3)))) (wdl (F 49) (Int32.toNatClampNeg (24 * y32_4)) (Int32.toNatClampNeg ((F 50) (Int32.toNatClampNeg y32_4))))))) ∧ (id ((r72.toInt = 0 → ¬ rh3 (wdl (F 49) (Int32.toNatClampNeg (24 * y19_3)) (Int32.toNatClampNeg ((F 50) (Int32.toNatClampNeg y19_3)))) (wdl (F 49) (Int32.toNatClampNeg (24 * y32_4)) (Int32.toNatClampNeg ((F 50) (Int32.toNatClampNeg y32_4))))))) := hx72
                rw [e24L3, e24L4] at p72_0 p72_1
                refine pw_jE (fun j94 ej94 => ?_)
                refine pw_jE (fun j93 ej93 => ?_)
                refine pw_ite (fun c75 => ?_) (fun c75 => ?_)
                · have c75 := congrArg Int32.toInt c75
                  refine pw_j0 ej93 ?_
                  refine pw_j1 ej94 (fun t94_0 et94_0 => ?_)
                  have et94_0 := et94_0.symm
                  have f_t94_0 : t94_0.toInt = 0 := by rw [et94_0]; decide +kernel
                  have f32 : (y32_2 + t94_0).toInt = y32_2.toInt + t94_0.toInt := z_add (by omega) (by omega)
                  refine pw_vl (fun x95 ex95 => ?_)
                  have f33 : x95.toInt = (y32_2 + t94_0).toInt := congrArg Int32.toInt ex95
                  have f34 : (y32_4 + 1).toInt = y32_4.toInt + (1) := z_addc (by decide +kernel) (by omega) (by omega)
                  have iv32_0 : (0 ≤ (y32_4 + 1).toInt ∧ (y32_4 + 1).toInt ≤ 100) := by omega
                  have iv32_1 : (0 ≤ x95.toInt ∧ x95.toInt ≤ 100 * y19_3.toInt + (y32_4 + 1).toInt) := by omega
                  have iv32_2 : ((y32_4 + 1).toInt ≤ (g 48).toInt ∧ y19_3.toInt + 1 ≤ (y32_4 + 1).toInt) := by omega
                  have iv32_3 : (x95.toInt = ((cnO (fun a b => decide (rh3 (Ws.getD a []) (Ws.getD b [])) && !(rhB (FMT d Ws (Int32.toNatClampNeg p0) a) (FMT d Ws (Int32.toNatClampNeg p0) b))) Ws.length (Int32.toNatClampNeg y19_3) + cnI (fun a b => decide (rh3 (Ws.getD a []) (Ws.getD b [])) && !(rhB (FMT d Ws (Int32.toNatClampNeg p0) a) (FMT d Ws (Int32.toNatClampNeg p0) b))) (Int32.toNatClampNeg y19_3) (Int32.toNatClampNeg (y32_4 + 1) - Int32.toNatClampNeg y19_3 - 1) : Nat) : Int)) := by have k5 := clampI (x := y32_4 + 1) (by omega); rw [cnI_n (k := Int32.toNatClampNeg y32_4 - Int32.toNatClampNeg y19_3 - 1) (b := Int32.toNatClampNeg y32_4) (by show (decide (rh3 (Ws.getD _ []) (Ws.getD _ [])) && !(rhB _ _)) = false; rw [hgL3, hgL4, decide_eq_false (p72_1 (by omega))]; rfl) (by omega) (by omega)]; have h9 := ii32; omega
                  exact ih32 x95 (y32_4 + 1) iv32_0 iv32_1 iv32_2 iv32_3
                · have c75 := z_ne c75
                  have hMI83 : id (MInv (upd (upd (upd (upd (upd (upd (upd g 23 c12_g23) 27 c12_g27) 30 c12_g30) 34 c12_g34) 36 c12_g36) 39 c12_g39) 51 c12_g51) (upF (upF (upF (upF (upF (upF (upF (upF (upF (upF (upF (upF (upF (upF (upF (upF F 22 c12_F22) 24 c12_F24) 25 c12_F25) 26 c12_F26) 28 c12_F28) 29 c12_F29) 31 c12_F31) 32 c12_F32) 33 c12_F33) 37 c12_F37) 38 c12_F38) 40 c12_F40) 41 c12_F41) 52 c12_F52) 53 c12_F53) 54 c12_F54)) := show MInv (upd (upd (upd (upd (upd (upd (upd g 23 c12_g23) 27 c12_g27) 30 c12_g30) 34 c12_g34) 36 c12_g36) 39 c12_g39) 51 c12_g51) (upF (upF (upF (upF (upF (upF (upF (upF (upF (upF (upF (upF (upF (upF (upF (upF F 22 c12_F22) 24 c12_F24) 25 c12_F25) 26 c12_F26) 28 c12_F28) 29 c12_F29) 31 c12_F31) 32 c12_F32) 33 c12_F33) 37 c12_F37) 38 c12_F38) 40 c12_F40) 41 c12_F41) 52 c12_F52) 53 c12_F53) 54 c12_F54) from (MInv_i ((hI9.1)) ((hI9.2.1)) ((hI9.2.2.1)) ((hI9.2.2.2.1)) ((hI9.2.2.2.2.1)) ((hI9.2.2.2.2.2.1)) ((hI9.2.2.2.2.2.2.1)) ((hI9.2.2.2.2.2.2.2.1)) hzg9 hg3 hg4 hg5 hg6 hg7 hg8 ((hI9.2.2.2.2.2.2.2.2.2.2.2.2.2.2.2.1)) ((hI9.2.2.2.2.2.2.2.2.2.2.2.2.2.2.2.2.1)) hzg48 hg9 ((hI9.2.2.2.2.2.2.2.2.2.2.2.2.2.2.2.2.2.2.2.1)) ((hI9.2.2.2.2.2.2.2.2.2.2.2.2.2.2.2.2.2.2.2.2.1)) ((hI9.2.2.2.2.2.2.2.2.2.2.2.2.2.2.2.2.2.2.2.2.2.1)) ((hI9.2.2.2.2.2.2.2.2.2.2.2.2.2.2.2.2.2.2.2.2.2.2.1)) ((hI9.2.2.2.2.2.2.2.2.2.2.2.2.2.2.2.2.2.2.2.2.2.2.2.1)) ((hI9.2.2.2.2.2.2.2.2.2.2.2.2.2.2.2.2.2.2.2.2.2.2.2.2.1)) hzF11 hzF12 hzF13 hzF15 hzF19 hzF21 hg10 hg11 hg12 hg13 hg14 hg15 hzF43 hzF45 hzF46 hzF50 hg16 hg17 hzLQ)
                  have hpr83_0 : (0 ≤ y19_3.toInt ∧ y19_3.toInt ≤ 99) := by first | assumption | omega
                  have hpr83_1 : (0 ≤ y32_4.toInt ∧ y32_4.toInt ≤ 99) := by first | assumption | omega
                  have hpr83_2 : (0 ≤ p0.toInt ∧ p0.toInt ≤ 6) := by first | assumption | omega
                  refine pw_b1 (fun r83 hc83 => ?_)
                  have hq83 := wp_at (ok_rhymeAt (upd (upd (upd (upd (upd (upd (upd g 23 c12_g23) 27 c12_g27) 30 c12_g30) 34 c12_g34) 36 c12_g36) 39 c12_g39) 51 c12_g51) (upF (upF (upF (upF (upF (upF (upF (upF (upF (upF (upF (upF (upF (upF (upF (upF F 22 c12_F22) 24 c12_F24) 25 c12_F25) 26 c12_F26) 28 c12_F28) 29 c12_F29) 31 c12_F31) 32 c12_F32) 33 c12_F33) 37 c12_F37) 38 c12_F38) 40 c12_F40) 41 c12_F41) 52 c12_F52) 53 c12_F53) 54 c12_F54) y19_3 y32_4 p0 hMI83 hpr83_0 hpr83_1 hpr83_2) hc83
                  have f35 : (0 ≤ r83.toInt ∧ r83.toInt ≤ 1) := hq83
                  clear hq83
                  have h883_hT1 : rwO (c12_F54 (7 * Int32.toNatClampNeg y19_3 + Int32.toNatClampNeg p0)) c12_F52 c12_F53 (7 * Int32.toNatClampNeg y19_3 + Int32.toNatClampNeg p0) = (FMT d Ws (Int32.toNatClampNeg p0) (Int32.toNatClampNeg y19_3)) := by exact p12_0 _ _ ⟨by omega, by omega⟩
                  have h883_hT2 : rwO (c12_F54 (7 * Int32.toNatClampNeg y32_4 + Int32.toNatClampNeg p0)) c12_F52 c12_F53 (7 * Int32.toNatClampNeg y32_4 + Int32.toNatClampNeg p0) = (FMT d Ws (Int32.toNatClampNeg p0) (Int32.toNatClampNeg y32_4)) := by exact p12_0 _ _ ⟨by omega, by omega⟩
                  have h883_hw1 : WDS (FMT d Ws (Int32.toNatClampNeg p0) (Int32.toNatClampNeg y19_3)) := by exact FMT_wds hWw (fun q hq => (hrd q (by omega)).2)
                  have h883_hw2 : WDS (FMT d Ws (Int32.toNatClampNeg p0) (Int32.toNatClampNeg y32_4)) := by exact FMT_wds hWw (fun q hq => (hrd q (by omega)).2)
                  have hx83 := pwq (fn_rhymeAt (upd (upd (upd (upd (upd (upd (upd g 23 c12_g23) 27 c12_g27) 30 c12_g30) 34 c12_g34) 36 c12_g36) 39 c12_g39) 51 c12_g51) (upF (upF (upF (upF (upF (upF (upF (upF (upF (upF (upF (upF (upF (upF (upF (upF F 22 c12_F22) 24 c12_F24) 25 c12_F25) 26 c12_F26) 28 c12_F28) 29 c12_F29) 31 c12_F31) 32 c12_F32) 33 c12_F33) 37 c12_F37) 38 c12_F38) 40 c12_F40) 41 c12_F41) 52 c12_F52) 53 c12_F53) 54 c12_F54) y19_3 y32_4 p0 (FMT d Ws (Int32.toNatClampNeg p0) (Int32.toNatClampNeg y19_3)) (FMT d Ws (Int32.toNatClampNeg p0) (Int32.toNatClampNeg y32_4)) hMI83 hpr83_0 hpr83_1 hpr83_2 h883_hT1 h883_hT2 h883_hw1 h883_hw2) hc83
                  obtain ⟨p83_0, p83_1⟩ : (id ((r83.toInt ≠ 0 → rhB (FMT d Ws (Int32.toNatClampNeg p0) (Int32.toNatClampNeg y19_3)) (FMT d Ws (Int32.toNatClampNeg p0) (Int32.toNatClampNeg y32_4)) = true))) ∧ (id ((r83.toInt = 0 → rhB (FMT d Ws (Int32.toNatClampNeg p0) (Int32.toNatClampNeg y19_3)) (FMT d Ws (Int32.toNatClampNeg p0) (Int32.toNatClampNeg y32_4)) = false))) := hx83
                  refine pw_ite (fun c86 => ?_) (fun c86 => ?_)
                  · have c86 := congrArg Int32.toInt c86
                    refine pw_j1 ej94 (fun t94_0 et94_0 => ?_)
                    have et94_0 := et94_0.symm
                    have f_t94_0 : t94_0.toInt = 1 := by rw [et94_0]; decide +kernel
                    have f36 : (y32_2 + t94_0).toInt = y32_2.toInt + t94_0.toInt := z_add (by omega) (by omega)
                    refine pw_vl (fun x95 ex95 => ?_)
                    have f37 : x95.toInt = (y32_2 + t94_0).toInt := congrArg Int32.toInt ex95
                    have f38 : (y32_4 + 1).toInt = y32_4.toInt + (1) := z_addc (by decide +kernel) (by omega) (by omega)
                    have iv32_0 : (0 ≤ (y32_4 + 1).toInt ∧ (y32_4 + 1).toInt ≤ 100) := by omega
                    have iv32_1 : (0 ≤ x95.toInt ∧ x95.toInt ≤ 100 * y19_3.toInt + (y32_4 + 1).toInt) := by omega
                    have iv32_2 : ((y32_4 + 1).toInt ≤ (g 48).toInt ∧ y19_3.toInt + 1 ≤ (y32_4 + 1).toInt) := by omega
                    have iv32_3 : (x95.toInt = ((cnO (fun a b => decide (rh3 (Ws.getD a []) (Ws.getD b [])) && !(rhB (FMT d Ws (Int32.toNatClampNeg p0) a) (FMT d Ws (Int32.toNatClampNeg p0) b))) Ws.length (Int32.toNatClampNeg y19_3) + cnI (fun a b => decide (rh3 (Ws.getD a []) (Ws.getD b [])) && !(rhB (FMT d Ws (Int32.toNatClampNeg p0) a) (FMT d Ws (Int32.toNatClampNeg p0) b))) (Int32.toNatClampNeg y19_3) (Int32.toNatClampNeg (y32_4 + 1) - Int32.toNatClampNeg y19_3 - 1) : Nat) : Int)) := by have k5 := clampI (x := y32_4 + 1) (by omega); rw [cnI_y (k := Int32.toNatClampNeg y32_4 - Int32.toNatClampNeg y19_3 - 1) (b := Int32.toNatClampNeg y32_4) (by show (decide (rh3 (Ws.getD _ []) (Ws.getD _ [])) && !(rhB _ _)) = true; rw [hgL3, hgL4, decide_eq_true (p72_0 (by omega)), p83_1 (by omega)]; rfl) (by omega) (by omega)]; have h9 := ii32; omega
                    exact ih32 x95 (y32_4 + 1) iv32_0 iv32_1 iv32_2 iv32_3
                  · have c86 := z_ne c86
                    refine pw_j0 ej93 ?_
                    refine pw_j1 ej94 (fun t94_0 et94_0 => ?_)
                    have et94_0 := et94_0.symm
                    have f_t94_0 : t94_0.toInt = 0 := by rw [et94_0]; decide +kernel
                    have f39 : (y32_2 + t94_0).toInt = y32_2.toInt + t94_0.toInt := z_add (by omega) (by omega)
                    refine pw_vl (fun x95 ex95 => ?_)
                    have f40 : x95.toInt = (y32_2 + t94_0).toInt := congrArg Int32.toInt ex95
                    have f41 : (y32_4 + 1).toInt = y32_4.toInt + (1) := z_addc (by decide +kernel) (by omega) (by omega)
                    have iv32_0 : (0 ≤ (y32_4 + 1).toInt ∧ (y32_4 + 1).toInt ≤ 100) := by omega
                    have iv32_1 : (0 ≤ x95.toInt ∧ x95.toInt ≤ 100 * y19_3.toInt + (y32_4 + 1).toInt) := by omega
                    have iv32_2 : ((y32_4 + 1).toInt ≤ (g 48).toInt ∧ y19_3.toInt + 1 ≤ (y32_4 + 1).toInt) := by omega
                    have iv32_3 : (x95.toInt = ((cnO (fun a b => decide (rh3 (Ws.getD a []) (Ws.getD b [])) && !(rhB (FMT d Ws (Int32.toNatClampNeg p0) a) (FMT d Ws (Int32.toNatClampNeg p0) b))) Ws.length (Int32.toNatClampNeg y19_3) + cnI (fun a b => decide (rh3 (Ws.getD a []) (Ws.getD b [])) && !(rhB (FMT d Ws (Int32.toNatClampNeg p0) a) (FMT d Ws (Int32.toNatClampNeg p0) b))) (Int32.toNatClampNeg y19_3) (Int32.toNatClampNeg (y32_4 + 1) - Int32.toNatClampNeg y19_3 - 1) : Nat) : Int)) := by have k5 := clampI (x := y32_4 + 1) (by omega); rw [cnI_n (k := Int32.toNatClampNeg y32_4 - Int32.toNatClampNeg y19_3 - 1) (b := Int32.toNatClampNeg y32_4) (by show (decide (rh3 (Ws.getD _ []) (Ws.getD _ [])) && !(rhB _ _)) = false; rw [hgL3, hgL4, decide_eq_true (p72_0 (by omega)), p83_0 (by omega)]; rfl) (by omega) (by omega)]; have h9 := ii32; omega
                    exact ih32 x95 (y32_4 + 1) iv32_0 iv32_1 iv32_2 iv32_3
          exact lp32 NN y19_2 x30 (show (0 ≤ x30.toInt ∧ x30.toInt ≤ 100) from by omega) (show (0 ≤ y19_2.toInt ∧ y19_2.toInt ≤ 100 * y19_3.toInt + x30.toInt) from by omega) (show (x30.toInt ≤ (g 48).toInt ∧ y19_3.toInt + 1 ≤ x30.toInt) from by omega) (show (y19_2.toInt = ((cnO (fun a b => decide (rh3 (Ws.getD a []) (Ws.getD b [])) && !(rhB (FMT d Ws (Int32.toNatClampNeg p0) a) (FMT d Ws (Int32.toNatClampNeg p0) b))) Ws.length (Int32.toNatClampNeg y19_3) + cnI (fun a b => decide (rh3 (Ws.getD a []) (Ws.getD b [])) && !(rhB (FMT d Ws (Int32.toNatClampNeg p0) a) (FMT d Ws (Int32.toNatClampNeg p0) b))) (Int32.toNatClampNeg y19_3) (Int32.toNatClampNeg x30 - Int32.toNatClampNeg y19_3 - 1) : Nat) : Int)) from by have k5 := clampI (x := x30) (by omega); rw [show Int32.toNatClampNeg x30 - Int32.toNatClampNeg y19_3 - 1 = 0 by omega]; exact io19)
    exact lp19 NN (0 : Int32) (0 : Int32) (show (0 ≤ (0 : Int32).toInt ∧ (0 : Int32).toInt ≤ 100) from by omega) (show (0 ≤ (0 : Int32).toInt ∧ (0 : Int32).toInt ≤ 100 * (0 : Int32).toInt) from by omega) (show (0 : Int32).toInt ≤ (g 48).toInt from by omega) (show ((0 : Int32).toInt = ((cnO (fun a b => decide (rh3 (Ws.getD a []) (Ws.getD b [])) && !(rhB (FMT d Ws (Int32.toNatClampNeg p0) a) (FMT d Ws (Int32.toNatClampNeg p0) b))) Ws.length (Int32.toNatClampNeg (0 : Int32)) : Nat) : Int)) from by rfl)
