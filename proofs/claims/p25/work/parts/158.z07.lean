abbrev QF_hasForm (g : Nat → Int32) (F : Nat → Nat → Int32) (p0 : Int32) (p1 : Int32) (A2 : (Nat → Int32)) (n2 : Nat) (p3 : Int32) (p4 : Int32) (T : List Wd) (W : Wd) : (Int32) → Prop := (fun t => ((t.toInt ≠ 0 → W ∈ T)) ∧ ((t.toInt = 0 → W ∉ T)))
set_option maxHeartbeats 4000000 in
set_option maxRecDepth 100000 in
theorem fn_hasForm (g : Nat → Int32) (F : Nat → Nat → Int32) (p0 : Int32) (p1 : Int32) (A2 : (Nat → Int32)) (n2 : Nat) (p3 : Int32) (p4 : Int32) (T : List Wd) (W : Wd) (hI : MInv g F) (hp0 : (0 ≤ p0.toInt ∧ p0.toInt ≤ 99)) (hp1 : (0 ≤ p1.toInt ∧ p1.toInt ≤ 6)) (hp2 : (0 ≤ p3.toInt ∧ p3.toInt + p4.toInt ≤ n2)) (hp3 : n2 ≤ 500000) (hT : rwO ((F 54) (7 * Int32.toNatClampNeg p0 + Int32.toNatClampNeg p1)) (F 52) (F 53) (7 * Int32.toNatClampNeg p0 + Int32.toNatClampNeg p1) = T) (hTw : WDS T) (hA : wdl A2 (Int32.toNatClampNeg p3) (Int32.toNatClampNeg p4) = W) (h04 : 0 ≤ p4.toInt) : pw (f_hasForm g F p0 p1 A2 n2 p3 p4) (QF_hasForm g F p0 p1 A2 n2 p3 p4 T W) := by
  unfold f_hasForm
  have hI9 : id (MInv g F) := hI
  obtain ⟨-, -, -, -, -, -, -, -, -, -, -, -, -, -, -, -, -, -, -, -, -, -, -, -, -, hzF11, hzF12, hzF13, hzF15, hzF19, hzF21, hzF24, hzF25, hzF26, hzF33, hzF38, hzF41, hzF43, hzF45, hzF46, hzF50, hzF53, hzF54, hzLQ⟩ := hI
  have zk0 : (0 : Int32).toInt = 0 := by decide +kernel
  have zk1 : (1 : Int32).toInt = 1 := by decide +kernel
  have zk7 : (7 : Int32).toInt = 7 := by decide +kernel
  have zk12 : (12 : Int32).toInt = 12 := by decide +kernel
  have zk24 : (24 : Int32).toInt = 24 := by decide +kernel
  have cp0 := clampI (x := p0) (by omega)
  have cp1 := clampI (x := p1) (by omega)
  have f7a : (7 * p0).toInt = 7 * p0.toInt := z_muld (by decide +kernel) (by omega) (by omega)
  have f7b : ((7 * p0) + p1).toInt = (7 * p0).toInt + p1.toInt := z_add (by omega) (by omega)
  have ka := clampI (x := (7 * p0) + p1) (by omega)
  have hka : Int32.toNatClampNeg ((7 * p0) + p1) = (7 * Int32.toNatClampNeg p0 + Int32.toNatClampNeg p1) := by omega
  have hFi := congrArg Int32.toInt (congrArg (F 54) hka)
  have hTl : T.length = Int32.toNatClampNeg ((F 54) (7 * Int32.toNatClampNeg p0 + Int32.toNatClampNeg p1)) := by rw [← hT]; exact rwO_len
  have hz54 := hzF54 (7 * Int32.toNatClampNeg p0 + Int32.toNatClampNeg p1)
  have c54 := clampI (x := (F 54) (7 * Int32.toNatClampNeg p0 + Int32.toNatClampNeg p1)) (by omega)
  have f1 : (7 * p0).toInt = 7 * p0.toInt := z_muld (by decide +kernel) (by omega) (by omega)
  have f2 : ((7 * p0) + p1).toInt = (7 * p0).toInt + p1.toInt := z_add (by omega) (by omega)
  have f3 : (12 * ((7 * p0) + p1)).toInt = 12 * ((7 * p0) + p1).toInt := z_muld (by decide +kernel) (by omega) (by omega)
  refine pw_vl (fun x9 ex9 => ?_)
  have f4 : x9.toInt = (12 * ((7 * p0) + p1)).toInt := congrArg Int32.toInt ex9
  have lp11 : ∀ (n11 : Nat) (y11_6 : Int32), (84 * p0.toInt + 12 * p1.toInt ≤ y11_6.toInt ∧ y11_6.toInt ≤ 84 * p0.toInt + 12 * p1.toInt + 12) → y11_6.toInt ≤ 12 * (((7 * Int32.toNatClampNeg p0 + Int32.toNatClampNeg p1) : Nat) : Int) + ((F 54) (7 * Int32.toNatClampNeg p0 + Int32.toNatClampNeg p1)).toInt → (∀ j y, 12 * (7 * Int32.toNatClampNeg p0 + Int32.toNatClampNeg p1) + j < Int32.toNatClampNeg y11_6 → T[j]? = some y → y ≠ W) → pw (L_hasForm_11 F p0 p1 A2 n2 p3 p4 n11 y11_6) (QF_hasForm g F p0 p1 A2 n2 p3 p4 T W) := by
    intro n11
    induction n11 with
    | zero => intros; exact pw_none
    | succ n11 ih11 =>
      intro y11_6 f5 f6 in11
      show pw (B_hasForm_11 F p0 p1 A2 n2 p3 p4 (L_hasForm_11 F p0 p1 A2 n2 p3 p4 n11) y11_6) _
      unfold B_hasForm_11
      have k6 := clampI (x := y11_6) (by omega)
      refine pw_if (fun hb32 => ?_)
      obtain ⟨hbl32, hbr32⟩ := hb32
      have f12 := hzF54 (Int32.toNatClampNeg ((7 * p0) + p1))
      have f13 : ((12 * ((7 * p0) + p1)) + ((F 54) (Int32.toNatClampNeg ((7 * p0) + p1)))).toInt = (12 * ((7 * p0) + p1)).toInt + ((F 54) (Int32.toNatClampNeg ((7 * p0) + p1))).toInt := z_add (by omega) (by omega)
      refine pw_ite (fun c34 => ?_) (fun c34 => ?_)
      · have c34 := (z_le _ _).mp c34
        have qq0 : ((0 : Int32).toInt ≠ 0 → W ∈ T) := by intro h; exfalso; omega
        have qq1 : ((0 : Int32).toInt = 0 → W ∉ T) := by intro _ h9; obtain ⟨j, hj⟩ := List.getElem?_of_mem h9; have hl := get_lt hj; exact in11 j W (by omega) hj rfl
        exact pw_some ⟨qq0, qq1⟩
      · have c34 := z_nle c34
        have z34 : True := trivial
        have hxk : T[Int32.toNatClampNeg y11_6 - 12 * (7 * Int32.toNatClampNeg p0 + Int32.toNatClampNeg p1)]? = some (wdl (F 52) (288 * (7 * Int32.toNatClampNeg p0 + Int32.toNatClampNeg p1) + 24 * (Int32.toNatClampNeg y11_6 - 12 * (7 * Int32.toNatClampNeg p0 + Int32.toNatClampNeg p1))) (Int32.toNatClampNeg ((F 53) (12 * (7 * Int32.toNatClampNeg p0 + Int32.toNatClampNeg p1) + (Int32.toNatClampNeg y11_6 - 12 * (7 * Int32.toNatClampNeg p0 + Int32.toNatClampNeg p1)))))) := by rw [← hT]; exact rwO_at (by omega)
        have hxw := hTw _ (List.mem_of_getElem? hxk)
        rw [wdl_len] at hxw
        have e53 : 12 * (7 * Int32.toNatClampNeg p0 + Int32.toNatClampNeg p1) + (Int32.toNatClampNeg y11_6 - 12 * (7 * Int32.toNatClampNeg p0 + Int32.toNatClampNeg p1)) = Int32.toNatClampNeg y11_6 := by omega
        rw [e53] at hxk hxw
        have kz : ((F 53) (Int32.toNatClampNeg y11_6)).toInt = ((Int32.toNatClampNeg ((F 53) (Int32.toNatClampNeg y11_6)) : Nat) : Int) := by have h9 : Int32.toNatClampNeg ((F 53) (Int32.toNatClampNeg y11_6)) = ((F 53) (Int32.toNatClampNeg y11_6)).toInt.toNat := rfl; have h8 := hxw.1; omega
        have f24 : (24 * y11_6).toInt = 24 * y11_6.toInt := z_muld (by decide +kernel) (by omega) (by omega)
        have k24 := clampI (x := 24 * y11_6) (by omega)
        have f14 : (24 * y11_6).toInt = 24 * y11_6.toInt := z_muld (by decide +kernel) (by omega) (by omega)
        refine pw_if (fun hb52 => ?_)
        obtain ⟨hbl52, hbr52⟩ := hb52
        have f15 := hzF53 (Int32.toNatClampNeg y11_6)
        have hpr58_0 : (0 ≤ (24 * y11_6).toInt ∧ (24 * y11_6).toInt + ((F 53) (Int32.toNatClampNeg y11_6)).toInt ≤ 201600) := by first | assumption | omega
        have hpr58_1 : 201600 ≤ 500000 := by first | assumption | omega
        have hpr58_2 : (0 ≤ p3.toInt ∧ p3.toInt + p4.toInt ≤ n2) := by first | assumption | omega
        have hpr58_3 : n2 ≤ 500000 := by first | assumption | omega
        refine pw_b1 (fun r58 hc58 => ?_)
        have hq58 := wp_at (ok_sameBytes (F 52) 201600 (24 * y11_6) ((F 53) (Int32.toNatClampNeg y11_6)) A2 n2 p3 p4 hpr58_0 hpr58_1 hpr58_2 hpr58_3) hc58
        have f16 : (0 ≤ r58.toInt ∧ r58.toInt ≤ 1) := hq58
        clear hq58
        have h858_h02 : 0 ≤ ((F 53) (Int32.toNatClampNeg y11_6)).toInt := by omega
        have h858_h05 : 0 ≤ p4.toInt := by exact h04
        have hx58 := pwq (fn_sameBytes (F 52) 201600 (24 * y11_6) ((F 53) (Int32.toNatClampNeg y11_6)) A2 n2 p3 p4 hpr58_0 hpr58_1 hpr58_2 hpr58_3 h858_h02 h858_h05) hc58
        obtain ⟨p58_0, p58_1⟩ : (id ((r58.toInt ≠ 0 → wdl (F 52) (Int32.toNatClampNeg (24 * y11_6)) (Int32.toNatClampNeg ((F 53) (Int32.toNatClampNeg y11_6))) = wdl A2 (Int32.toNatClampNeg p3) (Int32.toNatClampNeg p4)))) ∧ (id ((r58.toInt = 0 → wdl (F 52) (Int32.toNatClampNeg (24 * y11_6)) (Int32.toNatClampNeg ((F 53) (Int32.toNatClampNeg y11_6))) ≠ wdl A2 (Int32.toNatClampNeg p3) (Int32.toNatClampNeg p4)))) := hx58
        rw [show Int32.toNatClampNeg (24 * y11_6) = 288 * (7 * Int32.toNatClampNeg p0 + Int32.toNatClampNeg p1) + 24 * (Int32.toNatClampNeg y11_6 - 12 * (7 * Int32.toNatClampNeg p0 + Int32.toNatClampNeg p1)) by omega, hA] at p58_0 p58_1
        refine pw_ite (fun c61 => ?_) (fun c61 => ?_)
        · have c61 := congrArg Int32.toInt c61
          have f17 : (y11_6 + 1).toInt = y11_6.toInt + (1) := z_addc (by decide +kernel) (by omega) (by omega)
          have iv11_0 : (84 * p0.toInt + 12 * p1.toInt ≤ (y11_6 + 1).toInt ∧ (y11_6 + 1).toInt ≤ 84 * p0.toInt + 12 * p1.toInt + 12) := by omega
          have iv11_1 : (y11_6 + 1).toInt ≤ 12 * (((7 * Int32.toNatClampNeg p0 + Int32.toNatClampNeg p1) : Nat) : Int) + ((F 54) (7 * Int32.toNatClampNeg p0 + Int32.toNatClampNeg p1)).toInt := by omega
          have iv11_2 : (∀ j y, 12 * (7 * Int32.toNatClampNeg p0 + Int32.toNatClampNeg p1) + j < Int32.toNatClampNeg (y11_6 + 1) → T[j]? = some y → y ≠ W) := by have k7 := clampI (x := y11_6 + 1) (by omega); intro j y hj hy; by_cases q9 : 12 * (7 * Int32.toNatClampNeg p0 + Int32.toNatClampNeg p1) + j = Int32.toNatClampNeg y11_6; (have e9 : j = Int32.toNatClampNeg y11_6 - 12 * (7 * Int32.toNatClampNeg p0 + Int32.toNatClampNeg p1) := (by omega); rw [e9, hxk] at hy; cases hy; exact p58_1 (by omega)); (exact in11 j y (by omega) hy)
          exact ih11 (y11_6 + 1) iv11_0 iv11_1 iv11_2
        · have c61 := z_ne c61
          have qq0 : ((1 : Int32).toInt ≠ 0 → W ∈ T) := by intro _; have h9 := List.mem_of_getElem? hxk; rw [p58_0 (by omega)] at h9; exact h9
          have qq1 : ((1 : Int32).toInt = 0 → W ∉ T) := by intro h; exfalso; omega
          exact pw_some ⟨qq0, qq1⟩
  exact lp11 NN x9 (show (84 * p0.toInt + 12 * p1.toInt ≤ x9.toInt ∧ x9.toInt ≤ 84 * p0.toInt + 12 * p1.toInt + 12) from by omega) (show x9.toInt ≤ 12 * (((7 * Int32.toNatClampNeg p0 + Int32.toNatClampNeg p1) : Nat) : Int) + ((F 54) (7 * Int32.toNatClampNeg p0 + Int32.toNatClampNeg p1)).toInt from by omega) (show (∀ j y, 12 * (7 * Int32.toNatClampNeg p0 + Int32.toNatClampNeg p1) + j < Int32.toNatClampNeg x9 → T[j]? = some y → y ≠ W) from by intro j y hj; have k9 := clampI (x := x9) (by omega); exfalso; omega)
abbrev QF_back (g : Nat → Int32) (F : Nat → Nat → Int32) (p0 : Int32) (d : Nat → Dr) (Ws : List Wd) : (Int32 × Int32 × Int32 × Int32 × Int32 × Int32 × Int32 × Int32 × Int32 × Int32 × (Nat → Int32) × (Nat → Int32) × (Nat → Int32) × (Nat → Int32) × (Nat → Int32) × (Nat → Int32) × (Nat → Int32) × (Nat → Int32) × (Nat → Int32) × (Nat → Int32) × (Nat → Int32) × (Nat → Int32) × (Nat → Int32) × (Nat → Int32) × (Nat → Int32) × (Nat → Int32) × (Nat → Int32) × (Nat → Int32)) → Prop := (fun t => ((¬ (isw (F 0) (g 1).toInt ∧ 0 ≤ p0.toInt ∧ p0.toInt ≤ (g 9).toInt) → (t.1).toInt = -2 ∧ (t.2.2.2.2.2.2.2.2.2.1) = (g 56) ∧ (t.2.2.2.2.2.2.2.2.2.2.2.2.2.2.2.2.2.2.2.2.2.2.2.2.2.2.1) = (F 55))) ∧ ((isw (F 0) (g 1).toInt ∧ 0 ≤ p0.toInt ∧ p0.toInt ≤ (g 9).toInt → (t.1).toInt = (t.2.2.2.2.2.2.2.2.2.1).toInt ∧ NTL (t.2.2.2.2.2.2.2.2.2.1).toInt (t.2.2.2.2.2.2.2.2.2.2.2.2.2.2.2.2.2.2.2.2.2.2.2.2.2.2.1) (owF d Ws (wdl (F 0) 0 (Int32.toNatClampNeg (g 1))) (Int32.toNatClampNeg p0) Ws.length))) ∧ (((t.2.2.2.2.2.2.2.2.1).toInt ≠ 0 → MKT (t.2.2.2.2.2.2.2.2.2.2.2.2.2.2.2.2.2.2.2.2.2.2.2.2.2.1) (t.2.2.2.2.2.2.2.2.2.2.2.2.2.2.2.2.2.2.2.2.2.2.2.1) (t.2.2.2.2.2.2.2.2.2.2.2.2.2.2.2.2.2.2.2.2.2.2.2.2.1) d Ws (fun w s => w < Int32.toNatClampNeg (g 48) ∧ s ≤ Int32.toNatClampNeg (g 9)))))
set_option maxHeartbeats 4000000 in
set_option maxRecDepth 100000 in
theorem fn_back (g : Nat → Int32) (F : Nat → Nat → Int32) (p0 : Int32) (d : Nat → Dr) (Ws : List Wd) (hI : MInv g F) (hrd : ∀ q, q < Int32.toNatClampNeg (g 9) → RVd (F 13) (F 20) (F 21) (F 12) (F 18) (F 19) (F 11) (F 14) (F 15) (F 16) (F 17) q = d q ∧ WFD (d q)) (hfit : ∀ i, fits .byte (.int ((F 0) i)) = true) (hWs : rwW (g 48) (F 49) (F 50) 24 = Ws) (hWw : WDS Ws) (hmk : (g 51).toInt ≠ 0 → MKT (F 54) (F 52) (F 53) d Ws (fun w s => w < Int32.toNatClampNeg (g 48) ∧ s ≤ Int32.toNatClampNeg (g 9))) : pw (f_back g F p0) (QF_back g F p0 d Ws) := by
  unfold f_back
  have hI9 : id (MInv g F) := hI
  obtain ⟨hzg1, -, -, -, -, -, -, -, hzg9, -, -, -, -, -, -, -, -, hzg48, hzg51, hzg56, -, -, -, -, -, hzF11, hzF12, hzF13, hzF15, hzF19, hzF21, hzF24, hzF25, hzF26, hzF33, hzF38, hzF41, hzF43, hzF45, hzF46, hzF50, hzF53, hzF54, hzLQ⟩ := hI
  have zkm2 : (-2 : Int32).toInt = -2 := by decide +kernel
  have zk0 : (0 : Int32).toInt = 0 := by decide +kernel
  have zk1 : (1 : Int32).toInt = 1 := by decide +kernel
  have hb9 := hzg9
  have c9 := clampI (x := g 9) (by omega)
  have hb48 := hzg48
  have c48 := clampI (x := g 48) (by omega)
  have hWl : Ws.length = Int32.toNatClampNeg (g 48) := by rw [← hWs]; exact rw_len
  have hMI1 : id (MInv g F) := show MInv g F from (MInv_i hzg1 ((hI9.2.1)) ((hI9.2.2.1)) ((hI9.2.2.2.1)) ((hI9.2.2.2.2.1)) ((hI9.2.2.2.2.2.1)) ((hI9.2.2.2.2.2.2.1)) ((hI9.2.2.2.2.2.2.2.1)) hzg9 ((hI9.2.2.2.2.2.2.2.2.2.1)) ((hI9.2.2.2.2.2.2.2.2.2.2.1)) ((hI9.2.2.2.2.2.2.2.2.2.2.2.1)) ((hI9.2.2.2.2.2.2.2.2.2.2.2.2.1)) ((hI9.2.2.2.2.2.2.2.2.2.2.2.2.2.1)) ((hI9.2.2.2.2.2.2.2.2.2.2.2.2.2.2.1)) ((hI9.2.2.2.2.2.2.2.2.2.2.2.2.2.2.2.1)) ((hI9.2.2.2.2.2.2.2.2.2.2.2.2.2.2.2.2.1)) hzg48 hzg51 hzg56 ((hI9.2.2.2.2.2.2.2.2.2.2.2.2.2.2.2.2.2.2.2.2.1)) ((hI9.2.2.2.2.2.2.2.2.2.2.2.2.2.2.2.2.2.2.2.2.2.1)) ((hI9.2.2.2.2.2.2.2.2.2.2.2.2.2.2.2.2.2.2.2.2.2.2.1)) ((hI9.2.2.2.2.2.2.2.2.2.2.2.2.2.2.2.2.2.2.2.2.2.2.2.1)) ((hI9.2.2.2.2.2.2.2.2.2.2.2.2.2.2.2.2.2.2.2.2.2.2.2.2.1)) hzF11 hzF12 hzF13 hzF15 hzF19 hzF21 hzF24 hzF25 hzF26 hzF33 hzF38 hzF41 hzF43 hzF45 hzF46 hzF50 hzF53 hzF54 hzLQ)
  refine pw_b4 (fun r1 c1_g1 c1_g23 c1_F22 hc1 => ?_)
  have hq1 := wp_at (ok_readWord g F hMI1) hc1
  obtain ⟨hg1, hg2, f3, f4, f5⟩ : (((0) ≤ c1_g1.toInt ∧ c1_g1.toInt ≤ 2000)) ∧ (((0) ≤ c1_g23.toInt ∧ c1_g23.toInt ≤ 24)) ∧ (c1_g1.toInt = 0) ∧ (id ((r1.toInt = 1 → 1 ≤ c1_g23.toInt))) ∧ ((0 ≤ r1.toInt ∧ r1.toInt ≤ 1)) := hq1
  have h81_hfit : ∀ i, fits .byte (.int ((F 0) i)) = true := by exact hfit
  have hx1 := pwq (fn_readWord g F hMI1 h81_hfit) hc1
  obtain ⟨p1_0, p1_1⟩ : (id ((r1.toInt ≠ 0 → isw (F 0) (g 1).toInt ∧ c1_g23.toInt = (g 1).toInt ∧ wdl c1_F22 0 (Int32.toNatClampNeg c1_g23) = wdl (F 0) 0 (Int32.toNatClampNeg (g 1))))) ∧ (id ((r1.toInt = 0 → ¬ isw (F 0) (g 1).toInt))) := hx1
  refine pw_jE (fun j15 ej15 => ?_)
  refine pw_ite (fun c4 => ?_) (fun c4 => ?_)
  · have c4 := congrArg Int32.toInt c4
    refine pw_j0 ej15 ?_
    have qq0 : (¬ (isw (F 0) (g 1).toInt ∧ 0 ≤ p0.toInt ∧ p0.toInt ≤ (g 9).toInt) → (-2 : Int32).toInt = -2 ∧ (g 56) = (g 56) ∧ (F 55) = (F 55)) := by intro _; exact ⟨by omega, rfl, rfl⟩
    have qq1 : (isw (F 0) (g 1).toInt ∧ 0 ≤ p0.toInt ∧ p0.toInt ≤ (g 9).toInt → (-2 : Int32).toInt = (g 56).toInt ∧ NTL (g 56).toInt (F 55) (owF d Ws (wdl (F 0) 0 (Int32.toNatClampNeg (g 1))) (Int32.toNatClampNeg p0) Ws.length)) := by intro h; exfalso; exact p1_1 (by omega) h.1
    have qq2 : ((g 51).toInt ≠ 0 → MKT (F 54) (F 52) (F 53) d Ws (fun w s => w < Int32.toNatClampNeg (g 48) ∧ s ≤ Int32.toNatClampNeg (g 9))) := by exact hmk
    exact pw_some ⟨qq0, qq1, qq2⟩
  · have c4 := z_ne c4
    have hMI9 : id (MInv (upd (upd g 1 c1_g1) 23 c1_g23) (upF F 22 c1_F22)) := show MInv (upd (upd g 1 c1_g1) 23 c1_g23) (upF F 22 c1_F22) from (MInv_i hg1 ((hI9.2.1)) ((hI9.2.2.1)) ((hI9.2.2.2.1)) ((hI9.2.2.2.2.1)) ((hI9.2.2.2.2.2.1)) ((hI9.2.2.2.2.2.2.1)) ((hI9.2.2.2.2.2.2.2.1)) hzg9 hg2 ((hI9.2.2.2.2.2.2.2.2.2.2.1)) ((hI9.2.2.2.2.2.2.2.2.2.2.2.1)) ((hI9.2.2.2.2.2.2.2.2.2.2.2.2.1)) ((hI9.2.2.2.2.2.2.2.2.2.2.2.2.2.1)) ((hI9.2.2.2.2.2.2.2.2.2.2.2.2.2.2.1)) ((hI9.2.2.2.2.2.2.2.2.2.2.2.2.2.2.2.1)) ((hI9.2.2.2.2.2.2.2.2.2.2.2.2.2.2.2.2.1)) hzg48 hzg51 hzg56 ((hI9.2.2.2.2.2.2.2.2.2.2.2.2.2.2.2.2.2.2.2.2.1)) ((hI9.2.2.2.2.2.2.2.2.2.2.2.2.2.2.2.2.2.2.2.2.2.1)) ((hI9.2.2.2.2.2.2.2.2.2.2.2.2.2.2.2.2.2.2.2.2.2.2.1)) ((hI9.2.2.2.2.2.2.2.2.2.2.2.2.2.2.2.2.2.2.2.2.2.2.2.1)) ((hI9.2.2.2.2.2.2.2.2.2.2.2.2.2.2.2.2.2.2.2.2.2.2.2.2.1)) hzF11 hzF12 hzF13 hzF15 hzF19 hzF21 hzF24 hzF25 hzF26 hzF33 hzF38 hzF41 hzF43 hzF45 hzF46 hzF50 hzF53 hzF54 hzLQ)
    refine pw_b1 (fun r9 hc9 => ?_)
    have hq9 := wp_at (ok_isStage (upd (upd g 1 c1_g1) 23 c1_g23) (upF F 22 c1_F22) p0 hMI9) hc9
    obtain ⟨f6, f7⟩ : ((r9.toInt = 1 → 0 ≤ p0.toInt ∧ p0.toInt ≤ (g 9).toInt)) ∧ ((0 ≤ r9.toInt ∧ r9.toInt ≤ 1)) := hq9
    have hx9 := pwq (fn_isStage (upd (upd g 1 c1_g1) 23 c1_g23) (upF F 22 c1_F22) p0 hMI9) hc9
    obtain ⟨p9_0, p9_1⟩ : ((r9.toInt ≠ 0 → 0 ≤ p0.toInt ∧ p0.toInt ≤ (g 9).toInt)) ∧ ((r9.toInt = 0 → ¬ (0 ≤ p0.toInt ∧ p0.toInt ≤ (g 9).toInt))) := hx9
    refine pw_ite (fun c12 => ?_) (fun c12 => ?_)
    · have c12 := congrArg Int32.toInt c12
      refine pw_j0 ej15 ?_
      have qq0 : (¬ (isw (F 0) (g 1).toInt ∧ 0 ≤ p0.toInt ∧ p0.toInt ≤ (g 9).toInt) → (-2 : Int32).toInt = -2 ∧ (g 56) = (g 56) ∧ (F 55) = (F 55)) := by intro _; exact ⟨by omega, rfl, rfl⟩
      have qq1 : (isw (F 0) (g 1).toInt ∧ 0 ≤ p0.toInt ∧ p0.toInt ≤ (g 9).toInt → (-2 : Int32).toInt = (g 56).toInt ∧ NTL (g 56).toInt (F 55) (owF d Ws (wdl (F 0) 0 (Int32.toNatClampNeg (g 1))) (Int32.toNatClampNeg p0) Ws.length)) := by intro h; exfalso; exact p9_1 (by omega) h.2
      have qq2 : ((g 51).toInt ≠ 0 → MKT (F 54) (F 52) (F 53) d Ws (fun w s => w < Int32.toNatClampNeg (g 48) ∧ s ≤ Int32.toNatClampNeg (g 9))) := by exact hmk
      exact pw_some ⟨qq0, qq1, qq2⟩
    · have c12 := z_ne c12
      obtain ⟨i1, i2, i3⟩ := p1_0 (by omega)
      have s1 := p9_0 (by omega)
      have cp0 := clampI (x := p0) (by omega)
      have i1a := i1.1
      have cg1 := clampI (x := g 1) (by omega)
      have hbw : BW (wdl (F 0) 0 (Int32.toNatClampNeg (g 1))) := fun y hy => by unfold wdl at hy; obtain ⟨j, _, e9⟩ := List.mem_map.mp hy; rw [← e9]; exact fit_id (hfit _)
      have c23 := clampI (x := c1_g23) (by omega)
      refine pw_jE (fun k48 ek48 => ?_)
      have lp25 : ∀ (n25 : Nat) (y25_3 : Int32) (d25_F57 : (Nat → Int32)), 0 ≤ y25_3.toInt → y25_3.toInt ≤ c1_g23.toInt → (wdl d25_F57 0 (Int32.toNatClampNeg y25_3) = wdl c1_F22 0 (Int32.toNatClampNeg y25_3)) → pw (L_back_25 c1_g23 c1_F22 k48 n25 y25_3 d25_F57) (QF_back g F p0 d Ws) := by
        intro n25
        induction n25 with
        | zero => intros; exact pw_none
        | succ n25 ih25 =>
          intro y25_3 d25_F57 f8 f9 ia25
          show pw (B_back_25 c1_g23 c1_F22 k48 (L_back_25 c1_g23 c1_F22 k48 n25) y25_3 d25_F57) _
          unfold B_back_25
          refine pw_ite (fun c27 => ?_) (fun c27 => ?_)
          · have c27 := (z_le _ _).mp c27
            refine pw_j1 ek48 (fun z48_1 ez48_1 => ?_)
            subst ez48_1
            have hMI49 : id (MInv (upd (upd g 1 c1_g1) 23 c1_g23) (upF (upF F 22 c1_F22) 57 d25_F57)) := show MInv (upd (upd g 1 c1_g1) 23 c1_g23) (upF (upF F 22 c1_F22) 57 d25_F57) from (MInv_i hg1 ((hI9.2.1)) ((hI9.2.2.1)) ((hI9.2.2.2.1)) ((hI9.2.2.2.2.1)) ((hI9.2.2.2.2.2.1)) ((hI9.2.2.2.2.2.2.1)) ((hI9.2.2.2.2.2.2.2.1)) hzg9 hg2 ((hI9.2.2.2.2.2.2.2.2.2.2.1)) ((hI9.2.2.2.2.2.2.2.2.2.2.2.1)) ((hI9.2.2.2.2.2.2.2.2.2.2.2.2.1)) ((hI9.2.2.2.2.2.2.2.2.2.2.2.2.2.1)) ((hI9.2.2.2.2.2.2.2.2.2.2.2.2.2.2.1)) ((hI9.2.2.2.2.2.2.2.2.2.2.2.2.2.2.2.1)) ((hI9.2.2.2.2.2.2.2.2.2.2.2.2.2.2.2.2.1)) hzg48 hzg51 hzg56 ((hI9.2.2.2.2.2.2.2.2.2.2.2.2.2.2.2.2.2.2.2.2.1)) ((hI9.2.2.2.2.2.2.2.2.2.2.2.2.2.2.2.2.2.2.2.2.2.1)) ((hI9.2.2.2.2.2.2.2.2.2.2.2.2.2.2.2.2.2.2.2.2.2.2.1)) ((hI9.2.2.2.2.2.2.2.2.2.2.2.2.2.2.2.2.2.2.2.2.2.2.2.1)) ((hI9.2.2.2.2.2.2.2.2.2.2.2.2.2.2.2.2.2.2.2.2.2.2.2.2.1)) hzF11 hzF12 hzF13 hzF15 hzF19 hzF21 hzF24 hzF25 hzF26 hzF33 hzF38 hzF41 hzF43 hzF45 hzF46 hzF50 hzF53 hzF54 hzLQ)
            refine pw_b23 (fun c49_g23 c49_g27 c49_g30 c49_g34 c49_g36 c49_g39 c49_g51 c49_F22 c49_F24 c49_F25 c49_F26 c49_F28 c49_F29 c49_F31 c49_F32 c49_F33 c49_F37 c49_F38 c49_F40 c49_F41 c49_F52 c49_F53 c49_F54 hc49 => ?_)
            have hq49 := wp_at (ok_make (upd (upd g 1 c1_g1) 23 c1_g23) (upF (upF F 22 c1_F22) 57 d25_F57) hMI49) hc49
            obtain ⟨hg10, hg11, hg12, hg13, hg14, hg15, hg16, hg17, hg18, hg19, hg20, hg21, hg22, hg23, hg24⟩ : (((0) ≤ c49_g23.toInt ∧ c49_g23.toInt ≤ 24)) ∧ (((0) ≤ c49_g27.toInt ∧ c49_g27.toInt ≤ 30)) ∧ (((0) ≤ c49_g30.toInt ∧ c49_g30.toInt ≤ 384)) ∧ (((0) ≤ c49_g34.toInt ∧ c49_g34.toInt ≤ 30)) ∧ (((0) ≤ c49_g36.toInt ∧ c49_g36.toInt ≤ 1)) ∧ (((0) ≤ c49_g39.toInt ∧ c49_g39.toInt ≤ 12)) ∧ (((0) ≤ c49_g51.toInt ∧ c49_g51.toInt ≤ 1)) ∧ (rng (0) 24 c49_F24) ∧ (rng (0) 24 c49_F25) ∧ (rng (0) 24 c49_F26) ∧ (rng (0) 24 c49_F33) ∧ (rng (0) 24 c49_F38) ∧ (rng (0) 24 c49_F41) ∧ (rng (0) 24 c49_F53) ∧ (rng (0) 12 c49_F54) := hq49
            have h849_hrd : id (∀ q, q < Int32.toNatClampNeg (g 9) → RVd (F 13) (F 20) (F 21) (F 12) (F 18) (F 19) (F 11) (F 14) (F 15) (F 16) (F 17) q = d q ∧ WFD (d q)) := show ∀ q, q < Int32.toNatClampNeg (g 9) → RVd (F 13) (F 20) (F 21) (F 12) (F 18) (F 19) (F 11) (F 14) (F 15) (F 16) (F 17) q = d q ∧ WFD (d q) from by exact hrd
            have h849_hWs : rwW (g 48) (F 49) (F 50) 24 = Ws := by exact hWs
            have h849_hWw : WDS Ws := by exact hWw
            have h849_hmk : id ((g 51).toInt ≠ 0 → MKT (F 54) (F 52) (F 53) d Ws (fun w s => w < Int32.toNatClampNeg (g 48) ∧ s ≤ Int32.toNatClampNeg (g 9))) := show (g 51).toInt ≠ 0 → MKT (F 54) (F 52) (F 53) d Ws (fun w s => w < Int32.toNatClampNeg (g 48) ∧ s ≤ Int32.toNatClampNeg (g 9)) from by exact hmk
            have hx49 := pwq (fn_make (upd (upd g 1 c1_g1) 23 c1_g23) (upF (upF F 22 c1_F22) 57 d25_F57) (d) (Ws) hMI49 h849_hrd h849_hWs h849_hWw h849_hmk) hc49
            obtain ⟨p49_0, p49_1⟩ : (MKT c49_F54 c49_F52 c49_F53 d Ws (fun w s => w < Int32.toNatClampNeg (g 48) ∧ s ≤ Int32.toNatClampNeg (g 9))) ∧ (c49_g51.toInt ≠ 0) := hx49
            have hask : wdl d25_F57 0 (Int32.toNatClampNeg c1_g23) = (wdl (F 0) 0 (Int32.toNatClampNeg (g 1))) := by have k3 := clampI (x := y25_3) (by omega); have h9 := ia25; rw [show Int32.toNatClampNeg y25_3 = Int32.toNatClampNeg c1_g23 by omega, i3] at h9; exact h9
            have hg25 : ((0) ≤ (0 : Int32).toInt ∧ (0 : Int32).toInt ≤ 100) := ⟨by omega, by omega⟩
            have lp59 : ∀ (n59 : Nat) (y59_3 : Int32) (d59_g56 : Int32) (d59_F55 : (Nat → Int32)), ((0) ≤ d59_g56.toInt ∧ d59_g56.toInt ≤ 100) → (0 ≤ y59_3.toInt ∧ y59_3.toInt ≤ 100) → d59_g56.toInt ≤ y59_3.toInt → y59_3.toInt ≤ (g 48).toInt → (NTL d59_g56.toInt d59_F55 (owF d Ws (wdl (F 0) 0 (Int32.toNatClampNeg (g 1))) (Int32.toNatClampNeg p0) (Int32.toNatClampNeg y59_3))) → pw (L_back_59 g F p0 c1_g1 c1_g23 d25_F57 c49_g23 c49_g27 c49_g30 c49_g34 c49_g36 c49_g39 c49_g51 c49_F22 c49_F24 c49_F25 c49_F26 c49_F28 c49_F29 c49_F31 c49_F32 c49_F33 c49_F37 c49_F38 c49_F40 c49_F41 c49_F52 c49_F53 c49_F54 n59 y59_3 d59_g56 d59_F55) (QF_back g F p0 d Ws) := by
              intro n59
              induction n59 with
              | zero => intros; exact pw_none
              | succ n59 ih59 =>
                intro y59_3 d59_g56 d59_F55 hg26 f27 f28 f29 io59
                show pw (B_back_59 g F p0 c1_g1 c1_g23 d25_F57 c49_g23 c49_g27 c49_g30 c49_g34 c49_g36 c49_g39 c49_g51 c49_F22 c49_F24 c49_F25 c49_F26 c49_F28 c49_F29 c49_F31 c49_F32 c49_F33 c49_F37 c49_F38 c49_F40 c49_F41 c49_F52 c49_F53 c49_F54 (L_back_59 g F p0 c1_g1 c1_g23 d25_F57 c49_g23 c49_g27 c49_g30 c49_g34 c49_g36 c49_g39 c49_g51 c49_F22 c49_F24 c49_F25 c49_F26 c49_F28 c49_F29 c49_F31 c49_F32 c49_F33 c49_F37 c49_F38 c49_F40 c49_F41 c49_F52 c49_F53 c49_F54 n59) y59_3 d59_g56 d59_F55) _
                unfold B_back_59
                refine pw_ite (fun c64 => ?_) (fun c64 => ?_)
                · have c64 := (z_le _ _).mp c64
                  have qq0 : (¬ (isw (F 0) (g 1).toInt ∧ 0 ≤ p0.toInt ∧ p0.toInt ≤ (g 9).toInt) → d59_g56.toInt = -2 ∧ d59_g56 = (g 56) ∧ d59_F55 = (F 55)) := by intro h; exfalso; exact h ⟨i1, s1⟩
                  have qq1 : (isw (F 0) (g 1).toInt ∧ 0 ≤ p0.toInt ∧ p0.toInt ≤ (g 9).toInt → d59_g56.toInt = d59_g56.toInt ∧ NTL d59_g56.toInt d59_F55 (owF d Ws (wdl (F 0) 0 (Int32.toNatClampNeg (g 1))) (Int32.toNatClampNeg p0) Ws.length)) := by intro _; refine ⟨rfl, ?_⟩; have k3 := clampI (x := y59_3) (by omega); have h9 := io59; rw [show Int32.toNatClampNeg y59_3 = Ws.length by omega] at h9; exact h9
                  have qq2 : (c49_g51.toInt ≠ 0 → MKT c49_F54 c49_F52 c49_F53 d Ws (fun w s => w < Int32.toNatClampNeg (g 48) ∧ s ≤ Int32.toNatClampNeg (g 9))) := by exact fun _ => p49_0
                  exact pw_some ⟨qq0, qq1, qq2⟩
                · have c64 := z_nle c64
                  have k3 := clampI (x := y59_3) (by omega)
                  have hMI76 : id (MInv (upd (upd (upd (upd (upd (upd (upd (upd (upd g 1 c1_g1) 23 c49_g23) 27 c49_g27) 30 c49_g30) 34 c49_g34) 36 c49_g36) 39 c49_g39) 51 c49_g51) 56 d59_g56) (upF (upF (upF (upF (upF (upF (upF (upF (upF (upF (upF (upF (upF (upF (upF (upF (upF (upF F 22 c49_F22) 24 c49_F24) 25 c49_F25) 26 c49_F26) 28 c49_F28) 29 c49_F29) 31 c49_F31) 32 c49_F32) 33 c49_F33) 37 c49_F37) 38 c49_F38) 40 c49_F40) 41 c49_F41) 52 c49_F52) 53 c49_F53) 54 c49_F54) 55 d59_F55) 57 d25_F57)) := show MInv (upd (upd (upd (upd (upd (upd (upd (upd (upd g 1 c1_g1) 23 c49_g23) 27 c49_g27) 30 c49_g30) 34 c49_g34) 36 c49_g36) 39 c49_g39) 51 c49_g51) 56 d59_g56) (upF (upF (upF (upF (upF (upF (upF (upF (upF (upF (upF (upF (upF (upF (upF (upF (upF (upF F 22 c49_F22) 24 c49_F24) 25 c49_F25) 26 c49_F26) 28 c49_F28) 29 c49_F29) 31 c49_F31) 32 c49_F32) 33 c49_F33) 37 c49_F37) 38 c49_F38) 40 c49_F40) 41 c49_F41) 52 c49_F52) 53 c49_F53) 54 c49_F54) 55 d59_F55) 57 d25_F57) from (MInv_i hg1 ((hI9.2.1)) ((hI9.2.2.1)) ((hI9.2.2.2.1)) ((hI9.2.2.2.2.1)) ((hI9.2.2.2.2.2.1)) ((hI9.2.2.2.2.2.2.1)) ((hI9.2.2.2.2.2.2.2.1)) hzg9 hg10 hg11 hg12 hg13 hg14 hg15 ((hI9.2.2.2.2.2.2.2.2.2.2.2.2.2.2.2.1)) ((hI9.2.2.2.2.2.2.2.2.2.2.2.2.2.2.2.2.1)) hzg48 hg16 hg26 ((hI9.2.2.2.2.2.2.2.2.2.2.2.2.2.2.2.2.2.2.2.2.1)) ((hI9.2.2.2.2.2.2.2.2.2.2.2.2.2.2.2.2.2.2.2.2.2.1)) ((hI9.2.2.2.2.2.2.2.2.2.2.2.2.2.2.2.2.2.2.2.2.2.2.1)) ((hI9.2.2.2.2.2.2.2.2.2.2.2.2.2.2.2.2.2.2.2.2.2.2.2.1)) ((hI9.2.2.2.2.2.2.2.2.2.2.2.2.2.2.2.2.2.2.2.2.2.2.2.2.1)) hzF11 hzF12 hzF13 hzF15 hzF19 hzF21 hg17 hg18 hg19 hg20 hg21 hg22 hzF43 hzF45 hzF46 hzF50 hg23 hg24 hzLQ)
                  have hpr76_0 : (0 ≤ y59_3.toInt ∧ y59_3.toInt ≤ 99) := by first | assumption | omega
                  have hpr76_1 : (0 ≤ p0.toInt ∧ p0.toInt ≤ 6) := by first | assumption | omega
                  have hpr76_2 : (0 ≤ (0 : Int32).toInt ∧ (0 : Int32).toInt + c1_g23.toInt ≤ 24) := by first | assumption | omega
                  have hpr76_3 : 24 ≤ 500000 := by first | assumption | omega
                  refine pw_b1 (fun r76 hc76 => ?_)
                  have hq76 := wp_at (ok_hasForm (upd (upd (upd (upd (upd (upd (upd (upd (upd g 1 c1_g1) 23 c49_g23) 27 c49_g27) 30 c49_g30) 34 c49_g34) 36 c49_g36) 39 c49_g39) 51 c49_g51) 56 d59_g56) (upF (upF (upF (upF (upF (upF (upF (upF (upF (upF (upF (upF (upF (upF (upF (upF (upF (upF F 22 c49_F22) 24 c49_F24) 25 c49_F25) 26 c49_F26) 28 c49_F28) 29 c49_F29) 31 c49_F31) 32 c49_F32) 33 c49_F33) 37 c49_F37) 38 c49_F38) 40 c49_F40) 41 c49_F41) 52 c49_F52) 53 c49_F53) 54 c49_F54) 55 d59_F55) 57 d25_F57) y59_3 p0 d25_F57 24 (0 : Int32) c1_g23 hMI76 hpr76_0 hpr76_1 hpr76_2 hpr76_3) hc76
                  have f30 : (0 ≤ r76.toInt ∧ r76.toInt ≤ 1) := hq76
                  clear hq76
                  have h876_hT : rwO (c49_F54 (7 * Int32.toNatClampNeg y59_3 + Int32.toNatClampNeg p0)) c49_F52 c49_F53 (7 * Int32.toNatClampNeg y59_3 + Int32.toNatClampNeg p0) = (FMT d Ws (Int32.toNatClampNeg p0) (Int32.toNatClampNeg y59_3)) := by exact p49_0 _ _ ⟨by omega, by omega⟩
                  have h876_hTw : WDS (FMT d Ws (Int32.toNatClampNeg p0) (Int32.toNatClampNeg y59_3)) := by exact FMT_wds hWw (fun q hq => (hrd q (by omega)).2)
                  have h876_hA : wdl d25_F57 (Int32.toNatClampNeg (0 : Int32)) (Int32.toNatClampNeg c1_g23) = ((wdl (F 0) 0 (Int32.toNatClampNeg (g 1)))) := by exact hask
                  have h876_h04 : 0 ≤ c1_g23.toInt := by omega
                  have hx76 := pwq (fn_hasForm (upd (upd (upd (upd (upd (upd (upd (upd (upd g 1 c1_g1) 23 c49_g23) 27 c49_g27) 30 c49_g30) 34 c49_g34) 36 c49_g36) 39 c49_g39) 51 c49_g51) 56 d59_g56) (upF (upF (upF (upF (upF (upF (upF (upF (upF (upF (upF (upF (upF (upF (upF (upF (upF (upF F 22 c49_F22) 24 c49_F24) 25 c49_F25) 26 c49_F26) 28 c49_F28) 29 c49_F29) 31 c49_F31) 32 c49_F32) 33 c49_F33) 37 c49_F37) 38 c49_F38) 40 c49_F40) 41 c49_F41) 52 c49_F52) 53 c49_F53) 54 c49_F54) 55 d59_F55) 57 d25_F57) y59_3 p0 d25_F57 24 (0 : Int32) c1_g23 (FMT d Ws (Int32.toNatClampNeg p0) (Int32.toNatClampNeg y59_3)) ((wdl (F 0) 0 (Int32.toNatClampNeg (g 1)))) hMI76 hpr76_0 hpr76_1 hpr76_2 hpr76_3 h876_hT h876_hTw h876_hA h876_h04) hc76
                  obtain ⟨p76_0, p76_1⟩ : (id ((r76.toInt ≠ 0 → ((wdl (F 0) 0 (Int32.toNatClampNeg (g 1)))) ∈ (FMT d Ws (Int32.toNatClampNeg p0) (Int32.toNatClampNeg y59_3))))) ∧ (id ((r76.toInt = 0 → ((wdl (F 0) 0 (Int32.toNatClampNeg (g 1)))) ∉ (FMT d Ws (Int32.toNatClampNeg p0) (Int32.toNatClampNeg y59_3))))) := hx76
                  refine pw_jE (fun j105 ej105 => ?_)
                  refine pw_ite (fun c79 => ?_) (fun c79 => ?_)
                  · have c79 := congrArg Int32.toInt c79
                    refine pw_j2 ej105 (fun z105_1 ez105_1 z105_2 ez105_2 => ?_)
                    subst ez105_1 ez105_2
                    have f31 : (y59_3 + 1).toInt = y59_3.toInt + (1) := z_addc (by decide +kernel) (by omega) (by omega)
                    have iv59_0 : (0 ≤ (y59_3 + 1).toInt ∧ (y59_3 + 1).toInt ≤ 100) := by omega
                    have iv59_1 : d59_g56.toInt ≤ (y59_3 + 1).toInt := by omega
                    have iv59_2 : (y59_3 + 1).toInt ≤ (g 48).toInt := by omega
                    have iv59_3 : (NTL d59_g56.toInt d59_F55 (owF d Ws (wdl (F 0) 0 (Int32.toNatClampNeg (g 1))) (Int32.toNatClampNeg p0) (Int32.toNatClampNeg (y59_3 + 1)))) := by have k4 := clampI (x := y59_3 + 1) (by omega); rw [show Int32.toNatClampNeg (y59_3 + 1) = Int32.toNatClampNeg y59_3 + 1 by omega, owF_no (p76_1 (by omega))]; exact io59
                    exact ih59 (y59_3 + 1) d59_g56 d59_F55 hg26 iv59_0 iv59_1 iv59_2 iv59_3
                  · have c79 := z_ne c79
                    refine pw_if (fun hb94 => ?_)
                    obtain ⟨hbl94, hbr94⟩ := hb94
                    refine pw_vl (fun w94 ew94 => ?_)
                    have f32 : (d59_g56 + 1).toInt = d59_g56.toInt + 1 := z_addc (by decide +kernel) (by omega) (by omega)
                    refine pw_vl (fun x102 ex102 => ?_)
                    have f33 : x102.toInt = (d59_g56 + 1).toInt := congrArg Int32.toInt ex102
                    have hg34 : ((0) ≤ x102.toInt ∧ x102.toInt ≤ 100) := ⟨by omega, by omega⟩
                    refine pw_j2 ej105 (fun z105_1 ez105_1 z105_2 ez105_2 => ?_)
                    subst ez105_1 ez105_2
                    have f35 : (y59_3 + 1).toInt = y59_3.toInt + (1) := z_addc (by decide +kernel) (by omega) (by omega)
                    have iv59_0 : (0 ≤ (y59_3 + 1).toInt ∧ (y59_3 + 1).toInt ≤ 100) := by omega
                    have iv59_1 : x102.toInt ≤ (y59_3 + 1).toInt := by omega
                    have iv59_2 : (y59_3 + 1).toInt ≤ (g 48).toInt := by omega
                    have iv59_3 : (NTL x102.toInt w94 (owF d Ws (wdl (F 0) 0 (Int32.toNatClampNeg (g 1))) (Int32.toNatClampNeg p0) (Int32.toNatClampNeg (y59_3 + 1)))) := by have k4 := clampI (x := y59_3 + 1) (by omega); have ko := clampI (x := d59_g56) (by omega); have hn := io59.1; rw [show Int32.toNatClampNeg (y59_3 + 1) = Int32.toNatClampNeg y59_3 + 1 by omega, owF_yes (p76_0 (by omega))]; exact NTL_add io59 (by omega) ew94 (by omega) (by omega)
                    exact ih59 (y59_3 + 1) x102 w94 hg34 iv59_0 iv59_1 iv59_2 iv59_3
            exact lp59 NN (0 : Int32) (0 : Int32) (F 55) hg25 (show (0 ≤ (0 : Int32).toInt ∧ (0 : Int32).toInt ≤ 100) from by omega) (show (0 : Int32).toInt ≤ (0 : Int32).toInt from by omega) (show (0 : Int32).toInt ≤ (g 48).toInt from by omega) (show (NTL (0 : Int32).toInt (F 55) (owF d Ws (wdl (F 0) 0 (Int32.toNatClampNeg (g 1))) (Int32.toNatClampNeg p0) (Int32.toNatClampNeg (0 : Int32)))) from by exact NTL_0 (by omega))
          · have c27 := z_nle c27
            refine pw_if (fun hb40 => ?_)
            obtain ⟨hbl40, hbr40⟩ := hb40
            refine pw_if (fun hb41 => ?_)
            obtain ⟨hbl41, hbr41⟩ := hb41
            refine pw_vl (fun w41 ew41 => ?_)
            have f36 : (y25_3 + 1).toInt = y25_3.toInt + (1) := z_addc (by decide +kernel) (by omega) (by omega)
            have iv25_0 : 0 ≤ (y25_3 + 1).toInt := by omega
            have iv25_1 : (y25_3 + 1).toInt ≤ c1_g23.toInt := by omega
            have iv25_2 : (wdl w41 0 (Int32.toNatClampNeg (y25_3 + 1)) = wdl c1_F22 0 (Int32.toNatClampNeg (y25_3 + 1))) := by have k3 := clampI (x := y25_3) (by omega); have k4 := clampI (x := y25_3 + 1) (by omega); rw [ew41, show Int32.toNatClampNeg (y25_3 + 1) = Int32.toNatClampNeg y25_3 + 1 by omega, wdl_up rfl, ia25, wdl_s1, Nat.zero_add, bw_at hbw i3 (by omega)]
            exact ih25 (y25_3 + 1) w41 iv25_0 iv25_1 iv25_2
      exact lp25 NN (0 : Int32) (F 57) (show 0 ≤ (0 : Int32).toInt from by omega) (show (0 : Int32).toInt ≤ c1_g23.toInt from by omega) (show (wdl (F 57) 0 (Int32.toNatClampNeg (0 : Int32)) = wdl c1_F22 0 (Int32.toNatClampNeg (0 : Int32))) from by exact (wdl_nil.mpr rfl).trans (wdl_nil.mpr rfl).symm)