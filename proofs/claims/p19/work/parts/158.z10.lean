abbrev QF_learn (g : Nat → Int32) (F : Nat → Nat → Int32) (Ws : List Wd) : (Int32 × Int32 × Int32 × Int32 × Int32 × (Nat → Int32) × (Nat → Int32) × (Nat → Int32)) → Prop := (fun t => (((rwW (t.2.2.2.1) (t.2.2.2.2.2.2.1) (t.2.2.2.2.2.2.2) 24 = Ws ∧ (t.2.2.2.2.1) = (g 51) ∧ (t.2.2.2.1) = (g 48)) ∨ (∃ x, rwW (t.2.2.2.1) (t.2.2.2.2.2.2.1) (t.2.2.2.2.2.2.2) 24 = Ws ++ [x] ∧ (1 ≤ x.length ∧ x.length ≤ 24 ∧ BW x) ∧ (t.2.2.2.2.1).toInt = 0))))
set_option maxHeartbeats 4000000 in
set_option maxRecDepth 100000 in
theorem fn_learn (g : Nat → Int32) (F : Nat → Nat → Int32) (Ws : List Wd) (hI : MInv g F) (hWs : rwW (g 48) (F 49) (F 50) 24 = Ws) (hWw : WDS Ws) (hfit : ∀ i, fits .byte (.int ((F 0) i)) = true) : pw (f_learn g F) (QF_learn g F Ws) := by
  unfold f_learn
  have hI9 : id (MInv g F) := hI
  obtain ⟨hzg1, -, -, -, -, -, -, -, -, -, -, -, -, -, -, -, -, hzg48, hzg51, -, -, -, -, -, -, hzF11, hzF12, hzF13, hzF15, hzF19, hzF21, hzF24, hzF25, hzF26, hzF33, hzF38, hzF41, hzF43, hzF45, hzF46, hzF50, hzF53, hzF54, hzLQ⟩ := hI
  have zkm3 : (-3 : Int32).toInt = -3 := by decide +kernel
  have zkm2 : (-2 : Int32).toInt = -2 := by decide +kernel
  have zk0 : (0 : Int32).toInt = 0 := by decide +kernel
  have zk1 : (1 : Int32).toInt = 1 := by decide +kernel
  have zk24 : (24 : Int32).toInt = 24 := by decide +kernel
  have zk100 : (100 : Int32).toInt = 100 := by decide +kernel
  have hb48 := hzg48
  have c48 := clampI (x := g 48) (by omega)
  have hMI1 : id (MInv g F) := show MInv g F from (MInv_i hzg1 ((hI9.2.1)) ((hI9.2.2.1)) ((hI9.2.2.2.1)) ((hI9.2.2.2.2.1)) ((hI9.2.2.2.2.2.1)) ((hI9.2.2.2.2.2.2.1)) ((hI9.2.2.2.2.2.2.2.1)) ((hI9.2.2.2.2.2.2.2.2.1)) ((hI9.2.2.2.2.2.2.2.2.2.1)) ((hI9.2.2.2.2.2.2.2.2.2.2.1)) ((hI9.2.2.2.2.2.2.2.2.2.2.2.1)) ((hI9.2.2.2.2.2.2.2.2.2.2.2.2.1)) ((hI9.2.2.2.2.2.2.2.2.2.2.2.2.2.1)) ((hI9.2.2.2.2.2.2.2.2.2.2.2.2.2.2.1)) ((hI9.2.2.2.2.2.2.2.2.2.2.2.2.2.2.2.1)) ((hI9.2.2.2.2.2.2.2.2.2.2.2.2.2.2.2.2.1)) hzg48 hzg51 ((hI9.2.2.2.2.2.2.2.2.2.2.2.2.2.2.2.2.2.2.2.1)) ((hI9.2.2.2.2.2.2.2.2.2.2.2.2.2.2.2.2.2.2.2.2.1)) ((hI9.2.2.2.2.2.2.2.2.2.2.2.2.2.2.2.2.2.2.2.2.2.1)) ((hI9.2.2.2.2.2.2.2.2.2.2.2.2.2.2.2.2.2.2.2.2.2.2.1)) ((hI9.2.2.2.2.2.2.2.2.2.2.2.2.2.2.2.2.2.2.2.2.2.2.2.1)) ((hI9.2.2.2.2.2.2.2.2.2.2.2.2.2.2.2.2.2.2.2.2.2.2.2.2.1)) hzF11 hzF12 hzF13 hzF15 hzF19 hzF21 hzF24 hzF25 hzF26 hzF33 hzF38 hzF41 hzF43 hzF45 hzF46 hzF50 hzF53 hzF54 hzLQ)
  refine pw_b4 (fun r1 c1_g1 c1_g23 c1_F22 hc1 => ?_)
  have hq1 := wp_at (ok_readWord g F hMI1) hc1
  obtain ⟨hg1, hg2, f3, f4, f5⟩ : (((0) ≤ c1_g1.toInt ∧ c1_g1.toInt ≤ 2000)) ∧ (((0) ≤ c1_g23.toInt ∧ c1_g23.toInt ≤ 24)) ∧ (c1_g1.toInt = 0) ∧ (id ((r1.toInt = 1 → 1 ≤ c1_g23.toInt))) ∧ ((0 ≤ r1.toInt ∧ r1.toInt ≤ 1)) := hq1
  have h81_hfit : ∀ i, fits .byte (.int ((F 0) i)) = true := by exact hfit
  have hx1 := pwq (fn_readWord g F hMI1 h81_hfit) hc1
  obtain ⟨p1_0, p1_1⟩ : (id ((r1.toInt ≠ 0 → isw (F 0) (g 1).toInt ∧ c1_g23.toInt = (g 1).toInt ∧ wdl c1_F22 0 (Int32.toNatClampNeg c1_g23) = wdl (F 0) 0 (Int32.toNatClampNeg (g 1))))) ∧ (id ((r1.toInt = 0 → ¬ isw (F 0) (g 1).toInt))) := hx1
  refine pw_ite (fun c4 => ?_) (fun c4 => ?_)
  · have c4 := congrArg Int32.toInt c4
    have qq0 : ((rwW (g 48) (F 49) (F 50) 24 = Ws ∧ (g 51) = (g 51) ∧ (g 48) = (g 48)) ∨ (∃ x, rwW (g 48) (F 49) (F 50) 24 = Ws ++ [x] ∧ (1 ≤ x.length ∧ x.length ≤ 24 ∧ BW x) ∧ (g 51).toInt = 0)) := by exact Or.inl ⟨hWs, rfl, rfl⟩
    exact pw_some qq0
  · have c4 := z_ne c4
    obtain ⟨i1, i2, i3⟩ := p1_0 (by omega)
    have i1a := i1.1
    have c23 := clampI (x := c1_g23) (by omega)
    have cg1 := clampI (x := g 1) (by omega)
    refine pw_jE (fun k57 ek57 => ?_)
    have lp12 : ∀ (n12 : Nat) (y12_1 : Int32), (0 ≤ y12_1.toInt ∧ y12_1.toInt ≤ 100) → pw (L_learn_12 g F c1_g1 c1_g23 c1_F22 k57 n12 y12_1) (QF_learn g F Ws) := by
      intro n12
      induction n12 with
      | zero => intros; exact pw_none
      | succ n12 ih12 =>
        intro y12_1 f6
        show pw (B_learn_12 g F c1_g1 c1_g23 c1_F22 k57 (L_learn_12 g F c1_g1 c1_g23 c1_F22 k57 n12) y12_1) _
        unfold B_learn_12
        refine pw_ite (fun c17 => ?_) (fun c17 => ?_)
        · have c17 := (z_le _ _).mp c17
          refine pw_j0 ek57 ?_
          refine pw_ite (fun c63 => ?_) (fun c63 => ?_)
          · have c63 := congrArg Int32.toInt c63
            have qq0 : ((rwW (g 48) (F 49) (F 50) 24 = Ws ∧ (g 51) = (g 51) ∧ (g 48) = (g 48)) ∨ (∃ x, rwW (g 48) (F 49) (F 50) 24 = Ws ++ [x] ∧ (1 ≤ x.length ∧ x.length ≤ 24 ∧ BW x) ∧ (g 51).toInt = 0)) := by exact Or.inl ⟨hWs, rfl, rfl⟩
            exact pw_some qq0
          · have c63 := z_ne c63
            refine pw_jE (fun k105 ek105 => ?_)
            have lp71 : ∀ (n71 : Nat) (y71_1 : Int32) (d71_F49 : (Nat → Int32)), 0 ≤ y71_1.toInt → y71_1.toInt ≤ c1_g23.toInt → (∀ q, q < (24 * Int32.toNatClampNeg (g 48)) → d71_F49 q = (F 49) q) → (wdl d71_F49 (24 * Int32.toNatClampNeg (g 48)) (Int32.toNatClampNeg y71_1) = wdl c1_F22 0 (Int32.toNatClampNeg y71_1)) → pw (L_learn_71 g c1_g23 c1_F22 k105 n71 y71_1 d71_F49) (QF_learn g F Ws) := by
              intro n71
              induction n71 with
              | zero => intros; exact pw_none
              | succ n71 ih71 =>
                intro y71_1 d71_F49 f7 f8 lo71 li71
                show pw (B_learn_71 g c1_g23 c1_F22 k105 (L_learn_71 g c1_g23 c1_F22 k105 n71) y71_1 d71_F49) _
                unfold B_learn_71
                refine pw_ite (fun c76 => ?_) (fun c76 => ?_)
                · have c76 := (z_le _ _).mp c76
                  refine pw_j1 ek105 (fun z105_1 ez105_1 => ?_)
                  subst ez105_1
                  refine pw_if (fun hb117 => ?_)
                  obtain ⟨hbl117, hbr117⟩ := hb117
                  refine pw_vl (fun w117 ew117 => ?_)
                  have hF9 : rng (0) 24 w117 := by rw [ew117]; exact rng_upd hzF50 (by omega) (by omega)
                  have f10 : ((g 48) + 1).toInt = (g 48).toInt + 1 := z_addc (by decide +kernel) (by omega) (by omega)
                  refine pw_vl (fun x125 ex125 => ?_)
                  have f11 : x125.toInt = ((g 48) + 1).toInt := congrArg Int32.toInt ex125
                  have hg12 : ((0) ≤ x125.toInt ∧ x125.toInt ≤ 100) := ⟨by omega, by omega⟩
                  have hg13 : ((0) ≤ (0 : Int32).toInt ∧ (0 : Int32).toInt ≤ 1) := ⟨by omega, by omega⟩
                  have f14 : (x125 - 1).toInt = x125.toInt - 1 := z_subc (by decide +kernel) (by omega) (by omega)
                  have qq0 : ((rwW x125 d71_F49 w117 24 = Ws ∧ (0 : Int32) = (g 51) ∧ x125 = (g 48)) ∨ (∃ x, rwW x125 d71_F49 w117 24 = Ws ++ [x] ∧ (1 ≤ x.length ∧ x.length ≤ 24 ∧ BW x) ∧ (0 : Int32).toInt = 0)) := by have k1 := clampI (x := y71_1) (by omega); have kw := clampI (x := (g 48) + 1) (by omega); have k125 := clampI (x := x125) (by omega); refine Or.inr ⟨wdl (F 0) 0 (Int32.toNatClampNeg (g 1)), ?_, ⟨by rw [wdl_len]; omega, by rw [wdl_len]; omega, (fun y hy => by unfold wdl at hy; obtain ⟨j, _, e9⟩ := List.mem_map.mp hy; rw [← e9]; exact fit_id (hfit _))⟩, by omega⟩; have h9 := li71; rw [show Int32.toNatClampNeg y71_1 = Int32.toNatClampNeg c1_g23 by omega, i3] at h9; rw [← hWs]; refine rw_app (by omega) lo71 (fun j hj => by rw [ew117, pk_un (by omega)]) (fun j hj => (wds_sz (by rw [hWs]; exact hWw) hj).2) ?_; rw [ew117, pk_us]; exact h9
                  exact pw_some qq0
                · have c76 := z_nle c76
                  have f15 : (24 * (g 48)).toInt = 24 * (g 48).toInt := z_muld (by decide +kernel) (by omega) (by omega)
                  have f16 : ((24 * (g 48)) + y71_1).toInt = (24 * (g 48)).toInt + y71_1.toInt := z_add (by omega) (by omega)
                  refine pw_if (fun hb97 => ?_)
                  obtain ⟨hbl97, hbr97⟩ := hb97
                  refine pw_if (fun hb98 => ?_)
                  obtain ⟨hbl98, hbr98⟩ := hb98
                  refine pw_vl (fun w98 ew98 => ?_)
                  have f17 : (y71_1 + 1).toInt = y71_1.toInt + (1) := z_addc (by decide +kernel) (by omega) (by omega)
                  have iv71_0 : 0 ≤ (y71_1 + 1).toInt := by omega
                  have iv71_1 : (y71_1 + 1).toInt ≤ c1_g23.toInt := by omega
                  have iv71_2 : (∀ q, q < (24 * Int32.toNatClampNeg (g 48)) → w98 q = (F 49) q) := by have k1 := clampI (x := y71_1) (by omega); have k2 := clampI (x := y71_1 + 1) (by omega); have kd := clampI (x := (24 * (g 48)) + y71_1) (by omega); intro q hq; rw [ew98, pk_un (by omega)]; exact lo71 q hq
                  have iv71_3 : (wdl w98 (24 * Int32.toNatClampNeg (g 48)) (Int32.toNatClampNeg (y71_1 + 1)) = wdl c1_F22 0 (Int32.toNatClampNeg (y71_1 + 1))) := by have k1 := clampI (x := y71_1) (by omega); have k2 := clampI (x := y71_1 + 1) (by omega); have kd := clampI (x := (24 * (g 48)) + y71_1) (by omega); rw [ew98, show Int32.toNatClampNeg (y71_1 + 1) = Int32.toNatClampNeg y71_1 + 1 by omega, wdl_s1, wdl_s1, show (24 * Int32.toNatClampNeg (g 48)) + Int32.toNatClampNeg y71_1 = Int32.toNatClampNeg ((24 * (g 48)) + y71_1) by omega, pk_us, Nat.zero_add, bw_at (fun y hy => by unfold wdl at hy; obtain ⟨j, _, e9⟩ := List.mem_map.mp hy; rw [← e9]; exact fit_id (hfit _)) i3 (by omega), wdl_ext (fun i hi => pk_un (by omega)), li71]
                  exact ih71 (y71_1 + 1) w98 iv71_0 iv71_1 iv71_2 iv71_3
            exact lp71 NN (0 : Int32) (F 49) (show 0 ≤ (0 : Int32).toInt from by omega) (show (0 : Int32).toInt ≤ c1_g23.toInt from by omega) (show (∀ q, q < (24 * Int32.toNatClampNeg (g 48)) → (F 49) q = (F 49) q) from by intro q hq; rfl) (show (wdl (F 49) (24 * Int32.toNatClampNeg (g 48)) (Int32.toNatClampNeg (0 : Int32)) = wdl c1_F22 0 (Int32.toNatClampNeg (0 : Int32))) from by exact (wdl_nil.mpr rfl).trans (wdl_nil.mpr rfl).symm)
        · have c17 := z_nle c17
          have f18 : (24 * y12_1).toInt = 24 * y12_1.toInt := z_muld (by decide +kernel) (by omega) (by omega)
          refine pw_if (fun hb33 => ?_)
          obtain ⟨hbl33, hbr33⟩ := hb33
          have f19 := hzF50 (Int32.toNatClampNeg y12_1)
          have hpr43_0 : (0 ≤ (24 * y12_1).toInt ∧ (24 * y12_1).toInt + ((F 50) (Int32.toNatClampNeg y12_1)).toInt ≤ 2400) := by first | assumption | omega
          have hpr43_1 : 2400 ≤ 500000 := by first | assumption | omega
          have hpr43_2 : (0 ≤ (0 : Int32).toInt ∧ (0 : Int32).toInt + c1_g23.toInt ≤ 24) := by first | assumption | omega
          have hpr43_3 : 24 ≤ 500000 := by first | assumption | omega
          refine pw_b1 (fun r43 hc43 => ?_)
          have hq43 := wp_at (ok_sameBytes (F 49) 2400 (24 * y12_1) ((F 50) (Int32.toNatClampNeg y12_1)) c1_F22 24 (0 : Int32) c1_g23 hpr43_0 hpr43_1 hpr43_2 hpr43_3) hc43
          have f20 : (0 ≤ r43.toInt ∧ r43.toInt ≤ 1) := hq43
          clear hq43
          refine pw_ite (fun c46 => ?_) (fun c46 => ?_)
          · have c46 := congrArg Int32.toInt c46
            have f21 : (y12_1 + 1).toInt = y12_1.toInt + (1) := z_addc (by decide +kernel) (by omega) (by omega)
            have iv12_0 : (0 ≤ (y12_1 + 1).toInt ∧ (y12_1 + 1).toInt ≤ 100) := by omega
            exact ih12 (y12_1 + 1) iv12_0
          · have c46 := z_ne c46
            have qq0 : ((rwW (g 48) (F 49) (F 50) 24 = Ws ∧ (g 51) = (g 51) ∧ (g 48) = (g 48)) ∨ (∃ x, rwW (g 48) (F 49) (F 50) 24 = Ws ++ [x] ∧ (1 ≤ x.length ∧ x.length ≤ 24 ∧ BW x) ∧ (g 51).toInt = 0)) := by exact Or.inl ⟨hWs, rfl, rfl⟩
            exact pw_some qq0
    exact lp12 NN (0 : Int32) (show (0 ≤ (0 : Int32).toInt ∧ (0 : Int32).toInt ≤ 100) from by omega)
abbrev QF_uses (g : Nat → Int32) (F : Nat → Nat → Int32) (p0 : Int32) (p1 : Int32) (d : Nat → Dr) (Ws : List Wd) : (Int32 × Int32 × Int32 × Int32 × Int32 × Int32 × Int32 × Int32 × Int32 × (Nat → Int32) × (Nat → Int32) × (Nat → Int32) × (Nat → Int32) × (Nat → Int32) × (Nat → Int32) × (Nat → Int32) × (Nat → Int32) × (Nat → Int32) × (Nat → Int32) × (Nat → Int32) × (Nat → Int32) × (Nat → Int32) × (Nat → Int32) × (Nat → Int32) × (Nat → Int32)) → Prop := (fun t => (((t.2.2.2.2.2.2.2.2.1).toInt ≠ 0 → MKT (t.2.2.2.2.2.2.2.2.2.2.2.2.2.2.2.2.2.2.2.2.2.2.2.2) (t.2.2.2.2.2.2.2.2.2.2.2.2.2.2.2.2.2.2.2.2.2.2.1) (t.2.2.2.2.2.2.2.2.2.2.2.2.2.2.2.2.2.2.2.2.2.2.2.1) d Ws (fun w s => w < Int32.toNatClampNeg (g 48) ∧ s ≤ Int32.toNatClampNeg (g 9)))))
set_option maxHeartbeats 4000000 in
set_option maxRecDepth 100000 in
theorem fn_uses (g : Nat → Int32) (F : Nat → Nat → Int32) (p0 : Int32) (p1 : Int32) (d : Nat → Dr) (Ws : List Wd) (hI : MInv g F) (hrd : ∀ q, q < Int32.toNatClampNeg (g 9) → RVd (F 13) (F 20) (F 21) (F 12) (F 18) (F 19) (F 11) (F 14) (F 15) (F 16) (F 17) q = d q ∧ WFD (d q)) (hWs : rwW (g 48) (F 49) (F 50) 24 = Ws) (hWw : WDS Ws) (hmk : (g 51).toInt ≠ 0 → MKT (F 54) (F 52) (F 53) d Ws (fun w s => w < Int32.toNatClampNeg (g 48) ∧ s ≤ Int32.toNatClampNeg (g 9))) : pw (f_uses g F p0 p1) (QF_uses g F p0 p1 d Ws) := by
  unfold f_uses
  have hI9 : id (MInv g F) := hI
  obtain ⟨-, -, -, -, -, -, -, -, hzg9, hzg23, -, -, -, -, -, -, -, hzg48, hzg51, -, -, -, -, -, -, hzF11, hzF12, hzF13, hzF15, hzF19, hzF21, hzF24, hzF25, hzF26, hzF33, hzF38, hzF41, hzF43, hzF45, hzF46, hzF50, hzF53, hzF54, hzLQ⟩ := hI
  have zkm2 : (-2 : Int32).toInt = -2 := by decide +kernel
  have zk0 : (0 : Int32).toInt = 0 := by decide +kernel
  have zk1 : (1 : Int32).toInt = 1 := by decide +kernel
  have zk7 : (7 : Int32).toInt = 7 := by decide +kernel
  have zk12 : (12 : Int32).toInt = 12 := by decide +kernel
  have zk24 : (24 : Int32).toInt = 24 := by decide +kernel
  have zk40 : (40 : Int32).toInt = 40 := by decide +kernel
  have f1 : ((g 9) - 1).toInt = (g 9).toInt - 1 := z_subc (by decide +kernel) (by omega) (by omega)
  refine pw_b1 (fun r8 hc8 => ?_)
  have hq8 := wp_at (ok_in p0 (0 : Int32) ((g 9) - 1) ) hc8
  obtain ⟨f2, f3, f4⟩ : ((r8.toInt = 1 → (0 : Int32).toInt ≤ p0.toInt ∧ p0.toInt ≤ ((g 9) - 1).toInt)) ∧ ((r8.toInt = 0 → p0.toInt < (0 : Int32).toInt ∨ ((g 9) - 1).toInt < p0.toInt)) ∧ ((0 ≤ r8.toInt ∧ r8.toInt ≤ 1)) := hq8
  refine pw_jE (fun j30 ej30 => ?_)
  refine pw_ite (fun c11 => ?_) (fun c11 => ?_)
  · have c11 := congrArg Int32.toInt c11
    refine pw_j0 ej30 ?_
    have qq0 : ((g 51).toInt ≠ 0 → MKT (F 54) (F 52) (F 53) d Ws (fun w s => w < Int32.toNatClampNeg (g 48) ∧ s ≤ Int32.toNatClampNeg (g 9))) := by exact hmk
    exact pw_some qq0
  · have c11 := z_ne c11
    refine pw_if (fun hb21 => ?_)
    obtain ⟨hbl21, hbr21⟩ := hb21
    have f5 := hzF11 (Int32.toNatClampNeg p0)
    have f6 : (((F 11) (Int32.toNatClampNeg p0)) - 1).toInt = ((F 11) (Int32.toNatClampNeg p0)).toInt - 1 := z_subc (by decide +kernel) (by omega) (by omega)
    refine pw_b1 (fun r24 hc24 => ?_)
    have hq24 := wp_at (ok_in p1 (0 : Int32) (((F 11) (Int32.toNatClampNeg p0)) - 1) ) hc24
    obtain ⟨f7, f8, f9⟩ : ((r24.toInt = 1 → (0 : Int32).toInt ≤ p1.toInt ∧ p1.toInt ≤ (((F 11) (Int32.toNatClampNeg p0)) - 1).toInt)) ∧ ((r24.toInt = 0 → p1.toInt < (0 : Int32).toInt ∨ (((F 11) (Int32.toNatClampNeg p0)) - 1).toInt < p1.toInt)) ∧ ((0 ≤ r24.toInt ∧ r24.toInt ≤ 1)) := hq24
    refine pw_ite (fun c27 => ?_) (fun c27 => ?_)
    · have c27 := congrArg Int32.toInt c27
      refine pw_j0 ej30 ?_
      have qq0 : ((g 51).toInt ≠ 0 → MKT (F 54) (F 52) (F 53) d Ws (fun w s => w < Int32.toNatClampNeg (g 48) ∧ s ≤ Int32.toNatClampNeg (g 9))) := by exact hmk
      exact pw_some qq0
    · have c27 := z_ne c27
      have hMI34 : id (MInv g F) := show MInv g F from (MInv_i ((hI9.1)) ((hI9.2.1)) ((hI9.2.2.1)) ((hI9.2.2.2.1)) ((hI9.2.2.2.2.1)) ((hI9.2.2.2.2.2.1)) ((hI9.2.2.2.2.2.2.1)) ((hI9.2.2.2.2.2.2.2.1)) hzg9 hzg23 ((hI9.2.2.2.2.2.2.2.2.2.2.1)) ((hI9.2.2.2.2.2.2.2.2.2.2.2.1)) ((hI9.2.2.2.2.2.2.2.2.2.2.2.2.1)) ((hI9.2.2.2.2.2.2.2.2.2.2.2.2.2.1)) ((hI9.2.2.2.2.2.2.2.2.2.2.2.2.2.2.1)) ((hI9.2.2.2.2.2.2.2.2.2.2.2.2.2.2.2.1)) ((hI9.2.2.2.2.2.2.2.2.2.2.2.2.2.2.2.2.1)) hzg48 hzg51 ((hI9.2.2.2.2.2.2.2.2.2.2.2.2.2.2.2.2.2.2.2.1)) ((hI9.2.2.2.2.2.2.2.2.2.2.2.2.2.2.2.2.2.2.2.2.1)) ((hI9.2.2.2.2.2.2.2.2.2.2.2.2.2.2.2.2.2.2.2.2.2.1)) ((hI9.2.2.2.2.2.2.2.2.2.2.2.2.2.2.2.2.2.2.2.2.2.2.1)) ((hI9.2.2.2.2.2.2.2.2.2.2.2.2.2.2.2.2.2.2.2.2.2.2.2.1)) ((hI9.2.2.2.2.2.2.2.2.2.2.2.2.2.2.2.2.2.2.2.2.2.2.2.2.1)) hzF11 hzF12 hzF13 hzF15 hzF19 hzF21 hzF24 hzF25 hzF26 hzF33 hzF38 hzF41 hzF43 hzF45 hzF46 hzF50 hzF53 hzF54 hzLQ)
      refine pw_b23 (fun c34_g23 c34_g27 c34_g30 c34_g34 c34_g36 c34_g39 c34_g51 c34_F22 c34_F24 c34_F25 c34_F26 c34_F28 c34_F29 c34_F31 c34_F32 c34_F33 c34_F37 c34_F38 c34_F40 c34_F41 c34_F52 c34_F53 c34_F54 hc34 => ?_)
      have hq34 := wp_at (ok_make g F hMI34) hc34
      obtain ⟨hg10, hg11, hg12, hg13, hg14, hg15, hg16, hg17, hg18, hg19, hg20, hg21, hg22, hg23, hg24⟩ : (((0) ≤ c34_g23.toInt ∧ c34_g23.toInt ≤ 24)) ∧ (((0) ≤ c34_g27.toInt ∧ c34_g27.toInt ≤ 30)) ∧ (((0) ≤ c34_g30.toInt ∧ c34_g30.toInt ≤ 384)) ∧ (((0) ≤ c34_g34.toInt ∧ c34_g34.toInt ≤ 30)) ∧ (((0) ≤ c34_g36.toInt ∧ c34_g36.toInt ≤ 1)) ∧ (((0) ≤ c34_g39.toInt ∧ c34_g39.toInt ≤ 12)) ∧ (((0) ≤ c34_g51.toInt ∧ c34_g51.toInt ≤ 1)) ∧ (rng (0) 24 c34_F24) ∧ (rng (0) 24 c34_F25) ∧ (rng (0) 24 c34_F26) ∧ (rng (0) 24 c34_F33) ∧ (rng (0) 24 c34_F38) ∧ (rng (0) 24 c34_F41) ∧ (rng (0) 24 c34_F53) ∧ (rng (0) 12 c34_F54) := hq34
      have h834_hrd : id (∀ q, q < Int32.toNatClampNeg (g 9) → RVd (F 13) (F 20) (F 21) (F 12) (F 18) (F 19) (F 11) (F 14) (F 15) (F 16) (F 17) q = d q ∧ WFD (d q)) := show ∀ q, q < Int32.toNatClampNeg (g 9) → RVd (F 13) (F 20) (F 21) (F 12) (F 18) (F 19) (F 11) (F 14) (F 15) (F 16) (F 17) q = d q ∧ WFD (d q) from by exact hrd
      have h834_hWs : rwW (g 48) (F 49) (F 50) 24 = Ws := by exact hWs
      have h834_hWw : WDS Ws := by exact hWw
      have h834_hmk : id ((g 51).toInt ≠ 0 → MKT (F 54) (F 52) (F 53) d Ws (fun w s => w < Int32.toNatClampNeg (g 48) ∧ s ≤ Int32.toNatClampNeg (g 9))) := show (g 51).toInt ≠ 0 → MKT (F 54) (F 52) (F 53) d Ws (fun w s => w < Int32.toNatClampNeg (g 48) ∧ s ≤ Int32.toNatClampNeg (g 9)) from by exact hmk
      have hx34 := pwq (fn_make g F (d) (Ws) hMI34 h834_hrd h834_hWs h834_hWw h834_hmk) hc34
      obtain ⟨p34_0, p34_1⟩ : (MKT c34_F54 c34_F52 c34_F53 d Ws (fun w s => w < Int32.toNatClampNeg (g 48) ∧ s ≤ Int32.toNatClampNeg (g 9))) ∧ (c34_g51.toInt ≠ 0) := hx34
      have f25 : (40 * p0).toInt = 40 * p0.toInt := z_muld (by decide +kernel) (by omega) (by omega)
      have f26 : ((40 * p0) + p1).toInt = (40 * p0).toInt + p1.toInt := z_add (by omega) (by omega)
      refine pw_vl (fun x44 ex44 => ?_)
      have f27 : x44.toInt = ((40 * p0) + p1).toInt := congrArg Int32.toInt ex44
      have lp52 : ∀ (n52 : Nat) (y52_3 : Int32) (y52_4 : Int32) (d52_g23 : Int32) (d52_g27 : Int32) (d52_g30 : Int32) (d52_g34 : Int32) (d52_g36 : Int32) (d52_F22 : (Nat → Int32)) (d52_F24 : (Nat → Int32)) (d52_F25 : (Nat → Int32)) (d52_F26 : (Nat → Int32)) (d52_F28 : (Nat → Int32)) (d52_F29 : (Nat → Int32)) (d52_F31 : (Nat → Int32)) (d52_F32 : (Nat → Int32)) (d52_F33 : (Nat → Int32)), ((0) ≤ d52_g23.toInt ∧ d52_g23.toInt ≤ 24) → ((0) ≤ d52_g27.toInt ∧ d52_g27.toInt ≤ 30) → ((0) ≤ d52_g30.toInt ∧ d52_g30.toInt ≤ 384) → ((0) ≤ d52_g34.toInt ∧ d52_g34.toInt ≤ 30) → ((0) ≤ d52_g36.toInt ∧ d52_g36.toInt ≤ 1) → rng (0) 24 d52_F24 → rng (0) 24 d52_F25 → rng (0) 24 d52_F26 → rng (0) 24 d52_F33 → (0 ≤ y52_4.toInt ∧ y52_4.toInt ≤ 100) → (0 ≤ y52_3.toInt ∧ y52_3.toInt ≤ y52_4.toInt) → pw (L_uses_52 g F p0 c34_g39 c34_g51 c34_F37 c34_F38 c34_F40 c34_F41 c34_F52 c34_F53 c34_F54 x44 n52 y52_3 y52_4 d52_g23 d52_g27 d52_g30 d52_g34 d52_g36 d52_F22 d52_F24 d52_F25 d52_F26 d52_F28 d52_F29 d52_F31 d52_F32 d52_F33) (QF_uses g F p0 p1 d Ws) := by
        intro n52
        induction n52 with
        | zero => intros; exact pw_none
        | succ n52 ih52 =>
          intro y52_3 y52_4 d52_g23 d52_g27 d52_g30 d52_g34 d52_g36 d52_F22 d52_F24 d52_F25 d52_F26 d52_F28 d52_F29 d52_F31 d52_F32 d52_F33 hg28 hg29 hg30 hg31 hg32 hg33 hg34 hg35 hg36 f37 f38
          show pw (B_uses_52 g F p0 c34_g39 c34_g51 c34_F37 c34_F38 c34_F40 c34_F41 c34_F52 c34_F53 c34_F54 x44 (L_uses_52 g F p0 c34_g39 c34_g51 c34_F37 c34_F38 c34_F40 c34_F41 c34_F52 c34_F53 c34_F54 x44 n52) y52_3 y52_4 d52_g23 d52_g27 d52_g30 d52_g34 d52_g36 d52_F22 d52_F24 d52_F25 d52_F26 d52_F28 d52_F29 d52_F31 d52_F32 d52_F33) _
          unfold B_uses_52
          refine pw_ite (fun c58 => ?_) (fun c58 => ?_)
          · have c58 := (z_le _ _).mp c58
            have qq0 : (c34_g51.toInt ≠ 0 → MKT c34_F54 c34_F52 c34_F53 d Ws (fun w s => w < Int32.toNatClampNeg (g 48) ∧ s ≤ Int32.toNatClampNeg (g 9))) := by exact fun _ => p34_0
            exact pw_some qq0
          · have c58 := z_nle c58
            have hg39 : ((0) ≤ (0 : Int32).toInt ∧ (0 : Int32).toInt ≤ 1) := ⟨by omega, by omega⟩
            have f40 : (7 * y52_4).toInt = 7 * y52_4.toInt := z_muld (by decide +kernel) (by omega) (by omega)
            have f41 : ((7 * y52_4) + p0).toInt = (7 * y52_4).toInt + p0.toInt := z_add (by omega) (by omega)
            have f42 : (12 * ((7 * y52_4) + p0)).toInt = 12 * ((7 * y52_4) + p0).toInt := z_muld (by decide +kernel) (by omega) (by omega)
            refine pw_vl (fun x76 ex76 => ?_)
            have f43 : x76.toInt = (12 * ((7 * y52_4) + p0)).toInt := congrArg Int32.toInt ex76
            refine pw_jE (fun k137 ek137 => ?_)
            have lp78 : ∀ (n78 : Nat) (y78_5 : Int32) (d78_g23 : Int32) (d78_g27 : Int32) (d78_g30 : Int32) (d78_g34 : Int32) (d78_g36 : Int32) (d78_F22 : (Nat → Int32)) (d78_F24 : (Nat → Int32)) (d78_F25 : (Nat → Int32)) (d78_F26 : (Nat → Int32)) (d78_F28 : (Nat → Int32)) (d78_F29 : (Nat → Int32)) (d78_F31 : (Nat → Int32)) (d78_F32 : (Nat → Int32)) (d78_F33 : (Nat → Int32)), ((0) ≤ d78_g23.toInt ∧ d78_g23.toInt ≤ 24) → ((0) ≤ d78_g27.toInt ∧ d78_g27.toInt ≤ 30) → ((0) ≤ d78_g30.toInt ∧ d78_g30.toInt ≤ 384) → ((0) ≤ d78_g34.toInt ∧ d78_g34.toInt ≤ 30) → ((0) ≤ d78_g36.toInt ∧ d78_g36.toInt ≤ 1) → rng (0) 24 d78_F24 → rng (0) 24 d78_F25 → rng (0) 24 d78_F26 → rng (0) 24 d78_F33 → (84 * y52_4.toInt + 12 * p0.toInt ≤ y78_5.toInt ∧ y78_5.toInt ≤ 84 * y52_4.toInt + 12 * p0.toInt + 12) → pw (L_uses_78 g F p0 c34_g39 c34_g51 c34_F37 c34_F38 c34_F40 c34_F41 c34_F52 c34_F53 c34_F54 x44 y52_4 k137 n78 y78_5 d78_g23 d78_g27 d78_g30 d78_g34 d78_g36 d78_F22 d78_F24 d78_F25 d78_F26 d78_F28 d78_F29 d78_F31 d78_F32 d78_F33) (QF_uses g F p0 p1 d Ws) := by
              intro n78
              induction n78 with
              | zero => intros; exact pw_none
              | succ n78 ih78 =>
                intro y78_5 d78_g23 d78_g27 d78_g30 d78_g34 d78_g36 d78_F22 d78_F24 d78_F25 d78_F26 d78_F28 d78_F29 d78_F31 d78_F32 d78_F33 hg44 hg45 hg46 hg47 hg48 hg49 hg50 hg51 hg52 f53
                show pw (B_uses_78 g F p0 c34_g39 c34_g51 c34_F37 c34_F38 c34_F40 c34_F41 c34_F52 c34_F53 c34_F54 x44 y52_4 k137 (L_uses_78 g F p0 c34_g39 c34_g51 c34_F37 c34_F38 c34_F40 c34_F41 c34_F52 c34_F53 c34_F54 x44 y52_4 k137 n78) y78_5 d78_g23 d78_g27 d78_g30 d78_g34 d78_g36 d78_F22 d78_F24 d78_F25 d78_F26 d78_F28 d78_F29 d78_F31 d78_F32 d78_F33) _
                unfold B_uses_78
                refine pw_if (fun hb101 => ?_)
                obtain ⟨hbl101, hbr101⟩ := hb101
                have f59 := hg24 (Int32.toNatClampNeg ((7 * y52_4) + p0))
                have f60 : ((12 * ((7 * y52_4) + p0)) + (c34_F54 (Int32.toNatClampNeg ((7 * y52_4) + p0)))).toInt = (12 * ((7 * y52_4) + p0)).toInt + (c34_F54 (Int32.toNatClampNeg ((7 * y52_4) + p0))).toInt := z_add (by omega) (by omega)
                refine pw_ite (fun c103 => ?_) (fun c103 => ?_)
                · have c103 := (z_le _ _).mp c103
                  refine pw_j14 ek137 (fun z137_1 ez137_1 z137_2 ez137_2 z137_3 ez137_3 z137_4 ez137_4 z137_5 ez137_5 z137_6 ez137_6 z137_7 ez137_7 z137_8 ez137_8 z137_9 ez137_9 z137_10 ez137_10 z137_11 ez137_11 z137_12 ez137_12 z137_13 ez137_13 z137_14 ez137_14 => ?_)
                  subst ez137_1 ez137_2 ez137_3 ez137_4 ez137_5 ez137_6 ez137_7 ez137_8 ez137_9 ez137_10 ez137_11 ez137_12 ez137_13 ez137_14
                  refine pw_jE (fun j150 ej150 => ?_)
                  refine pw_ite (fun c142 => ?_) (fun c142 => ?_)
                  · have c142 := congrArg Int32.toInt c142
                    refine pw_j1 ej150 (fun t150_0 et150_0 => ?_)
                    have et150_0 := et150_0.symm
                    have f_t150_0 : t150_0.toInt = 0 := by rw [et150_0]; decide +kernel
                    have f61 : (y52_3 + t150_0).toInt = y52_3.toInt + t150_0.toInt := z_add (by omega) (by omega)
                    refine pw_vl (fun x151 ex151 => ?_)
                    have f62 : x151.toInt = (y52_3 + t150_0).toInt := congrArg Int32.toInt ex151
                    have f63 : (y52_4 + 1).toInt = y52_4.toInt + (1) := z_addc (by decide +kernel) (by omega) (by omega)
                    have iv52_0 : (0 ≤ (y52_4 + 1).toInt ∧ (y52_4 + 1).toInt ≤ 100) := by omega
                    have iv52_1 : (0 ≤ x151.toInt ∧ x151.toInt ≤ (y52_4 + 1).toInt) := by omega
                    exact ih52 x151 (y52_4 + 1) d78_g23 d78_g27 d78_g30 d78_g34 d78_g36 d78_F22 d78_F24 d78_F25 d78_F26 d78_F28 d78_F29 d78_F31 d78_F32 d78_F33 hg44 hg45 hg46 hg47 hg48 hg49 hg50 hg51 hg52 iv52_0 iv52_1
                  · have c142 := z_ne c142
                    refine pw_j1 ej150 (fun t150_0 et150_0 => ?_)
                    have et150_0 := et150_0.symm
                    have f_t150_0 : t150_0.toInt = 1 := by rw [et150_0]; decide +kernel
                    have f64 : (y52_3 + t150_0).toInt = y52_3.toInt + t150_0.toInt := z_add (by omega) (by omega)
                    refine pw_vl (fun x151 ex151 => ?_)
                    have f65 : x151.toInt = (y52_3 + t150_0).toInt := congrArg Int32.toInt ex151
                    have f66 : (y52_4 + 1).toInt = y52_4.toInt + (1) := z_addc (by decide +kernel) (by omega) (by omega)
                    have iv52_0 : (0 ≤ (y52_4 + 1).toInt ∧ (y52_4 + 1).toInt ≤ 100) := by omega
                    have iv52_1 : (0 ≤ x151.toInt ∧ x151.toInt ≤ (y52_4 + 1).toInt) := by omega
                    exact ih52 x151 (y52_4 + 1) d78_g23 d78_g27 d78_g30 d78_g34 d78_g36 d78_F22 d78_F24 d78_F25 d78_F26 d78_F28 d78_F29 d78_F31 d78_F32 d78_F33 hg44 hg45 hg46 hg47 hg48 hg49 hg50 hg51 hg52 iv52_0 iv52_1
                · have c103 := z_nle c103
                  have f67 : (24 * y78_5).toInt = 24 * y78_5.toInt := z_muld (by decide +kernel) (by omega) (by omega)
                  refine pw_if (fun hb122 => ?_)
                  obtain ⟨hbl122, hbr122⟩ := hb122
                  have f68 := hg23 (Int32.toNatClampNeg y78_5)
                  have hMI123 : id (MInv (upd (upd (upd (upd (upd (upd (upd (upd g 23 d78_g23) 27 d78_g27) 30 d78_g30) 34 d78_g34) 35 x44) 36 d78_g36) 39 c34_g39) 51 c34_g51) (upF (upF (upF (upF (upF (upF (upF (upF (upF (upF (upF (upF (upF (upF (upF (upF F 22 d78_F22) 24 d78_F24) 25 d78_F25) 26 d78_F26) 28 d78_F28) 29 d78_F29) 31 d78_F31) 32 d78_F32) 33 d78_F33) 37 c34_F37) 38 c34_F38) 40 c34_F40) 41 c34_F41) 52 c34_F52) 53 c34_F53) 54 c34_F54)) := show MInv (upd (upd (upd (upd (upd (upd (upd (upd g 23 d78_g23) 27 d78_g27) 30 d78_g30) 34 d78_g34) 35 x44) 36 d78_g36) 39 c34_g39) 51 c34_g51) (upF (upF (upF (upF (upF (upF (upF (upF (upF (upF (upF (upF (upF (upF (upF (upF F 22 d78_F22) 24 d78_F24) 25 d78_F25) 26 d78_F26) 28 d78_F28) 29 d78_F29) 31 d78_F31) 32 d78_F32) 33 d78_F33) 37 c34_F37) 38 c34_F38) 40 c34_F40) 41 c34_F41) 52 c34_F52) 53 c34_F53) 54 c34_F54) from (MInv_i ((hI9.1)) ((hI9.2.1)) ((hI9.2.2.1)) ((hI9.2.2.2.1)) ((hI9.2.2.2.2.1)) ((hI9.2.2.2.2.2.1)) ((hI9.2.2.2.2.2.2.1)) ((hI9.2.2.2.2.2.2.2.1)) hzg9 hg44 hg45 hg46 hg47 hg48 hg15 ((hI9.2.2.2.2.2.2.2.2.2.2.2.2.2.2.2.1)) ((hI9.2.2.2.2.2.2.2.2.2.2.2.2.2.2.2.2.1)) hzg48 hg16 ((hI9.2.2.2.2.2.2.2.2.2.2.2.2.2.2.2.2.2.2.2.1)) ((hI9.2.2.2.2.2.2.2.2.2.2.2.2.2.2.2.2.2.2.2.2.1)) ((hI9.2.2.2.2.2.2.2.2.2.2.2.2.2.2.2.2.2.2.2.2.2.1)) ((hI9.2.2.2.2.2.2.2.2.2.2.2.2.2.2.2.2.2.2.2.2.2.2.1)) ((hI9.2.2.2.2.2.2.2.2.2.2.2.2.2.2.2.2.2.2.2.2.2.2.2.1)) ((hI9.2.2.2.2.2.2.2.2.2.2.2.2.2.2.2.2.2.2.2.2.2.2.2.2.1)) hzF11 hzF12 hzF13 hzF15 hzF19 hzF21 hg49 hg50 hg51 hg52 hg21 hg22 hzF43 hzF45 hzF46 hzF50 hg23 hg24 hzLQ)
                  have hpr123_0 : (0 ≤ (24 * y78_5).toInt ∧ (24 * y78_5).toInt + (c34_F53 (Int32.toNatClampNeg y78_5)).toInt ≤ 201600) := by first | assumption | omega
                  have hpr123_1 : 201600 ≤ 500000 := by first | assumption | omega
                  have hpr123_2 : (0 ≤ (c34_F53 (Int32.toNatClampNeg y78_5)).toInt ∧ (c34_F53 (Int32.toNatClampNeg y78_5)).toInt ≤ 24) := by first | assumption | omega
                  refine pw_b2 (fun c123_g23 c123_F22 hc123 => ?_)
                  have hq123 := wp_at (ok_takeWord (upd (upd (upd (upd (upd (upd (upd (upd g 23 d78_g23) 27 d78_g27) 30 d78_g30) 34 d78_g34) 35 x44) 36 d78_g36) 39 c34_g39) 51 c34_g51) (upF (upF (upF (upF (upF (upF (upF (upF (upF (upF (upF (upF (upF (upF (upF (upF F 22 d78_F22) 24 d78_F24) 25 d78_F25) 26 d78_F26) 28 d78_F28) 29 d78_F29) 31 d78_F31) 32 d78_F32) 33 d78_F33) 37 c34_F37) 38 c34_F38) 40 c34_F40) 41 c34_F41) 52 c34_F52) 53 c34_F53) 54 c34_F54) c34_F52 201600 (24 * y78_5) (c34_F53 (Int32.toNatClampNeg y78_5)) hMI123 hpr123_0 hpr123_1 hpr123_2) hc123
                  obtain ⟨hg69, f70⟩ : (((0) ≤ c123_g23.toInt ∧ c123_g23.toInt ≤ 24)) ∧ (c123_g23.toInt = (c34_F53 (Int32.toNatClampNeg y78_5)).toInt) := hq123
                  have hMI128 : id (MInv (upd (upd (upd (upd (upd (upd (upd (upd g 23 c123_g23) 27 d78_g27) 30 d78_g30) 34 d78_g34) 35 x44) 36 d78_g36) 39 c34_g39) 51 c34_g51) (upF (upF (upF (upF (upF (upF (upF (upF (upF (upF (upF (upF (upF (upF (upF (upF F 22 c123_F22) 24 d78_F24) 25 d78_F25) 26 d78_F26) 28 d78_F28) 29 d78_F29) 31 d78_F31) 32 d78_F32) 33 d78_F33) 37 c34_F37) 38 c34_F38) 40 c34_F40) 41 c34_F41) 52 c34_F52) 53 c34_F53) 54 c34_F54)) := show MInv (upd (upd (upd (upd (upd (upd (upd (upd g 23 c123_g23) 27 d78_g27) 30 d78_g30) 34 d78_g34) 35 x44) 36 d78_g36) 39 c34_g39) 51 c34_g51) (upF (upF (upF (upF (upF (upF (upF (upF (upF (upF (upF (upF (upF (upF (upF (upF F 22 c123_F22) 24 d78_F24) 25 d78_F25) 26 d78_F26) 28 d78_F28) 29 d78_F29) 31 d78_F31) 32 d78_F32) 33 d78_F33) 37 c34_F37) 38 c34_F38) 40 c34_F40) 41 c34_F41) 52 c34_F52) 53 c34_F53) 54 c34_F54) from (MInv_i ((hI9.1)) ((hI9.2.1)) ((hI9.2.2.1)) ((hI9.2.2.2.1)) ((hI9.2.2.2.2.1)) ((hI9.2.2.2.2.2.1)) ((hI9.2.2.2.2.2.2.1)) ((hI9.2.2.2.2.2.2.2.1)) hzg9 hg69 hg45 hg46 hg47 hg48 hg15 ((hI9.2.2.2.2.2.2.2.2.2.2.2.2.2.2.2.1)) ((hI9.2.2.2.2.2.2.2.2.2.2.2.2.2.2.2.2.1)) hzg48 hg16 ((hI9.2.2.2.2.2.2.2.2.2.2.2.2.2.2.2.2.2.2.2.1)) ((hI9.2.2.2.2.2.2.2.2.2.2.2.2.2.2.2.2.2.2.2.2.1)) ((hI9.2.2.2.2.2.2.2.2.2.2.2.2.2.2.2.2.2.2.2.2.2.1)) ((hI9.2.2.2.2.2.2.2.2.2.2.2.2.2.2.2.2.2.2.2.2.2.2.1)) ((hI9.2.2.2.2.2.2.2.2.2.2.2.2.2.2.2.2.2.2.2.2.2.2.2.1)) ((hI9.2.2.2.2.2.2.2.2.2.2.2.2.2.2.2.2.2.2.2.2.2.2.2.2.1)) hzF11 hzF12 hzF13 hzF15 hzF19 hzF21 hg49 hg50 hg51 hg52 hg21 hg22 hzF43 hzF45 hzF46 hzF50 hg23 hg24 hzLQ)
                  have hpr128_0 : (0 ≤ p0.toInt ∧ p0.toInt < (g 9).toInt) := by first | assumption | omega
                  refine pw_b12 (fun c128_g27 c128_g30 c128_g34 c128_g36 c128_F24 c128_F25 c128_F26 c128_F28 c128_F29 c128_F31 c128_F32 c128_F33 hc128 => ?_)
                  have hq128 := wp_at (ok_turnBy (upd (upd (upd (upd (upd (upd (upd (upd g 23 c123_g23) 27 d78_g27) 30 d78_g30) 34 d78_g34) 35 x44) 36 d78_g36) 39 c34_g39) 51 c34_g51) (upF (upF (upF (upF (upF (upF (upF (upF (upF (upF (upF (upF (upF (upF (upF (upF F 22 c123_F22) 24 d78_F24) 25 d78_F25) 26 d78_F26) 28 d78_F28) 29 d78_F29) 31 d78_F31) 32 d78_F32) 33 d78_F33) 37 c34_F37) 38 c34_F38) 40 c34_F40) 41 c34_F41) 52 c34_F52) 53 c34_F53) 54 c34_F54) p0 hMI128 hpr128_0) hc128
                  obtain ⟨hg71, hg72, hg73, hg74, hg75, hg76, hg77, hg78⟩ : (((0) ≤ c128_g27.toInt ∧ c128_g27.toInt ≤ 30)) ∧ (((0) ≤ c128_g30.toInt ∧ c128_g30.toInt ≤ 384)) ∧ (((0) ≤ c128_g34.toInt ∧ c128_g34.toInt ≤ 30)) ∧ (((0) ≤ c128_g36.toInt ∧ c128_g36.toInt ≤ 1)) ∧ (rng (0) 24 c128_F24) ∧ (rng (0) 24 c128_F25) ∧ (rng (0) 24 c128_F26) ∧ (rng (0) 24 c128_F33) := hq128
                  have f79 : (y78_5 + 1).toInt = y78_5.toInt + (1) := z_addc (by decide +kernel) (by omega) (by omega)
                  have iv78_0 : (84 * y52_4.toInt + 12 * p0.toInt ≤ (y78_5 + 1).toInt ∧ (y78_5 + 1).toInt ≤ 84 * y52_4.toInt + 12 * p0.toInt + 12) := by omega
                  exact ih78 (y78_5 + 1) c123_g23 c128_g27 c128_g30 c128_g34 c128_g36 c123_F22 c128_F24 c128_F25 c128_F26 c128_F28 c128_F29 c128_F31 c128_F32 c128_F33 hg69 hg71 hg72 hg73 hg74 hg75 hg76 hg77 hg78 iv78_0
            exact lp78 NN x76 d52_g23 d52_g27 d52_g30 d52_g34 (0 : Int32) d52_F22 d52_F24 d52_F25 d52_F26 d52_F28 d52_F29 d52_F31 d52_F32 d52_F33 hg28 hg29 hg30 hg31 hg39 hg33 hg34 hg35 hg36 (show (84 * y52_4.toInt + 12 * p0.toInt ≤ x76.toInt ∧ x76.toInt ≤ 84 * y52_4.toInt + 12 * p0.toInt + 12) from by omega)
      exact lp52 NN (0 : Int32) (0 : Int32) c34_g23 c34_g27 c34_g30 c34_g34 c34_g36 c34_F22 c34_F24 c34_F25 c34_F26 c34_F28 c34_F29 c34_F31 c34_F32 c34_F33 hg10 hg11 hg12 hg13 hg14 hg17 hg18 hg19 hg20 (show (0 ≤ (0 : Int32).toInt ∧ (0 : Int32).toInt ≤ 100) from by omega) (show (0 ≤ (0 : Int32).toInt ∧ (0 : Int32).toInt ≤ (0 : Int32).toInt) from by omega)
abbrev QF_mixed (g : Nat → Int32) (F : Nat → Nat → Int32) (p0 : Int32) (d : Nat → Dr) (Ws : List Wd) : (Int32 × Int32 × Int32 × Int32 × Int32 × Int32 × Int32 × Int32 × Int32 × Int32 × (Nat → Int32) × (Nat → Int32) × (Nat → Int32) × (Nat → Int32) × (Nat → Int32) × (Nat → Int32) × (Nat → Int32) × (Nat → Int32) × (Nat → Int32) × (Nat → Int32) × (Nat → Int32) × (Nat → Int32) × (Nat → Int32) × (Nat → Int32) × (Nat → Int32) × (Nat → Int32) × (Nat → Int32) × (Nat → Int32) × (Nat → Int32)) → Prop := (fun t => (((t.2.2.2.2.2.2.2.2.1).toInt ≠ 0 → MKT (t.2.2.2.2.2.2.2.2.2.2.2.2.2.2.2.2.2.2.2.2.2.2.2.2.2.1) (t.2.2.2.2.2.2.2.2.2.2.2.2.2.2.2.2.2.2.2.2.2.2.2.1) (t.2.2.2.2.2.2.2.2.2.2.2.2.2.2.2.2.2.2.2.2.2.2.2.2.1) d Ws (fun w s => w < Int32.toNatClampNeg (g 48) ∧ s ≤ Int32.toNatClampNeg (g 9)))))
set_option maxHeartbeats 4000000 in
set_option maxRecDepth 100000 in
theorem fn_mixed (g : Nat → Int32) (F : Nat → Nat → Int32) (p0 : Int32) (d : Nat → Dr) (Ws : List Wd) (hI : MInv g F) (hrd : ∀ q, q < Int32.toNatClampNeg (g 9) → RVd (F 13) (F 20) (F 21) (F 12) (F 18) (F 19) (F 11) (F 14) (F 15) (F 16) (F 17) q = d q ∧ WFD (d q)) (hWs : rwW (g 48) (F 49) (F 50) 24 = Ws) (hWw : WDS Ws) (hmk : (g 51).toInt ≠ 0 → MKT (F 54) (F 52) (F 53) d Ws (fun w s => w < Int32.toNatClampNeg (g 48) ∧ s ≤ Int32.toNatClampNeg (g 9))) : pw (f_mixed g F p0) (QF_mixed g F p0 d Ws) := by
  unfold f_mixed
  have hI9 : id (MInv g F) := hI
  obtain ⟨hzg1, -, -, -, -, -, -, -, hzg9, -, -, -, -, -, -, -, -, hzg48, hzg51, -, -, -, -, -, -, hzF11, hzF12, hzF13, hzF15, hzF19, hzF21, hzF24, hzF25, hzF26, hzF33, hzF38, hzF41, hzF43, hzF45, hzF46, hzF50, hzF53, hzF54, hzLQ⟩ := hI
  have zkm2 : (-2 : Int32).toInt = -2 := by decide +kernel
  have zkm1 : (-1 : Int32).toInt = -1 := by decide +kernel
  have zk0 : (0 : Int32).toInt = 0 := by decide +kernel
  have zk1 : (1 : Int32).toInt = 1 := by decide +kernel
  have zk7 : (7 : Int32).toInt = 7 := by decide +kernel
  have zk10 : (10 : Int32).toInt = 10 := by decide +kernel
  have zk34 : (34 : Int32).toInt = 34 := by decide +kernel
  have zk40 : (40 : Int32).toInt = 40 := by decide +kernel
  have zk50 : (50 : Int32).toInt = 50 := by decide +kernel
  have zk280 : (280 : Int32).toInt = 280 := by decide +kernel
  have hg1 : ((0) ≤ (0 : Int32).toInt ∧ (0 : Int32).toInt ≤ 2000) := ⟨by omega, by omega⟩
  refine pw_b1 (fun r14 hc14 => ?_)
  have hq14 := wp_at (ok_in p0 (0 : Int32) (50 : Int32) ) hc14
  obtain ⟨f2, f3, f4⟩ : ((r14.toInt = 1 → (0 : Int32).toInt ≤ p0.toInt ∧ p0.toInt ≤ (50 : Int32).toInt)) ∧ ((r14.toInt = 0 → p0.toInt < (0 : Int32).toInt ∨ (50 : Int32).toInt < p0.toInt)) ∧ ((0 ≤ r14.toInt ∧ r14.toInt ≤ 1)) := hq14
  refine pw_ite (fun c17 => ?_) (fun c17 => ?_)
  · have c17 := congrArg Int32.toInt c17
    have qq0 : ((g 51).toInt ≠ 0 → MKT (F 54) (F 52) (F 53) d Ws (fun w s => w < Int32.toNatClampNeg (g 48) ∧ s ≤ Int32.toNatClampNeg (g 9))) := by exact hmk
    exact pw_some qq0
  · have c17 := z_ne c17
    have hMI25 : id (MInv (upd g 1 0) F) := show MInv (upd g 1 0) F from (MInv_i hg1 ((hI9.2.1)) ((hI9.2.2.1)) ((hI9.2.2.2.1)) ((hI9.2.2.2.2.1)) ((hI9.2.2.2.2.2.1)) ((hI9.2.2.2.2.2.2.1)) ((hI9.2.2.2.2.2.2.2.1)) hzg9 ((hI9.2.2.2.2.2.2.2.2.2.1)) ((hI9.2.2.2.2.2.2.2.2.2.2.1)) ((hI9.2.2.2.2.2.2.2.2.2.2.2.1)) ((hI9.2.2.2.2.2.2.2.2.2.2.2.2.1)) ((hI9.2.2.2.2.2.2.2.2.2.2.2.2.2.1)) ((hI9.2.2.2.2.2.2.2.2.2.2.2.2.2.2.1)) ((hI9.2.2.2.2.2.2.2.2.2.2.2.2.2.2.2.1)) ((hI9.2.2.2.2.2.2.2.2.2.2.2.2.2.2.2.2.1)) hzg48 hzg51 ((hI9.2.2.2.2.2.2.2.2.2.2.2.2.2.2.2.2.2.2.2.1)) ((hI9.2.2.2.2.2.2.2.2.2.2.2.2.2.2.2.2.2.2.2.2.1)) ((hI9.2.2.2.2.2.2.2.2.2.2.2.2.2.2.2.2.2.2.2.2.2.1)) ((hI9.2.2.2.2.2.2.2.2.2.2.2.2.2.2.2.2.2.2.2.2.2.2.1)) ((hI9.2.2.2.2.2.2.2.2.2.2.2.2.2.2.2.2.2.2.2.2.2.2.2.1)) ((hI9.2.2.2.2.2.2.2.2.2.2.2.2.2.2.2.2.2.2.2.2.2.2.2.2.1)) hzF11 hzF12 hzF13 hzF15 hzF19 hzF21 hzF24 hzF25 hzF26 hzF33 hzF38 hzF41 hzF43 hzF45 hzF46 hzF50 hzF53 hzF54 hzLQ)
    have hpr25_0 : (g 1).toInt ≤ 2000 := by first | assumption | omega
    refine pw_b1 (fun r25 hc25 => ?_)
    have hq25 := wp_at (ok_hasNought (upd g 1 0) F (g 1) hMI25 hpr25_0) hc25
    have f5 : (0 ≤ r25.toInt ∧ r25.toInt ≤ 1) := hq25
    clear hq25
    refine pw_ite (fun c28 => ?_) (fun c28 => ?_)
    · have c28 := congrArg Int32.toInt c28
      refine pw_jE (fun k70 ek70 => ?_)
      have lp38 : ∀ (n38 : Nat) (y38_3 : Int32) (y38_4 : Int32), (0 ≤ y38_4.toInt ∧ y38_4.toInt ≤ (g 1).toInt) → y38_3.toInt = 1 + c10 (F 0) y38_4.toInt.toNat → pw (L_mixed_38 g F k70 n38 y38_3 y38_4) (QF_mixed g F p0 d Ws) := by
        intro n38
        induction n38 with
        | zero => intros; exact pw_none
        | succ n38 ih38 =>
          intro y38_3 y38_4 f6 f7
          show pw (B_mixed_38 g F k70 (L_mixed_38 g F k70 n38) y38_3 y38_4) _
          unfold B_mixed_38
          refine pw_ite (fun c41 => ?_) (fun c41 => ?_)
          · have c41 := (z_le _ _).mp c41
            refine pw_j1 ek70 (fun x70_3 ex70_3 => ?_)
            have ex70_3 := ex70_3.symm
            have f_x70_3 : x70_3.toInt = y38_3.toInt := by rw [ex70_3]
            have hcbn := c10_b (F 0) (g 1).toInt.toNat
            have hcb38 := c10_b (F 0) y38_4.toInt.toNat
            refine pw_ite (fun c73 => ?_) (fun c73 => ?_)
            · have c73 := (z_le _ _).mp c73
              have hMI79 : id (MInv (upd g 1 0) F) := show MInv (upd g 1 0) F from (MInv_i hg1 ((hI9.2.1)) ((hI9.2.2.1)) ((hI9.2.2.2.1)) ((hI9.2.2.2.2.1)) ((hI9.2.2.2.2.2.1)) ((hI9.2.2.2.2.2.2.1)) ((hI9.2.2.2.2.2.2.2.1)) hzg9 ((hI9.2.2.2.2.2.2.2.2.2.1)) ((hI9.2.2.2.2.2.2.2.2.2.2.1)) ((hI9.2.2.2.2.2.2.2.2.2.2.2.1)) ((hI9.2.2.2.2.2.2.2.2.2.2.2.2.1)) ((hI9.2.2.2.2.2.2.2.2.2.2.2.2.2.1)) ((hI9.2.2.2.2.2.2.2.2.2.2.2.2.2.2.1)) ((hI9.2.2.2.2.2.2.2.2.2.2.2.2.2.2.2.1)) ((hI9.2.2.2.2.2.2.2.2.2.2.2.2.2.2.2.2.1)) hzg48 hzg51 ((hI9.2.2.2.2.2.2.2.2.2.2.2.2.2.2.2.2.2.2.2.1)) ((hI9.2.2.2.2.2.2.2.2.2.2.2.2.2.2.2.2.2.2.2.2.1)) ((hI9.2.2.2.2.2.2.2.2.2.2.2.2.2.2.2.2.2.2.2.2.2.1)) ((hI9.2.2.2.2.2.2.2.2.2.2.2.2.2.2.2.2.2.2.2.2.2.2.1)) ((hI9.2.2.2.2.2.2.2.2.2.2.2.2.2.2.2.2.2.2.2.2.2.2.2.1)) ((hI9.2.2.2.2.2.2.2.2.2.2.2.2.2.2.2.2.2.2.2.2.2.2.2.2.1)) hzF11 hzF12 hzF13 hzF15 hzF19 hzF21 hzF24 hzF25 hzF26 hzF33 hzF38 hzF41 hzF43 hzF45 hzF46 hzF50 hzF53 hzF54 hzLQ)
              refine pw_b23 (fun c79_g23 c79_g27 c79_g30 c79_g34 c79_g36 c79_g39 c79_g51 c79_F22 c79_F24 c79_F25 c79_F26 c79_F28 c79_F29 c79_F31 c79_F32 c79_F33 c79_F37 c79_F38 c79_F40 c79_F41 c79_F52 c79_F53 c79_F54 hc79 => ?_)
              have hq79 := wp_at (ok_make (upd g 1 0) F hMI79) hc79
              obtain ⟨hg8, hg9, hg10, hg11, hg12, hg13, hg14, hg15, hg16, hg17, hg18, hg19, hg20, hg21, hg22⟩ : (((0) ≤ c79_g23.toInt ∧ c79_g23.toInt ≤ 24)) ∧ (((0) ≤ c79_g27.toInt ∧ c79_g27.toInt ≤ 30)) ∧ (((0) ≤ c79_g30.toInt ∧ c79_g30.toInt ≤ 384)) ∧ (((0) ≤ c79_g34.toInt ∧ c79_g34.toInt ≤ 30)) ∧ (((0) ≤ c79_g36.toInt ∧ c79_g36.toInt ≤ 1)) ∧ (((0) ≤ c79_g39.toInt ∧ c79_g39.toInt ≤ 12)) ∧ (((0) ≤ c79_g51.toInt ∧ c79_g51.toInt ≤ 1)) ∧ (rng (0) 24 c79_F24) ∧ (rng (0) 24 c79_F25) ∧ (rng (0) 24 c79_F26) ∧ (rng (0) 24 c79_F33) ∧ (rng (0) 24 c79_F38) ∧ (rng (0) 24 c79_F41) ∧ (rng (0) 24 c79_F53) ∧ (rng (0) 12 c79_F54) := hq79
              have h879_hrd : id (∀ q, q < Int32.toNatClampNeg (g 9) → RVd (F 13) (F 20) (F 21) (F 12) (F 18) (F 19) (F 11) (F 14) (F 15) (F 16) (F 17) q = d q ∧ WFD (d q)) := show ∀ q, q < Int32.toNatClampNeg (g 9) → RVd (F 13) (F 20) (F 21) (F 12) (F 18) (F 19) (F 11) (F 14) (F 15) (F 16) (F 17) q = d q ∧ WFD (d q) from by exact hrd
              have h879_hWs : rwW (g 48) (F 49) (F 50) 24 = Ws := by exact hWs
              have h879_hWw : WDS Ws := by exact hWw
              have h879_hmk : id ((g 51).toInt ≠ 0 → MKT (F 54) (F 52) (F 53) d Ws (fun w s => w < Int32.toNatClampNeg (g 48) ∧ s ≤ Int32.toNatClampNeg (g 9))) := show (g 51).toInt ≠ 0 → MKT (F 54) (F 52) (F 53) d Ws (fun w s => w < Int32.toNatClampNeg (g 48) ∧ s ≤ Int32.toNatClampNeg (g 9)) from by exact hmk
              have hx79 := pwq (fn_make (upd g 1 0) F (d) (Ws) hMI79 h879_hrd h879_hWs h879_hWw h879_hmk) hc79
              obtain ⟨p79_0, p79_1⟩ : (MKT c79_F54 c79_F52 c79_F53 d Ws (fun w s => w < Int32.toNatClampNeg (g 48) ∧ s ≤ Int32.toNatClampNeg (g 9))) ∧ (c79_g51.toInt ≠ 0) := hx79
              refine pw_jE (fun k107 ek107 => ?_)
              have lp85 : ∀ (n85 : Nat) (y85_4 : Int32) (d85_F67 : (Nat → Int32)), (0 ≤ y85_4.toInt ∧ y85_4.toInt ≤ 280) → pw (L_mixed_85 k107 n85 y85_4 d85_F67) (QF_mixed g F p0 d Ws) := by
                intro n85
                induction n85 with
                | zero => intros; exact pw_none
                | succ n85 ih85 =>
                  intro y85_4 d85_F67 f23
                  show pw (B_mixed_85 k107 (L_mixed_85 k107 n85) y85_4 d85_F67) _
                  unfold B_mixed_85
                  refine pw_ite (fun c90 => ?_) (fun c90 => ?_)
                  · have c90 := (z_le _ _).mp c90
                    refine pw_j1 ek107 (fun z107_1 ez107_1 => ?_)
                    subst ez107_1
                    refine pw_jE (fun k314 ek314 => ?_)
                    have lp113 : ∀ (n113 : Nat) (y113_4 : Int32) (y113_5 : Int32) (d113_F67 : (Nat → Int32)), (0 ≤ y113_5.toInt ∧ y113_5.toInt ≤ (g 1).toInt) → (y113_4.toInt = c10 (F 0) y113_5.toInt.toNat) → pw (L_mixed_113 g F c79_g23 c79_g27 c79_g30 c79_g34 c79_g36 c79_g39 c79_g51 c79_F22 c79_F24 c79_F25 c79_F26 c79_F28 c79_F29 c79_F31 c79_F32 c79_F33 c79_F37 c79_F38 c79_F40 c79_F41 c79_F52 c79_F53 c79_F54 k314 n113 y113_4 y113_5 d113_F67) (QF_mixed g F p0 d Ws) := by
                      intro n113
                      induction n113 with
                      | zero => intros; exact pw_none
                      | succ n113 ih113 =>
                        intro y113_4 y113_5 d113_F67 f24 ct113
                        show pw (B_mixed_113 g F c79_g23 c79_g27 c79_g30 c79_g34 c79_g36 c79_g39 c79_g51 c79_F22 c79_F24 c79_F25 c79_F26 c79_F28 c79_F29 c79_F31 c79_F32 c79_F33 c79_F37 c79_F38 c79_F40 c79_F41 c79_F52 c79_F53 c79_F54 k314 (L_mixed_113 g F c79_g23 c79_g27 c79_g30 c79_g34 c79_g36 c79_g39 c79_g51 c79_F22 c79_F24 c79_F25 c79_F26 c79_F28 c79_F29 c79_F31 c79_F32 c79_F33 c79_F37 c79_F38 c79_F40 c79_F41 c79_F52 c79_F53 c79_F54 k314 n113) y113_4 y113_5 d113_F67) _
                        unfold B_mixed_113
                        refine pw_ite (fun c116 => ?_) (fun c116 => ?_)
                        · have c116 := (z_le _ _).mp c116
                          refine pw_j1 ek314 (fun z314_1 ez314_1 => ?_)
                          subst ez314_1
                          refine pw_jE (fun k345 ek345 => ?_)
                          have lp317 : ∀ (n317 : Nat) (y317_6 : Int32) (d317_F68 : (Nat → Int32)), (0 ≤ y317_6.toInt ∧ y317_6.toInt ≤ 7) → pw (L_mixed_317 g x70_3 k345 n317 y317_6 d317_F68) (QF_mixed g F p0 d Ws) := by
                            intro n317
                            induction n317 with
                            | zero => intros; exact pw_none
                            | succ n317 ih317 =>
                              intro y317_6 d317_F68 f25
                              show pw (B_mixed_317 g x70_3 k345 (L_mixed_317 g x70_3 k345 n317) y317_6 d317_F68) _
                              unfold B_mixed_317
                              refine pw_ite (fun c323 => ?_) (fun c323 => ?_)
                              · have c323 := (z_lt _ _).mp c323
                                refine pw_j1 ek345 (fun z345_1 ez345_1 => ?_)
                                subst ez345_1
                                have f26 : (x70_3 - 1).toInt = x70_3.toInt - 1 := z_subc (by decide +kernel) (by omega) (by omega)
                                refine pw_vl (fun x348 ex348 => ?_)
                                have f27 : x348.toInt = (x70_3 - 1).toInt := congrArg Int32.toInt ex348
                                refine pw_jE (fun k429 ek429 => ?_)
                                have lp350 : ∀ (n350 : Nat) (y350_6 : Int32) (d350_F68 : (Nat → Int32)), ((-1) ≤ y350_6.toInt ∧ y350_6.toInt < 40) → pw (L_mixed_350 g F p0 x70_3 c79_g23 c79_g27 c79_g30 c79_g34 c79_g36 c79_g39 c79_g51 c79_F22 c79_F24 c79_F25 c79_F26 c79_F28 c79_F29 c79_F31 c79_F32 c79_F33 c79_F37 c79_F38 c79_F40 c79_F41 c79_F52 c79_F53 c79_F54 d113_F67 k429 n350 y350_6 d350_F68) (QF_mixed g F p0 d Ws) := by
                                  intro n350
                                  induction n350 with
                                  | zero => intros; exact pw_none
                                  | succ n350 ih350 =>
                                    intro y350_6 d350_F68 f28
                                    show pw (B_mixed_350 g F p0 x70_3 c79_g23 c79_g27 c79_g30 c79_g34 c79_g36 c79_g39 c79_g51 c79_F22 c79_F24 c79_F25 c79_F26 c79_F28 c79_F29 c79_F31 c79_F32 c79_F33 c79_F37 c79_F38 c79_F40 c79_F41 c79_F52 c79_F53 c79_F54 d113_F67 k429 (L_mixed_350 g F p0 x70_3 c79_g23 c79_g27 c79_g30 c79_g34 c79_g36 c79_g39 c79_g51 c79_F22 c79_F24 c79_F25 c79_F26 c79_F28 c79_F29 c79_F31 c79_F32 c79_F33 c79_F37 c79_F38 c79_F40 c79_F41 c79_F52 c79_F53 c79_F54 d113_F67 k429 n350) y350_6 d350_F68) _
                                    unfold B_mixed_350
                                    refine pw_ite (fun c352 => ?_) (fun c352 => ?_)
                                    · have c352 := (z_lt _ _).mp c352
                                      refine pw_j1 ek429 (fun z429_1 ez429_1 => ?_)
                                      subst ez429_1
                                      have hg29 : ((0) ≤ x70_3.toInt ∧ x70_3.toInt ≤ 40) := ⟨by omega, by omega⟩
                                      have hMI438 : id (MInv (upd (upd (upd (upd (upd (upd (upd (upd (upd g 1 0) 23 c79_g23) 27 c79_g27) 30 c79_g30) 34 c79_g34) 36 c79_g36) 39 c79_g39) 51 c79_g51) 70 x70_3) (upF (upF (upF (upF (upF (upF (upF (upF (upF (upF (upF (upF (upF (upF (upF (upF (upF (upF F 22 c79_F22) 24 c79_F24) 25 c79_F25) 26 c79_F26) 28 c79_F28) 29 c79_F29) 31 c79_F31) 32 c79_F32) 33 c79_F33) 37 c79_F37) 38 c79_F38) 40 c79_F40) 41 c79_F41) 52 c79_F52) 53 c79_F53) 54 c79_F54) 67 d113_F67) 68 d350_F68)) := show MInv (upd (upd (upd (upd (upd (upd (upd (upd (upd g 1 0) 23 c79_g23) 27 c79_g27) 30 c79_g30) 34 c79_g34) 36 c79_g36) 39 c79_g39) 51 c79_g51) 70 x70_3) (upF (upF (upF (upF (upF (upF (upF (upF (upF (upF (upF (upF (upF (upF (upF (upF (upF (upF F 22 c79_F22) 24 c79_F24) 25 c79_F25) 26 c79_F26) 28 c79_F28) 29 c79_F29) 31 c79_F31) 32 c79_F32) 33 c79_F33) 37 c79_F37) 38 c79_F38) 40 c79_F40) 41 c79_F41) 52 c79_F52) 53 c79_F53) 54 c79_F54) 67 d113_F67) 68 d350_F68) from (MInv_i hg1 ((hI9.2.1)) ((hI9.2.2.1)) ((hI9.2.2.2.1)) ((hI9.2.2.2.2.1)) ((hI9.2.2.2.2.2.1)) ((hI9.2.2.2.2.2.2.1)) ((hI9.2.2.2.2.2.2.2.1)) hzg9 hg8 hg9 hg10 hg11 hg12 hg13 ((hI9.2.2.2.2.2.2.2.2.2.2.2.2.2.2.2.1)) ((hI9.2.2.2.2.2.2.2.2.2.2.2.2.2.2.2.2.1)) hzg48 hg14 ((hI9.2.2.2.2.2.2.2.2.2.2.2.2.2.2.2.2.2.2.2.1)) ((hI9.2.2.2.2.2.2.2.2.2.2.2.2.2.2.2.2.2.2.2.2.1)) ((hI9.2.2.2.2.2.2.2.2.2.2.2.2.2.2.2.2.2.2.2.2.2.1)) ((hI9.2.2.2.2.2.2.2.2.2.2.2.2.2.2.2.2.2.2.2.2.2.2.1)) ((hI9.2.2.2.2.2.2.2.2.2.2.2.2.2.2.2.2.2.2.2.2.2.2.2.1)) hg29 hzF11 hzF12 hzF13 hzF15 hzF19 hzF21 hg15 hg16 hg17 hg18 hg19 hg20 hzF43 hzF45 hzF46 hzF50 hg21 hg22 hzLQ)
                                      have hpr438_0 : (0 ≤ (0 : Int32).toInt ∧ (0 : Int32).toInt ≤ 40) := by first | assumption | omega
                                      refine pw_b1 (fun r438 hc438 => ?_)
                                      have hq438 := wp_at (ok_onward (upd (upd (upd (upd (upd (upd (upd (upd (upd g 1 0) 23 c79_g23) 27 c79_g27) 30 c79_g30) 34 c79_g34) 36 c79_g36) 39 c79_g39) 51 c79_g51) 70 x70_3) (upF (upF (upF (upF (upF (upF (upF (upF (upF (upF (upF (upF (upF (upF (upF (upF (upF (upF F 22 c79_F22) 24 c79_F24) 25 c79_F25) 26 c79_F26) 28 c79_F28) 29 c79_F29) 31 c79_F31) 32 c79_F32) 33 c79_F33) 37 c79_F37) 38 c79_F38) 40 c79_F40) 41 c79_F41) 52 c79_F52) 53 c79_F53) 54 c79_F54) 67 d113_F67) 68 d350_F68) (0 : Int32) (-1 : Int32) p0 hMI438 hpr438_0) hc438
                                      have f30 : owJ d350_F68 (0 : Int32) (-1 : Int32) p0 (g 9) r438 := hq438
                                      clear hq438
                                      have lp449 : ∀ (n449 : Nat) (y449_7 : Int32) (y449_8 : Int32) (d449_F69 : (Nat → Int32)), (0 ≤ y449_8.toInt ∧ y449_8.toInt ≤ 40) → ((-1) ≤ y449_7.toInt ∧ y449_7.toInt ≤ 6) → pw (L_mixed_449 g F p0 x70_3 c79_g23 c79_g27 c79_g30 c79_g34 c79_g36 c79_g39 c79_g51 c79_F22 c79_F24 c79_F25 c79_F26 c79_F28 c79_F29 c79_F31 c79_F32 c79_F33 c79_F37 c79_F38 c79_F40 c79_F41 c79_F52 c79_F53 c79_F54 d113_F67 d350_F68 r438 n449 y449_7 y449_8 d449_F69) (QF_mixed g F p0 d Ws) := by
                                        intro n449
                                        induction n449 with
                                        | zero => intros; exact pw_none
                                        | succ n449 ih449 =>
                                          intro y449_7 y449_8 d449_F69 f31 f32
                                          show pw (B_mixed_449 g F p0 x70_3 c79_g23 c79_g27 c79_g30 c79_g34 c79_g36 c79_g39 c79_g51 c79_F22 c79_F24 c79_F25 c79_F26 c79_F28 c79_F29 c79_F31 c79_F32 c79_F33 c79_F37 c79_F38 c79_F40 c79_F41 c79_F52 c79_F53 c79_F54 d113_F67 d350_F68 r438 (L_mixed_449 g F p0 x70_3 c79_g23 c79_g27 c79_g30 c79_g34 c79_g36 c79_g39 c79_g51 c79_F22 c79_F24 c79_F25 c79_F26 c79_F28 c79_F29 c79_F31 c79_F32 c79_F33 c79_F37 c79_F38 c79_F40 c79_F41 c79_F52 c79_F53 c79_F54 d113_F67 d350_F68 r438 n449) y449_7 y449_8 d449_F69) _
                                          unfold B_mixed_449
                                          refine pw_ite (fun c452 => ?_) (fun c452 => ?_)
                                          · have c452 := (z_le _ _).mp c452
                                            have qq0 : (c79_g51.toInt ≠ 0 → MKT c79_F54 c79_F52 c79_F53 d Ws (fun w s => w < Int32.toNatClampNeg (g 48) ∧ s ≤ Int32.toNatClampNeg (g 9))) := by exact fun _ => p79_0
                                            exact pw_some qq0
                                          · have c452 := z_nle c452
                                            have hMI461 : id (MInv (upd (upd (upd (upd (upd (upd (upd (upd (upd g 1 0) 23 c79_g23) 27 c79_g27) 30 c79_g30) 34 c79_g34) 36 c79_g36) 39 c79_g39) 51 c79_g51) 70 x70_3) (upF (upF (upF (upF (upF (upF (upF (upF (upF (upF (upF (upF (upF (upF (upF (upF (upF (upF (upF F 22 c79_F22) 24 c79_F24) 25 c79_F25) 26 c79_F26) 28 c79_F28) 29 c79_F29) 31 c79_F31) 32 c79_F32) 33 c79_F33) 37 c79_F37) 38 c79_F38) 40 c79_F40) 41 c79_F41) 52 c79_F52) 53 c79_F53) 54 c79_F54) 67 d113_F67) 68 d350_F68) 69 d449_F69)) := show MInv (upd (upd (upd (upd (upd (upd (upd (upd (upd g 1 0) 23 c79_g23) 27 c79_g27) 30 c79_g30) 34 c79_g34) 36 c79_g36) 39 c79_g39) 51 c79_g51) 70 x70_3) (upF (upF (upF (upF (upF (upF (upF (upF (upF (upF (upF (upF (upF (upF (upF (upF (upF (upF (upF F 22 c79_F22) 24 c79_F24) 25 c79_F25) 26 c79_F26) 28 c79_F28) 29 c79_F29) 31 c79_F31) 32 c79_F32) 33 c79_F33) 37 c79_F37) 38 c79_F38) 40 c79_F40) 41 c79_F41) 52 c79_F52) 53 c79_F53) 54 c79_F54) 67 d113_F67) 68 d350_F68) 69 d449_F69) from (MInv_i hg1 ((hI9.2.1)) ((hI9.2.2.1)) ((hI9.2.2.2.1)) ((hI9.2.2.2.2.1)) ((hI9.2.2.2.2.2.1)) ((hI9.2.2.2.2.2.2.1)) ((hI9.2.2.2.2.2.2.2.1)) hzg9 hg8 hg9 hg10 hg11 hg12 hg13 ((hI9.2.2.2.2.2.2.2.2.2.2.2.2.2.2.2.1)) ((hI9.2.2.2.2.2.2.2.2.2.2.2.2.2.2.2.2.1)) hzg48 hg14 ((hI9.2.2.2.2.2.2.2.2.2.2.2.2.2.2.2.2.2.2.2.1)) ((hI9.2.2.2.2.2.2.2.2.2.2.2.2.2.2.2.2.2.2.2.2.1)) ((hI9.2.2.2.2.2.2.2.2.2.2.2.2.2.2.2.2.2.2.2.2.2.1)) ((hI9.2.2.2.2.2.2.2.2.2.2.2.2.2.2.2.2.2.2.2.2.2.2.1)) ((hI9.2.2.2.2.2.2.2.2.2.2.2.2.2.2.2.2.2.2.2.2.2.2.2.1)) hg29 hzF11 hzF12 hzF13 hzF15 hzF19 hzF21 hg15 hg16 hg17 hg18 hg19 hg20 hzF43 hzF45 hzF46 hzF50 hg21 hg22 hzLQ)
                                            have hpr461_0 : (0 ≤ y449_8.toInt ∧ y449_8.toInt ≤ 40) := by first | assumption | omega
                                            refine pw_b1 (fun r461 hc461 => ?_)
                                            have hq461 := wp_at (ok_onward (upd (upd (upd (upd (upd (upd (upd (upd (upd g 1 0) 23 c79_g23) 27 c79_g27) 30 c79_g30) 34 c79_g34) 36 c79_g36) 39 c79_g39) 51 c79_g51) 70 x70_3) (upF (upF (upF (upF (upF (upF (upF (upF (upF (upF (upF (upF (upF (upF (upF (upF (upF (upF (upF F 22 c79_F22) 24 c79_F24) 25 c79_F25) 26 c79_F26) 28 c79_F28) 29 c79_F29) 31 c79_F31) 32 c79_F32) 33 c79_F33) 37 c79_F37) 38 c79_F38) 40 c79_F40) 41 c79_F41) 52 c79_F52) 53 c79_F53) 54 c79_F54) 67 d113_F67) 68 d350_F68) 69 d449_F69) y449_8 y449_7 p0 hMI461 hpr461_0) hc461
                                            have f33 : owJ d350_F68 y449_8 y449_7 p0 (g 9) r461 := hq461
                                            clear hq461
                                            refine pw_jE (fun k512 ek512 => ?_)
                                            have lp469 : ∀ (n469 : Nat) (y469_10 : Int32), (0 ≤ y469_10.toInt ∧ y469_10.toInt ≤ 7) → owW d350_F68 y449_8 y449_7 p0 y469_10 (g 9) r461 → pw (L_mixed_469 p0 d350_F68 y449_7 y449_8 r461 k512 n469 y469_10) (QF_mixed g F p0 d Ws) := by
                                              intro n469
                                              induction n469 with
                                              | zero => intros; exact pw_none
                                              | succ n469 ih469 =>
                                                intro y469_10 f34 f35
                                                show pw (B_mixed_469 p0 d350_F68 y449_7 y449_8 r461 k512 (L_mixed_469 p0 d350_F68 y449_7 y449_8 r461 k512 n469) y469_10) _
                                                unfold B_mixed_469
                                                have how : owW d350_F68 y449_8 y449_7 p0 y469_10 (g 9) r461 := by assumption
                                                have hob := ow_b how
                                                have f36 : (7 * y449_8).toInt = 7 * y449_8.toInt := z_muld (by decide +kernel) (by omega) (by omega)
                                                have f37 : ((7 * y449_8) + y469_10).toInt = (7 * y449_8).toInt + y469_10.toInt := z_add (by omega) (by omega)
                                                refine pw_if (fun hb481 => ?_)
                                                obtain ⟨hbl481, hbr481⟩ := hb481
                                                refine pw_jE (fun j500 ej500 => ?_)
                                                refine pw_jE (fun j495 ej495 => ?_)
                                                refine pw_ite (fun c485 => ?_) (fun c485 => ?_)
                                                · have c485 := congrArg Int32.toInt c485
                                                  refine pw_j0 ej495 ?_
                                                  refine pw_j1 ej500 (fun t500_0 et500_0 => ?_)
                                                  have et500_0 := et500_0.symm
                                                  have f_t500_0 : t500_0.toInt = 0 := by rw [et500_0]; decide +kernel
                                                  refine pw_ite (fun c503 => ?_) (fun c503 => ?_)
                                                  · have c503 := congrArg Int32.toInt c503
                                                    refine pw_j1 ek512 (fun x512_10 ex512_10 => ?_)
                                                    have ex512_10 := ex512_10.symm
                                                    have f_x512_10 : x512_10.toInt = y469_10.toInt := by rw [ex512_10]
                                                    refine pw_if (fun hb520 => ?_)
                                                    obtain ⟨hbl520, hbr520⟩ := hb520
                                                    refine pw_vl (fun w520 ew520 => ?_)
                                                    have f38 : (y449_8 + 1).toInt = y449_8.toInt + (1) := z_addc (by decide +kernel) (by omega) (by omega)
                                                    have iv449_0 : (0 ≤ (y449_8 + 1).toInt ∧ (y449_8 + 1).toInt ≤ 40) := by omega
                                                    have iv449_1 : ((-1) ≤ x512_10.toInt ∧ x512_10.toInt ≤ 6) := by omega
                                                    exact ih449 x512_10 (y449_8 + 1) w520 iv449_0 iv449_1
                                                  · have c503 := z_ne c503
                                                    have hup := ow_up (s1 := y469_10 + 1) how c503 (by omega) (by omega) (by omega) (by intro h9; first | exact et500_0 | (exfalso; omega)) (by intro h9; first | exact et500_0 | (exfalso; omega)) (z_addc (by decide +kernel) (by omega) (by omega))
                                                    have f39 : (y469_10 + 1).toInt = y469_10.toInt + (1) := z_addc (by decide +kernel) (by omega) (by omega)
                                                    have iv469_0 : (0 ≤ (y469_10 + 1).toInt ∧ (y469_10 + 1).toInt ≤ 7) := by first | omega | exact hup
                                                    have iv469_1 : owW d350_F68 y449_8 y449_7 p0 (y469_10 + 1) (g 9) r461 := by first | exact hup | omega
                                                    exact ih469 (y469_10 + 1) iv469_0 iv469_1
                                                · have c485 := z_ne c485
                                                  refine pw_ite (fun c492 => ?_) (fun c492 => ?_)
                                                  · have c492 := congrArg Int32.toInt c492
                                                    refine pw_j0 ej495 ?_
                                                    refine pw_j1 ej500 (fun t500_0 et500_0 => ?_)
                                                    have et500_0 := et500_0.symm
                                                    have f_t500_0 : t500_0.toInt = 0 := by rw [et500_0]; decide +kernel
                                                    refine pw_ite (fun c503 => ?_) (fun c503 => ?_)
                                                    · have c503 := congrArg Int32.toInt c503
                                                      refine pw_j1 ek512 (fun x512_10 ex512_10 => ?_)
                                                      have ex512_10 := ex512_10.symm
                                                      have f_x512_10 : x512_10.toInt = y469_10.toInt := by rw [ex512_10]
                                                      refine pw_if (fun hb520 => ?_)
                                                      obtain ⟨hbl520, hbr520⟩ := hb520
                                                      refine pw_vl (fun w520 ew520 => ?_)
                                                      have f40 : (y449_8 + 1).toInt = y449_8.toInt + (1) := z_addc (by decide +kernel) (by omega) (by omega)
                                                      have iv449_0 : (0 ≤ (y449_8 + 1).toInt ∧ (y449_8 + 1).toInt ≤ 40) := by omega
                                                      have iv449_1 : ((-1) ≤ x512_10.toInt ∧ x512_10.toInt ≤ 6) := by omega
                                                      exact ih449 x512_10 (y449_8 + 1) w520 iv449_0 iv449_1
                                                    · have c503 := z_ne c503
                                                      have hup := ow_up (s1 := y469_10 + 1) how c503 (by omega) (by omega) (by omega) (by intro h9; first | exact et500_0 | (exfalso; omega)) (by intro h9; first | exact et500_0 | (exfalso; omega)) (z_addc (by decide +kernel) (by omega) (by omega))
                                                      have f41 : (y469_10 + 1).toInt = y469_10.toInt + (1) := z_addc (by decide +kernel) (by omega) (by omega)
                                                      have iv469_0 : (0 ≤ (y469_10 + 1).toInt ∧ (y469_10 + 1).toInt ≤ 7) := by first | omega | exact hup
                                                      have iv469_1 : owW d350_F68 y449_8 y449_7 p0 (y469_10 + 1) (g 9) r461 := by first | exact hup | omega
                                                      exact ih469 (y469_10 + 1) iv469_0 iv469_1
                                                  · have c492 := z_ne c492
                                                    refine pw_j1 ej500 (fun t500_0 et500_0 => ?_)
                                                    have et500_0 := et500_0.symm
                                                    have f_t500_0 : t500_0.toInt = p0.toInt := by rw [et500_0]
                                                    refine pw_ite (fun c503 => ?_) (fun c503 => ?_)
                                                    · have c503 := congrArg Int32.toInt c503
                                                      refine pw_j1 ek512 (fun x512_10 ex512_10 => ?_)
                                                      have ex512_10 := ex512_10.symm
                                                      have f_x512_10 : x512_10.toInt = y469_10.toInt := by rw [ex512_10]
                                                      refine pw_if (fun hb520 => ?_)
                                                      obtain ⟨hbl520, hbr520⟩ := hb520
                                                      refine pw_vl (fun w520 ew520 => ?_)
                                                      have f42 : (y449_8 + 1).toInt = y449_8.toInt + (1) := z_addc (by decide +kernel) (by omega) (by omega)
                                                      have iv449_0 : (0 ≤ (y449_8 + 1).toInt ∧ (y449_8 + 1).toInt ≤ 40) := by omega
                                                      have iv449_1 : ((-1) ≤ x512_10.toInt ∧ x512_10.toInt ≤ 6) := by omega
                                                      exact ih449 x512_10 (y449_8 + 1) w520 iv449_0 iv449_1
                                                    · have c503 := z_ne c503
                                                      have hup := ow_up (s1 := y469_10 + 1) how c503 (by omega) (by omega) (by omega) (by intro h9; first | exact et500_0 | (exfalso; omega)) (by intro h9; first | exact et500_0 | (exfalso; omega)) (z_addc (by decide +kernel) (by omega) (by omega))
                                                      have f43 : (y469_10 + 1).toInt = y469_10.toInt + (1) := z_addc (by decide +kernel) (by omega) (by omega)
                                                      have iv469_0 : (0 ≤ (y469_10 + 1).toInt ∧ (y469_10 + 1).toInt ≤ 7) := by first | omega | exact hup
                                                      have iv469_1 : owW d350_F68 y449_8 y449_7 p0 (y469_10 + 1) (g 9) r461 := by first | exact hup | omega
                                                      exact ih469 (y469_10 + 1) iv469_0 iv469_1
                                            exact lp469 NN (0 : Int32) (show (0 ≤ (0 : Int32).toInt ∧ (0 : Int32).toInt ≤ 7) from by first | omega | exact ow_0 (by assumption) (by omega)) (show owW d350_F68 y449_8 y449_7 p0 (0 : Int32) (g 9) r461 from by first | exact ow_0 (by assumption) (by omega) | omega)
                                      exact lp449 NN (-1 : Int32) (0 : Int32) (F 69) (show (0 ≤ (0 : Int32).toInt ∧ (0 : Int32).toInt ≤ 40) from by omega) (show ((-1) ≤ (-1 : Int32).toInt ∧ (-1 : Int32).toInt ≤ 6) from by omega)
                                    · have c352 := z_nlt c352
                                      refine pw_jE (fun k423 ek423 => ?_)
                                      have lp358 : ∀ (n358 : Nat) (y358_7 : Int32) (d358_F68 : (Nat → Int32)), (0 ≤ y358_7.toInt ∧ y358_7.toInt ≤ 7) → pw (L_mixed_358 g F p0 x70_3 c79_g23 c79_g27 c79_g30 c79_g34 c79_g36 c79_g39 c79_g51 c79_F22 c79_F24 c79_F25 c79_F26 c79_F28 c79_F29 c79_F31 c79_F32 c79_F33 c79_F37 c79_F38 c79_F40 c79_F41 c79_F52 c79_F53 c79_F54 d113_F67 y350_6 k423 n358 y358_7 d358_F68) (QF_mixed g F p0 d Ws) := by
                                        intro n358
                                        induction n358 with
                                        | zero => intros; exact pw_none
                                        | succ n358 ih358 =>
                                          intro y358_7 d358_F68 f44
                                          show pw (B_mixed_358 g F p0 x70_3 c79_g23 c79_g27 c79_g30 c79_g34 c79_g36 c79_g39 c79_g51 c79_F22 c79_F24 c79_F25 c79_F26 c79_F28 c79_F29 c79_F31 c79_F32 c79_F33 c79_F37 c79_F38 c79_F40 c79_F41 c79_F52 c79_F53 c79_F54 d113_F67 y350_6 k423 (L_mixed_358 g F p0 x70_3 c79_g23 c79_g27 c79_g30 c79_g34 c79_g36 c79_g39 c79_g51 c79_F22 c79_F24 c79_F25 c79_F26 c79_F28 c79_F29 c79_F31 c79_F32 c79_F33 c79_F37 c79_F38 c79_F40 c79_F41 c79_F52 c79_F53 c79_F54 d113_F67 y350_6 k423 n358) y358_7 d358_F68) _
                                          unfold B_mixed_358
                                          refine pw_ite (fun c364 => ?_) (fun c364 => ?_)
                                          · have c364 := (z_lt _ _).mp c364
                                            refine pw_j1 ek423 (fun z423_1 ez423_1 => ?_)
                                            subst ez423_1
                                            have f45 : (y350_6 + (-1)).toInt = y350_6.toInt + (-1) := z_addc (by decide +kernel) (by omega) (by omega)
                                            obtain ⟨z46, ez46⟩ : ∃ z : Int32, z = (y350_6 + (-1)) := ⟨_, rfl⟩
                                            have fz46 : z46.toInt = y350_6.toInt + (-1) := by rw [ez46]; exact f45
                                            rw [← ez46]
                                            clear f45 ez46
                                            have iv350_0 : ((-1) ≤ z46.toInt ∧ z46.toInt < 40) := by omega
                                            exact ih350 z46 d358_F68 iv350_0
                                          · have c364 := z_nlt c364
                                            have f47 : (7 * y350_6).toInt = 7 * y350_6.toInt := z_muld (by decide +kernel) (by omega) (by omega)
                                            have f48 : ((7 * y350_6) + y358_7).toInt = (7 * y350_6).toInt + y358_7.toInt := z_add (by omega) (by omega)
                                            refine pw_if (fun hb391 => ?_)
                                            obtain ⟨hbl391, hbr391⟩ := hb391
                                            have f51 : (y350_6 + 1).toInt = y350_6.toInt + 1 := z_addc (by decide +kernel) (by omega) (by omega)
                                            refine pw_jE (fun j415 ej415 => ?_)
                                            refine pw_ite (fun c397 => ?_) (fun c397 => ?_)
                                            · have c397 := (z_le _ _).mp c397
                                              refine pw_j1 ej415 (fun t415_0 et415_0 => ?_)
                                              have et415_0 := et415_0.symm
                                              have f_t415_0 : t415_0.toInt = 0 := by rw [et415_0]; decide +kernel
                                              refine pw_if (fun hb416 => ?_)
                                              obtain ⟨hbl416, hbr416⟩ := hb416
                                              refine pw_vl (fun w416 ew416 => ?_)
                                              have f52 : (y358_7 + 1).toInt = y358_7.toInt + (1) := z_addc (by decide +kernel) (by omega) (by omega)
                                              have iv358_0 : (0 ≤ (y358_7 + 1).toInt ∧ (y358_7 + 1).toInt ≤ 7) := by omega
                                              exact ih358 (y358_7 + 1) w416 iv358_0
                                            · have c397 := z_nle c397
                                              have hMI408 : id (MInv (upd (upd (upd (upd (upd (upd (upd (upd g 1 0) 23 c79_g23) 27 c79_g27) 30 c79_g30) 34 c79_g34) 36 c79_g36) 39 c79_g39) 51 c79_g51) (upF (upF (upF (upF (upF (upF (upF (upF (upF (upF (upF (upF (upF (upF (upF (upF (upF (upF F 22 c79_F22) 24 c79_F24) 25 c79_F25) 26 c79_F26) 28 c79_F28) 29 c79_F29) 31 c79_F31) 32 c79_F32) 33 c79_F33) 37 c79_F37) 38 c79_F38) 40 c79_F40) 41 c79_F41) 52 c79_F52) 53 c79_F53) 54 c79_F54) 67 d113_F67) 68 d358_F68)) := show MInv (upd (upd (upd (upd (upd (upd (upd (upd g 1 0) 23 c79_g23) 27 c79_g27) 30 c79_g30) 34 c79_g34) 36 c79_g36) 39 c79_g39) 51 c79_g51) (upF (upF (upF (upF (upF (upF (upF (upF (upF (upF (upF (upF (upF (upF (upF (upF (upF (upF F 22 c79_F22) 24 c79_F24) 25 c79_F25) 26 c79_F26) 28 c79_F28) 29 c79_F29) 31 c79_F31) 32 c79_F32) 33 c79_F33) 37 c79_F37) 38 c79_F38) 40 c79_F40) 41 c79_F41) 52 c79_F52) 53 c79_F53) 54 c79_F54) 67 d113_F67) 68 d358_F68) from (MInv_i hg1 ((hI9.2.1)) ((hI9.2.2.1)) ((hI9.2.2.2.1)) ((hI9.2.2.2.2.1)) ((hI9.2.2.2.2.2.1)) ((hI9.2.2.2.2.2.2.1)) ((hI9.2.2.2.2.2.2.2.1)) hzg9 hg8 hg9 hg10 hg11 hg12 hg13 ((hI9.2.2.2.2.2.2.2.2.2.2.2.2.2.2.2.1)) ((hI9.2.2.2.2.2.2.2.2.2.2.2.2.2.2.2.2.1)) hzg48 hg14 ((hI9.2.2.2.2.2.2.2.2.2.2.2.2.2.2.2.2.2.2.2.1)) ((hI9.2.2.2.2.2.2.2.2.2.2.2.2.2.2.2.2.2.2.2.2.1)) ((hI9.2.2.2.2.2.2.2.2.2.2.2.2.2.2.2.2.2.2.2.2.2.1)) ((hI9.2.2.2.2.2.2.2.2.2.2.2.2.2.2.2.2.2.2.2.2.2.2.1)) ((hI9.2.2.2.2.2.2.2.2.2.2.2.2.2.2.2.2.2.2.2.2.2.2.2.1)) ((hI9.2.2.2.2.2.2.2.2.2.2.2.2.2.2.2.2.2.2.2.2.2.2.2.2.1)) hzF11 hzF12 hzF13 hzF15 hzF19 hzF21 hg15 hg16 hg17 hg18 hg19 hg20 hzF43 hzF45 hzF46 hzF50 hg21 hg22 hzLQ)
                                              have hpr408_0 : (0 ≤ (y350_6 + 1).toInt ∧ (y350_6 + 1).toInt ≤ 40) := by first | assumption | omega
                                              refine pw_b1 (fun r408 hc408 => ?_)
                                              have hq408 := wp_at (ok_onward (upd (upd (upd (upd (upd (upd (upd (upd g 1 0) 23 c79_g23) 27 c79_g27) 30 c79_g30) 34 c79_g34) 36 c79_g36) 39 c79_g39) 51 c79_g51) (upF (upF (upF (upF (upF (upF (upF (upF (upF (upF (upF (upF (upF (upF (upF (upF (upF (upF F 22 c79_F22) 24 c79_F24) 25 c79_F25) 26 c79_F26) 28 c79_F28) 29 c79_F29) 31 c79_F31) 32 c79_F32) 33 c79_F33) 37 c79_F37) 38 c79_F38) 40 c79_F40) 41 c79_F41) 52 c79_F52) 53 c79_F53) 54 c79_F54) 67 d113_F67) 68 d358_F68) (y350_6 + 1) y358_7 p0 hMI408 hpr408_0) hc408
                                              have f54 : owJ d358_F68 (y350_6 + 1) y358_7 p0 (g 9) r408 := hq408
                                              clear hq408
                                              refine pw_j1 ej415 (fun t415_0 et415_0 => ?_)
                                              have et415_0 := et415_0.symm
                                              have f_t415_0 : t415_0.toInt = r408.toInt := by rw [et415_0]
                                              refine pw_if (fun hb416 => ?_)
                                              obtain ⟨hbl416, hbr416⟩ := hb416
                                              refine pw_vl (fun w416 ew416 => ?_)
                                              have f55 : (y358_7 + 1).toInt = y358_7.toInt + (1) := z_addc (by decide +kernel) (by omega) (by omega)
                                              have iv358_0 : (0 ≤ (y358_7 + 1).toInt ∧ (y358_7 + 1).toInt ≤ 7) := by omega
                                              exact ih358 (y358_7 + 1) w416 iv358_0
                                      exact lp358 NN (0 : Int32) d350_F68 (show (0 ≤ (0 : Int32).toInt ∧ (0 : Int32).toInt ≤ 7) from by omega)
                                exact lp350 NN x348 d317_F68 (show ((-1) ≤ x348.toInt ∧ x348.toInt < 40) from by omega)
                              · have c323 := z_nlt c323
                                have f56 : (7 * x70_3).toInt = 7 * x70_3.toInt := z_muld (by decide +kernel) (by omega) (by omega)
                                have f57 : ((7 * x70_3) + y317_6).toInt = (7 * x70_3).toInt + y317_6.toInt := z_add (by omega) (by omega)
                                refine pw_if (fun hb338 => ?_)
                                obtain ⟨hbl338, hbr338⟩ := hb338
                                refine pw_vl (fun w338 ew338 => ?_)
                                have f58 : (y317_6 + 1).toInt = y317_6.toInt + (1) := z_addc (by decide +kernel) (by omega) (by omega)
                                have iv317_0 : (0 ≤ (y317_6 + 1).toInt ∧ (y317_6 + 1).toInt ≤ 7) := by omega
                                exact ih317 (y317_6 + 1) w338 iv317_0
                          exact lp317 NN (0 : Int32) (F 68) (show (0 ≤ (0 : Int32).toInt ∧ (0 : Int32).toInt ≤ 7) from by omega)
                        · have c116 := z_nle c116
                          have hcb := c10_b (F 0) y113_5.toInt.toNat
                          have hcl := c10_le (F 0) (a := y113_5) (b := (g 1)) (by omega) (by omega)
                          have f59 : (y113_5 + 1).toInt = y113_5.toInt + 1 := z_addc (by decide +kernel) (by omega) (by omega)
                          refine pw_vl (fun x123 ex123 => ?_)
                          have f60 : x123.toInt = (y113_5 + 1).toInt := congrArg Int32.toInt ex123
                          have hcs := c10_s (F 0) (a := y113_5) (b := x123) (by omega) (by omega)
                          refine pw_if (fun hb131 => ?_)
                          obtain ⟨hbl131, hbr131⟩ := hb131
                          refine pw_jE (fun j307 ej307 => ?_)
                          refine pw_ite (fun c134 => ?_) (fun c134 => ?_)
                          · have c134 := congrArg Int32.toInt c134
                            have hMI141 : id (MInv (upd (upd (upd (upd (upd (upd (upd (upd g 1 0) 23 c79_g23) 27 c79_g27) 30 c79_g30) 34 c79_g34) 36 c79_g36) 39 c79_g39) 51 c79_g51) (upF (upF (upF (upF (upF (upF (upF (upF (upF (upF (upF (upF (upF (upF (upF (upF (upF F 22 c79_F22) 24 c79_F24) 25 c79_F25) 26 c79_F26) 28 c79_F28) 29 c79_F29) 31 c79_F31) 32 c79_F32) 33 c79_F33) 37 c79_F37) 38 c79_F38) 40 c79_F40) 41 c79_F41) 52 c79_F52) 53 c79_F53) 54 c79_F54) 67 d113_F67)) := show MInv (upd (upd (upd (upd (upd (upd (upd (upd g 1 0) 23 c79_g23) 27 c79_g27) 30 c79_g30) 34 c79_g34) 36 c79_g36) 39 c79_g39) 51 c79_g51) (upF (upF (upF (upF (upF (upF (upF (upF (upF (upF (upF (upF (upF (upF (upF (upF (upF F 22 c79_F22) 24 c79_F24) 25 c79_F25) 26 c79_F26) 28 c79_F28) 29 c79_F29) 31 c79_F31) 32 c79_F32) 33 c79_F33) 37 c79_F37) 38 c79_F38) 40 c79_F40) 41 c79_F41) 52 c79_F52) 53 c79_F53) 54 c79_F54) 67 d113_F67) from (MInv_i hg1 ((hI9.2.1)) ((hI9.2.2.1)) ((hI9.2.2.2.1)) ((hI9.2.2.2.2.1)) ((hI9.2.2.2.2.2.1)) ((hI9.2.2.2.2.2.2.1)) ((hI9.2.2.2.2.2.2.2.1)) hzg9 hg8 hg9 hg10 hg11 hg12 hg13 ((hI9.2.2.2.2.2.2.2.2.2.2.2.2.2.2.2.1)) ((hI9.2.2.2.2.2.2.2.2.2.2.2.2.2.2.2.2.1)) hzg48 hg14 ((hI9.2.2.2.2.2.2.2.2.2.2.2.2.2.2.2.2.2.2.2.1)) ((hI9.2.2.2.2.2.2.2.2.2.2.2.2.2.2.2.2.2.2.2.2.1)) ((hI9.2.2.2.2.2.2.2.2.2.2.2.2.2.2.2.2.2.2.2.2.2.1)) ((hI9.2.2.2.2.2.2.2.2.2.2.2.2.2.2.2.2.2.2.2.2.2.2.1)) ((hI9.2.2.2.2.2.2.2.2.2.2.2.2.2.2.2.2.2.2.2.2.2.2.2.1)) ((hI9.2.2.2.2.2.2.2.2.2.2.2.2.2.2.2.2.2.2.2.2.2.2.2.2.1)) hzF11 hzF12 hzF13 hzF15 hzF19 hzF21 hg15 hg16 hg17 hg18 hg19 hg20 hzF43 hzF45 hzF46 hzF50 hg21 hg22 hzLQ)
                            have hpr141_0 : 0 ≤ y113_5.toInt := by first | assumption | omega
                            have hpr141_1 : y113_5.toInt < (g 1).toInt := by first | assumption | omega
                            have hpr141_2 : (g 1).toInt ≤ 2000 := by first | assumption | omega
                            refine pw_b1 (fun r141 hc141 => ?_)
                            have hq141 := wp_at (ok_quoted (upd (upd (upd (upd (upd (upd (upd (upd g 1 0) 23 c79_g23) 27 c79_g27) 30 c79_g30) 34 c79_g34) 36 c79_g36) 39 c79_g39) 51 c79_g51) (upF (upF (upF (upF (upF (upF (upF (upF (upF (upF (upF (upF (upF (upF (upF (upF (upF F 22 c79_F22) 24 c79_F24) 25 c79_F25) 26 c79_F26) 28 c79_F28) 29 c79_F29) 31 c79_F31) 32 c79_F32) 33 c79_F33) 37 c79_F37) 38 c79_F38) 40 c79_F40) 41 c79_F41) 52 c79_F52) 53 c79_F53) 54 c79_F54) 67 d113_F67) y113_5 (g 1) hMI141 hpr141_0 hpr141_1 hpr141_2) hc141
                            have f61 : (y113_5.toInt < r141.toInt ∧ r141.toInt ≤ (g 1).toInt) := hq141
                            clear hq141
                            refine pw_jE (fun k185 ek185 => ?_)
                            have lp150 : ∀ (n150 : Nat) (y150_4 : Int32) (y150_7 : Int32), (y113_5.toInt ≤ y150_7.toInt ∧ y150_7.toInt ≤ r141.toInt) → y150_4.toInt = c10 (F 0) y150_7.toInt.toNat → pw (L_mixed_150 F r141 k185 n150 y150_4 y150_7) (QF_mixed g F p0 d Ws) := by
                              intro n150
                              induction n150 with
                              | zero => intros; exact pw_none
                              | succ n150 ih150 =>
                                intro y150_4 y150_7 f62 f63
                                show pw (B_mixed_150 F r141 k185 (L_mixed_150 F r141 k185 n150) y150_4 y150_7) _
                                unfold B_mixed_150
                                refine pw_ite (fun c154 => ?_) (fun c154 => ?_)
                                · have c154 := (z_le _ _).mp c154
                                  refine pw_j1 ek185 (fun x185_4 ex185_4 => ?_)
                                  have ex185_4 := ex185_4.symm
                                  have f_x185_4 : x185_4.toInt = y150_4.toInt := by rw [ex185_4]
                                  refine pw_j3 ej307 (fun x307_4 ex307_4 x307_6 ex307_6 z307_1 ez307_1 => ?_)
                                  subst ez307_1
                                  have ex307_4 := ex307_4.symm
                                  have f_x307_4 : x307_4.toInt = x185_4.toInt := by rw [ex307_4]
                                  have ex307_6 := ex307_6.symm
                                  have f_x307_6 : x307_6.toInt = r141.toInt := by rw [ex307_6]
                                  have iv113_0 : (0 ≤ x307_6.toInt ∧ x307_6.toInt ≤ (g 1).toInt) := by omega
                                  have iv113_1 : (x307_4.toInt = c10 (F 0) x307_6.toInt.toNat) := by have e9 : x307_6.toInt.toNat = y150_7.toInt.toNat := (by omega); rw [e9]; omega
                                  exact ih113 x307_4 x307_6 d113_F67 iv113_0 iv113_1
                                · have c154 := z_nle c154
                                  have hcb := c10_b (F 0) y150_7.toInt.toNat
                                  have hcs := c10_s (F 0) (a := y150_7) (b := y150_7 + 1) (by omega) (z_addc (by decide +kernel) (by omega) (by omega))
                                  refine pw_if (fun hb165 => ?_)
                                  obtain ⟨hbl165, hbr165⟩ := hb165
                                  refine pw_jE (fun j176 ej176 => ?_)
                                  refine pw_ite (fun c168 => ?_) (fun c168 => ?_)
                                  · have c168 := congrArg Int32.toInt c168
                                    refine pw_j1 ej176 (fun t176_0 et176_0 => ?_)
                                    have et176_0 := et176_0.symm
                                    have f_t176_0 : t176_0.toInt = 1 := by rw [et176_0]; decide +kernel
                                    have f64 : (y150_4 + t176_0).toInt = y150_4.toInt + t176_0.toInt := z_add (by omega) (by omega)
                                    refine pw_vl (fun x177 ex177 => ?_)
                                    have f65 : x177.toInt = (y150_4 + t176_0).toInt := congrArg Int32.toInt ex177
                                    have f66 : (y150_7 + 1).toInt = y150_7.toInt + (1) := z_addc (by decide +kernel) (by omega) (by omega)
                                    have iv150_0 : (y113_5.toInt ≤ (y150_7 + 1).toInt ∧ (y150_7 + 1).toInt ≤ r141.toInt) := by omega
                                    have iv150_1 : x177.toInt = c10 (F 0) (y150_7 + 1).toInt.toNat := by omega
                                    exact ih150 x177 (y150_7 + 1) iv150_0 iv150_1
                                  · have c168 := z_ne c168
                                    refine pw_j1 ej176 (fun t176_0 et176_0 => ?_)
                                    have et176_0 := et176_0.symm
                                    have f_t176_0 : t176_0.toInt = 0 := by rw [et176_0]; decide +kernel
                                    have f67 : (y150_4 + t176_0).toInt = y150_4.toInt + t176_0.toInt := z_add (by omega) (by omega)
                                    refine pw_vl (fun x177 ex177 => ?_)
                                    have f68 : x177.toInt = (y150_4 + t176_0).toInt := congrArg Int32.toInt ex177
                                    have f69 : (y150_7 + 1).toInt = y150_7.toInt + (1) := z_addc (by decide +kernel) (by omega) (by omega)
                                    have iv150_0 : (y113_5.toInt ≤ (y150_7 + 1).toInt ∧ (y150_7 + 1).toInt ≤ r141.toInt) := by omega
                                    have iv150_1 : x177.toInt = c10 (F 0) (y150_7 + 1).toInt.toNat := by omega
                                    exact ih150 x177 (y150_7 + 1) iv150_0 iv150_1
                            exact lp150 NN y113_4 y113_5 (show (y113_5.toInt ≤ y113_5.toInt ∧ y113_5.toInt ≤ r141.toInt) from by omega) (show y113_4.toInt = c10 (F 0) y113_5.toInt.toNat from by omega)
                          · have c134 := z_ne c134
                            refine pw_if (fun hb194 => ?_)
                            obtain ⟨hbl194, hbr194⟩ := hb194
                            refine pw_b1 (fun r195 hc195 => ?_)
                            have hq195 := wp_at (ok_isLetter ((F 0) (Int32.toNatClampNeg y113_5)) ) hc195
                            obtain ⟨f70, f71⟩ : ((r195.toInt = 1 → 65 ≤ ((F 0) (Int32.toNatClampNeg y113_5)).toInt)) ∧ ((0 ≤ r195.toInt ∧ r195.toInt ≤ 1)) := hq195
                            refine pw_ite (fun c198 => ?_) (fun c198 => ?_)
                            · have c198 := congrArg Int32.toInt c198
                              refine pw_if (fun hb298 => ?_)
                              obtain ⟨hbl298, hbr298⟩ := hb298
                              refine pw_ite (fun c301 => ?_) (fun c301 => ?_)
                              · have c301 := congrArg Int32.toInt c301
                                have f72 : (y113_4 + 1).toInt = y113_4.toInt + (1) := z_addc (by decide +kernel) (by omega) (by omega)
                                refine pw_j3 ej307 (fun x307_4 ex307_4 x307_6 ex307_6 z307_1 ez307_1 => ?_)
                                subst ez307_1
                                have ex307_4 := ex307_4.symm
                                have f_x307_4 : x307_4.toInt = (y113_4 + 1).toInt := by rw [ex307_4]
                                have ex307_6 := ex307_6.symm
                                have f_x307_6 : x307_6.toInt = x123.toInt := by rw [ex307_6]
                                have iv113_0 : (0 ≤ x307_6.toInt ∧ x307_6.toInt ≤ (g 1).toInt) := by omega
                                have iv113_1 : (x307_4.toInt = c10 (F 0) x307_6.toInt.toNat) := by have e9 : x307_6.toInt.toNat = x123.toInt.toNat := (by omega); rw [e9]; omega
                                exact ih113 x307_4 x307_6 d113_F67 iv113_0 iv113_1
                              · have c301 := z_ne c301
                                refine pw_j3 ej307 (fun x307_4 ex307_4 x307_6 ex307_6 z307_1 ez307_1 => ?_)
                                subst ez307_1
                                have ex307_4 := ex307_4.symm
                                have f_x307_4 : x307_4.toInt = y113_4.toInt := by rw [ex307_4]
                                have ex307_6 := ex307_6.symm
                                have f_x307_6 : x307_6.toInt = x123.toInt := by rw [ex307_6]
                                have iv113_0 : (0 ≤ x307_6.toInt ∧ x307_6.toInt ≤ (g 1).toInt) := by omega
                                have iv113_1 : (x307_4.toInt = c10 (F 0) x307_6.toInt.toNat) := by have e9 : x307_6.toInt.toNat = x123.toInt.toNat := (by omega); rw [e9]; omega
                                exact ih113 x307_4 x307_6 d113_F67 iv113_0 iv113_1
                            · have c198 := z_ne c198
                              refine pw_jE (fun k226 ek226 => ?_)
                              have lp201 : ∀ (n201 : Nat) (y201_6 : Int32), (y113_5.toInt + 1 ≤ y201_6.toInt ∧ y201_6.toInt ≤ (g 1).toInt) → y113_4.toInt = c10 (F 0) y201_6.toInt.toNat → pw (L_mixed_201 g F k226 n201 y201_6) (QF_mixed g F p0 d Ws) := by
                                intro n201
                                induction n201 with
                                | zero => intros; exact pw_none
                                | succ n201 ih201 =>
                                  intro y201_6 f73 f74
                                  show pw (B_mixed_201 g F k226 (L_mixed_201 g F k226 n201) y201_6) _
                                  unfold B_mixed_201
                                  refine pw_ite (fun c204 => ?_) (fun c204 => ?_)
                                  · have c204 := (z_le _ _).mp c204
                                    refine pw_j1 ek226 (fun x226_6 ex226_6 => ?_)
                                    have ex226_6 := ex226_6.symm
                                    have f_x226_6 : x226_6.toInt = y201_6.toInt := by rw [ex226_6]
                                    have hcl2 := c10_b (F 0) y113_5.toInt.toNat
                                    refine pw_jE (fun k289 ek289 => ?_)
                                    have lp229 : ∀ (n229 : Nat) (y229_7 : Int32) (d229_F67 : (Nat → Int32)), (0 ≤ y229_7.toInt ∧ y229_7.toInt ≤ 7) → pw (L_mixed_229 g F c79_g23 c79_g27 c79_g30 c79_g34 c79_g36 c79_g39 c79_g51 c79_F22 c79_F24 c79_F25 c79_F26 c79_F28 c79_F29 c79_F31 c79_F32 c79_F33 c79_F37 c79_F38 c79_F40 c79_F41 c79_F52 c79_F53 c79_F54 y113_4 y113_5 x226_6 k289 n229 y229_7 d229_F67) (QF_mixed g F p0 d Ws) := by
                                      intro n229
                                      induction n229 with
                                      | zero => intros; exact pw_none
                                      | succ n229 ih229 =>
                                        intro y229_7 d229_F67 f75
                                        show pw (B_mixed_229 g F c79_g23 c79_g27 c79_g30 c79_g34 c79_g36 c79_g39 c79_g51 c79_F22 c79_F24 c79_F25 c79_F26 c79_F28 c79_F29 c79_F31 c79_F32 c79_F33 c79_F37 c79_F38 c79_F40 c79_F41 c79_F52 c79_F53 c79_F54 y113_4 y113_5 x226_6 k289 (L_mixed_229 g F c79_g23 c79_g27 c79_g30 c79_g34 c79_g36 c79_g39 c79_g51 c79_F22 c79_F24 c79_F25 c79_F26 c79_F28 c79_F29 c79_F31 c79_F32 c79_F33 c79_F37 c79_F38 c79_F40 c79_F41 c79_F52 c79_F53 c79_F54 y113_4 y113_5 x226_6 k289 n229) y229_7 d229_F67) _
                                        unfold B_mixed_229
                                        refine pw_ite (fun c235 => ?_) (fun c235 => ?_)
                                        · have c235 := (z_lt _ _).mp c235
                                          refine pw_j1 ek289 (fun z289_1 ez289_1 => ?_)
                                          subst ez289_1
                                          refine pw_j3 ej307 (fun x307_4 ex307_4 x307_6 ex307_6 z307_1 ez307_1 => ?_)
                                          subst ez307_1
                                          have ex307_4 := ex307_4.symm
                                          have f_x307_4 : x307_4.toInt = y113_4.toInt := by rw [ex307_4]
                                          have ex307_6 := ex307_6.symm
                                          have f_x307_6 : x307_6.toInt = x226_6.toInt := by rw [ex307_6]
                                          have iv113_0 : (0 ≤ x307_6.toInt ∧ x307_6.toInt ≤ (g 1).toInt) := by omega
                                          have iv113_1 : (x307_4.toInt = c10 (F 0) x307_6.toInt.toNat) := by have e9 : x307_6.toInt.toNat = y201_6.toInt.toNat := (by omega); rw [e9]; omega
                                          exact ih113 x307_4 x307_6 d229_F67 iv113_0 iv113_1
                                        · have c235 := z_nlt c235
                                          have f76 : (7 * y113_4).toInt = 7 * y113_4.toInt := z_muld (by decide +kernel) (by omega) (by omega)
                                          have f77 : ((7 * y113_4) + y229_7).toInt = (7 * y113_4).toInt + y229_7.toInt := z_add (by omega) (by omega)
                                          refine pw_if (fun hb251 => ?_)
                                          obtain ⟨hbl251, hbr251⟩ := hb251
                                          have hMI257 : id (MInv (upd (upd (upd (upd (upd (upd (upd (upd g 1 0) 23 c79_g23) 27 c79_g27) 30 c79_g30) 34 c79_g34) 36 c79_g36) 39 c79_g39) 51 c79_g51) (upF (upF (upF (upF (upF (upF (upF (upF (upF (upF (upF (upF (upF (upF (upF (upF (upF F 22 c79_F22) 24 c79_F24) 25 c79_F25) 26 c79_F26) 28 c79_F28) 29 c79_F29) 31 c79_F31) 32 c79_F32) 33 c79_F33) 37 c79_F37) 38 c79_F38) 40 c79_F40) 41 c79_F41) 52 c79_F52) 53 c79_F53) 54 c79_F54) 67 d229_F67)) := show MInv (upd (upd (upd (upd (upd (upd (upd (upd g 1 0) 23 c79_g23) 27 c79_g27) 30 c79_g30) 34 c79_g34) 36 c79_g36) 39 c79_g39) 51 c79_g51) (upF (upF (upF (upF (upF (upF (upF (upF (upF (upF (upF (upF (upF (upF (upF (upF (upF F 22 c79_F22) 24 c79_F24) 25 c79_F25) 26 c79_F26) 28 c79_F28) 29 c79_F29) 31 c79_F31) 32 c79_F32) 33 c79_F33) 37 c79_F37) 38 c79_F38) 40 c79_F40) 41 c79_F41) 52 c79_F52) 53 c79_F53) 54 c79_F54) 67 d229_F67) from (MInv_i hg1 ((hI9.2.1)) ((hI9.2.2.1)) ((hI9.2.2.2.1)) ((hI9.2.2.2.2.1)) ((hI9.2.2.2.2.2.1)) ((hI9.2.2.2.2.2.2.1)) ((hI9.2.2.2.2.2.2.2.1)) hzg9 hg8 hg9 hg10 hg11 hg12 hg13 ((hI9.2.2.2.2.2.2.2.2.2.2.2.2.2.2.2.1)) ((hI9.2.2.2.2.2.2.2.2.2.2.2.2.2.2.2.2.1)) hzg48 hg14 ((hI9.2.2.2.2.2.2.2.2.2.2.2.2.2.2.2.2.2.2.2.1)) ((hI9.2.2.2.2.2.2.2.2.2.2.2.2.2.2.2.2.2.2.2.2.1)) ((hI9.2.2.2.2.2.2.2.2.2.2.2.2.2.2.2.2.2.2.2.2.2.1)) ((hI9.2.2.2.2.2.2.2.2.2.2.2.2.2.2.2.2.2.2.2.2.2.2.1)) ((hI9.2.2.2.2.2.2.2.2.2.2.2.2.2.2.2.2.2.2.2.2.2.2.2.1)) ((hI9.2.2.2.2.2.2.2.2.2.2.2.2.2.2.2.2.2.2.2.2.2.2.2.2.1)) hzF11 hzF12 hzF13 hzF15 hzF19 hzF21 hg15 hg16 hg17 hg18 hg19 hg20 hzF43 hzF45 hzF46 hzF50 hg21 hg22 hzLQ)
                                          have hpr257_0 : 0 ≤ y113_5.toInt := by first | assumption | omega
                                          have hpr257_1 : x226_6.toInt ≤ 2000 := by first | assumption | omega
                                          refine pw_b1 (fun r257 hc257 => ?_)
                                          have hq257 := wp_at (ok_isName (upd (upd (upd (upd (upd (upd (upd (upd g 1 0) 23 c79_g23) 27 c79_g27) 30 c79_g30) 34 c79_g34) 36 c79_g36) 39 c79_g39) 51 c79_g51) (upF (upF (upF (upF (upF (upF (upF (upF (upF (upF (upF (upF (upF (upF (upF (upF (upF F 22 c79_F22) 24 c79_F24) 25 c79_F25) 26 c79_F26) 28 c79_F28) 29 c79_F29) 31 c79_F31) 32 c79_F32) 33 c79_F33) 37 c79_F37) 38 c79_F38) 40 c79_F40) 41 c79_F41) 52 c79_F52) 53 c79_F53) 54 c79_F54) 67 d229_F67) y113_5 x226_6 hMI257 hpr257_0 hpr257_1) hc257
                                          have f78 : (0 ≤ r257.toInt ∧ r257.toInt ≤ 1) := hq257
                                          clear hq257
                                          refine pw_jE (fun j281 ej281 => ?_)
                                          refine pw_jE (fun j276 ej276 => ?_)
                                          refine pw_ite (fun c260 => ?_) (fun c260 => ?_)
                                          · have c260 := congrArg Int32.toInt c260
                                            have hMI270 : id (MInv (upd (upd (upd (upd (upd (upd (upd (upd g 1 0) 23 c79_g23) 27 c79_g27) 30 c79_g30) 34 c79_g34) 36 c79_g36) 39 c79_g39) 51 c79_g51) (upF (upF (upF (upF (upF (upF (upF (upF (upF (upF (upF (upF (upF (upF (upF (upF (upF F 22 c79_F22) 24 c79_F24) 25 c79_F25) 26 c79_F26) 28 c79_F28) 29 c79_F29) 31 c79_F31) 32 c79_F32) 33 c79_F33) 37 c79_F37) 38 c79_F38) 40 c79_F40) 41 c79_F41) 52 c79_F52) 53 c79_F53) 54 c79_F54) 67 d229_F67)) := show MInv (upd (upd (upd (upd (upd (upd (upd (upd g 1 0) 23 c79_g23) 27 c79_g27) 30 c79_g30) 34 c79_g34) 36 c79_g36) 39 c79_g39) 51 c79_g51) (upF (upF (upF (upF (upF (upF (upF (upF (upF (upF (upF (upF (upF (upF (upF (upF (upF F 22 c79_F22) 24 c79_F24) 25 c79_F25) 26 c79_F26) 28 c79_F28) 29 c79_F29) 31 c79_F31) 32 c79_F32) 33 c79_F33) 37 c79_F37) 38 c79_F38) 40 c79_F40) 41 c79_F41) 52 c79_F52) 53 c79_F53) 54 c79_F54) 67 d229_F67) from (MInv_i hg1 ((hI9.2.1)) ((hI9.2.2.1)) ((hI9.2.2.2.1)) ((hI9.2.2.2.2.1)) ((hI9.2.2.2.2.2.1)) ((hI9.2.2.2.2.2.2.1)) ((hI9.2.2.2.2.2.2.2.1)) hzg9 hg8 hg9 hg10 hg11 hg12 hg13 ((hI9.2.2.2.2.2.2.2.2.2.2.2.2.2.2.2.1)) ((hI9.2.2.2.2.2.2.2.2.2.2.2.2.2.2.2.2.1)) hzg48 hg14 ((hI9.2.2.2.2.2.2.2.2.2.2.2.2.2.2.2.2.2.2.2.1)) ((hI9.2.2.2.2.2.2.2.2.2.2.2.2.2.2.2.2.2.2.2.2.1)) ((hI9.2.2.2.2.2.2.2.2.2.2.2.2.2.2.2.2.2.2.2.2.2.1)) ((hI9.2.2.2.2.2.2.2.2.2.2.2.2.2.2.2.2.2.2.2.2.2.2.1)) ((hI9.2.2.2.2.2.2.2.2.2.2.2.2.2.2.2.2.2.2.2.2.2.2.2.1)) ((hI9.2.2.2.2.2.2.2.2.2.2.2.2.2.2.2.2.2.2.2.2.2.2.2.2.1)) hzF11 hzF12 hzF13 hzF15 hzF19 hzF21 hg15 hg16 hg17 hg18 hg19 hg20 hzF43 hzF45 hzF46 hzF50 hg21 hg22 hzLQ)
                                            have hpr270_0 : (0 ≤ y229_7.toInt ∧ y229_7.toInt ≤ 6) := by first | assumption | omega
                                            have hpr270_1 : (0 ≤ y113_5.toInt ∧ y113_5.toInt ≤ x226_6.toInt ∧ x226_6.toInt ≤ 2000) := by first | assumption | omega
                                            refine pw_b1 (fun r270 hc270 => ?_)
                                            have hq270 := wp_at (ok_isKnown (upd (upd (upd (upd (upd (upd (upd (upd g 1 0) 23 c79_g23) 27 c79_g27) 30 c79_g30) 34 c79_g34) 36 c79_g36) 39 c79_g39) 51 c79_g51) (upF (upF (upF (upF (upF (upF (upF (upF (upF (upF (upF (upF (upF (upF (upF (upF (upF F 22 c79_F22) 24 c79_F24) 25 c79_F25) 26 c79_F26) 28 c79_F28) 29 c79_F29) 31 c79_F31) 32 c79_F32) 33 c79_F33) 37 c79_F37) 38 c79_F38) 40 c79_F40) 41 c79_F41) 52 c79_F52) 53 c79_F53) 54 c79_F54) 67 d229_F67) y229_7 y113_5 x226_6 hMI270 hpr270_0 hpr270_1) hc270
                                            have f79 : (0 ≤ r270.toInt ∧ r270.toInt ≤ 1) := hq270
                                            clear hq270
                                            refine pw_ite (fun c273 => ?_) (fun c273 => ?_)
                                            · have c273 := congrArg Int32.toInt c273
                                              refine pw_j1 ej281 (fun t281_0 et281_0 => ?_)
                                              have et281_0 := et281_0.symm
                                              have f_t281_0 : t281_0.toInt = 1 := by rw [et281_0]; decide +kernel
                                              refine pw_if (fun hb282 => ?_)
                                              obtain ⟨hbl282, hbr282⟩ := hb282
                                              refine pw_vl (fun w282 ew282 => ?_)
                                              have f80 : (y229_7 + 1).toInt = y229_7.toInt + (1) := z_addc (by decide +kernel) (by omega) (by omega)
                                              have iv229_0 : (0 ≤ (y229_7 + 1).toInt ∧ (y229_7 + 1).toInt ≤ 7) := by omega
                                              exact ih229 (y229_7 + 1) w282 iv229_0
                                            · have c273 := z_ne c273
                                              refine pw_j0 ej276 ?_
                                              refine pw_j1 ej281 (fun t281_0 et281_0 => ?_)
                                              have et281_0 := et281_0.symm
                                              have f_t281_0 : t281_0.toInt = 0 := by rw [et281_0]; decide +kernel
                                              refine pw_if (fun hb282 => ?_)
                                              obtain ⟨hbl282, hbr282⟩ := hb282
                                              refine pw_vl (fun w282 ew282 => ?_)
                                              have f81 : (y229_7 + 1).toInt = y229_7.toInt + (1) := z_addc (by decide +kernel) (by omega) (by omega)
                                              have iv229_0 : (0 ≤ (y229_7 + 1).toInt ∧ (y229_7 + 1).toInt ≤ 7) := by omega
                                              exact ih229 (y229_7 + 1) w282 iv229_0
                                          · have c260 := z_ne c260
                                            refine pw_j0 ej276 ?_
                                            refine pw_j1 ej281 (fun t281_0 et281_0 => ?_)
                                            have et281_0 := et281_0.symm
                                            have f_t281_0 : t281_0.toInt = 0 := by rw [et281_0]; decide +kernel
                                            refine pw_if (fun hb282 => ?_)
                                            obtain ⟨hbl282, hbr282⟩ := hb282
                                            refine pw_vl (fun w282 ew282 => ?_)
                                            have f82 : (y229_7 + 1).toInt = y229_7.toInt + (1) := z_addc (by decide +kernel) (by omega) (by omega)
                                            have iv229_0 : (0 ≤ (y229_7 + 1).toInt ∧ (y229_7 + 1).toInt ≤ 7) := by omega
                                            exact ih229 (y229_7 + 1) w282 iv229_0
                                    exact lp229 NN (0 : Int32) d113_F67 (show (0 ≤ (0 : Int32).toInt ∧ (0 : Int32).toInt ≤ 7) from by omega)
                                  · have c204 := z_nle c204
                                    have hcb := c10_b (F 0) y201_6.toInt.toNat
                                    have hcs := c10_s (F 0) (a := y201_6) (b := y201_6 + 1) (by omega) (z_addc (by decide +kernel) (by omega) (by omega))
                                    refine pw_if (fun hb213 => ?_)
                                    obtain ⟨hbl213, hbr213⟩ := hb213
                                    refine pw_b1 (fun r214 hc214 => ?_)
                                    have hq214 := wp_at (ok_isLetter ((F 0) (Int32.toNatClampNeg y201_6)) ) hc214
                                    obtain ⟨f83, f84⟩ : ((r214.toInt = 1 → 65 ≤ ((F 0) (Int32.toNatClampNeg y201_6)).toInt)) ∧ ((0 ≤ r214.toInt ∧ r214.toInt ≤ 1)) := hq214
                                    refine pw_ite (fun c217 => ?_) (fun c217 => ?_)
                                    · have c217 := congrArg Int32.toInt c217
                                      refine pw_j1 ek226 (fun x226_6 ex226_6 => ?_)
                                      have ex226_6 := ex226_6.symm
                                      have f_x226_6 : x226_6.toInt = y201_6.toInt := by rw [ex226_6]
                                      have hcl2 := c10_b (F 0) y113_5.toInt.toNat
                                      refine pw_jE (fun k289 ek289 => ?_)
                                      have lp229 : ∀ (n229 : Nat) (y229_7 : Int32) (d229_F67 : (Nat → Int32)), (0 ≤ y229_7.toInt ∧ y229_7.toInt ≤ 7) → pw (L_mixed_229 g F c79_g23 c79_g27 c79_g30 c79_g34 c79_g36 c79_g39 c79_g51 c79_F22 c79_F24 c79_F25 c79_F26 c79_F28 c79_F29 c79_F31 c79_F32 c79_F33 c79_F37 c79_F38 c79_F40 c79_F41 c79_F52 c79_F53 c79_F54 y113_4 y113_5 x226_6 k289 n229 y229_7 d229_F67) (QF_mixed g F p0 d Ws) := by
                                        intro n229
                                        induction n229 with
                                        | zero => intros; exact pw_none
                                        | succ n229 ih229 =>
                                          intro y229_7 d229_F67 f85
                                          show pw (B_mixed_229 g F c79_g23 c79_g27 c79_g30 c79_g34 c79_g36 c79_g39 c79_g51 c79_F22 c79_F24 c79_F25 c79_F26 c79_F28 c79_F29 c79_F31 c79_F32 c79_F33 c79_F37 c79_F38 c79_F40 c79_F41 c79_F52 c79_F53 c79_F54 y113_4 y113_5 x226_6 k289 (L_mixed_229 g F c79_g23 c79_g27 c79_g30 c79_g34 c79_g36 c79_g39 c79_g51 c79_F22 c79_F24 c79_F25 c79_F26 c79_F28 c79_F29 c79_F31 c79_F32 c79_F33 c79_F37 c79_F38 c79_F40 c79_F41 c79_F52 c79_F53 c79_F54 y113_4 y113_5 x226_6 k289 n229) y229_7 d229_F67) _
                                          unfold B_mixed_229
                                          refine pw_ite (fun c235 => ?_) (fun c235 => ?_)
                                          · have c235 := (z_lt _ _).mp c235
                                            refine pw_j1 ek289 (fun z289_1 ez289_1 => ?_)
                                            subst ez289_1
                                            refine pw_j3 ej307 (fun x307_4 ex307_4 x307_6 ex307_6 z307_1 ez307_1 => ?_)
                                            subst ez307_1
                                            have ex307_4 := ex307_4.symm
                                            have f_x307_4 : x307_4.toInt = y113_4.toInt := by rw [ex307_4]
                                            have ex307_6 := ex307_6.symm
                                            have f_x307_6 : x307_6.toInt = x226_6.toInt := by rw [ex307_6]
                                            have iv113_0 : (0 ≤ x307_6.toInt ∧ x307_6.toInt ≤ (g 1).toInt) := by omega
                                            have iv113_1 : (x307_4.toInt = c10 (F 0) x307_6.toInt.toNat) := by have e9 : x307_6.toInt.toNat = y201_6.toInt.toNat := (by omega); rw [e9]; omega
                                            exact ih113 x307_4 x307_6 d229_F67 iv113_0 iv113_1
                                          · have c235 := z_nlt c235
                                            have f86 : (7 * y113_4).toInt = 7 * y113_4.toInt := z_muld (by decide +kernel) (by omega) (by omega)
                                            have f87 : ((7 * y113_4) + y229_7).toInt = (7 * y113_4).toInt + y229_7.toInt := z_add (by omega) (by omega)
                                            refine pw_if (fun hb251 => ?_)
                                            obtain ⟨hbl251, hbr251⟩ := hb251
                                            have hMI257 : id (MInv (upd (upd (upd (upd (upd (upd (upd (upd g 1 0) 23 c79_g23) 27 c79_g27) 30 c79_g30) 34 c79_g34) 36 c79_g36) 39 c79_g39) 51 c79_g51) (upF (upF (upF (upF (upF (upF (upF (upF (upF (upF (upF (upF (upF (upF (upF (upF (upF F 22 c79_F22) 24 c79_F24) 25 c79_F25) 26 c79_F26) 28 c79_F28) 29 c79_F29) 31 c79_F31) 32 c79_F32) 33 c79_F33) 37 c79_F37) 38 c79_F38) 40 c79_F40) 41 c79_F41) 52 c79_F52) 53 c79_F53) 54 c79_F54) 67 d229_F67)) := show MInv (upd (upd (upd (upd (upd (upd (upd (upd g 1 0) 23 c79_g23) 27 c79_g27) 30 c79_g30) 34 c79_g34) 36 c79_g36) 39 c79_g39) 51 c79_g51) (upF (upF (upF (upF (upF (upF (upF (upF (upF (upF (upF (upF (upF (upF (upF (upF (upF F 22 c79_F22) 24 c79_F24) 25 c79_F25) 26 c79_F26) 28 c79_F28) 29 c79_F29) 31 c79_F31) 32 c79_F32) 33 c79_F33) 37 c79_F37) 38 c79_F38) 40 c79_F40) 41 c79_F41) 52 c79_F52) 53 c79_F53) 54 c79_F54) 67 d229_F67) from (MInv_i hg1 ((hI9.2.1)) ((hI9.2.2.1)) ((hI9.2.2.2.1)) ((hI9.2.2.2.2.1)) ((hI9.2.2.2.2.2.1)) ((hI9.2.2.2.2.2.2.1)) ((hI9.2.2.2.2.2.2.2.1)) hzg9 hg8 hg9 hg10 hg11 hg12 hg13 ((hI9.2.2.2.2.2.2.2.2.2.2.2.2.2.2.2.1)) ((hI9.2.2.2.2.2.2.2.2.2.2.2.2.2.2.2.2.1)) hzg48 hg14 ((hI9.2.2.2.2.2.2.2.2.2.2.2.2.2.2.2.2.2.2.2.1)) ((hI9.2.2.2.2.2.2.2.2.2.2.2.2.2.2.2.2.2.2.2.2.1)) ((hI9.2.2.2.2.2.2.2.2.2.2.2.2.2.2.2.2.2.2.2.2.2.1)) ((hI9.2.2.2.2.2.2.2.2.2.2.2.2.2.2.2.2.2.2.2.2.2.2.1)) ((hI9.2.2.2.2.2.2.2.2.2.2.2.2.2.2.2.2.2.2.2.2.2.2.2.1)) ((hI9.2.2.2.2.2.2.2.2.2.2.2.2.2.2.2.2.2.2.2.2.2.2.2.2.1)) hzF11 hzF12 hzF13 hzF15 hzF19 hzF21 hg15 hg16 hg17 hg18 hg19 hg20 hzF43 hzF45 hzF46 hzF50 hg21 hg22 hzLQ)
                                            have hpr257_0 : 0 ≤ y113_5.toInt := by first | assumption | omega
                                            have hpr257_1 : x226_6.toInt ≤ 2000 := by first | assumption | omega
                                            refine pw_b1 (fun r257 hc257 => ?_)
                                            have hq257 := wp_at (ok_isName (upd (upd (upd (upd (upd (upd (upd (upd g 1 0) 23 c79_g23) 27 c79_g27) 30 c79_g30) 34 c79_g34) 36 c79_g36) 39 c79_g39) 51 c79_g51) (upF (upF (upF (upF (upF (upF (upF (upF (upF (upF (upF (upF (upF (upF (upF (upF (upF F 22 c79_F22) 24 c79_F24) 25 c79_F25) 26 c79_F26) 28 c79_F28) 29 c79_F29) 31 c79_F31) 32 c79_F32) 33 c79_F33) 37 c79_F37) 38 c79_F38) 40 c79_F40) 41 c79_F41) 52 c79_F52) 53 c79_F53) 54 c79_F54) 67 d229_F67) y113_5 x226_6 hMI257 hpr257_0 hpr257_1) hc257
                                            have f88 : (0 ≤ r257.toInt ∧ r257.toInt ≤ 1) := hq257
                                            clear hq257
                                            refine pw_jE (fun j281 ej281 => ?_)
                                            refine pw_jE (fun j276 ej276 => ?_)
                                            refine pw_ite (fun c260 => ?_) (fun c260 => ?_)
                                            · have c260 := congrArg Int32.toInt c260
                                              have hMI270 : id (MInv (upd (upd (upd (upd (upd (upd (upd (upd g 1 0) 23 c79_g23) 27 c79_g27) 30 c79_g30) 34 c79_g34) 36 c79_g36) 39 c79_g39) 51 c79_g51) (upF (upF (upF (upF (upF (upF (upF (upF (upF (upF (upF (upF (upF (upF (upF (upF (upF F 22 c79_F22) 24 c79_F24) 25 c79_F25) 26 c79_F26) 28 c79_F28) 29 c79_F29) 31 c79_F31) 32 c79_F32) 33 c79_F33) 37 c79_F37) 38 c79_F38) 40 c79_F40) 41 c79_F41) 52 c79_F52) 53 c79_F53) 54 c79_F54) 67 d229_F67)) := show MInv (upd (upd (upd (upd (upd (upd (upd (upd g 1 0) 23 c79_g23) 27 c79_g27) 30 c79_g30) 34 c79_g34) 36 c79_g36) 39 c79_g39) 51 c79_g51) (upF (upF (upF (upF (upF (upF (upF (upF (upF (upF (upF (upF (upF (upF (upF (upF (upF F 22 c79_F22) 24 c79_F24) 25 c79_F25) 26 c79_F26) 28 c79_F28) 29 c79_F29) 31 c79_F31) 32 c79_F32) 33 c79_F33) 37 c79_F37) 38 c79_F38) 40 c79_F40) 41 c79_F41) 52 c79_F52) 53 c79_F53) 54 c79_F54) 67 d229_F67) from (MInv_i hg1 ((hI9.2.1)) ((hI9.2.2.1)) ((hI9.2.2.2.1)) ((hI9.2.2.2.2.1)) ((hI9.2.2.2.2.2.1)) ((hI9.2.2.2.2.2.2.1)) ((hI9.2.2.2.2.2.2.2.1)) hzg9 hg8 hg9 hg10 hg11 hg12 hg13 ((hI9.2.2.2.2.2.2.2.2.2.2.2.2.2.2.2.1)) ((hI9.2.2.2.2.2.2.2.2.2.2.2.2.2.2.2.2.1)) hzg48 hg14 ((hI9.2.2.2.2.2.2.2.2.2.2.2.2.2.2.2.2.2.2.2.1)) ((hI9.2.2.2.2.2.2.2.2.2.2.2.2.2.2.2.2.2.2.2.2.1)) ((hI9.2.2.2.2.2.2.2.2.2.2.2.2.2.2.2.2.2.2.2.2.2.1)) ((hI9.2.2.2.2.2.2.2.2.2.2.2.2.2.2.2.2.2.2.2.2.2.2.1)) ((hI9.2.2.2.2.2.2.2.2.2.2.2.2.2.2.2.2.2.2.2.2.2.2.2.1)) ((hI9.2.2.2.2.2.2.2.2.2.2.2.2.2.2.2.2.2.2.2.2.2.2.2.2.1)) hzF11 hzF12 hzF13 hzF15 hzF19 hzF21 hg15 hg16 hg17 hg18 hg19 hg20 hzF43 hzF45 hzF46 hzF50 hg21 hg22 hzLQ)
                                              have hpr270_0 : (0 ≤ y229_7.toInt ∧ y229_7.toInt ≤ 6) := by first | assumption | omega
                                              have hpr270_1 : (0 ≤ y113_5.toInt ∧ y113_5.toInt ≤ x226_6.toInt ∧ x226_6.toInt ≤ 2000) := by first | assumption | omega
                                              refine pw_b1 (fun r270 hc270 => ?_)
                                              have hq270 := wp_at (ok_isKnown (upd (upd (upd (upd (upd (upd (upd (upd g 1 0) 23 c79_g23) 27 c79_g27) 30 c79_g30) 34 c79_g34) 36 c79_g36) 39 c79_g39) 51 c79_g51) (upF (upF (upF (upF (upF (upF (upF (upF (upF (upF (upF (upF (upF (upF (upF (upF (upF F 22 c79_F22) 24 c79_F24) 25 c79_F25) 26 c79_F26) 28 c79_F28) 29 c79_F29) 31 c79_F31) 32 c79_F32) 33 c79_F33) 37 c79_F37) 38 c79_F38) 40 c79_F40) 41 c79_F41) 52 c79_F52) 53 c79_F53) 54 c79_F54) 67 d229_F67) y229_7 y113_5 x226_6 hMI270 hpr270_0 hpr270_1) hc270
                                              have f89 : (0 ≤ r270.toInt ∧ r270.toInt ≤ 1) := hq270
                                              clear hq270
                                              refine pw_ite (fun c273 => ?_) (fun c273 => ?_)
                                              · have c273 := congrArg Int32.toInt c273
                                                refine pw_j1 ej281 (fun t281_0 et281_0 => ?_)
                                                have et281_0 := et281_0.symm
                                                have f_t281_0 : t281_0.toInt = 1 := by rw [et281_0]; decide +kernel
                                                refine pw_if (fun hb282 => ?_)
                                                obtain ⟨hbl282, hbr282⟩ := hb282
                                                refine pw_vl (fun w282 ew282 => ?_)
                                                have f90 : (y229_7 + 1).toInt = y229_7.toInt + (1) := z_addc (by decide +kernel) (by omega) (by omega)
                                                have iv229_0 : (0 ≤ (y229_7 + 1).toInt ∧ (y229_7 + 1).toInt ≤ 7) := by omega
                                                exact ih229 (y229_7 + 1) w282 iv229_0
                                              · have c273 := z_ne c273
                                                refine pw_j0 ej276 ?_
                                                refine pw_j1 ej281 (fun t281_0 et281_0 => ?_)
                                                have et281_0 := et281_0.symm
                                                have f_t281_0 : t281_0.toInt = 0 := by rw [et281_0]; decide +kernel
                                                refine pw_if (fun hb282 => ?_)
                                                obtain ⟨hbl282, hbr282⟩ := hb282
                                                refine pw_vl (fun w282 ew282 => ?_)
                                                have f91 : (y229_7 + 1).toInt = y229_7.toInt + (1) := z_addc (by decide +kernel) (by omega) (by omega)
                                                have iv229_0 : (0 ≤ (y229_7 + 1).toInt ∧ (y229_7 + 1).toInt ≤ 7) := by omega
                                                exact ih229 (y229_7 + 1) w282 iv229_0
                                            · have c260 := z_ne c260
                                              refine pw_j0 ej276 ?_
                                              refine pw_j1 ej281 (fun t281_0 et281_0 => ?_)
                                              have et281_0 := et281_0.symm
                                              have f_t281_0 : t281_0.toInt = 0 := by rw [et281_0]; decide +kernel
                                              refine pw_if (fun hb282 => ?_)
                                              obtain ⟨hbl282, hbr282⟩ := hb282
                                              refine pw_vl (fun w282 ew282 => ?_)
                                              have f92 : (y229_7 + 1).toInt = y229_7.toInt + (1) := z_addc (by decide +kernel) (by omega) (by omega)
                                              have iv229_0 : (0 ≤ (y229_7 + 1).toInt ∧ (y229_7 + 1).toInt ≤ 7) := by omega
                                              exact ih229 (y229_7 + 1) w282 iv229_0
                                      exact lp229 NN (0 : Int32) d113_F67 (show (0 ≤ (0 : Int32).toInt ∧ (0 : Int32).toInt ≤ 7) from by omega)
                                    · have c217 := z_ne c217
                                      have f93 : (y201_6 + 1).toInt = y201_6.toInt + (1) := z_addc (by decide +kernel) (by omega) (by omega)
                                      have iv201_0 : (y113_5.toInt + 1 ≤ (y201_6 + 1).toInt ∧ (y201_6 + 1).toInt ≤ (g 1).toInt) := by omega
                                      have iv201_1 : y113_4.toInt = c10 (F 0) (y201_6 + 1).toInt.toNat := by omega
                                      exact ih201 (y201_6 + 1) iv201_0 iv201_1
                              exact lp201 NN x123 (show (y113_5.toInt + 1 ≤ x123.toInt ∧ x123.toInt ≤ (g 1).toInt) from by omega) (show y113_4.toInt = c10 (F 0) x123.toInt.toNat from by omega)
                    exact lp113 NN (0 : Int32) (0 : Int32) d85_F67 (show (0 ≤ (0 : Int32).toInt ∧ (0 : Int32).toInt ≤ (g 1).toInt) from by first | omega | exact c10_00 _) (show ((0 : Int32).toInt = c10 (F 0) (0 : Int32).toInt.toNat) from by exact c10_00 _)
                  · have c90 := z_nle c90
                    refine pw_if (fun hb100 => ?_)
                    obtain ⟨hbl100, hbr100⟩ := hb100
                    refine pw_vl (fun w100 ew100 => ?_)
                    have f94 : (y85_4 + 1).toInt = y85_4.toInt + (1) := z_addc (by decide +kernel) (by omega) (by omega)
                    have iv85_0 : (0 ≤ (y85_4 + 1).toInt ∧ (y85_4 + 1).toInt ≤ 280) := by omega
                    exact ih85 (y85_4 + 1) w100 iv85_0
              exact lp85 NN (0 : Int32) (F 67) (show (0 ≤ (0 : Int32).toInt ∧ (0 : Int32).toInt ≤ 280) from by omega)
            · have c73 := z_nle c73
              have qq0 : ((g 51).toInt ≠ 0 → MKT (F 54) (F 52) (F 53) d Ws (fun w s => w < Int32.toNatClampNeg (g 48) ∧ s ≤ Int32.toNatClampNeg (g 9))) := by exact hmk
              exact pw_some qq0
          · have c41 := z_nle c41
            have hcb := c10_b (F 0) y38_4.toInt.toNat
            have hcs := c10_s (F 0) (a := y38_4) (b := y38_4 + 1) (by omega) (z_addc (by decide +kernel) (by omega) (by omega))
            refine pw_if (fun hb51 => ?_)
            obtain ⟨hbl51, hbr51⟩ := hb51
            refine pw_jE (fun j62 ej62 => ?_)
            refine pw_ite (fun c54 => ?_) (fun c54 => ?_)
            · have c54 := congrArg Int32.toInt c54
              refine pw_j1 ej62 (fun t62_0 et62_0 => ?_)
              have et62_0 := et62_0.symm
              have f_t62_0 : t62_0.toInt = 1 := by rw [et62_0]; decide +kernel
              have f95 : (y38_3 + t62_0).toInt = y38_3.toInt + t62_0.toInt := z_add (by omega) (by omega)
              refine pw_vl (fun x63 ex63 => ?_)
              have f96 : x63.toInt = (y38_3 + t62_0).toInt := congrArg Int32.toInt ex63
              have f97 : (y38_4 + 1).toInt = y38_4.toInt + (1) := z_addc (by decide +kernel) (by omega) (by omega)
              have iv38_0 : (0 ≤ (y38_4 + 1).toInt ∧ (y38_4 + 1).toInt ≤ (g 1).toInt) := by omega
              have iv38_1 : x63.toInt = 1 + c10 (F 0) (y38_4 + 1).toInt.toNat := by omega
              exact ih38 x63 (y38_4 + 1) iv38_0 iv38_1
            · have c54 := z_ne c54
              refine pw_j1 ej62 (fun t62_0 et62_0 => ?_)
              have et62_0 := et62_0.symm
              have f_t62_0 : t62_0.toInt = 0 := by rw [et62_0]; decide +kernel
              have f98 : (y38_3 + t62_0).toInt = y38_3.toInt + t62_0.toInt := z_add (by omega) (by omega)
              refine pw_vl (fun x63 ex63 => ?_)
              have f99 : x63.toInt = (y38_3 + t62_0).toInt := congrArg Int32.toInt ex63
              have f100 : (y38_4 + 1).toInt = y38_4.toInt + (1) := z_addc (by decide +kernel) (by omega) (by omega)
              have iv38_0 : (0 ≤ (y38_4 + 1).toInt ∧ (y38_4 + 1).toInt ≤ (g 1).toInt) := by omega
              have iv38_1 : x63.toInt = 1 + c10 (F 0) (y38_4 + 1).toInt.toNat := by omega
              exact ih38 x63 (y38_4 + 1) iv38_0 iv38_1
      exact lp38 NN (1 : Int32) (0 : Int32) (show (0 ≤ (0 : Int32).toInt ∧ (0 : Int32).toInt ≤ (g 1).toInt) from by first | omega | exact c10_01 _) (show (1 : Int32).toInt = 1 + c10 (F 0) (0 : Int32).toInt.toNat from by first | omega | exact c10_01 _)
    · have c28 := z_ne c28
      have qq0 : ((g 51).toInt ≠ 0 → MKT (F 54) (F 52) (F 53) d Ws (fun w s => w < Int32.toNatClampNeg (g 48) ∧ s ≤ Int32.toNatClampNeg (g 9))) := by exact hmk
      exact pw_some qq0
