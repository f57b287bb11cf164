abbrev QF_learn (g : Nat → Int32) (F : Nat → Nat → Int32) (Ws : List Wd) : (Int32 × Int32 × Int32 × Int32 × Int32 × (Nat → Int32) × (Nat → Int32) × (Nat → Int32)) → Prop := (fun t => (((rwW (t.2.2.2.1) (t.2.2.2.2.2.2.1) (t.2.2.2.2.2.2.2) 24 = Ws ∧ (t.2.2.2.2.1) = (g 51) ∧ (t.2.2.2.1) = (g 48)) ∨ (∃ x, rwW (t.2.2.2.1) (t.2.2.2.2.2.2.1) (t.2.2.2.2.2.2.2) 24 = Ws ++ [x] ∧ (1 ≤ x.length ∧ x.length ≤ 24 ∧ BW x) ∧ (t.2.2.2.2.1).toInt = 0))))
set_option maxHeartbeats 4000000 in
set_option maxRecDepth 100000 in
theorem fn_learn (g : Nat → Int32) (F : Nat → Nat → Int32) (Ws : List Wd) (hI : MInv g F) (hWs : rwW (g 48) (F 49) (F 50) 24 = Ws) (hWw : WDS Ws) (hfit : ∀ i, fits .byte (.int ((F 0) i)) = true) : pw (f_learn g F) (QF_learn g F Ws) := by
  unfold f_learn
  have hI9 : id (MInv g F) := hI
  obtain ⟨hzg1, -, -, -, -, -, -, -, -, -, -, -, -, -, -, -, -, hzg48, hzg51, -, -, -, -, -, -, hzF11, hzF12, hzF13, hzF15, hzF19, hzF21, hzF24, hzF25, hzF26, hzF33, hzF38, hzF41, hzF43, hzF45, hzF46, hzF50, hzF53, hzF54, hzLQ⟩ := hI
  have zkm3 : (-3 : Int32).toInt = -3 := by decide +kernel
  have zkm2 : (-2 : Int32).toInt = -2 := by decide +kernel
  have zk0 : (0 : Int32).toInt = 0 := by decide +kernel
  have zk1 : (1 : Int32).toInt = 1 := by decide +kernel
  have zk24 : (24 : Int32).toInt = 24 := by decide +kernel
  have zk100 : (100 : Int32).toInt = 100 := by decide +kernel
  have hb48 := hzg48
  have c48 := clampI (x := g 48) (by omega)
  have hMI1 : id (MInv g F) := show MInv g F from (MInv_i hzg1 ((hI9.2.1)) ((hI9.2.2.1)) ((hI9.2.2.2.1)) ((hI9.2.2.2.2.1)) ((hI9.2.2.2.2.2.1)) ((hI9.2.2.2.2.2.2.1)) ((hI9.2.2.2.2.2.2.2.1)) ((hI9.2.2.2.2.2.2.2.2.1)) ((hI9.2.2.2.2.2.2.2.2.2.1)) ((hI9.2.2.2.2.2.2.2.2.2.2.1)) ((hI9.2.2.2.2.2.2.2.2.2.2.2.1)) ((hI9.2.2.2.2.2.2.2.2.2.2.2.2.1)) ((hI9.2.2.2.2.2.2.2.2.2.2.2.2.2.1)) ((hI9.2.2.2.2.2.2.2.2.2.2.2.2.2.2.1)) ((hI9.2.2.2.2.2.2.2.2.2.2.2.2.2.2.2.1)) ((hI9.2.2.2.2.2.2.2.2.2.2.2.2.2.2.2.2.1)) hzg48 hzg51 ((hI9.2.2.2.2.2.2.2.2.2.2.2.2.2.2.2.2.2.2.2.1)) ((hI9.2.2.2.2.2.2.2.2.2.2.2.2.2.2.2.2.2.2.2.2.1)) ((hI9.2.2.2.2.2.2.2.2.2.2.2.2.2.2.2.2.2.2.2.2.2.1)) ((hI9.2.2.2.2.2.2.2.2.2.2.2.2.2.2.2.2.2.2.2.2.2.2.1)) ((hI9.2.2.2.2.2.2.2.2.2.2.2.2.2.2.2.2.2.2.2.2.2.2.2.1)) ((hI9.2.2.2.2.2.2.2.2.2.2.2.2.2.2.2.2.2.2.2.2.2.2.2.2.1)) hzF11 hzF12 hzF13 hzF15 hzF19 hzF21 hzF24 hzF25 hzF26 hzF33 hzF38 hzF41 hzF43 hzF45 hzF46 hzF50 hzF53 hzF54 hzLQ)
  refine pw_b4 (fun r1 c1_g1 c1_g23 c1_F22 hc1 => ?_)
  have hq1 := wp_at (ok_readWord g F hMI1) hc1
  obtain ⟨hg1, hg2, f3, f4, f5⟩ : (((0) ≤ c1_g1.toInt ∧ c1_g1.toInt ≤ 2000)) ∧ (((0) ≤ c1_g23.toInt ∧ c1_g23.toInt ≤ 24)) ∧ (c1_g1.toInt = 0) ∧ (id ((r1.toInt = 1 → 1 ≤ c1_g23.toInt))) ∧ ((0 ≤ r1.toInt ∧ r1.toInt ≤ 1)) := hq1
  have h81_hfit : ∀ i, fits .byte (.int ((F 0) i)) = true := by exact hfit
  have hx1 := pwq (fn_readWord g F hMI1 h81_hfit) hc1
  obtain ⟨p1_0, p1_1⟩ : (id ((r1.toInt ≠ 0 → isw (F 0) (g 1).toInt ∧ c1_g23.toInt = (g 1).toInt ∧ wdl c1_F22 0 (Int32.toNatClampNeg c1_g23) = wdl (F 0) 0 (Int32.toNatClampNeg (g 1))))) ∧ (id ((r1.toInt = 0 → ¬ isw (F 0) (g 1).toInt))) := hx1
  refine pw_ite (fun c4 => ?_) (fun c4 => ?_)
  · have c4 := congrArg Int32.toInt c4
    have qq0 : ((rwW (g 48) (F 49) (F 50) 24 = Ws ∧ (g 51) = (g 51) ∧ (g 48) = (g 48)) ∨ (∃ x, rwW (g 48) (F 49) (F 50) 24 = Ws ++ [x] ∧ (1 ≤ x.length ∧ x.length ≤ 24 ∧ BW x) ∧ (g 51).toInt = 0)) := by exact Or.inl ⟨hWs, rfl, rfl⟩
    exact pw_some qq0
  · have c4 := z_ne c4
    obtain ⟨i1, i2, i3⟩ := p1_0 (by omega)
    have i1a := i1.1
    have c23 := clampI (x := c1_g23) (by omega)
    have cg1 := clampI (x := g 1) (by omega)
    refine pw_jE (fun k57 ek57 => ?_)
    have lp12 : ∀ (n12 : Nat) (y12_1 : Int32), (0 ≤ y12_1.toInt ∧ y12_1.toInt ≤ 100) → pw (L_learn_12 g F c1_g1 c1_g23 c1_F22 k57 n12 y12_1) (QF_learn g F Ws) := by
      intro n12
      induction n12 with
      | zero => intros; exact pw_none
      | succ n12 ih12 =>
        intro y12_1 f6
        show pw (B_learn_12 g F c1_g1 c1_g23 c1_F22 k57 (L_learn_12 g F c1_g1 c1_g23 c1_F22 k57 n12) y12_1) _
        unfold B_learn_12
        refine pw_ite (fun c17 => ?_) (fun c17 => ?_)
        · have c17 := (z_le _ _).mp c17
          refine pw_j0 ek57 ?_
          refine pw_ite (fun c63 => ?_) (fun c63 => ?_)
          · have c63 := congrArg Int32.toInt c63
            have qq0 : ((rwW (g 48) (F 49) (F 50) 24 = Ws ∧ (g 51) = (g 51) ∧ (g 48) = (g 48)) ∨ (∃ x, rwW (g 48) (F 49) (F 50) 24 = Ws ++ [x] ∧ (1 ≤ x.length ∧ x.length ≤ 24 ∧ BW x) ∧ (g 51).toInt = 0)) := by exact Or.inl ⟨hWs, rfl, rfl⟩
            exact pw_some qq0
          · have c63 := z_ne c63
            refine pw_jE (fun k105 ek105 => ?_)
            have lp71 : ∀ (n71 : Nat) (y71_1 : Int32) (d71_F49 : (Nat → Int32)), 0 ≤ y71_1.toInt → y71_1.toInt ≤ c1_g23.toInt → (∀ q, q < (24 * Int32.toNatClampNeg (g 48)) → d71_F49 q = (F 49) q) → (wdl d71_F49 (24 * Int32.toNatClampNeg (g 48)) (Int32.toNatClampNeg y71_1) = wdl c1_F22 0 (Int32.toNatClampNeg y71_1)) → pw (L_learn_71 g c1_g23 c1_F22 k105 n71 y71_1 d71_F49) (QF_learn g F Ws) := by
              intro n71
              induction n71 with
              | zero => intros; exact pw_none
              | succ n71 ih71 =>
                intro y71_1 d71_F49 f7 f8 lo71 li71
                show pw (B_learn_71 g c1_g23 c1_F22 k105 (L_learn_71 g c1_g23 c1_F22 k105 n71) y71_1 d71_F49) _
                unfold B_learn_71
                refine pw_ite (fun c76 => ?_) (fun c76 => ?_)
                · have c76 := (z_le _ _).mp c76
                  refine pw_j1 ek105 (fun z105_1 ez105_1 => ?_)
                  subst ez105_1
                  refine pw_if (fun hb117 => ?_)
                  obtain ⟨hbl117, hbr117⟩ := hb117
                  refine pw_vl (fun w117 ew117 => ?_)
                  have hF9 : rng (0) 24 w117 := by rw [ew117]; exact rng_upd hzF50 (by omega) (by omega)
                  have f10 : ((g 48) + 1).toInt = (g 48).toInt + 1 := z_addc (by decide +kernel) (by omega) (by omega)
                  refine pw_vl (fun x125 ex125 => ?_)
                  have f11 : x125.toInt = ((g 48) + 1).toInt := congrArg Int32.toInt ex125
                  have hg12 : ((0) ≤ x125.toInt ∧ x125.toInt ≤ 100) := ⟨by omega, by omega⟩
                  have hg13 : ((0) ≤ (0 : Int32).toInt ∧ (0 : Int32).toInt ≤ 1) := ⟨by omega, by omega⟩
                  have f14 : (x125 - 1).toInt = x125.toInt - 1 := z_subc (by decide +kernel) (by omega) (by omega)
                  have qq0 : ((rwW x125 d71_F49 w117 24 = Ws ∧ (0 : Int32) = (g 51) ∧ x125 = (g 48)) ∨ (∃ x, rwW x125 d71_F49 w117 24 = Ws ++ [x] ∧ (1 ≤ x.length ∧ x.length ≤ 24 ∧ BW x) ∧ (0 : Int32).toInt = 0)) := by have k1 := clampI (x := y71_1) (by omega); have kw := clampI (x := (g 48) + 1) (by omega); have k125 := clampI (x := x125) (by omega); refine Or.inr ⟨wdl (F 0) 0 (Int32.toNatClampNeg (g 1)), ?_, ⟨by rw [wdl_len]; omega, by rw [wdl_len]; omega, (fun y hy => by unfold wdl at hy; obtain ⟨j, _, e9⟩ := List.mem_map.mp hy; rw [← e9]; exact fit_id (hfit _))⟩, by omega⟩; have h9 := li71; rw [show Int32.toNatClampNeg y71_1 = Int32.toNatClampNeg c1_g23 by omega, i3] at h9; rw [← hWs]; refine rw_app (by omega) lo71 (fun j hj => by rw [ew117, pk_un (by omega)]) (fun j hj => (wds_sz (by rw [hWs]; exact hWw) hj).2) ?_; rw [ew117, pk_us]; exact h9
                  exact pw_some qq0
                · have c76 := z_nle c76
                  have f15 : (24 * (g 48)).toInt = 24 * (g 48).toInt := z_muld (by decide +kernel) (by omega) (by omega)
                  have f16 : ((24 * (g 48)) + y71_1).toInt = (24 * (g 48)).toInt + y71_1.toInt := z_add (by omega) (by omega)
                  refine pw_if (fun hb97 => ?_)
                  obtain ⟨hbl97, hbr97⟩ := hb97
                  refine pw_if (fun hb98 => ?_)
                  obtain ⟨hbl98, hbr98⟩ := hb98
                  refine pw_vl (fun w98 ew98 => ?_)
                  have f17 : (y71_1 + 1).toInt = y71_1.toInt + (1) := z_addc (by decide +kernel) (by omega) (by omega)
                  have iv71_0 : 0 ≤ (y71_1 + 1).toInt := by omega
                  have iv71_1 : (y71_1 + 1).toInt ≤ c1_g23.toInt := by omega
                  have iv71_2 : (∀ q, q < (24 * Int32.toNatClampNeg (g 48)) → w98 q = (F 49) q) := by have k1 := clampI (x := y71_1) (by omega); have k2 := clampI (x := y71_1 + 1) (by omega); have kd := clampI (x := (24 * (g 48)) + y71_1) (by omega); intro q hq; rw [ew98, pk_un (by omega)]; exact lo71 q hq
                  have iv71_3 : (wdl w98 (24 * Int32.toNatClampNeg (g 48)) (Int32.toNatClampNeg (y71_1 + 1)) = wdl c1_F22 0 (Int32.toNatClampNeg (y71_1 + 1))) := by have k1 := clampI (x := y71_1) (by omega); have k2 := clampI (x := y71_1 + 1) (by omega); have kd := clampI (x := (24 * (g 48)) + y71_1) (by omega); rw [ew98, show Int32.toNatClampNeg (y71_1 + 1) = Int32.toNatClampNeg y71_1 + 1 by omega, wdl_s1, wdl_s1, show (24 * Int32.toNatClampNeg (g 48)) + Int32.toNatClampNeg y71_1 = Int32.toNatClampNeg ((24 * (g 48)) + y71_1) by omega, pk_us, Nat.zero_add, bw_at (fun y hy => by unfold wdl at hy; obtain ⟨j, _, e9⟩ := List.mem_map.mp hy; rw [← e9]; exact fit_id (hfit _)) i3 (by omega), wdl_ext (fun i hi => pk_un (by omega)), li71]
                  exact ih71 (y71_1 + 1) w98 iv71_0 iv71_1 iv71_2 iv71_3
            exact lp71 NN (0 : Int32) (F 49) (show 0 ≤ (0 : Int32).toInt from by omega) (show (0 : Int32).toInt ≤ c1_g23.toInt from by omega) (show (∀ q, q < (24 * Int32.toNatClampNeg (g 48)) → (F 49) q = (F 49) q) from by intro q hq; rfl) (show (wdl (F 49) (24 * Int32.toNatClampNeg (g 48)) (Int32.toNatClampNeg (0 : Int32)) = wdl c1_F22 0 (Int32.toNatClampNeg (0 : Int32))) from by exact (wdl_nil.mpr rfl).trans (wdl_nil.mpr rfl).symm)
        · have c17 := z_nle c17
          have f18 : (24 * y12_1).toInt = 24 * y12_1.toInt := z_muld (by decide +kernel) (by omega) (by omega)
          refine pw_if (fun hb33 => ?_)
          obtain ⟨hbl33, hbr33⟩ := hb33
          have f19 := hzF50 (Int32.toNatClampNeg y12_1)
          have hpr43_0 : (0 ≤ (24 * y12_1).toInt ∧ (24 * y12_1).toInt + ((F 50) (Int32.toNatClampNeg y12_1)).toInt ≤ 2400) := by first | assumption | omega
          have hpr43_1 : 2400 ≤ 500000 := by first | assumption | omega
          have hpr43_2 : (0 ≤ (0 : Int32).toInt ∧ (0 : Int32).toInt + c1_g23.toInt ≤ 24) := by first | assumption | omega
          have hpr43_3 : 24 ≤ 500000 := by first | assumption | omega
          refine pw_b1 (fun r43 hc43 => ?_)
          have hq43 := wp_at (ok_sameBytes (F 49) 2400 (24 * y12_1) ((F 50) (Int32.toNatClampNeg y12_1)) c1_F22 24 (0 : Int32) c1_g23 hpr43_0 hpr43_1 hpr43_2 hpr43_3) hc43
          have f20 : (0 ≤ r43.toInt ∧ r43.toInt ≤ 1) := hq43
          clear hq43
          refine pw_ite (fun c46 => ?_) (fun c46 => ?_)
          · have c46 := congrArg Int32.toInt c46
            have f21 : (y12_1 + 1).toInt = y12_1.toInt + (1) := z_addc (by decide +kernel) (by omega) (by omega)
            have iv12_0 : (0 ≤ (y12_1 + 1).toInt ∧ (y12_1 + 1).toInt ≤ 100) := by omega
            exact ih12 (y12_1 + 1) iv12_0
          · have c46 := z_ne c46
            have qq0 : ((rwW (g 48) (F 49) (F 50) 24 = Ws ∧ (g 51) = (g 51) ∧ (g 48) = (g 48)) ∨ (∃ x, rwW (g 48) (F 49) (F 50) 24 = Ws ++ [x] ∧ (1 ≤ x.length ∧ x.length ≤ 24 ∧ BW x) ∧ (g 51).toInt = 0)) := by exact Or.inl ⟨hWs, rfl, rfl⟩
            exact pw_some qq0
    exact lp12 NN (0 : Int32) (show (0 ≤ (0 : Int32).toInt ∧ (0 : Int32).toInt ≤ 100) from by omega)
abbrev QF_uses (g : Nat → Int32) (F : Nat → Nat → Int32) (p0 : Int32) (p1 : Int32) (d : Nat → Dr) (Ws : List Wd) : (Int32 × Int32 × Int32 × Int32 × Int32 × Int32 × Int32 × Int32 × Int32 × (Nat → Int32) × (Nat → Int32) × (Nat → Int32) × (Nat → Int32) × (Nat → Int32) × (Nat → Int32) × (Nat → Int32) × (Nat → Int32) × (Nat → Int32) × (Nat → Int32) × (Nat → Int32) × (Nat → Int32) × (Nat → Int32) × (Nat → Int32) × (Nat → Int32) × (Nat → Int32)) → Prop := (fun t => (((t.2.2.2.2.2.2.2.2.1).toInt ≠ 0 → MKT (t.2.2.2.2.2.2.2.2.2.2.2.2.2.2.2.2.2.2.2.2.2.2.2.2) (t.2.2.2.2.2.2.2.2.2.2.2.2.2.2.2.2.2.2.2.2.2.2.1) (t.2.2.2.2.2.2.2.2.2.2.2.2.2.2.2.2.2.2.2.2.2.2.2.1) d Ws (fun w s => w < Int32.toNatClampNeg (g 48) ∧ s ≤ Int32.toNatClampNeg (g 9)))))
set_option maxHeartbeats 4000000 in
set_option maxRecDepth 100000 in
theorem fn_uses (g : Nat → Int32) (F : Nat → Nat → Int32) (p0 : Int32) (p1 : Int32) (d : Nat → Dr) (Ws : List Wd) (hI : MInv g F) (hrd : ∀ q, q < Int32.toNatClampNeg (g 9) → RVd (F 13) (F 20) (F 21) (F 12) (F 18) (F 19) (F 11) (F 14) (F 15) (F 16) (F 17) q = d q ∧ WFD (d q)) (hWs : rwW (g 48) (F 49) (F 50) 24 = Ws) (hWw : WDS Ws) (hmk : (g 51).toInt ≠ 0 → MKT (F 54) (F 52) (F 53) d Ws (fun w s => w < Int32.toNatClampNeg (g 48) ∧ s ≤ Int32.toNatClampNeg (g 9))) : pw (f_uses g F p0 p1) (QF_uses g F p0 p1 d Ws) := by
  unfold f_uses
  have hI9 : id (MInv g F) := hI
  obtain ⟨-, -, -, -, -, -, -, -, hzg9, hzg23, -, -, -, -, -, -, -, hzg48, hzg51, -, -, -, -, -, -, hzF11, hzF12, hzF13, hzF15, hzF19, hzF21, hzF24, hzF25, hzF26, hzF33, hzF38, hzF41, hzF43, hzF45, hzF46, hzF50, hzF53, hzF54, hzLQ⟩ := hI
  have zkm2 : (-2 : Int32).toInt = -2 := by decide +kernel
  have zk0 : (0 : Int32).toInt = 0 := by decide +kernel
  have zk1 : (1 : Int32).toInt = 1 := by decide +kernel
  have zk7 : (7 : Int32).toInt = 7 := by decide +kernel
  have zk12 : (12 : Int32).toInt = 12 := by decide +kernel
  have zk24 : (24 : Int32).toInt = 24 := by decide +kernel
  have zk40 : (40 : Int32).toInt = 40 := by decide +kernel
  have f1 : ((g 9) - 1).toInt = (g 9).toInt - 1 := z_subc (by decide +kernel) (by omega) (by omega)
  refine pw_b1 (fun r8 hc8 => ?_)
  have hq8 := wp_at (ok_in p0 (0 : Int32) ((g 9) - 1) ) hc8
  obtain ⟨f2, f3, f4⟩ : ((r8.toInt = 1 → (0 : Int32).toInt ≤ p0.toInt ∧ p0.toInt ≤ ((g 9) - 1).toInt)) ∧ ((r8.toInt = 0 → p0.toInt < (0 : Int32).toInt ∨ ((g 9) - 1).toInt < p0.toInt)) ∧ ((0 ≤ r8.toInt ∧ r8.toInt ≤ 1)) := hq8
  refine pw_jE (fun j30 ej30 => ?_)
  refine pw_ite (fun c11 => ?_) (fun c11 => ?_)
  · have c11 := congrArg Int32.toInt c11
    refine pw_j0 ej30 ?_
    have qq0 : ((g 51).toInt ≠ 0 → MKT (F 54) (F 52) (F 53) d Ws (fun w s => w < Int32.toNatClampNeg (g 48) ∧ s ≤ Int32.toNatClampNeg (g 9))) := by exact hmk
    exact pw_some qq0
  · have c11 := z_ne c11
    refine pw_if (fun hb21 => ?_)
    obtain ⟨hbl21, hbr21⟩ := hb21
    have f5 := hzF11 (Int32.toNatClampNeg p0)
    have f6 : (((F 11) (Int32.toNatClampNeg p0)) - 1).toInt = ((F 11) (Int32.toNatClampNeg p0)).toInt - 1 := z_subc (by decide +kernel) (by omega) (by omega)
    refine pw_b1 (fun r24 hc24 => ?_)
    have hq24 := wp_at (ok_in p1 (0 : Int32) (((F 11) (Int32.toNatClampNeg p0)) - 1) ) hc24
    obtain ⟨f7, f8, f9⟩ : ((r24.toInt = 1 → (0 : Int32).toInt ≤ p1.toInt ∧ p1.toInt ≤ (((F 11) (Int32.toNatClampNeg p0)) - 1).toInt)) ∧ ((r24.toInt = 0 → p1.toInt < (0 : Int32).toInt ∨ (((F 11) (Int32.toNatClampNeg p0)) - 1).toInt < p1.toInt)) ∧ ((0 ≤ r24.toInt ∧ r24.toInt ≤ 1)) := hq24
    refine pw_ite (fun c27 => ?_) (fun c27 => ?_)
    · have c27 := congrArg Int32.toInt c27
      refine pw_j0 ej30 ?_
      have qq0 : ((g 51).toInt ≠ 0 → MKT (F 54) (F 52) (F 53) d Ws (fun w s => w < Int32.toNatClampNeg (g 48) ∧ s ≤ Int32.toNatClampNeg (g 9))) := by exact hmk
      exact pw_some qq0
    · have c27 := z_ne c27
      have hMI34 : id (MInv g F) := show MInv g F from (MInv_i ((hI9.1)) ((hI9.2.1)) ((hI9.2.2.1)) ((hI9.2.2.2.1)) ((hI9.2.2.2.2.1)) ((hI9.2.2.2.2.2.1)) ((hI9.2.2.2.2.2.2.1)) ((hI9.2.2.2.2.2.2.2.1)) hzg9 hzg23 ((hI9.2.2.2.2.2.2.2.2.2.2.1)) ((hI9.2.2.2.2.2.2.2.2.2.2.2.1)) ((hI9.2.2.2.2.2.2.2.2.2.2.2.2.1)) ((hI9.2.2.2.2.2.2.2.2.2.2.2.2.2.1)) ((hI9.2.2.2.2.2.2.2.2.2.2.2.2.2.2.1)) ((hI9.2.2.2.2.2.2.2.2.2.2.2.2.2.2.2.1)) ((hI9.2.2.2.2.2.2.2.2.2.2.2.2.2.2.2.2.1)) hzg48 hzg51 ((hI9.2.2.2.2.2.2.2.2.2.2.2.2.2.2.2.2.2.2.2.1)) ((hI9.2.2.2.2.2.2.2.2.2.2.2.2.2.2.2.2.2.2.2.2.1)) ((hI9.2.2.2.2.2.2.2.2.2.2.2.2.2.2.2.2.2.2.2.2.2.1)) ((hI9.2.2.2.2.2.2.2.2.2.2.2.2.2.2.2.2.2.2.2.2.2.2.1)) ((hI9.2.2.2.2.2.2.2.2.2.2.2.2.2.2.2.2.2.2.2.2.2.2.2.1)) ((hI9.2.2.2.2.2.2.2.2.2.2.2.2.2.2.2.2.2.2.2.2.2.2.2.2.1)) hzF11 hzF12 hzF13 hzF15 hzF19 hzF21 hzF24 hzF25 hzF26 hzF33 hzF38 hzF41 hzF43 hzF45 hzF46 hzF50 hzF53 hzF54 hzLQ)
      refine pw_b23 (fun c34_g23 c34_g27 c34_g30 c34_g34 c34_g36 c34_g39 c34_g51 c34_F22 c34_F24 c34_F25 c34_F26 c34_F28 c34_F29 c34_F31 c34_F32 c34_F33 c34_F37 c34_F38 c34_F40 c34_F41 c34_F52 c34_F53 c34_F54 hc34 => ?_)
      have hq34 := wp_at (ok_make g F hMI34) hc34
      obtain ⟨hg10, hg11, hg12, hg13, hg14, hg15, hg16, hg17, hg18, hg19, hg20, hg21, hg22, hg23, hg24⟩ : (((0) ≤ c34_g23.toInt ∧ c34_g23.toInt ≤ 24)) ∧ (((0) ≤ c34_g27.toInt ∧ c34_g27.toInt ≤ 30)) ∧ (((0) ≤ c34_g30.toInt ∧ c34_g30.toInt ≤ 384)) ∧ (((0) ≤ c34_g34.toInt ∧ c34_g34.toInt ≤ 30)) ∧ (((0) ≤ c34_g36.toInt ∧ c34_g36.toInt ≤ 1)) ∧ (((0) ≤ c34_g39.toInt ∧ c34_g39.toInt ≤ 12)) ∧ (((0) ≤ c34_g51.toInt ∧ c34_g51.toInt ≤ 1)) ∧ (rng (0) 24 c34_F24) ∧ (rng (0) 24 c34_F25) ∧ (rng (0) 24 c34_F26) ∧ (rng (0) 24 c34_F33) ∧ (rng (0) 24 c34_F38) ∧ (rng (0) 24 c34_F41) ∧ (rng (0) 24 c34_F53) ∧ (rng (0) 12 c34_F54) := hq34
      have h834_hrd : id (∀ q, q < Int32.toNatClampNeg (g 9) → RVd (F 13) (F 20) (F 21) (F 12) (F 18) (F 19) (F 11) (F 14) (F 15) (F 16) (F 17) q = d q ∧ WFD (d q)) := show ∀ q, q < Int32.toNatClampNeg (g 9) → RVd (F 13) (F 20) (F 21) (F 12) (F 18) (F 19) (F 11) (F 14) (F 15) (F 16) (F 17) q = d q ∧ WFD (d q) from by exact hrd
      have h834_hWs : rwW (g 48) (F 49) (F 50) 24 = Ws := by exact hWs
      have h834_hWw : WDS Ws := by exact hWw
      have h834_hmk : id ((g 51).toInt ≠ 0 → MKT (F 54) (F 52) (F 53) d Ws (fun w s => w < Int32.toNatClampNeg (g 48) ∧ s ≤ Int32.toNatClampNeg (g 9))) := show (g 51).toInt ≠ 0 → MKT (F 54) (F 52) (F 53) d Ws (fun w s => w < Int32.toNatClampNeg (g 48) ∧ s ≤ Int32.toNatClampNeg (g 9)) from by exact hmk
      have hx34 := pwq (fn_make g F (d) (Ws) hMI34 h834_hrd h834_hWs h834_hWw h834_hmk) hc34
      obtain ⟨p34_0, p34_1⟩ : (MKT c34_F54 c34_F52 c34_F53 d Ws (fun w s => w < Int32.toNatClampNeg (g 48) ∧ s ≤ Int32.toNatClampNeg (g 9))) ∧ (c34_g51.toInt ≠ 0) := hx34
      have f25 : (40 * p0).toInt = 40 * p0.toInt := z_muld (by decide +kernel) (by omega) (by omega)
      have f26 : ((40 * p0) + p1).toInt = (40 * p0).toInt + p1.toInt := z_add (by omega) (by omega)
      refine pw_vl (fun x44 ex44 => ?_)
      have f27 : x44.toInt = ((40 * p0) + p1).toInt := congrArg Int32.toInt ex44
      have lp52 : ∀ (n52 : Nat) (y52_3 : Int32) (y52_4 : Int32) (d52_g23 : Int32) (d52_g27 : Int32) (d52_g30 : Int32) (d52_g34 : Int32) (d52_g36 : Int32) (d52_F22 : (Nat → Int32)) (d52_F24 : (Nat → Int32)) (d52_F25 : (Nat → Int32)) (d52_F26 : (Nat → Int32)) (d52_F28 : (Nat → Int32)) (d52_F29 : (Nat → Int32)) (d52_F31 : (Nat → Int32)) (d52_F32 : (Nat → Int32)) (d52_F33 : (Nat → Int32)), ((0) ≤ d52_g23.toInt ∧ d52_g23.toInt ≤ 24) → ((0) ≤ d52_g27.toInt ∧ d52_g27.toInt ≤ 30) → ((0) ≤ d52_g30.toInt ∧ d52_g30.toInt ≤ 384) → ((0) ≤ d52_g34.toInt ∧ d52_g34.toInt ≤ 30) → ((0) ≤ d52_g36.toInt ∧ d52_g36.toInt ≤ 1) → rng (0) 24 d52_F24 → rng (0) 24 d52_F25 → rng (0) 24 d52_F26 → rng (0) 24 d52_F33 → (0 ≤ y52_4.toInt ∧ y52_4.toInt ≤ 100) → (0 ≤ y52_3.toInt ∧ y52_3.toInt ≤ y52_4.toInt) → pw (L_uses_52 g F p0 c34_g39 c34_g51 c34_F37 c34_F38 c34_F40 c34_F41 c34_F52 c34_F53 c34_F54 x44 n52 y52_3 y52_4 d52_g23 d52_g27 d52_g30 d52_g34 d52_g36 d52_F22 d52_F24 d52_F25 d52_F26 d52_F28 d52_F29 d52_F31 d52_F32 d52_F33) (QF_uses g F p0 p1 d Ws) := by
        intro n52
        induction n52 with
        | zero => intros; exact pw_none
        | succ n52 ih52 =>
          intro y52_3 y52_4 d52_g23 d52_g27 d52_g30 d52_g34 d52_g36 d52_F22 d52_F24 d52_F25 d52_F26 d52_F28 d52_F29 d52_F31 d52_F32 d52_F33 hg28 hg29 hg30 hg31 hg32 hg33 hg34 hg35 hg36 f37 f38
          show pw (B_uses_52 g F p0 c34_g39 c34_g51 c34_F37 c34_F38 c34_F40 c34_F41 c34_F52 c34_F53 c34_F54 x44 (L_uses_52 g F p0 c34_g39 c34_g51 c34_F37 c34_F38 c34_F40 c34_F41 c34_F52 c34_F53 c34_F54 x44 n52) y52_3 y52_4 d52_g23 d52_g27 d52_g30 d52_g34 d52_g36 d52_F22 d52_F24 d52_F25 d52_F26 d52_F28 d52_F29 d52_F31 d52_F32 d52_F33) _
          unfold B_uses_52
          refine pw_ite (fun c58 => ?_) (fun c58 => ?_)
          · have c58 := (z_le _ _).mp c58
            have qq0 : (c34_g51.toInt ≠ 0 → MKT c34_F54 c34_F52 c34_F53 d Ws (fun w s => w < Int32.toNatClampNeg (g 48) ∧ s ≤ Int32.toNatClampNeg (g 9))) := by exact fun _ => p34_0
            exact pw_some qq0
          · have c58 := z_nle c58
            have hg39 : ((0) ≤ (0 : Int32).toInt ∧ (0 : Int32).toInt ≤ 1) := ⟨by omega, by omega⟩
            have f40 : (7 * y52_4).toInt = 7 * y52_4.toInt := z_muld (by decide +kernel) (by omega) (by omega)
            have f41 : ((7 * y52_4) + p0).toInt = (7 * y52_4).toInt + p0.toInt := z_add (by omega) (by omega)
            have f42 : (12 * ((7 * y52_4) + p0)).toInt = 12 * ((7 * y52_4) + p0).toInt := z_muld (by decide +kernel) (by omega) (by omega)
            refine pw_vl (fun x76 ex76 => ?_)
            have f43 : x76.toInt = (12 * ((7 * y52_4) + p0)).toInt := congrArg Int32.toInt ex76
            refine pw_jE (fun k137 ek137 => ?_)
            have lp78 : ∀ (n78 : Nat) (y78_5 : Int32) (d78_g23 : Int32) (d78_g27 : Int32) (d78_g30 : Int32) (d78_g34 : Int32) (d78_g36 : Int32) (d78_F22 : (Nat → Int32)) (d78_F24 : (Nat → Int32)) (d78_F25 : (Nat → Int32)) (d78_F26 : (Nat → Int32)) (d78_F28 : (Nat → Int32)) (d78_F29 : (Nat → Int32)) (d78_F31 : (Nat → Int32)) (d78_F32 : (Nat → Int32)) (d78_F33 : (Nat → Int32)), ((0) ≤ d78_g23.toInt ∧ d78_g23.toInt ≤ 24) → ((0) ≤ d78_g27.toInt ∧ d78_g27.toInt ≤ 30) → ((0) ≤ d78_g30.toInt ∧ d78_g30.toInt ≤ 384) → ((0) ≤ d78_g34.toInt ∧ d78_g34.toInt ≤ 30) → ((0) ≤ d78_g36.toInt ∧ d78_g36.toInt ≤ 1) → rng (0) 24 d78_F24 → rng (0) 24 d78_F25 → rng (0) 24 d78_F26 → rng (0) 24 d78_F33 → (84 * y52_4.toInt + 12 * p0.toInt ≤ y78_5.toInt ∧ y78_5.toInt ≤ 84 * y52_4.toInt + 12 * p0.toInt + 12) → pw (L_uses_78 g F p0 c34_g39 c34_g51 c34_F37 c34_F38 c34_F40 c34_F41 c34_F52 c34_F53 c34_F54 x44 y52_4 k137 n78 y78_5 d78_g23 d78_g27 d78_g30 d78_g34 d78_g36 d78_F22 d78_F24 d78_F25 d78_F26 d78_F28 d78_F29 d78_F31 d78_F32 d78_F33) (QF_uses g F p0 p1 d Ws) := by
              intro n78
              induction n78 with
              | zero => intros; exact pw_none
              | succ n78 ih78 =>
                intro y78_5 d78_g23 d78_g27 d78_g30 d78_g34 d78_g36 d78_F22 d78_F24 d78_F25 d78_F26 d78_F28 d78_F29 d78_F31 d78_F32 d78_F33 hg44 hg45 hg46 hg47 hg48 hg49 hg50 hg51 hg52 f53
                show pw (B_uses_78 g F p0 c34_g39 c34_g51 c34_F37 c34_F38 c34_F40 c34_F41 c34_F52 c34_F53 c34_F54 x44 y52_4 k137 (L_uses_78 g F p0 c34_g39 c34_g51 c34_F37 c34_F38 c34_F40 c34_F41 c34_F52 c34_F53 c34_F54 x44 y52_4 k137 n78) y78_5 d78_g23 d78_g27 d78_g30 d78_g34 d78_g36 d78_F22 d78_F24 d78_F25 d78_F26 d78_F28 d78_F29 d78_F31 d78_F32 d78_F33) _
                unfold B_uses_78
                refine pw_if (fun hb101 => ?_)
                obtain ⟨hbl101, hbr101⟩ := hb101
                have f59 := hg24 (Int32.toNatClampNeg ((7 * y52_4) + p0))
                have f60 : ((12 * ((7 * y52_4) + p0)) + (c34_F54 (Int32.toNatClampNeg ((7 * y52_4) + p0)))).toInt = (12 * ((7 * y52_4) + p0)).toInt + (c34_F54 (Int32.toNatClampNeg ((7 * y52_4) + p0))).toInt := z_add (by omega) (by omega)
                refine pw_ite (fun c103 => ?_) (fun c103 => ?_)
                · have c103 := (z_le _ _).mp c103
                  refine pw_j14 ek137 (fun z137_1 ez137_1 z137_2 ez137_2 z137_3 ez137_3 z137_4 ez137_4 z137_5 ez137_5 z137_6 ez137_6 z137_7 ez137_7 z137_8 ez137_8 z137_9 ez137_9 z137_10 ez137_10 z137_11 ez137_11 z137_12 ez137_12 z137_13 ez137_13 z137_14 ez137_14 => ?_)
                  subst ez137_1 ez137_2 ez137_3 ez137_4 ez137_5 ez137_6 ez137_7 ez137_8 ez137_9 ez137_10 ez137_11 ez137_12 ez137_13 ez137_14
                  refine pw_jE (fun j150 ej150 => ?_)
                  refine pw_ite (fun c142 => ?_) (fun c142 => ?_)
                  · have c142 := congrArg Int32.toInt c142
                    refine pw_j1 ej150 (fun t150_0 et150_0 => ?_)
                    have et150_0 := et150_0.symm
                    have f_t150_0 : t150_0.toInt = 0 := by rw [et150_0]; decide +kernel
                    have f61 : (y52_3 + t150_0).toInt = y52_3.toInt + t150_0.toInt := z_add (by omega) (by omega)
                    refine pw_vl (fun x151 ex151 => ?_)
                    have f62 : x151.toInt = (y52_3 + t150_0).toInt := congrArg Int32.toInt ex151
                    have f63 : (y52_4 + 1).toInt = y52_4.toInt + (1) := z_addc (by decide +kernel) (by omega) (by omega)
                    have iv52_0 : (0 ≤ (y52_4 + 1).toInt ∧ (y52_4 + 1).toInt ≤ 100) := by omega
                    have iv52_1 : (0 ≤ x151.toInt ∧ x151.toInt ≤ (y52_4 + 1).toInt) := by omega
                    exact ih52 x151 (y52_4 + 1) d78_g23 d78_g27 d78_g30 d78_g34 d78_g36 d78_F22 d78_F24 d78_F25 d78_F26 d78_F28 d78_F29 d78_F31 d78_F32 d78_F33 hg44 hg45 hg46 hg47 hg48 hg49 hg50 hg51 hg52 iv52_0 iv52_1
                  · have c142 := z_ne c142
                    refine pw_j1 ej150 (fun t150_0 et150_0 => ?_)
                    have et150_0 := et150_0.symm
                    have f_t150_0 : t150_0.toInt = 1 := by rw [et150_0]; decide +kernel
                    have f64 : (y52_3 + t150_0).toInt = y52_3.toInt + t150_0.toInt := z_add (by omega) (by omega)
                    refine pw_vl (fun x151 ex151 => ?_)
                    have f65 : x151.toInt = (y52_3 + t150_0).toInt := congrArg Int32.toInt ex151
                    have f66 : (y52_4 + 1).toInt = y52_4.toInt + (1) := z_addc (by decide +kernel) (by omega) (by omega)
                    have iv52_0 : (0 ≤ (y52_4 + 1).toInt ∧ (y52_4 + 1).toInt ≤ 100) := by omega
                    have iv52_1 : (0 ≤ x151.toInt ∧ x151.toInt ≤ (y52_4 + 1).toInt) := by omega
                    exact ih52 x151 (y52_4 + 1) d78_g23 d78_g27 d78_g30 d78_g34 d78_g36 d78_F22 d78_F24 d78_F25 d78_F26 d78_F28 d78_F29 d78_F31 d78_F32 d78_F33 hg44 hg45 hg46 hg47 hg48 hg49 hg50 hg51 hg52 iv52_0 iv52_1
                · have c103 := z_nle c103
                  have f67 : (24 * y78_5).toInt = 24 * y78_5.toInt := z_muld (by decide +kernel) (by omega) (by omega)
                  refine pw_if (fun hb122 => ?_)
                  obtain ⟨hbl122, hbr122⟩ := hb122
                  have f68 := hg23 (Int32.toNatClampNeg y78_5)
                  have hMI123 : id (MInv (upd (upd (upd (upd (upd (upd (upd (upd g 23 d78_g23) 27 d78_g27) 30 d78_g30) 34 d78_g34) 35 x44) 36 d78_g36) 39 c34_g39) 51 c34_g51) (upF (upF (upF (upF (upF (upF (upF (upF (upF (upF (upF (upF (upF (upF (upF (upF F 22 d78_F22) 24 d78_F24) 25 d78_F25) 26 d78_F26) 28 d78_F28) 29 d78_F29) 31 d78_F31) 32 d78_F32) 33 d78_F33) 37 c34_F37) 38 c34_F38) 40 c34_F40) 41 c34_F41) 52 c34_F52) 53 c34_F53) 54 c34_F54)) := show MInv (upd (upd (upd (upd (upd (upd (upd (upd g 23 d78_g23) 27 d78_g27) 30 d78_g30) 34 d78_g34) 35 x44) 36 d78_g36) 39 c34_g39) 51 c34_g51) (upF (upF (upF (upF (upF (upF (upF (upF (upF (upF (upF (upF (upF (upF (upF (upF F 22 d78_F22) 24 d78_F24) 25 d78_F25) 26 d78_F26) 28 d78_F28) 29 d78_F29) 31 d78_F31) 32 d78_F32) 33 d78_F33) 37 c34_F37) 38 c34_F38) 40 c34_F40) 41 c34_F41) 52 c34_F52) 53 c34_F53) 54 c34_F54) from (MInv_i ((hI9.1)) ((hI9.2.1)) ((hI9.2.2.1)) ((hI9.2.2.2.1)) ((hI9.2.2.2.2.1)) ((hI9.2.2.2.2.2.1)) ((hI9.2.2.2.2.2.2.1)) ((hI9.2.2.2.2.2.2.2.1)) hzg9 hg44 hg45 hg46 hg47 hg48 hg15 ((hI9.2.2.2.2.2.2.2.2.2.2.2.2.2.2.2.1)) ((hI9.2.2.2.2.2.2.2.2.2.2.2.2.2.2.2.2.1)) hzg48 hg16 ((hI9.2.2.2.2.2.2.2.2.2.2.2.2.2.2.2.2.2.2.2.1)) ((hI9.2.2.2.2.2.2.2.2.2.2.2.2.2.2.2.2.2.2.2.2.1)) ((hI9.2.2.2.2.2.2.2.2.2.2.2.2.2.2.2.2.2.2.2.2.2.1)) ((hI9.2.2.2.2.2.2.2.2.2.2.2.2.2.2.2.2.2.2.2.2.2.2.1)) ((hI9.2.2.2.2.2.2.2.2.2.2.2.2.2.2.2.2.2.2.2.2.2.2.2.1)) ((hI9.2.2.2.2.2.2.2.2.2.2.2.2.2.2.2.2.2.2.2.2.2.2.2.2.1)) hzF11 hzF12 hzF13 hzF15 hzF19 hzF21 hg49 hg50 hg51 hg52 hg21 hg22 hzF43 hzF45 hzF46 hzF50 hg23 hg24 hzLQ)
                  have hpr123_0 : (0 ≤ (24 * y78_5).toInt ∧ (24 * y78_5).toInt + (c34_F53 (Int32.toNatClampNeg y78_5)).toInt ≤ 201600) := by first | assumption | omega
                  have hpr123_1 : 201600 ≤ 500000 := by first | assumption | omega
                  have hpr123_2 : (0 ≤ (c34_F53 (Int32.toNatClampNeg y78_5)).toInt ∧ (c34_F53 (Int32.toNatClampNeg y78_5)).toInt ≤ 24) := by first | assumption | omega
                  refine pw_b2 (fun c123_g23 c123_F22 hc123 => ?_)
                  have hq123 := wp_at (ok_takeWord (upd (upd (upd (upd (upd (upd (upd (upd g 23 d78_g23) 27 d78_g27) 30 d78_g30) 34 d78_g34) 35 x44) 36 d78_g36) 39 c34_g39) 51 c34_g51) (upF (upF (upF (upF (upF (upF (upF (upF (upF (upF (upF (upF (upF (upF (upF (upF F 22 d78_F22) 24 d78_F24) 25 d78_F25) 26 d78_F26) 28 d78_F28) 29 d78_F29) 31 d78_F31) 32 d78_F32) 33 d78_F33) 37 c34_F37) 38 c34_F38) 40 c34_F40) 41 c34_F41) 52 c34_F52) 53 c34_F53) 54 c34_F54) c34_F52 201600 (24 * y78_5) (c34_F53 (Int32.toNatClampNeg y78_5)) hMI123 hpr123_0 hpr123_1 hpr123_2) hc123
                  obtain ⟨hg69, f70⟩ : (((0) ≤ c123_g23.toInt ∧ c123_g23.toInt ≤ 24)) ∧ (c123_g23.toInt = (c34_F53 (Int32.toNatClampNeg y78_5)).toInt) := hq123
                  have hMI128 : id (MInv (upd (upd (upd (upd (upd (upd (upd (upd g 23 c123_g23) 27 d78_g27) 30 d78_g30) 34 d78_g34) 35 x44) 36 d78_g36) 39 c34_g39) 51 c34_g51) (upF (upF (upF (upF (upF (upF (upF (upF (upF (upF (upF (upF (upF (upF (upF (upF F 22 c123_F22) 24 d78_F24) 25 d78_F25) 26 d78_F26) 28 d78_F28) 29 d78_F29) 31 d78_F31) 32 d78_F32) 33 d78_F33) 37 c34_F37) 38 c34_F38) 40 c34_F40) 41 c34_F41) 52 c34_F52) 53 c34_F53) 54 c34_F54)) := show MInv (upd (upd (upd (upd (upd (upd (upd (upd g 23 c123_g23) 27 d78_g27) 30 d78_g30) 34 d78_g34) 35 x44) 36 d78_g36) 39 c34_g39) 51 c34_g51) (upF (upF (upF (upF (upF (upF (upF (upF (upF (upF (upF (upF (upF (upF (upF (upF F 22 c123_F22) 24 d78_F24) 25 d78_F25) 26 d78_F26) 28 d78_F28) 29 d78_F29) 31 d78_F31) 32 d78_F32) 33 d78_F33) 37 c34_F37) 38 c34_F38) 40 c34_F40) 41 c34_F41) 52 c34_F52) 53 c34_F53) 54 c34_F54) from (MInv_i ((hI9.1)) ((hI9.2.1)) ((hI9.2.2.1)) ((hI9.2.2.2.1)) ((hI9.2.2.2.2.1)) ((hI9.2.2.2.2.2.1)) ((hI9.2.2.2.2.2.2.1)) ((hI9.2.2.2.2.2.2.2.1)) hzg9 hg69 hg45 hg46 hg47 hg48 hg15 ((hI9.2.2.2.2.2.2.2.2.2.2.2.2.2.2.2.1)) ((hI9.2.2.2.2.2.2.2.2.2.2.2.2.2.2.2.2.1)) hzg48 hg16 ((hI9.2.2.2.2.2.2.2.2.2.2.2.2.2.2.2.2.2.2.2.1)) ((hI9.2.2.2.2.2.2.2.2.2.2.2.2.2.2.2.2.2.2.2.2.1)) ((hI9.2.2.2.2.2.2.2.2.2.2.2.2.2.2.2.2.2.2.2.2.2.1)) ((hI9.2.2.2.2.2.2.2.2.2.2.2.2.2.2.2.2.2.2.2.2.2.2.1)) ((hI9.2.2.2.2.2.2.2.2.2.2.2.2.2.2.2.2.2.2.2.2.2.2.2.1)) ((hI9.2.2.2.2.2.2.2.2.2.2.2.2.2.2.2.2.2.2.2.2.2.2.2.2.1)) hzF11 hzF12 hzF13 hzF15 hzF19 hzF21 hg49 hg50 hg51 hg52 hg21 hg22 hzF43 hzF45 hzF46 hzF50 hg23 hg24 hzLQ)
                  have hpr128_0 : (0 ≤ p0.toInt ∧ p0.toInt < (g 9).toInt) := by first | assumption | omega
                  refine pw_b12 (fun c128_g27 c128_g30 c128_g34 c128_g36 c128_F24 c128_F25 c128_F26 c128_F28 c128_F29 c128_F31 c128_F32 c128_F33 hc128 => ?_)
                  have hq128 := wp_at (ok_turnBy (upd (upd (upd (upd (upd (upd (upd (upd g 23 c123_g23) 27 d78_g27) 30 d78_g30) 34 d78_g34) 35 x44) 36 d78_g36) 39 c34_g39) 51 c34_g51) (upF (upF (upF (upF (upF (upF (upF (upF (upF (upF (upF (upF (upF (upF (upF (upF F 22 c123_F22) 24 d78_F24) 25 d78_F25) 26 d78_F26) 28 d78_F28) 29 d78_F29) 31 d78_F31) 32 d78_F32) 33 d78_F33) 37 c34_F37) 38 c34_F38) 40 c34_F40) 41 c34_F41) 52 c34_F52) 53 c34_F53) 54 c34_F54) p0 hMI128 hpr128_0) hc128
                  obtain ⟨hg71, hg72, hg73, hg74, hg75, hg76, hg77, hg78⟩ : (((0) ≤ c128_g27.toInt ∧ c128_g27.toInt ≤ 30)) ∧ (((0) ≤ c128_g30.toInt ∧ c128_g30.toInt ≤ 384)) ∧ (((0) ≤ c128_g34.toInt ∧ c128_g34.toInt ≤ 30)) ∧ (((0) ≤ c128_g36.toInt ∧ c128_g36.toInt ≤ 1)) ∧ (rng (0) 24 c128_F24) ∧ (rng (0) 24 c128_F25) ∧ (rng (0) 24 c128_F26) ∧ (rng (0) 24 c128_F33) := hq128
                  have f79 : (y78_5 + 1).toInt = y78_5.toInt + (1) := z_addc (by decide +kernel) (by omega) (by omega)
                  have iv78_0 : (84 * y52_4.toInt + 12 * p0.toInt ≤ (y78_5 + 1).toInt ∧ (y78_5 + 1).toInt ≤ 84 * y52_4.toInt + 12 * p0.toInt + 12) := by omega
                  exact ih78 (y78_5 + 1) c123_g23 c128_g27 c128_g30 c128_g34 c128_g36 c123_F22 c128_F24 c128_F25 c128_F26 c128_F28 c128_F29 c128_F31 c128_F32 c128_F33 hg69 hg71 hg72 hg73 hg74 hg75 hg76 hg77 hg78 iv78_0
            exact lp78 NN x76 d52_g23 d52_g27 d52_g30 d52_g34 (0 : Int32) d52_F22 d52_F24 d52_F25 d52_F26 d52_F28 d52_F29 d52_F31 d52_F32 d52_F33 hg28 hg29 hg30 hg31 hg39 hg33 hg34 hg35 hg36 (show (84 * y52_4.toInt + 12 * p0.toInt ≤ x76.toInt ∧ x76.toInt ≤ 84 * y52_4.toInt + 12 * p0.toInt + 12) from by omega)
      exact lp52 NN (0 : Int32) (0 : Int32) c34_g23 c34_g27 c34_g30 c34_g34 c34_g36 c34_F22 c34_F24 c34_F25 c34_F26 c34_F28 c34_F29 c34_F31 c34_F32 c34_F33 hg10 hg11 hg12 hg13 hg14 hg17 hg18 hg19 hg20 (show (0 ≤ (0 : Int32).toInt ∧ (0 : Int32).toInt ≤ 100) from by omega) (show (0 ≤ (0 : Int32).toInt ∧ (0 : Int32).toInt ≤ (0 : Int32).toInt) from by omega)
