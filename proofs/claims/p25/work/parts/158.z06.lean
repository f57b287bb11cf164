abbrev QF_make (g : Nat → Int32) (F : Nat → Nat → Int32) (d : Nat → Dr) (Ws : List Wd) : (Int32 × Int32 × Int32 × Int32 × Int32 × Int32 × Int32 × (Nat → Int32) × (Nat → Int32) × (Nat → Int32) × (Nat → Int32) × (Nat → Int32) × (Nat → Int32) × (Nat → Int32) × (Nat → Int32) × (Nat → Int32) × (Nat → Int32) × (Nat → Int32) × (Nat → Int32) × (Nat → Int32) × (Nat → Int32) × (Nat → Int32) × (Nat → Int32)) → Prop := (fun t => (MKT (t.2.2.2.2.2.2.2.2.2.2.2.2.2.2.2.2.2.2.2.2.2.2) (t.2.2.2.2.2.2.2.2.2.2.2.2.2.2.2.2.2.2.2.2.1) (t.2.2.2.2.2.2.2.2.2.2.2.2.2.2.2.2.2.2.2.2.2.1) d Ws (fun w s => w < Int32.toNatClampNeg (g 48) ∧ s ≤ Int32.toNatClampNeg (g 9))) ∧ ((t.2.2.2.2.2.2.1).toInt ≠ 0))
set_option maxHeartbeats 4000000 in
set_option maxRecDepth 100000 in
theorem fn_make (g : Nat → Int32) (F : Nat → Nat → Int32) (d : Nat → Dr) (Ws : List Wd) (hI : MInv g F) (hrd : ∀ q, q < Int32.toNatClampNeg (g 9) → RVd (F 13) (F 20) (F 21) (F 12) (F 18) (F 19) (F 11) (F 14) (F 15) (F 16) (F 17) q = d q ∧ WFD (d q)) (hWs : rwW (g 48) (F 49) (F 50) 24 = Ws) (hWw : WDS Ws) (hmk : (g 51).toInt ≠ 0 → MKT (F 54) (F 52) (F 53) d Ws (fun w s => w < Int32.toNatClampNeg (g 48) ∧ s ≤ Int32.toNatClampNeg (g 9))) : pw (f_make g F) (QF_make g F d Ws) := by
  unfold f_make
  have hI9 : id (MInv g F) := hI
  obtain ⟨-, -, -, -, -, -, -, -, hzg9, hzg23, hzg27, hzg30, hzg34, hzg36, hzg39, -, -, hzg48, hzg51, -, -, -, -, -, -, hzF11, hzF12, hzF13, hzF15, hzF19, hzF21, hzF24, hzF25, hzF26, hzF33, hzF38, hzF41, hzF43, hzF45, hzF46, hzF50, hzF53, hzF54, hzLQ⟩ := hI
  have zk0 : (0 : Int32).toInt = 0 := by decide +kernel
  have zk1 : (1 : Int32).toInt = 1 := by decide +kernel
  have zk7 : (7 : Int32).toInt = 7 := by decide +kernel
  have zk12 : (12 : Int32).toInt = 12 := by decide +kernel
  have zk24 : (24 : Int32).toInt = 24 := by decide +kernel
  have hb9 := hzg9
  have c9 := clampI (x := g 9) (by omega)
  have hb48 := hzg48
  have c48 := clampI (x := g 48) (by omega)
  have hWl : Ws.length = (Int32.toNatClampNeg (g 48)) := by rw [← hWs]; exact rw_len
  refine pw_ite (fun c4 => ?_) (fun c4 => ?_)
  · have c4 := congrArg Int32.toInt c4
    have hg1 : ((0) ≤ (1 : Int32).toInt ∧ (1 : Int32).toInt ≤ 1) := ⟨by omega, by omega⟩
    have lp15 : ∀ (n15 : Nat) (y15_1 : Int32) (d15_g23 : Int32) (d15_g27 : Int32) (d15_g30 : Int32) (d15_g34 : Int32) (d15_g36 : Int32) (d15_g39 : Int32) (d15_F22 : (Nat → Int32)) (d15_F24 : (Nat → Int32)) (d15_F25 : (Nat → Int32)) (d15_F26 : (Nat → Int32)) (d15_F28 : (Nat → Int32)) (d15_F29 : (Nat → Int32)) (d15_F31 : (Nat → Int32)) (d15_F32 : (Nat → Int32)) (d15_F33 : (Nat → Int32)) (d15_F37 : (Nat → Int32)) (d15_F38 : (Nat → Int32)) (d15_F40 : (Nat → Int32)) (d15_F41 : (Nat → Int32)) (d15_F52 : (Nat → Int32)) (d15_F53 : (Nat → Int32)) (d15_F54 : (Nat → Int32)), ((0) ≤ d15_g23.toInt ∧ d15_g23.toInt ≤ 24) → ((0) ≤ d15_g27.toInt ∧ d15_g27.toInt ≤ 30) → ((0) ≤ d15_g30.toInt ∧ d15_g30.toInt ≤ 384) → ((0) ≤ d15_g34.toInt ∧ d15_g34.toInt ≤ 30) → ((0) ≤ d15_g36.toInt ∧ d15_g36.toInt ≤ 1) → ((0) ≤ d15_g39.toInt ∧ d15_g39.toInt ≤ 12) → rng (0) 24 d15_F24 → rng (0) 24 d15_F25 → rng (0) 24 d15_F26 → rng (0) 24 d15_F33 → rng (0) 24 d15_F38 → rng (0) 24 d15_F41 → rng (0) 24 d15_F53 → rng (0) 12 d15_F54 → (0 ≤ y15_1.toInt ∧ y15_1.toInt ≤ 100) → y15_1.toInt ≤ (g 48).toInt → (MKT d15_F54 d15_F52 d15_F53 d Ws (fun w s => w < Int32.toNatClampNeg y15_1 ∧ s ≤ (Int32.toNatClampNeg (g 9)))) → pw (L_make_15 g F n15 y15_1 d15_g23 d15_g27 d15_g30 d15_g34 d15_g36 d15_g39 d15_F22 d15_F24 d15_F25 d15_F26 d15_F28 d15_F29 d15_F31 d15_F32 d15_F33 d15_F37 d15_F38 d15_F40 d15_F41 d15_F52 d15_F53 d15_F54) (QF_make g F d Ws) := by
      intro n15
      induction n15 with
      | zero => intros; exact pw_none
      | succ n15 ih15 =>
        intro y15_1 d15_g23 d15_g27 d15_g30 d15_g34 d15_g36 d15_g39 d15_F22 d15_F24 d15_F25 d15_F26 d15_F28 d15_F29 d15_F31 d15_F32 d15_F33 d15_F37 d15_F38 d15_F40 d15_F41 d15_F52 d15_F53 d15_F54 hg2 hg3 hg4 hg5 hg6 hg7 hg8 hg9 hg10 hg11 hg12 hg13 hg14 hg15 f16 f17 mk15
        show pw (B_make_15 g F (L_make_15 g F n15) y15_1 d15_g23 d15_g27 d15_g30 d15_g34 d15_g36 d15_g39 d15_F22 d15_F24 d15_F25 d15_F26 d15_F28 d15_F29 d15_F31 d15_F32 d15_F33 d15_F37 d15_F38 d15_F40 d15_F41 d15_F52 d15_F53 d15_F54) _
        unfold B_make_15
        refine pw_ite (fun c20 => ?_) (fun c20 => ?_)
        · have c20 := (z_le _ _).mp c20
          have qq0 : MKT d15_F54 d15_F52 d15_F53 d Ws (fun w s => w < Int32.toNatClampNeg (g 48) ∧ s ≤ Int32.toNatClampNeg (g 9)) := by have k1 := clampI (x := y15_1) (by omega); intro w s hq; exact mk15 w s ⟨by have h1 := hq.1; omega, hq.2⟩
          have qq1 : (1 : Int32).toInt ≠ 0 := by omega
          exact pw_some ⟨qq0, qq1⟩
        · have c20 := z_nle c20
          have k1 := clampI (x := y15_1) (by omega)
          obtain ⟨x, hx⟩ := get_ex (l := Ws) (i := Int32.toNatClampNeg y15_1) (by omega)
          obtain ⟨x1, x2, x3⟩ := hWw x (List.mem_of_getElem? hx)
          have hxe : wdl (F 49) (24 * Int32.toNatClampNeg y15_1) (Int32.toNatClampNeg ((F 50) (Int32.toNatClampNeg y15_1))) = x := by rw [← hWs, rw_at (by omega)] at hx; exact Option.some.inj hx
          have hxl : Int32.toNatClampNeg ((F 50) (Int32.toNatClampNeg y15_1)) = x.length := by rw [← hxe, wdl_len]
          have kz : ((F 50) (Int32.toNatClampNeg y15_1)).toInt = ((Int32.toNatClampNeg ((F 50) (Int32.toNatClampNeg y15_1)) : Nat) : Int) := by have h9 : Int32.toNatClampNeg ((F 50) (Int32.toNatClampNeg y15_1)) = ((F 50) (Int32.toNatClampNeg y15_1)).toInt.toNat := rfl; omega
          have f24i : (24 * y15_1).toInt = 24 * y15_1.toInt := z_muld (by decide +kernel) (by omega) (by omega)
          have ki := clampI (x := 24 * y15_1) (by omega)
          have hi24 : Int32.toNatClampNeg (24 * y15_1) = 24 * Int32.toNatClampNeg y15_1 := by omega
          refine pw_jE (fun k169 ek169 => ?_)
          have lp25 : ∀ (n25 : Nat) (y25_2 : Int32) (d25_g23 : Int32) (d25_g27 : Int32) (d25_g30 : Int32) (d25_g34 : Int32) (d25_g36 : Int32) (d25_g39 : Int32) (d25_F22 : (Nat → Int32)) (d25_F24 : (Nat → Int32)) (d25_F25 : (Nat → Int32)) (d25_F26 : (Nat → Int32)) (d25_F28 : (Nat → Int32)) (d25_F29 : (Nat → Int32)) (d25_F31 : (Nat → Int32)) (d25_F32 : (Nat → Int32)) (d25_F33 : (Nat → Int32)) (d25_F37 : (Nat → Int32)) (d25_F38 : (Nat → Int32)) (d25_F40 : (Nat → Int32)) (d25_F41 : (Nat → Int32)) (d25_F52 : (Nat → Int32)) (d25_F53 : (Nat → Int32)) (d25_F54 : (Nat → Int32)), ((0) ≤ d25_g23.toInt ∧ d25_g23.toInt ≤ 24) → ((0) ≤ d25_g27.toInt ∧ d25_g27.toInt ≤ 30) → ((0) ≤ d25_g30.toInt ∧ d25_g30.toInt ≤ 384) → ((0) ≤ d25_g34.toInt ∧ d25_g34.toInt ≤ 30) → ((0) ≤ d25_g36.toInt ∧ d25_g36.toInt ≤ 1) → ((0) ≤ d25_g39.toInt ∧ d25_g39.toInt ≤ 12) → rng (0) 24 d25_F24 → rng (0) 24 d25_F25 → rng (0) 24 d25_F26 → rng (0) 24 d25_F33 → rng (0) 24 d25_F38 → rng (0) 24 d25_F41 → rng (0) 24 d25_F53 → rng (0) 12 d25_F54 → (0 ≤ y25_2.toInt ∧ y25_2.toInt ≤ 7) → y25_2.toInt ≤ (g 9).toInt + 1 → (MKT d25_F54 d25_F52 d25_F53 d Ws (fun w s => (w < Int32.toNatClampNeg y15_1 ∧ s ≤ (Int32.toNatClampNeg (g 9))) ∨ (w = Int32.toNatClampNeg y15_1 ∧ s < Int32.toNatClampNeg y25_2))) → pw (L_make_25 g F y15_1 k169 n25 y25_2 d25_g23 d25_g27 d25_g30 d25_g34 d25_g36 d25_g39 d25_F22 d25_F24 d25_F25 d25_F26 d25_F28 d25_F29 d25_F31 d25_F32 d25_F33 d25_F37 d25_F38 d25_F40 d25_F41 d25_F52 d25_F53 d25_F54) (QF_make g F d Ws) := by
            intro n25
            induction n25 with
            | zero => intros; exact pw_none
            | succ n25 ih25 =>
              intro y25_2 d25_g23 d25_g27 d25_g30 d25_g34 d25_g36 d25_g39 d25_F22 d25_F24 d25_F25 d25_F26 d25_F28 d25_F29 d25_F31 d25_F32 d25_F33 d25_F37 d25_F38 d25_F40 d25_F41 d25_F52 d25_F53 d25_F54 hg18 hg19 hg20 hg21 hg22 hg23 hg24 hg25 hg26 hg27 hg28 hg29 hg30 hg31 f32 f33 mk25
              show pw (B_make_25 g F y15_1 k169 (L_make_25 g F y15_1 k169 n25) y25_2 d25_g23 d25_g27 d25_g30 d25_g34 d25_g36 d25_g39 d25_F22 d25_F24 d25_F25 d25_F26 d25_F28 d25_F29 d25_F31 d25_F32 d25_F33 d25_F37 d25_F38 d25_F40 d25_F41 d25_F52 d25_F53 d25_F54) _
              unfold B_make_25
              refine pw_ite (fun c30 => ?_) (fun c30 => ?_)
              · have c30 := (z_lt _ _).mp c30
                refine pw_j22 ek169 (fun z169_1 ez169_1 z169_2 ez169_2 z169_3 ez169_3 z169_4 ez169_4 z169_5 ez169_5 z169_6 ez169_6 z169_7 ez169_7 z169_8 ez169_8 z169_9 ez169_9 z169_10 ez169_10 z169_11 ez169_11 z169_12 ez169_12 z169_13 ez169_13 z169_14 ez169_14 z169_15 ez169_15 z169_16 ez169_16 z169_17 ez169_17 z169_18 ez169_18 z169_19 ez169_19 z169_20 ez169_20 z169_21 ez169_21 z169_22 ez169_22 => ?_)
                subst ez169_1 ez169_2 ez169_3 ez169_4 ez169_5 ez169_6 ez169_7 ez169_8 ez169_9 ez169_10 ez169_11 ez169_12 ez169_13 ez169_14 ez169_15 ez169_16 ez169_17 ez169_18 ez169_19 ez169_20 ez169_21 ez169_22
                have f34 : (y15_1 + 1).toInt = y15_1.toInt + (1) := z_addc (by decide +kernel) (by omega) (by omega)
                have iv15_0 : (0 ≤ (y15_1 + 1).toInt ∧ (y15_1 + 1).toInt ≤ 100) := by omega
                have iv15_1 : (y15_1 + 1).toInt ≤ (g 48).toInt := by omega
                have iv15_2 : (MKT d25_F54 d25_F52 d25_F53 d Ws (fun w s => w < Int32.toNatClampNeg (y15_1 + 1) ∧ s ≤ (Int32.toNatClampNeg (g 9)))) := by have k2 := clampI (x := y15_1 + 1) (by omega); have k3 := clampI (x := y25_2) (by omega); have k1 := clampI (x := y15_1) (by omega); intro w s hq; refine mk25 w s ?_; have h1 := hq.1; have h2 := hq.2; show (w < _ ∧ s ≤ _) ∨ (w = _ ∧ s < _); omega
                exact ih15 (y15_1 + 1) d25_g23 d25_g27 d25_g30 d25_g34 d25_g36 d25_g39 d25_F22 d25_F24 d25_F25 d25_F26 d25_F28 d25_F29 d25_F31 d25_F32 d25_F33 d25_F37 d25_F38 d25_F40 d25_F41 d25_F52 d25_F53 d25_F54 hg18 hg19 hg20 hg21 hg22 hg23 hg24 hg25 hg26 hg27 hg28 hg29 hg30 hg31 iv15_0 iv15_1 iv15_2
              · have c30 := z_nlt c30
                have k2 := clampI (x := y25_2) (by omega)
                have f35 : (24 * y15_1).toInt = 24 * y15_1.toInt := z_muld (by decide +kernel) (by omega) (by omega)
                refine pw_if (fun hb47 => ?_)
                obtain ⟨hbl47, hbr47⟩ := hb47
                have f36 := hzF50 (Int32.toNatClampNeg y15_1)
                have hMI48 : id (MInv (upd (upd (upd (upd (upd (upd (upd g 23 d25_g23) 27 d25_g27) 30 d25_g30) 34 d25_g34) 36 d25_g36) 39 d25_g39) 51 1) (upF (upF (upF (upF (upF (upF (upF (upF (upF (upF (upF (upF (upF (upF (upF (upF F 22 d25_F22) 24 d25_F24) 25 d25_F25) 26 d25_F26) 28 d25_F28) 29 d25_F29) 31 d25_F31) 32 d25_F32) 33 d25_F33) 37 d25_F37) 38 d25_F38) 40 d25_F40) 41 d25_F41) 52 d25_F52) 53 d25_F53) 54 d25_F54)) := show MInv (upd (upd (upd (upd (upd (upd (upd g 23 d25_g23) 27 d25_g27) 30 d25_g30) 34 d25_g34) 36 d25_g36) 39 d25_g39) 51 1) (upF (upF (upF (upF (upF (upF (upF (upF (upF (upF (upF (upF (upF (upF (upF (upF F 22 d25_F22) 24 d25_F24) 25 d25_F25) 26 d25_F26) 28 d25_F28) 29 d25_F29) 31 d25_F31) 32 d25_F32) 33 d25_F33) 37 d25_F37) 38 d25_F38) 40 d25_F40) 41 d25_F41) 52 d25_F52) 53 d25_F53) 54 d25_F54) from (MInv_i ((hI9.1)) ((hI9.2.1)) ((hI9.2.2.1)) ((hI9.2.2.2.1)) ((hI9.2.2.2.2.1)) ((hI9.2.2.2.2.2.1)) ((hI9.2.2.2.2.2.2.1)) ((hI9.2.2.2.2.2.2.2.1)) hzg9 hg18 hg19 hg20 hg21 hg22 hg23 ((hI9.2.2.2.2.2.2.2.2.2.2.2.2.2.2.2.1)) ((hI9.2.2.2.2.2.2.2.2.2.2.2.2.2.2.2.2.1)) hzg48 hg1 ((hI9.2.2.2.2.2.2.2.2.2.2.2.2.2.2.2.2.2.2.2.1)) ((hI9.2.2.2.2.2.2.2.2.2.2.2.2.2.2.2.2.2.2.2.2.1)) ((hI9.2.2.2.2.2.2.2.2.2.2.2.2.2.2.2.2.2.2.2.2.2.1)) ((hI9.2.2.2.2.2.2.2.2.2.2.2.2.2.2.2.2.2.2.2.2.2.2.1)) ((hI9.2.2.2.2.2.2.2.2.2.2.2.2.2.2.2.2.2.2.2.2.2.2.2.1)) ((hI9.2.2.2.2.2.2.2.2.2.2.2.2.2.2.2.2.2.2.2.2.2.2.2.2.1)) hzF11 hzF12 hzF13 hzF15 hzF19 hzF21 hg24 hg25 hg26 hg27 hg28 hg29 hzF43 hzF45 hzF46 hzF50 hg30 hg31 hzLQ)
                have hpr48_0 : (0 ≤ (24 * y15_1).toInt ∧ (24 * y15_1).toInt + ((F 50) (Int32.toNatClampNeg y15_1)).toInt ≤ 2400) := by first | assumption | omega
                have hpr48_1 : 2400 ≤ 500000 := by first | assumption | omega
                have hpr48_2 : (0 ≤ ((F 50) (Int32.toNatClampNeg y15_1)).toInt ∧ ((F 50) (Int32.toNatClampNeg y15_1)).toInt ≤ 24) := by first | assumption | omega
                refine pw_b2 (fun c48_g23 c48_F22 hc48 => ?_)
                have hq48 := wp_at (ok_takeWord (upd (upd (upd (upd (upd (upd (upd g 23 d25_g23) 27 d25_g27) 30 d25_g30) 34 d25_g34) 36 d25_g36) 39 d25_g39) 51 1) (upF (upF (upF (upF (upF (upF (upF (upF (upF (upF (upF (upF (upF (upF (upF (upF F 22 d25_F22) 24 d25_F24) 25 d25_F25) 26 d25_F26) 28 d25_F28) 29 d25_F29) 31 d25_F31) 32 d25_F32) 33 d25_F33) 37 d25_F37) 38 d25_F38) 40 d25_F40) 41 d25_F41) 52 d25_F52) 53 d25_F53) 54 d25_F54) (F 49) 2400 (24 * y15_1) ((F 50) (Int32.toNatClampNeg y15_1)) hMI48 hpr48_0 hpr48_1 hpr48_2) hc48
                obtain ⟨hg37, f38⟩ : (((0) ≤ c48_g23.toInt ∧ c48_g23.toInt ≤ 24)) ∧ (c48_g23.toInt = ((F 50) (Int32.toNatClampNeg y15_1)).toInt) := hq48
                have h848_hbx : BW (wdl (F 49) (Int32.toNatClampNeg (24 * y15_1)) (Int32.toNatClampNeg ((F 50) (Int32.toNatClampNeg y15_1)))) := by rw [hi24, hxe]; exact x3
                have hx48 := pwq (fn_takeWord (upd (upd (upd (upd (upd (upd (upd g 23 d25_g23) 27 d25_g27) 30 d25_g30) 34 d25_g34) 36 d25_g36) 39 d25_g39) 51 1) (upF (upF (upF (upF (upF (upF (upF (upF (upF (upF (upF (upF (upF (upF (upF (upF F 22 d25_F22) 24 d25_F24) 25 d25_F25) 26 d25_F26) 28 d25_F28) 29 d25_F29) 31 d25_F31) 32 d25_F32) 33 d25_F33) 37 d25_F37) 38 d25_F38) 40 d25_F40) 41 d25_F41) 52 d25_F52) 53 d25_F53) 54 d25_F54) (F 49) 2400 (24 * y15_1) ((F 50) (Int32.toNatClampNeg y15_1)) hMI48 hpr48_0 hpr48_1 hpr48_2 h848_hbx) hc48
                obtain ⟨p48_0, p48_1⟩ : (c48_g23.toInt = ((F 50) (Int32.toNatClampNeg y15_1)).toInt) ∧ (wdl c48_F22 0 (Int32.toNatClampNeg c48_g23) = wdl (F 49) (Int32.toNatClampNeg (24 * y15_1)) (Int32.toNatClampNeg ((F 50) (Int32.toNatClampNeg y15_1)))) := hx48
                rw [hi24, hxe] at p48_1
                have hMI54 : id (MInv (upd (upd (upd (upd (upd (upd (upd g 23 c48_g23) 27 d25_g27) 30 d25_g30) 34 d25_g34) 36 d25_g36) 39 d25_g39) 51 1) (upF (upF (upF (upF (upF (upF (upF (upF (upF (upF (upF (upF (upF (upF (upF (upF F 22 c48_F22) 24 d25_F24) 25 d25_F25) 26 d25_F26) 28 d25_F28) 29 d25_F29) 31 d25_F31) 32 d25_F32) 33 d25_F33) 37 d25_F37) 38 d25_F38) 40 d25_F40) 41 d25_F41) 52 d25_F52) 53 d25_F53) 54 d25_F54)) := show MInv (upd (upd (upd (upd (upd (upd (upd g 23 c48_g23) 27 d25_g27) 30 d25_g30) 34 d25_g34) 36 d25_g36) 39 d25_g39) 51 1) (upF (upF (upF (upF (upF (upF (upF (upF (upF (upF (upF (upF (upF (upF (upF (upF F 22 c48_F22) 24 d25_F24) 25 d25_F25) 26 d25_F26) 28 d25_F28) 29 d25_F29) 31 d25_F31) 32 d25_F32) 33 d25_F33) 37 d25_F37) 38 d25_F38) 40 d25_F40) 41 d25_F41) 52 d25_F52) 53 d25_F53) 54 d25_F54) from (MInv_i ((hI9.1)) ((hI9.2.1)) ((hI9.2.2.1)) ((hI9.2.2.2.1)) ((hI9.2.2.2.2.1)) ((hI9.2.2.2.2.2.1)) ((hI9.2.2.2.2.2.2.1)) ((hI9.2.2.2.2.2.2.2.1)) hzg9 hg37 hg19 hg20 hg21 hg22 hg23 ((hI9.2.2.2.2.2.2.2.2.2.2.2.2.2.2.2.1)) ((hI9.2.2.2.2.2.2.2.2.2.2.2.2.2.2.2.2.1)) hzg48 hg1 ((hI9.2.2.2.2.2.2.2.2.2.2.2.2.2.2.2.2.2.2.2.1)) ((hI9.2.2.2.2.2.2.2.2.2.2.2.2.2.2.2.2.2.2.2.2.1)) ((hI9.2.2.2.2.2.2.2.2.2.2.2.2.2.2.2.2.2.2.2.2.2.1)) ((hI9.2.2.2.2.2.2.2.2.2.2.2.2.2.2.2.2.2.2.2.2.2.2.1)) ((hI9.2.2.2.2.2.2.2.2.2.2.2.2.2.2.2.2.2.2.2.2.2.2.2.1)) ((hI9.2.2.2.2.2.2.2.2.2.2.2.2.2.2.2.2.2.2.2.2.2.2.2.2.1)) hzF11 hzF12 hzF13 hzF15 hzF19 hzF21 hg24 hg25 hg26 hg27 hg28 hg29 hzF43 hzF45 hzF46 hzF50 hg30 hg31 hzLQ)
                have hpr54_0 : (0 ≤ (0 : Int32).toInt ∧ (0 : Int32).toInt ≤ 6) := by first | assumption | omega
                have hpr54_1 : y25_2.toInt ≤ (g 9).toInt := by first | assumption | omega
                refine pw_b19 (fun c54_g23 c54_g27 c54_g30 c54_g34 c54_g36 c54_g39 c54_F22 c54_F24 c54_F25 c54_F26 c54_F28 c54_F29 c54_F31 c54_F32 c54_F33 c54_F37 c54_F38 c54_F40 c54_F41 hc54 => ?_)
                have hq54 := wp_at (ok_through (upd (upd (upd (upd (upd (upd (upd g 23 c48_g23) 27 d25_g27) 30 d25_g30) 34 d25_g34) 36 d25_g36) 39 d25_g39) 51 1) (upF (upF (upF (upF (upF (upF (upF (upF (upF (upF (upF (upF (upF (upF (upF (upF F 22 c48_F22) 24 d25_F24) 25 d25_F25) 26 d25_F26) 28 d25_F28) 29 d25_F29) 31 d25_F31) 32 d25_F32) 33 d25_F33) 37 d25_F37) 38 d25_F38) 40 d25_F40) 41 d25_F41) 52 d25_F52) 53 d25_F53) 54 d25_F54) (0 : Int32) y25_2 hMI54 hpr54_0 hpr54_1) hc54
                obtain ⟨hg39, hg40, hg41, hg42, hg43, hg44, hg45, hg46, hg47, hg48, hg49, hg50⟩ : (((0) ≤ c54_g23.toInt ∧ c54_g23.toInt ≤ 24)) ∧ (((0) ≤ c54_g27.toInt ∧ c54_g27.toInt ≤ 30)) ∧ (((0) ≤ c54_g30.toInt ∧ c54_g30.toInt ≤ 384)) ∧ (((0) ≤ c54_g34.toInt ∧ c54_g34.toInt ≤ 30)) ∧ (((0) ≤ c54_g36.toInt ∧ c54_g36.toInt ≤ 1)) ∧ (((0) ≤ c54_g39.toInt ∧ c54_g39.toInt ≤ 12)) ∧ (rng (0) 24 c54_F24) ∧ (rng (0) 24 c54_F25) ∧ (rng (0) 24 c54_F26) ∧ (rng (0) 24 c54_F33) ∧ (rng (0) 24 c54_F38) ∧ (rng (0) 24 c54_F41) := hq54
                have h854_hrv : id (∀ q : Nat, (0 : Int32).toInt ≤ (q : Int) → (q : Int) < y25_2.toInt → RVd (F 13) (F 20) (F 21) (F 12) (F 18) (F 19) (F 11) (F 14) (F 15) (F 16) (F 17) q = d q ∧ WFD (d q)) := show ∀ q : Nat, (0 : Int32).toInt ≤ (q : Int) → (q : Int) < y25_2.toInt → RVd (F 13) (F 20) (F 21) (F 12) (F 18) (F 19) (F 11) (F 14) (F 15) (F 16) (F 17) q = d q ∧ WFD (d q) from by exact fun q h1 h2 => hrd q (by omega)
                have h854_hW : wdl c48_F22 0 (Int32.toNatClampNeg c48_g23) = (x) := by exact p48_1
                have h854_hl1 : 1 ≤ c48_g23.toInt := by omega
                have h854_hbw : BW (x) := by exact x3
                have hx54 := pwq (fn_through (upd (upd (upd (upd (upd (upd (upd g 23 c48_g23) 27 d25_g27) 30 d25_g30) 34 d25_g34) 36 d25_g36) 39 d25_g39) 51 1) (upF (upF (upF (upF (upF (upF (upF (upF (upF (upF (upF (upF (upF (upF (upF (upF F 22 c48_F22) 24 d25_F24) 25 d25_F25) 26 d25_F26) 28 d25_F28) 29 d25_F29) 31 d25_F31) 32 d25_F32) 33 d25_F33) 37 d25_F37) 38 d25_F38) 40 d25_F40) 41 d25_F41) 52 d25_F52) 53 d25_F53) 54 d25_F54) (0 : Int32) y25_2 (d) (x) hMI54 hpr54_0 hpr54_1 h854_hrv h854_hW h854_hl1 h854_hbw) hc54
                obtain ⟨p54_0, p54_1⟩ : (rwW c54_g39 c54_F37 c54_F38 24 = thF d (Int32.toNatClampNeg (0 : Int32)) (Int32.toNatClampNeg y25_2 - Int32.toNatClampNeg (0 : Int32)) [(x)]) ∧ (WDS (thF d (Int32.toNatClampNeg (0 : Int32)) (Int32.toNatClampNeg y25_2 - Int32.toNatClampNeg (0 : Int32)) [(x)])) := hx54
                rw [show Int32.toNatClampNeg (0 : Int32) = 0 from rfl, Nat.sub_zero] at p54_0 p54_1
                have hnr : WDS (rwW c54_g39 c54_F37 c54_F38 24) := by rw [p54_0]; exact p54_1
                have hb39 := hg44
                have c39 := clampI (x := c54_g39) (by omega)
                have hnl := congrArg List.length p54_0
                rw [rw_len] at hnl
                have zz54 : True := trivial
                have f51 : (7 * y15_1).toInt = 7 * y15_1.toInt := z_muld (by decide +kernel) (by omega) (by omega)
                have f52 : ((7 * y15_1) + y25_2).toInt = (7 * y15_1).toInt + y25_2.toInt := z_add (by omega) (by omega)
                refine pw_vl (fun x63 ex63 => ?_)
                have f53 : x63.toInt = ((7 * y15_1) + y25_2).toInt := congrArg Int32.toInt ex63
                refine pw_if (fun hb73 => ?_)
                obtain ⟨hbl73, hbr73⟩ := hb73
                refine pw_vl (fun w73 ew73 => ?_)
                have hF54 : rng (0) 12 w73 := by rw [ew73]; exact rng_upd hg31 (by omega) (by omega)
                have k63 := clampI (x := x63) (by omega)
                have hat : Int32.toNatClampNeg x63 = (7 * Int32.toNatClampNeg y15_1 + Int32.toNatClampNeg y25_2) := by omega
                refine pw_jE (fun k163 ek163 => ?_)
                have lp77 : ∀ (n77 : Nat) (y77_4 : Int32) (d77_F52 : (Nat → Int32)) (d77_F53 : (Nat → Int32)), rng (0) 24 d77_F53 → (0 ≤ y77_4.toInt ∧ y77_4.toInt ≤ 12) → y77_4.toInt ≤ c54_g39.toInt → ((∀ q, q < 288 * (7 * Int32.toNatClampNeg y15_1 + Int32.toNatClampNeg y25_2) → d77_F52 q = d25_F52 q) ∧ (∀ q, q < 12 * (7 * Int32.toNatClampNeg y15_1 + Int32.toNatClampNeg y25_2) → d77_F53 q = d25_F53 q)) → (∀ j, j < Int32.toNatClampNeg y77_4 → d77_F53 (12 * (7 * Int32.toNatClampNeg y15_1 + Int32.toNatClampNeg y25_2) + j) = c54_F38 j) → (∀ j i, j < Int32.toNatClampNeg y77_4 → i < Int32.toNatClampNeg (c54_F38 j) → d77_F52 (288 * (7 * Int32.toNatClampNeg y15_1 + Int32.toNatClampNeg y25_2) + 24 * j + i) = vp_nar .byte (c54_F37 (24 * j + i))) → pw (L_make_77 c54_g39 c54_F37 c54_F38 x63 k163 n77 y77_4 d77_F52 d77_F53) (QF_make g F d Ws) := by
                  intro n77
                  induction n77 with
                  | zero => intros; exact pw_none
                  | succ n77 ih77 =>
                    intro y77_4 d77_F52 d77_F53 hg55 f56 f57 co77 ca77 cb77
                    show pw (B_make_77 c54_g39 c54_F37 c54_F38 x63 k163 (L_make_77 c54_g39 c54_F37 c54_F38 x63 k163 n77) y77_4 d77_F52 d77_F53) _
                    unfold B_make_77
                    refine pw_ite (fun c83 => ?_) (fun c83 => ?_)
                    · have c83 := (z_le _ _).mp c83
                      have hnew : rwO (w73 (7 * Int32.toNatClampNeg y15_1 + Int32.toNatClampNeg y25_2)) d77_F52 d77_F53 (7 * Int32.toNatClampNeg y15_1 + Int32.toNatClampNeg y25_2) = FMT d Ws (Int32.toNatClampNeg y25_2) (Int32.toNatClampNeg y15_1) := by rw [show w73 (7 * Int32.toNatClampNeg y15_1 + Int32.toNatClampNeg y25_2) = c54_g39 by rw [← hat, ew73, pk_us], FMT_at hx, ← p54_0]; have k4 := clampI (x := y77_4) (by omega); exact rwO_cp hnr (fun j hj => ca77 j (by omega)) (fun j i hj hi => cb77 j i (by omega) hi)
                      refine pw_j2 ek163 (fun z163_1 ez163_1 z163_2 ez163_2 => ?_)
                      subst ez163_1 ez163_2
                      have f58 : (y25_2 + 1).toInt = y25_2.toInt + (1) := z_addc (by decide +kernel) (by omega) (by omega)
                      have iv25_0 : (0 ≤ (y25_2 + 1).toInt ∧ (y25_2 + 1).toInt ≤ 7) := by omega
                      have iv25_1 : (y25_2 + 1).toInt ≤ (g 9).toInt + 1 := by omega
                      have iv25_2 : (MKT w73 d77_F52 d77_F53 d Ws (fun w s => (w < Int32.toNatClampNeg y15_1 ∧ s ≤ (Int32.toNatClampNeg (g 9))) ∨ (w = Int32.toNatClampNeg y15_1 ∧ s < Int32.toNatClampNeg (y25_2 + 1)))) := by have k3 := clampI (x := y25_2 + 1) (by omega); intro w s hq; by_cases q9 : w = Int32.toNatClampNeg y15_1 ∧ s = Int32.toNatClampNeg y25_2; (rw [q9.1, q9.2]; exact hnew); (have hq8 : (w < Int32.toNatClampNeg y15_1 ∧ s ≤ (Int32.toNatClampNeg (g 9))) ∨ (w = Int32.toNatClampNeg y15_1 ∧ s < Int32.toNatClampNeg y25_2) := (by have hq7 : (w < _ ∧ s ≤ _) ∨ (w = _ ∧ s < _) := hq; omega); have ho := mk25 w s hq8; have hal : 7 * w + s < (7 * Int32.toNatClampNeg y15_1 + Int32.toNatClampNeg y25_2) := (by omega); have hfm : w73 (7 * w + s) = d25_F54 (7 * w + s) := (by rw [ew73, pk_un (by omega)]); have hwd : WDS (rwO (d25_F54 (7 * w + s)) d25_F52 d25_F53 (7 * w + s)) := (by rw [ho]; exact FMT_wds hWw (fun q hq => (hrd q (by omega)).2)); rw [hfm, rwO_low hwd hal (by have z9 := congrArg List.length ho; rw [rwO_len] at z9; have z8 := FMT_12 (d := d) (Ws := Ws) (s := s) (w := w); omega) co77.1 co77.2]; exact ho)
                      exact ih25 (y25_2 + 1) c54_g23 c54_g27 c54_g30 c54_g34 c54_g36 c54_g39 c54_F22 c54_F24 c54_F25 c54_F26 c54_F28 c54_F29 c54_F31 c54_F32 c54_F33 c54_F37 c54_F38 c54_F40 c54_F41 d77_F52 d77_F53 w73 hg39 hg40 hg41 hg42 hg43 hg44 hg45 hg46 hg47 hg48 hg49 hg50 hg55 hF54 iv25_0 iv25_1 iv25_2
                    · have c83 := z_nle c83
                      have k4 := clampI (x := y77_4) (by omega)
                      have hsn := wds_sz hnr (j := Int32.toNatClampNeg y77_4) (by omega)
                      have kn : (c54_F38 (Int32.toNatClampNeg y77_4)).toInt = ((Int32.toNatClampNeg (c54_F38 (Int32.toNatClampNeg y77_4)) : Nat) : Int) := by have h9 : Int32.toNatClampNeg (c54_F38 (Int32.toNatClampNeg y77_4)) = (c54_F38 (Int32.toNatClampNeg y77_4)).toInt.toNat := rfl; omega
                      have f59 : (12 * x63).toInt = 12 * x63.toInt := z_muld (by decide +kernel) (by omega) (by omega)
                      have f60 : ((12 * x63) + y77_4).toInt = (12 * x63).toInt + y77_4.toInt := z_add (by omega) (by omega)
                      refine pw_if (fun hb103 => ?_)
                      obtain ⟨hbl103, hbr103⟩ := hb103
                      have f61 := hg49 (Int32.toNatClampNeg y77_4)
                      refine pw_if (fun hb104 => ?_)
                      obtain ⟨hbl104, hbr104⟩ := hb104
                      refine pw_vl (fun w104 ew104 => ?_)
                      have hF62 : rng (0) 24 w104 := by rw [ew104]; exact rng_upd hg55 (by omega) (by omega)
                      refine pw_jE (fun k157 ek157 => ?_)
                      have lp108 : ∀ (n108 : Nat) (y108_5 : Int32) (d108_F52 : (Nat → Int32)), 0 ≤ y108_5.toInt → y108_5.toInt ≤ (c54_F38 (Int32.toNatClampNeg y77_4)).toInt → (∀ i, i < Int32.toNatClampNeg y108_5 → d108_F52 (288 * (7 * Int32.toNatClampNeg y15_1 + Int32.toNatClampNeg y25_2) + 24 * Int32.toNatClampNeg y77_4 + i) = vp_nar .byte (c54_F37 (24 * Int32.toNatClampNeg y77_4 + i))) → (∀ q, q < 288 * (7 * Int32.toNatClampNeg y15_1 + Int32.toNatClampNeg y25_2) + 24 * Int32.toNatClampNeg y77_4 → d108_F52 q = d77_F52 q) → pw (L_make_108 c54_F37 c54_F38 x63 y77_4 k157 n108 y108_5 d108_F52) (QF_make g F d Ws) := by
                        intro n108
                        induction n108 with
                        | zero => intros; exact pw_none
                        | succ n108 ih108 =>
                          intro y108_5 d108_F52 f63 f64 dn108 do108
                          show pw (B_make_108 c54_F37 c54_F38 x63 y77_4 k157 (L_make_108 c54_F37 c54_F38 x63 y77_4 k157 n108) y108_5 d108_F52) _
                          unfold B_make_108
                          refine pw_if (fun hb116 => ?_)
                          obtain ⟨hbl116, hbr116⟩ := hb116
                          refine pw_ite (fun c117 => ?_) (fun c117 => ?_)
                          · have c117 := (z_le _ _).mp c117
                            refine pw_j1 ek157 (fun z157_1 ez157_1 => ?_)
                            subst ez157_1
                            have f66 : (y77_4 + 1).toInt = y77_4.toInt + (1) := z_addc (by decide +kernel) (by omega) (by omega)
                            have iv77_0 : (0 ≤ (y77_4 + 1).toInt ∧ (y77_4 + 1).toInt ≤ 12) := by omega
                            have iv77_1 : (y77_4 + 1).toInt ≤ c54_g39.toInt := by omega
                            have iv77_2 : ((∀ q, q < 288 * (7 * Int32.toNatClampNeg y15_1 + Int32.toNatClampNeg y25_2) → d108_F52 q = d25_F52 q) ∧ (∀ q, q < 12 * (7 * Int32.toNatClampNeg y15_1 + Int32.toNatClampNeg y25_2) → w104 q = d25_F53 q)) := by have k4 := clampI (x := y77_4) (by omega); have ki4 := clampI (x := (12 * x63) + y77_4) (by omega); refine ⟨fun q hq => ?_, fun q hq => ?_⟩; (rw [do108 q (by omega)]; exact co77.1 q hq); (rw [ew104, pk_un (by omega)]; exact co77.2 q hq)
                            have iv77_3 : (∀ j, j < Int32.toNatClampNeg (y77_4 + 1) → w104 (12 * (7 * Int32.toNatClampNeg y15_1 + Int32.toNatClampNeg y25_2) + j) = c54_F38 j) := by have k4 := clampI (x := y77_4) (by omega); have k5 := clampI (x := y77_4 + 1) (by omega); have ki4 := clampI (x := (12 * x63) + y77_4) (by omega); intro j hj; by_cases q9 : j = Int32.toNatClampNeg y77_4; (rw [q9, show 12 * (7 * Int32.toNatClampNeg y15_1 + Int32.toNatClampNeg y25_2) + Int32.toNatClampNeg y77_4 = Int32.toNatClampNeg ((12 * x63) + y77_4) by omega, ew104, pk_us]); (rw [ew104, pk_un (by omega)]; exact ca77 j (by omega))
                            have iv77_4 : (∀ j i, j < Int32.toNatClampNeg (y77_4 + 1) → i < Int32.toNatClampNeg (c54_F38 j) → d108_F52 (288 * (7 * Int32.toNatClampNeg y15_1 + Int32.toNatClampNeg y25_2) + 24 * j + i) = vp_nar .byte (c54_F37 (24 * j + i))) := by have k4 := clampI (x := y77_4) (by omega); have k5 := clampI (x := y77_4 + 1) (by omega); intro j i hj hi; by_cases q9 : j = Int32.toNatClampNeg y77_4; (subst q9; exact dn108 i (by have k7 := clampI (x := y108_5) (by omega); omega)); (rw [do108 (288 * (7 * Int32.toNatClampNeg y15_1 + Int32.toNatClampNeg y25_2) + 24 * j + i) (by have h9 := (wds_sz hnr (j := j) (by omega)).2; omega)]; exact cb77 j i (by omega) hi)
                            exact ih77 (y77_4 + 1) d108_F52 w104 hF62 iv77_0 iv77_1 iv77_2 iv77_3 iv77_4
                          · have c117 := z_nle c117
                            have f69 : (24 * ((12 * x63) + y77_4)).toInt = 24 * ((12 * x63) + y77_4).toInt := z_muld (by decide +kernel) (by omega) (by omega)
                            have f70 : ((24 * ((12 * x63) + y77_4)) + y108_5).toInt = (24 * ((12 * x63) + y77_4)).toInt + y108_5.toInt := z_add (by omega) (by omega)
                            have f71 : (24 * y77_4).toInt = 24 * y77_4.toInt := z_muld (by decide +kernel) (by omega) (by omega)
                            have f72 : ((24 * y77_4) + y108_5).toInt = (24 * y77_4).toInt + y108_5.toInt := z_add (by omega) (by omega)
                            refine pw_if (fun hb149 => ?_)
                            obtain ⟨hbl149, hbr149⟩ := hb149
                            refine pw_if (fun hb150 => ?_)
                            obtain ⟨hbl150, hbr150⟩ := hb150
                            refine pw_vl (fun w150 ew150 => ?_)
                            have f73 : (y108_5 + 1).toInt = y108_5.toInt + (1) := z_addc (by decide +kernel) (by omega) (by omega)
                            have iv108_0 : 0 ≤ (y108_5 + 1).toInt := by omega
                            have iv108_1 : (y108_5 + 1).toInt ≤ (c54_F38 (Int32.toNatClampNeg y77_4)).toInt := by omega
                            have iv108_2 : (∀ i, i < Int32.toNatClampNeg (y108_5 + 1) → w150 (288 * (7 * Int32.toNatClampNeg y15_1 + Int32.toNatClampNeg y25_2) + 24 * Int32.toNatClampNeg y77_4 + i) = vp_nar .byte (c54_F37 (24 * Int32.toNatClampNeg y77_4 + i))) := by have k5 := clampI (x := y108_5) (by omega); have kd := clampI (x := (24 * ((12 * x63) + y77_4)) + y108_5) (by omega); have k7 := clampI (x := y108_5 + 1) (by omega); have ks := clampI (x := (24 * y77_4) + y108_5) (by omega); intro i hi; by_cases q9 : i = Int32.toNatClampNeg y108_5; (rw [q9, show 288 * (7 * Int32.toNatClampNeg y15_1 + Int32.toNatClampNeg y25_2) + 24 * Int32.toNatClampNeg y77_4 + Int32.toNatClampNeg y108_5 = Int32.toNatClampNeg ((24 * ((12 * x63) + y77_4)) + y108_5) by omega, ew150, pk_us, show Int32.toNatClampNeg ((24 * y77_4) + y108_5) = 24 * Int32.toNatClampNeg y77_4 + Int32.toNatClampNeg y108_5 by omega]); (rw [ew150, pk_un (by omega)]; exact dn108 i (by omega))
                            have iv108_3 : (∀ q, q < 288 * (7 * Int32.toNatClampNeg y15_1 + Int32.toNatClampNeg y25_2) + 24 * Int32.toNatClampNeg y77_4 → w150 q = d77_F52 q) := by have k5 := clampI (x := y108_5) (by omega); have kd := clampI (x := (24 * ((12 * x63) + y77_4)) + y108_5) (by omega); intro q hq; rw [ew150, pk_un (by omega)]; exact do108 q hq
                            exact ih108 (y108_5 + 1) w150 iv108_0 iv108_1 iv108_2 iv108_3
                      exact lp108 NN (0 : Int32) d77_F52 (show 0 ≤ (0 : Int32).toInt from by omega) (show (0 : Int32).toInt ≤ (c54_F38 (Int32.toNatClampNeg y77_4)).toInt from by omega) (show (∀ i, i < Int32.toNatClampNeg (0 : Int32) → d77_F52 (288 * (7 * Int32.toNatClampNeg y15_1 + Int32.toNatClampNeg y25_2) + 24 * Int32.toNatClampNeg y77_4 + i) = vp_nar .byte (c54_F37 (24 * Int32.toNatClampNeg y77_4 + i))) from by intro i hi; exact absurd hi (Nat.not_lt_zero _)) (show (∀ q, q < 288 * (7 * Int32.toNatClampNeg y15_1 + Int32.toNatClampNeg y25_2) + 24 * Int32.toNatClampNeg y77_4 → d77_F52 q = d77_F52 q) from by intro q hq; rfl)
                exact lp77 NN (0 : Int32) d25_F52 d25_F53 hg30 (show (0 ≤ (0 : Int32).toInt ∧ (0 : Int32).toInt ≤ 12) from by omega) (show (0 : Int32).toInt ≤ c54_g39.toInt from by omega) (show ((∀ q, q < 288 * (7 * Int32.toNatClampNeg y15_1 + Int32.toNatClampNeg y25_2) → d25_F52 q = d25_F52 q) ∧ (∀ q, q < 12 * (7 * Int32.toNatClampNeg y15_1 + Int32.toNatClampNeg y25_2) → d25_F53 q = d25_F53 q)) from by exact ⟨fun _ _ => rfl, fun _ _ => rfl⟩) (show (∀ j, j < Int32.toNatClampNeg (0 : Int32) → d25_F53 (12 * (7 * Int32.toNatClampNeg y15_1 + Int32.toNatClampNeg y25_2) + j) = c54_F38 j) from by intro j hj; exact absurd hj (Nat.not_lt_zero _)) (show (∀ j i, j < Int32.toNatClampNeg (0 : Int32) → i < Int32.toNatClampNeg (c54_F38 j) → d25_F52 (288 * (7 * Int32.toNatClampNeg y15_1 + Int32.toNatClampNeg y25_2) + 24 * j + i) = vp_nar .byte (c54_F37 (24 * j + i))) from by intro j i hj; exact absurd hj (Nat.not_lt_zero _))
          exact lp25 NN (0 : Int32) d15_g23 d15_g27 d15_g30 d15_g34 d15_g36 d15_g39 d15_F22 d15_F24 d15_F25 d15_F26 d15_F28 d15_F29 d15_F31 d15_F32 d15_F33 d15_F37 d15_F38 d15_F40 d15_F41 d15_F52 d15_F53 d15_F54 hg2 hg3 hg4 hg5 hg6 hg7 hg8 hg9 hg10 hg11 hg12 hg13 hg14 hg15 (show (0 ≤ (0 : Int32).toInt ∧ (0 : Int32).toInt ≤ 7) from by omega) (show (0 : Int32).toInt ≤ (g 9).toInt + 1 from by omega) (show (MKT d15_F54 d15_F52 d15_F53 d Ws (fun w s => (w < Int32.toNatClampNeg y15_1 ∧ s ≤ (Int32.toNatClampNeg (g 9))) ∨ (w = Int32.toNatClampNeg y15_1 ∧ s < Int32.toNatClampNeg (0 : Int32)))) from by intro w s hq; exact mk15 w s (by have hq7 : (w < _ ∧ s ≤ _) ∨ (w = _ ∧ s < _) := hq; have z9 : Int32.toNatClampNeg (0 : Int32) = 0 := rfl; omega))
    exact lp15 NN (0 : Int32) (g 23) (g 27) (g 30) (g 34) (g 36) (g 39) (F 22) (F 24) (F 25) (F 26) (F 28) (F 29) (F 31) (F 32) (F 33) (F 37) (F 38) (F 40) (F 41) (F 52) (F 53) (F 54) hzg23 hzg27 hzg30 hzg34 hzg36 hzg39 hzF24 hzF25 hzF26 hzF33 hzF38 hzF41 hzF53 hzF54 (show (0 ≤ (0 : Int32).toInt ∧ (0 : Int32).toInt ≤ 100) from by omega) (show (0 : Int32).toInt ≤ (g 48).toInt from by omega) (show (MKT (F 54) (F 52) (F 53) d Ws (fun w s => w < Int32.toNatClampNeg (0 : Int32) ∧ s ≤ (Int32.toNatClampNeg (g 9)))) from by intro w s hq; exact absurd hq.1 (Nat.not_lt_zero _))
  · have c4 := z_ne c4
    have qq0 : MKT (F 54) (F 52) (F 53) d Ws (fun w s => w < Int32.toNatClampNeg (g 48) ∧ s ≤ Int32.toNatClampNeg (g 9)) := by exact hmk (by omega)
    have qq1 : (g 51).toInt ≠ 0 := by omega
    exact pw_some ⟨qq0, qq1⟩
