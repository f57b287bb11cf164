abbrev Q_back (g : Nat → Int32) (F : Nat → Nat → Int32) (p0 : Int32) : (Int32 × Int32 × Int32 × Int32 × Int32 × Int32 × Int32 × Int32 × Int32 × Int32 × (Nat → Int32) × (Nat → Int32) × (Nat → Int32) × (Nat → Int32) × (Nat → Int32) × (Nat → Int32) × (Nat → Int32) × (Nat → Int32) × (Nat → Int32) × (Nat → Int32) × (Nat → Int32) × (Nat → Int32) × (Nat → Int32) × (Nat → Int32) × (Nat → Int32) × (Nat → Int32) × (Nat → Int32) × (Nat → Int32)) → Prop := (fun t => (((0) ≤ (t.2.1).toInt ∧ (t.2.1).toInt ≤ 2000)) ∧ (((0) ≤ (t.2.2.1).toInt ∧ (t.2.2.1).toInt ≤ 24)) ∧ (((0) ≤ (t.2.2.2.1).toInt ∧ (t.2.2.2.1).toInt ≤ 30)) ∧ (((0) ≤ (t.2.2.2.2.1).toInt ∧ (t.2.2.2.2.1).toInt ≤ 384)) ∧ (((0) ≤ (t.2.2.2.2.2.1).toInt ∧ (t.2.2.2.2.2.1).toInt ≤ 30)) ∧ (((0) ≤ (t.2.2.2.2.2.2.1).toInt ∧ (t.2.2.2.2.2.2.1).toInt ≤ 1)) ∧ (((0) ≤ (t.2.2.2.2.2.2.2.1).toInt ∧ (t.2.2.2.2.2.2.2.1).toInt ≤ 12)) ∧ (((0) ≤ (t.2.2.2.2.2.2.2.2.1).toInt ∧ (t.2.2.2.2.2.2.2.2.1).toInt ≤ 1)) ∧ (((0) ≤ (t.2.2.2.2.2.2.2.2.2.1).toInt ∧ (t.2.2.2.2.2.2.2.2.2.1).toInt ≤ 100)) ∧ (rng (0) 24 (t.2.2.2.2.2.2.2.2.2.2.2.1)) ∧ (rng (0) 24 (t.2.2.2.2.2.2.2.2.2.2.2.2.1)) ∧ (rng (0) 24 (t.2.2.2.2.2.2.2.2.2.2.2.2.2.1)) ∧ (rng (0) 24 (t.2.2.2.2.2.2.2.2.2.2.2.2.2.2.2.2.2.2.1)) ∧ (rng (0) 24 (t.2.2.2.2.2.2.2.2.2.2.2.2.2.2.2.2.2.2.2.2.1)) ∧ (rng (0) 24 (t.2.2.2.2.2.2.2.2.2.2.2.2.2.2.2.2.2.2.2.2.2.2.1)) ∧ (rng (0) 24 (t.2.2.2.2.2.2.2.2.2.2.2.2.2.2.2.2.2.2.2.2.2.2.2.2.1)) ∧ (rng (0) 12 (t.2.2.2.2.2.2.2.2.2.2.2.2.2.2.2.2.2.2.2.2.2.2.2.2.2.1)) ∧ ((t.2.1).toInt = 0))
set_option maxHeartbeats 4000000 in
set_option maxRecDepth 100000 in
theorem ok_back (g : Nat → Int32) (F : Nat → Nat → Int32) (p0 : Int32) (hI : MInv g F) : wp (f_back g F p0) (Q_back g F p0) := by
  unfold f_back
  refine MInv_e hI (fun (hzg1 : id _) (hzg2 : id _) (hzg3 : id _) (hzg4 : id _) (hzg5 : id _) (hzg6 : id _) (hzg7 : id _) (hzg8 : id _) hzg9 (hzg23 : id _) hzg27 hzg30 hzg34 hzg36 hzg39 (hzg44 : id _) (hzg47 : id _) hzg48 hzg51 hzg56 (hzg59 : id _) (hzg62 : id _) (hzg65 : id _) (hzg66 : id _) (hzg70 : id _) hzF11 hzF12 hzF13 hzF15 hzF19 hzF21 hzF24 hzF25 hzF26 hzF33 hzF38 hzF41 hzF43 hzF45 hzF46 hzF50 hzF53 hzF54 hzLQ => ?_)
  clear hI
  have zkm2 : (-2 : Int32).toInt = -2 := by decide +kernel
  have zk0 : (0 : Int32).toInt = 0 := by decide +kernel
  have zk1 : (1 : Int32).toInt = 1 := by decide +kernel
  obtain ⟨⟨r1, c1_g1, c1_g23, c1_F22⟩, hc1, hq1⟩ := ok_readWord g F (MInv_i hzg1 hzg2 hzg3 hzg4 hzg5 hzg6 hzg7 hzg8 hzg9 hzg23 hzg27 hzg30 hzg34 hzg36 hzg39 hzg44 hzg47 hzg48 hzg51 hzg56 hzg59 hzg62 hzg65 hzg66 hzg70 hzF11 hzF12 hzF13 hzF15 hzF19 hzF21 hzF24 hzF25 hzF26 hzF33 hzF38 hzF41 hzF43 hzF45 hzF46 hzF50 hzF53 hzF54 hzLQ)
  obtain ⟨hg1, hg2, f3, f4, f5⟩ : (((0) ≤ c1_g1.toInt ∧ c1_g1.toInt ≤ 2000)) ∧ (((0) ≤ c1_g23.toInt ∧ c1_g23.toInt ≤ 24)) ∧ (c1_g1.toInt = 0) ∧ (id (r1.toInt = 1 → 1 ≤ c1_g23.toInt)) ∧ ((0 ≤ r1.toInt ∧ r1.toInt ≤ 1)) := hq1
  refine wp_b4 hc1 ?_
  clear hc1
  refine wp_jn (fun j15 => wp (j15 ()) (Q_back g F p0)) ?_ ?_
  · show wp _ _
    show wp _ _
    exact ⟨_, rfl, ⟨hg1, hg2, hzg27, hzg30, hzg34, hzg36, hzg39, hzg51, hzg56, hzF24, hzF25, hzF26, hzF33, hzF38, hzF41, hzF53, hzF54, (show c1_g1.toInt = 0 from by (first | omega | (simp only [id_eq] at *; omega)))⟩⟩
  intro j15 Jj15
  refine wp_ite (fun c4 => ?_) (fun c4 => ?_)
  · have c4 := congrArg Int32.toInt c4
    exact Jj15
  · have c4 := z_ne c4
    obtain ⟨r9, hc9, hq9⟩ := ok_isStage (upd (upd g 1 c1_g1) 23 c1_g23) (upF F 22 c1_F22) p0 (MInv_i hg1 hzg2 hzg3 hzg4 hzg5 hzg6 hzg7 hzg8 hzg9 hg2 hzg27 hzg30 hzg34 hzg36 hzg39 hzg44 hzg47 hzg48 hzg51 hzg56 hzg59 hzg62 hzg65 hzg66 hzg70 hzF11 hzF12 hzF13 hzF15 hzF19 hzF21 hzF24 hzF25 hzF26 hzF33 hzF38 hzF41 hzF43 hzF45 hzF46 hzF50 hzF53 hzF54 hzLQ)
    obtain ⟨f6, f7⟩ : (id (r9.toInt = 1 → 0 ≤ p0.toInt ∧ p0.toInt ≤ (g 9).toInt)) ∧ ((0 ≤ r9.toInt ∧ r9.toInt ≤ 1)) := hq9
    refine wp_b1 hc9 ?_
    clear hc9
    refine wp_ite (fun c12 => ?_) (fun c12 => ?_)
    · have c12 := congrArg Int32.toInt c12
      exact Jj15
    · have c12 := z_ne c12
      refine wp_jn (fun k48 => ∀ (c48_F57 : (Nat → Int32)), wp (k48 c48_F57) (Q_back g F p0)) ?_ ?_
      · intro c48_F57
        show wp _ _
        obtain ⟨⟨c49_g23, c49_g27, c49_g30, c49_g34, c49_g36, c49_g39, c49_g51, c49_F22, c49_F24, c49_F25, c49_F26, c49_F28, c49_F29, c49_F31, c49_F32, c49_F33, c49_F37, c49_F38, c49_F40, c49_F41, c49_F52, c49_F53, c49_F54⟩, hc49, hq49⟩ := ok_make (upd (upd g 1 c1_g1) 23 c1_g23) (upF (upF F 22 c1_F22) 57 c48_F57) (MInv_i hg1 hzg2 hzg3 hzg4 hzg5 hzg6 hzg7 hzg8 hzg9 hg2 hzg27 hzg30 hzg34 hzg36 hzg39 hzg44 hzg47 hzg48 hzg51 hzg56 hzg59 hzg62 hzg65 hzg66 hzg70 hzF11 hzF12 hzF13 hzF15 hzF19 hzF21 hzF24 hzF25 hzF26 hzF33 hzF38 hzF41 hzF43 hzF45 hzF46 hzF50 hzF53 hzF54 hzLQ)
        obtain ⟨hg8, hg9, hg10, hg11, hg12, hg13, hg14, hg15, hg16, hg17, hg18, hg19, hg20, hg21, hg22⟩ : (((0) ≤ c49_g23.toInt ∧ c49_g23.toInt ≤ 24)) ∧ (((0) ≤ c49_g27.toInt ∧ c49_g27.toInt ≤ 30)) ∧ (((0) ≤ c49_g30.toInt ∧ c49_g30.toInt ≤ 384)) ∧ (((0) ≤ c49_g34.toInt ∧ c49_g34.toInt ≤ 30)) ∧ (((0) ≤ c49_g36.toInt ∧ c49_g36.toInt ≤ 1)) ∧ (((0) ≤ c49_g39.toInt ∧ c49_g39.toInt ≤ 12)) ∧ (((0) ≤ c49_g51.toInt ∧ c49_g51.toInt ≤ 1)) ∧ (rng (0) 24 c49_F24) ∧ (rng (0) 24 c49_F25) ∧ (rng (0) 24 c49_F26) ∧ (rng (0) 24 c49_F33) ∧ (rng (0) 24 c49_F38) ∧ (rng (0) 24 c49_F41) ∧ (rng (0) 24 c49_F53) ∧ (rng (0) 12 c49_F54) := hq49
        refine wp_b23 hc49 ?_
        clear hc49
        have hg23 : ((0) ≤ (0 : Int32).toInt ∧ (0 : Int32).toInt ≤ 100) := ⟨by (first | omega | (simp only [id_eq] at *; omega)), by (first | omega | (simp only [id_eq] at *; omega))⟩
        have lp59 : ∀ (n59 : Nat) (y59_3 : Int32) (d59_g56 : Int32) (d59_F55 : (Nat → Int32)), (100 - y59_3.toInt).toNat < n59 → ((0) ≤ d59_g56.toInt ∧ d59_g56.toInt ≤ 100) → (0 ≤ y59_3.toInt ∧ y59_3.toInt ≤ 100) → d59_g56.toInt ≤ y59_3.toInt → wp (L_back_59 g F p0 c1_g1 c1_g23 c48_F57 c49_g23 c49_g27 c49_g30 c49_g34 c49_g36 c49_g39 c49_g51 c49_F22 c49_F24 c49_F25 c49_F26 c49_F28 c49_F29 c49_F31 c49_F32 c49_F33 c49_F37 c49_F38 c49_F40 c49_F41 c49_F52 c49_F53 c49_F54 n59 y59_3 d59_g56 d59_F55) (Q_back g F p0) := by
          intro n59
          induction n59 with
          | zero => intro y59_3 d59_g56 d59_F55 hm; exact absurd hm (Nat.not_lt_zero _)
          | succ n59 ih59 =>
            intro y59_3 d59_g56 d59_F55 hm59 hg24 f25 f26
            show wp (B_back_59 g F p0 c1_g1 c1_g23 c48_F57 c49_g23 c49_g27 c49_g30 c49_g34 c49_g36 c49_g39 c49_g51 c49_F22 c49_F24 c49_F25 c49_F26 c49_F28 c49_F29 c49_F31 c49_F32 c49_F33 c49_F37 c49_F38 c49_F40 c49_F41 c49_F52 c49_F53 c49_F54 (L_back_59 g F p0 c1_g1 c1_g23 c48_F57 c49_g23 c49_g27 c49_g30 c49_g34 c49_g36 c49_g39 c49_g51 c49_F22 c49_F24 c49_F25 c49_F26 c49_F28 c49_F29 c49_F31 c49_F32 c49_F33 c49_F37 c49_F38 c49_F40 c49_F41 c49_F52 c49_F53 c49_F54 n59) y59_3 d59_g56 d59_F55) _
            unfold B_back_59
            refine wp_ite (fun c64 => ?_) (fun c64 => ?_)
            · have c64 := (z_le _ _).mp c64
              exact ⟨_, rfl, ⟨hg1, hg8, hg9, hg10, hg11, hg12, hg13, hg14, hg24, hg15, hg16, hg17, hg18, hg19, hg20, hg21, hg22, (show c1_g1.toInt = 0 from by (first | omega | (simp only [id_eq] at *; omega)))⟩⟩
            · have c64 := z_nle c64
              obtain ⟨r76, hc76, hq76⟩ := ok_hasForm (upd (upd (upd (upd (upd (upd (upd (upd (upd g 1 c1_g1) 23 c49_g23) 27 c49_g27) 30 c49_g30) 34 c49_g34) 36 c49_g36) 39 c49_g39) 51 c49_g51) 56 d59_g56) (upF (upF (upF (upF (upF (upF (upF (upF (upF (upF (upF (upF (upF (upF (upF (upF (upF (upF F 22 c49_F22) 24 c49_F24) 25 c49_F25) 26 c49_F26) 28 c49_F28) 29 c49_F29) 31 c49_F31) 32 c49_F32) 33 c49_F33) 37 c49_F37) 38 c49_F38) 40 c49_F40) 41 c49_F41) 52 c49_F52) 53 c49_F53) 54 c49_F54) 55 d59_F55) 57 c48_F57) y59_3 p0 c48_F57 24 0 c1_g23 (MInv_i hg1 hzg2 hzg3 hzg4 hzg5 hzg6 hzg7 hzg8 hzg9 hg8 hg9 hg10 hg11 hg12 hg13 hzg44 hzg47 hzg48 hg14 hg24 hzg59 hzg62 hzg65 hzg66 hzg70 hzF11 hzF12 hzF13 hzF15 hzF19 hzF21 hg15 hg16 hg17 hg18 hg19 hg20 hzF43 hzF45 hzF46 hzF50 hg21 hg22 hzLQ) (show (0 ≤ y59_3.toInt ∧ y59_3.toInt ≤ 99) from by (first | omega | (simp only [id_eq] at *; omega))) (show (0 ≤ p0.toInt ∧ p0.toInt ≤ 6) from by (first | omega | (simp only [id_eq] at *; omega))) (show (0 ≤ (0 : Int32).toInt ∧ (0 : Int32).toInt + c1_g23.toInt ≤ 24) from by (first | omega | (simp only [id_eq] at *; omega))) (show 24 ≤ 500000 from by (first | omega | (simp only [id_eq] at *; omega)))
              have f27 : (0 ≤ r76.toInt ∧ r76.toInt ≤ 1) := hq76
              refine wp_b1 hc76 ?_
              clear hc76
              refine wp_jn (fun j105 => ∀ (c105_g56 : Int32) (c105_F55 : (Nat → Int32)), ((0) ≤ c105_g56.toInt ∧ c105_g56.toInt ≤ 100) → c105_g56.toInt ≤ y59_3.toInt + 1 → wp (j105 c105_g56 c105_F55) (Q_back g F p0)) ?_ ?_
              · intro c105_g56 c105_F55 hg28 f29
                show wp _ _
                have f30 : (y59_3 + 1).toInt = y59_3.toInt + (1) := z_addc (by decide +kernel) (by (first | omega | (simp only [id_eq] at *; omega))) (by (first | omega | (simp only [id_eq] at *; omega)))
                exact ih59 (y59_3 + 1) c105_g56 c105_F55 (show (100 - (y59_3 + 1).toInt).toNat < n59 from by (first | omega | (simp only [id_eq] at *; omega))) hg28 (show (0 ≤ (y59_3 + 1).toInt ∧ (y59_3 + 1).toInt ≤ 100) from by (first | omega | (simp only [id_eq] at *; omega))) (show c105_g56.toInt ≤ (y59_3 + 1).toInt from by (first | omega | (simp only [id_eq] at *; omega)))
              intro j105 Jj105
              refine wp_ite (fun c79 => ?_) (fun c79 => ?_)
              · have c79 := congrArg Int32.toInt c79
                exact Jj105 d59_g56 d59_F55 hg24 (show d59_g56.toInt ≤ y59_3.toInt + 1 from by (first | omega | (simp only [id_eq] at *; omega)))
              · have c79 := z_ne c79
                refine wp_if ⟨by (first | omega | (simp only [id_eq] at *; omega)), by (first | omega | (simp only [id_eq] at *; omega))⟩ ?_
                refine wp_vl (fun w94 ew94 => ?_)
                clear ew94
                have f31 : (d59_g56 + 1).toInt = d59_g56.toInt + 1 := z_addc (by decide +kernel) (by (first | omega | (simp only [id_eq] at *; omega))) (by (first | omega | (simp only [id_eq] at *; omega)))
                refine wp_vl (fun x102 ex102 => ?_)
                have f32 : x102.toInt = (d59_g56 + 1).toInt := congrArg Int32.toInt ex102
                clear ex102
                have hg33 : ((0) ≤ x102.toInt ∧ x102.toInt ≤ 100) := ⟨by (first | omega | (simp only [id_eq] at *; omega)), by (first | omega | (simp only [id_eq] at *; omega))⟩
                exact Jj105 x102 w94 hg33 (show x102.toInt ≤ y59_3.toInt + 1 from by (first | omega | (simp only [id_eq] at *; omega)))
        exact lp59 NN (0 : Int32) (0 : Int32) (F 55) (by have := NN_eq; (first | omega | (simp only [id_eq] at *; omega))) hg23 (show (0 ≤ (0 : Int32).toInt ∧ (0 : Int32).toInt ≤ 100) from by (first | omega | (simp only [id_eq] at *; omega))) (show (0 : Int32).toInt ≤ (0 : Int32).toInt from by (first | omega | (simp only [id_eq] at *; omega)))
      intro k48 Jk48
      have lp25 : ∀ (n25 : Nat) (y25_3 : Int32) (d25_F57 : (Nat → Int32)), (24 - y25_3.toInt).toNat < n25 → 0 ≤ y25_3.toInt → wp (L_back_25 c1_g23 c1_F22 k48 n25 y25_3 d25_F57) (Q_back g F p0) := by
        intro n25
        induction n25 with
        | zero => intro y25_3 d25_F57 hm; exact absurd hm (Nat.not_lt_zero _)
        | succ n25 ih25 =>
          intro y25_3 d25_F57 hm25 f34
          show wp (B_back_25 c1_g23 c1_F22 k48 (L_back_25 c1_g23 c1_F22 k48 n25) y25_3 d25_F57) _
          unfold B_back_25
          refine wp_ite (fun c27 => ?_) (fun c27 => ?_)
          · have c27 := (z_le _ _).mp c27
            exact Jk48 d25_F57
          · have c27 := z_nle c27
            refine wp_if ⟨by (first | omega | (simp only [id_eq] at *; omega)), by (first | omega | (simp only [id_eq] at *; omega))⟩ ?_
            refine wp_if ⟨by (first | omega | (simp only [id_eq] at *; omega)), by (first | omega | (simp only [id_eq] at *; omega))⟩ ?_
            refine wp_vl (fun w41 ew41 => ?_)
            clear ew41
            have f35 : (y25_3 + 1).toInt = y25_3.toInt + (1) := z_addc (by decide +kernel) (by (first | omega | (simp only [id_eq] at *; omega))) (by (first | omega | (simp only [id_eq] at *; omega)))
            exact ih25 (y25_3 + 1) w41 (show (24 - (y25_3 + 1).toInt).toNat < n25 from by (first | omega | (simp only [id_eq] at *; omega))) (show 0 ≤ (y25_3 + 1).toInt from by (first | omega | (simp only [id_eq] at *; omega)))
      exact lp25 NN (0 : Int32) (F 57) (by have := NN_eq; (first | omega | (simp only [id_eq] at *; omega))) (show 0 ≤ (0 : Int32).toInt from by (first | omega | (simp only [id_eq] at *; omega)))
abbrev Q_collisions (g : Nat → Int32) (F : Nat → Nat → Int32) (p0 : Int32) : (Int32 × Int32 × Int32 × Int32 × Int32 × Int32 × Int32 × Int32 × Int32 × (Nat → Int32) × (Nat → Int32) × (Nat → Int32) × (Nat → Int32) × (Nat → Int32) × (Nat → Int32) × (Nat → Int32) × (Nat → Int32) × (Nat → Int32) × (Nat → Int32) × (Nat → Int32) × (Nat → Int32) × (Nat → Int32) × (Nat → Int32) × (Nat → Int32) × (Nat → Int32) × (Nat → Int32)) → Prop := (fun t => (((0) ≤ (t.2.1).toInt ∧ (t.2.1).toInt ≤ 24)) ∧ (((0) ≤ (t.2.2.1).toInt ∧ (t.2.2.1).toInt ≤ 30)) ∧ (((0) ≤ (t.2.2.2.1).toInt ∧ (t.2.2.2.1).toInt ≤ 384)) ∧ (((0) ≤ (t.2.2.2.2.1).toInt ∧ (t.2.2.2.2.1).toInt ≤ 30)) ∧ (((0) ≤ (t.2.2.2.2.2.1).toInt ∧ (t.2.2.2.2.2.1).toInt ≤ 1)) ∧ (((0) ≤ (t.2.2.2.2.2.2.1).toInt ∧ (t.2.2.2.2.2.2.1).toInt ≤ 12)) ∧ (((0) ≤ (t.2.2.2.2.2.2.2.1).toInt ∧ (t.2.2.2.2.2.2.2.1).toInt ≤ 1)) ∧ (((0) ≤ (t.2.2.2.2.2.2.2.2.1).toInt ∧ (t.2.2.2.2.2.2.2.2.1).toInt ≤ 200)) ∧ (rng (0) 24 (t.2.2.2.2.2.2.2.2.2.2.1)) ∧ (rng (0) 24 (t.2.2.2.2.2.2.2.2.2.2.2.1)) ∧ (rng (0) 24 (t.2.2.2.2.2.2.2.2.2.2.2.2.1)) ∧ (rng (0) 24 (t.2.2.2.2.2.2.2.2.2.2.2.2.2.2.2.2.2.1)) ∧ (rng (0) 24 (t.2.2.2.2.2.2.2.2.2.2.2.2.2.2.2.2.2.2.2.1)) ∧ (rng (0) 24 (t.2.2.2.2.2.2.2.2.2.2.2.2.2.2.2.2.2.2.2.2.2.1)) ∧ (rng (0) 24 (t.2.2.2.2.2.2.2.2.2.2.2.2.2.2.2.2.2.2.2.2.2.2.2.1)) ∧ (rng (0) 12 (t.2.2.2.2.2.2.2.2.2.2.2.2.2.2.2.2.2.2.2.2.2.2.2.2.1)))
set_option maxHeartbeats 4000000 in
set_option maxRecDepth 100000 in
theorem ok_collisions (g : Nat → Int32) (F : Nat → Nat → Int32) (p0 : Int32) (hI : MInv g F) : wp (f_collisions g F p0) (Q_collisions g F p0) := by
  unfold f_collisions
  refine MInv_e hI (fun (hzg1 : id _) (hzg2 : id _) (hzg3 : id _) (hzg4 : id _) (hzg5 : id _) (hzg6 : id _) (hzg7 : id _) (hzg8 : id _) hzg9 hzg23 hzg27 hzg30 hzg34 hzg36 hzg39 (hzg44 : id _) (hzg47 : id _) hzg48 hzg51 (hzg56 : id _) hzg59 (hzg62 : id _) (hzg65 : id _) (hzg66 : id _) (hzg70 : id _) hzF11 hzF12 hzF13 hzF15 hzF19 hzF21 hzF24 hzF25 hzF26 hzF33 hzF38 hzF41 hzF43 hzF45 hzF46 hzF50 hzF53 hzF54 hzLQ => ?_)
  clear hI
  have zkm2 : (-2 : Int32).toInt = -2 := by decide +kernel
  have zk0 : (0 : Int32).toInt = 0 := by decide +kernel
  have zk1 : (1 : Int32).toInt = 1 := by decide +kernel
  have zk200 : (200 : Int32).toInt = 200 := by decide +kernel
  have zk1000 : (1000 : Int32).toInt = 1000 := by decide +kernel
  obtain ⟨r2, hc2, hq2⟩ := ok_isStage g F p0 (MInv_i hzg1 hzg2 hzg3 hzg4 hzg5 hzg6 hzg7 hzg8 hzg9 hzg23 hzg27 hzg30 hzg34 hzg36 hzg39 hzg44 hzg47 hzg48 hzg51 hzg56 hzg59 hzg62 hzg65 hzg66 hzg70 hzF11 hzF12 hzF13 hzF15 hzF19 hzF21 hzF24 hzF25 hzF26 hzF33 hzF38 hzF41 hzF43 hzF45 hzF46 hzF50 hzF53 hzF54 hzLQ)
  obtain ⟨f1, f2⟩ : (id (r2.toInt = 1 → 0 ≤ p0.toInt ∧ p0.toInt ≤ (g 9).toInt)) ∧ ((0 ≤ r2.toInt ∧ r2.toInt ≤ 1)) := hq2
  refine wp_b1 hc2 ?_
  clear hc2
  refine wp_ite (fun c5 => ?_) (fun c5 => ?_)
  · have c5 := congrArg Int32.toInt c5
    exact ⟨_, rfl, ⟨hzg23, hzg27, hzg30, hzg34, hzg36, hzg39, hzg51, hzg59, hzF24, hzF25, hzF26, hzF33, hzF38, hzF41, hzF53, hzF54⟩⟩
  · have c5 := z_ne c5
    obtain ⟨⟨c12_g23, c12_g27, c12_g30, c12_g34, c12_g36, c12_g39, c12_g51, c12_F22, c12_F24, c12_F25, c12_F26, c12_F28, c12_F29, c12_F31, c12_F32, c12_F33, c12_F37, c12_F38, c12_F40, c12_F41, c12_F52, c12_F53, c12_F54⟩, hc12, hq12⟩ := ok_make g F (MInv_i hzg1 hzg2 hzg3 hzg4 hzg5 hzg6 hzg7 hzg8 hzg9 hzg23 hzg27 hzg30 hzg34 hzg36 hzg39 hzg44 hzg47 hzg48 hzg51 hzg56 hzg59 hzg62 hzg65 hzg66 hzg70 hzF11 hzF12 hzF13 hzF15 hzF19 hzF21 hzF24 hzF25 hzF26 hzF33 hzF38 hzF41 hzF43 hzF45 hzF46 hzF50 hzF53 hzF54 hzLQ)
    obtain ⟨hg3, hg4, hg5, hg6, hg7, hg8, hg9, hg10, hg11, hg12, hg13, hg14, hg15, hg16, hg17⟩ : (((0) ≤ c12_g23.toInt ∧ c12_g23.toInt ≤ 24)) ∧ (((0) ≤ c12_g27.toInt ∧ c12_g27.toInt ≤ 30)) ∧ (((0) ≤ c12_g30.toInt ∧ c12_g30.toInt ≤ 384)) ∧ (((0) ≤ c12_g34.toInt ∧ c12_g34.toInt ≤ 30)) ∧ (((0) ≤ c12_g36.toInt ∧ c12_g36.toInt ≤ 1)) ∧ (((0) ≤ c12_g39.toInt ∧ c12_g39.toInt ≤ 12)) ∧ (((0) ≤ c12_g51.toInt ∧ c12_g51.toInt ≤ 1)) ∧ (rng (0) 24 c12_F24) ∧ (rng (0) 24 c12_F25) ∧ (rng (0) 24 c12_F26) ∧ (rng (0) 24 c12_F33) ∧ (rng (0) 24 c12_F38) ∧ (rng (0) 24 c12_F41) ∧ (rng (0) 24 c12_F53) ∧ (rng (0) 12 c12_F54) := hq12
    refine wp_b23 hc12 ?_
    clear hc12
    have hg18 : ((0) ≤ (0 : Int32).toInt ∧ (0 : Int32).toInt ≤ 200) := ⟨by (first | omega | (simp only [id_eq] at *; omega)), by (first | omega | (simp only [id_eq] at *; omega))⟩
    have lp24 : ∀ (n24 : Nat) (y24_2 : Int32) (y24_3 : Int32) (d24_g59 : Int32) (d24_F58 : (Nat → Int32)), (100 - y24_3.toInt).toNat < n24 → ((0) ≤ d24_g59.toInt ∧ d24_g59.toInt ≤ 200) → (0 ≤ y24_3.toInt ∧ y24_3.toInt ≤ 100) → (0 ≤ y24_2.toInt ∧ y24_2.toInt ≤ 100 * y24_3.toInt) → wp (L_collisions_24 g F p0 c12_g23 c12_g27 c12_g30 c12_g34 c12_g36 c12_g39 c12_g51 c12_F22 c12_F24 c12_F25 c12_F26 c12_F28 c12_F29 c12_F31 c12_F32 c12_F33 c12_F37 c12_F38 c12_F40 c12_F41 c12_F52 c12_F53 c12_F54 n24 y24_2 y24_3 d24_g59 d24_F58) (Q_collisions g F p0) := by
      intro n24
      induction n24 with
      | zero => intro y24_2 y24_3 d24_g59 d24_F58 hm; exact absurd hm (Nat.not_lt_zero _)
      | succ n24 ih24 =>
        intro y24_2 y24_3 d24_g59 d24_F58 hm24 hg19 f20 f21
        show wp (B_collisions_24 g F p0 c12_g23 c12_g27 c12_g30 c12_g34 c12_g36 c12_g39 c12_g51 c12_F22 c12_F24 c12_F25 c12_F26 c12_F28 c12_F29 c12_F31 c12_F32 c12_F33 c12_F37 c12_F38 c12_F40 c12_F41 c12_F52 c12_F53 c12_F54 (L_collisions_24 g F p0 c12_g23 c12_g27 c12_g30 c12_g34 c12_g36 c12_g39 c12_g51 c12_F22 c12_F24 c12_F25 c12_F26 c12_F28 c12_F29 c12_F31 c12_F32 c12_F33 c12_F37 c12_F38 c12_F40 c12_F41 c12_F52 c12_F53 c12_F54 n24) y24_2 y24_3 d24_g59 d24_F58) _
        unfold B_collisions_24
        refine wp_ite (fun c29 => ?_) (fun c29 => ?_)
        · have c29 := (z_le _ _).mp c29
          exact ⟨_, rfl, ⟨hg3, hg4, hg5, hg6, hg7, hg8, hg9, hg19, hg10, hg11, hg12, hg13, hg14, hg15, hg16, hg17⟩⟩
        · have c29 := z_nle c29
          have f22 : (y24_3 + 1).toInt = y24_3.toInt + 1 := z_addc (by decide +kernel) (by (first | omega | (simp only [id_eq] at *; omega))) (by (first | omega | (simp only [id_eq] at *; omega)))
          refine wp_vl (fun x35 ex35 => ?_)
          have f23 : x35.toInt = (y24_3 + 1).toInt := congrArg Int32.toInt ex35
          clear ex35
          refine wp_jn (fun k109 => ∀ (x109_2 : Int32) (c109_g59 : Int32) (c109_F58 : (Nat → Int32)), ((0) ≤ c109_g59.toInt ∧ c109_g59.toInt ≤ 200) → (0 ≤ x109_2.toInt ∧ x109_2.toInt ≤ 100 * y24_3.toInt + 100) → wp (k109 x109_2 c109_g59 c109_F58) (Q_collisions g F p0)) ?_ ?_
          · intro x109_2 c109_g59 c109_F58 hg24 f25
            show wp _ _
            exact ih24 x109_2 (y24_3 + 1) c109_g59 c109_F58 (show (100 - (y24_3 + 1).toInt).toNat < n24 from by (first | omega | (simp only [id_eq] at *; omega))) hg24 (show (0 ≤ (y24_3 + 1).toInt ∧ (y24_3 + 1).toInt ≤ 100) from by (first | omega | (simp only [id_eq] at *; omega))) (show (0 ≤ x109_2.toInt ∧ x109_2.toInt ≤ 100 * (y24_3 + 1).toInt) from by (first | omega | (simp only [id_eq] at *; omega)))
          intro k109 Jk109
          have lp37 : ∀ (n37 : Nat) (y37_2 : Int32) (y37_4 : Int32) (d37_g59 : Int32) (d37_F58 : (Nat → Int32)), (100 - y37_4.toInt).toNat < n37 → ((0) ≤ d37_g59.toInt ∧ d37_g59.toInt ≤ 200) → (0 ≤ y37_4.toInt ∧ y37_4.toInt ≤ 100) → (0 ≤ y37_2.toInt ∧ y37_2.toInt ≤ 100 * y24_3.toInt + y37_4.toInt) → wp (L_collisions_37 g F p0 c12_g23 c12_g27 c12_g30 c12_g34 c12_g36 c12_g39 c12_g51 c12_F22 c12_F24 c12_F25 c12_F26 c12_F28 c12_F29 c12_F31 c12_F32 c12_F33 c12_F37 c12_F38 c12_F40 c12_F41 c12_F52 c12_F53 c12_F54 y24_3 k109 n37 y37_2 y37_4 d37_g59 d37_F58) (Q_collisions g F p0) := by
            intro n37
            induction n37 with
            | zero => intro y37_2 y37_4 d37_g59 d37_F58 hm; exact absurd hm (Nat.not_lt_zero _)
            | succ n37 ih37 =>
              intro y37_2 y37_4 d37_g59 d37_F58 hm37 hg27 f28 f29
              show wp (B_collisions_37 g F p0 c12_g23 c12_g27 c12_g30 c12_g34 c12_g36 c12_g39 c12_g51 c12_F22 c12_F24 c12_F25 c12_F26 c12_F28 c12_F29 c12_F31 c12_F32 c12_F33 c12_F37 c12_F38 c12_F40 c12_F41 c12_F52 c12_F53 c12_F54 y24_3 k109 (L_collisions_37 g F p0 c12_g23 c12_g27 c12_g30 c12_g34 c12_g36 c12_g39 c12_g51 c12_F22 c12_F24 c12_F25 c12_F26 c12_F28 c12_F29 c12_F31 c12_F32 c12_F33 c12_F37 c12_F38 c12_F40 c12_F41 c12_F52 c12_F53 c12_F54 y24_3 k109 n37) y37_2 y37_4 d37_g59 d37_F58) _
              unfold B_collisions_37
              refine wp_ite (fun c43 => ?_) (fun c43 => ?_)
              · have c43 := (z_le _ _).mp c43
                exact Jk109 y37_2 d37_g59 d37_F58 hg27 (show (0 ≤ y37_2.toInt ∧ y37_2.toInt ≤ 100 * y24_3.toInt + 100) from by (first | omega | (simp only [id_eq] at *; omega)))
              · have c43 := z_nle c43
                obtain ⟨r51, hc51, hq51⟩ := ok_collide (upd (upd (upd (upd (upd (upd (upd (upd g 23 c12_g23) 27 c12_g27) 30 c12_g30) 34 c12_g34) 36 c12_g36) 39 c12_g39) 51 c12_g51) 59 d37_g59) (upF (upF (upF (upF (upF (upF (upF (upF (upF (upF (upF (upF (upF (upF (upF (upF (upF F 22 c12_F22) 24 c12_F24) 25 c12_F25) 26 c12_F26) 28 c12_F28) 29 c12_F29) 31 c12_F31) 32 c12_F32) 33 c12_F33) 37 c12_F37) 38 c12_F38) 40 c12_F40) 41 c12_F41) 52 c12_F52) 53 c12_F53) 54 c12_F54) 58 d37_F58) y24_3 y37_4 p0 (MInv_i hzg1 hzg2 hzg3 hzg4 hzg5 hzg6 hzg7 hzg8 hzg9 hg3 hg4 hg5 hg6 hg7 hg8 hzg44 hzg47 hzg48 hg9 hzg56 hg27 hzg62 hzg65 hzg66 hzg70 hzF11 hzF12 hzF13 hzF15 hzF19 hzF21 hg10 hg11 hg12 hg13 hg14 hg15 hzF43 hzF45 hzF46 hzF50 hg16 hg17 hzLQ) (show (0 ≤ y24_3.toInt ∧ y24_3.toInt ≤ 99) from by (first | omega | (simp only [id_eq] at *; omega))) (show (0 ≤ y37_4.toInt ∧ y37_4.toInt ≤ 99) from by (first | omega | (simp only [id_eq] at *; omega))) (show (0 ≤ p0.toInt ∧ p0.toInt ≤ 6) from by (first | omega | (simp only [id_eq] at *; omega)))
                have f30 : (0 ≤ r51.toInt ∧ r51.toInt ≤ 1) := hq51
                refine wp_b1 hc51 ?_
                clear hc51
                refine wp_jn (fun j103 => ∀ (x103_2 : Int32) (c103_g59 : Int32) (c103_F58 : (Nat → Int32)), ((0) ≤ c103_g59.toInt ∧ c103_g59.toInt ≤ 200) → (0 ≤ x103_2.toInt ∧ x103_2.toInt ≤ 100 * y24_3.toInt + y37_4.toInt + 1) → wp (j103 x103_2 c103_g59 c103_F58) (Q_collisions g F p0)) ?_ ?_
                · intro x103_2 c103_g59 c103_F58 hg31 f32
                  show wp _ _
                  have f33 : (y37_4 + 1).toInt = y37_4.toInt + (1) := z_addc (by decide +kernel) (by (first | omega | (simp only [id_eq] at *; omega))) (by (first | omega | (simp only [id_eq] at *; omega)))
                  exact ih37 x103_2 (y37_4 + 1) c103_g59 c103_F58 (show (100 - (y37_4 + 1).toInt).toNat < n37 from by (first | omega | (simp only [id_eq] at *; omega))) hg31 (show (0 ≤ (y37_4 + 1).toInt ∧ (y37_4 + 1).toInt ≤ 100) from by (first | omega | (simp only [id_eq] at *; omega))) (show (0 ≤ x103_2.toInt ∧ x103_2.toInt ≤ 100 * y24_3.toInt + (y37_4 + 1).toInt) from by (first | omega | (simp only [id_eq] at *; omega)))
                intro j103 Jj103
                refine wp_ite (fun c54 => ?_) (fun c54 => ?_)
                · have c54 := congrArg Int32.toInt c54
                  exact Jj103 y37_2 d37_g59 d37_F58 hg27 (show (0 ≤ y37_2.toInt ∧ y37_2.toInt ≤ 100 * y24_3.toInt + y37_4.toInt + 1) from by (first | omega | (simp only [id_eq] at *; omega)))
                · have c54 := z_ne c54
                  have f34 : (y37_2 + 1).toInt = y37_2.toInt + (1) := z_addc (by decide +kernel) (by (first | omega | (simp only [id_eq] at *; omega))) (by (first | omega | (simp only [id_eq] at *; omega)))
                  refine wp_ite (fun c70 => ?_) (fun c70 => ?_)
                  · have c70 := congrArg Int32.toInt c70
                    exact Jj103 (y37_2 + 1) d37_g59 d37_F58 hg27 (show (0 ≤ (y37_2 + 1).toInt ∧ (y37_2 + 1).toInt ≤ 100 * y24_3.toInt + y37_4.toInt + 1) from by (first | omega | (simp only [id_eq] at *; omega)))
                  · have c70 := z_ne c70
                    have f35 : (1000 * y24_3).toInt = 1000 * y24_3.toInt := z_muld (by decide +kernel) (by (first | omega | (simp only [id_eq] at *; omega))) (by (first | omega | (simp only [id_eq] at *; omega)))
                    have f36 : ((1000 * y24_3) + y37_4).toInt = (1000 * y24_3).toInt + y37_4.toInt := z_add (by (first | omega | (simp only [id_eq] at *; omega))) (by (first | omega | (simp only [id_eq] at *; omega)))
                    refine wp_if ⟨by (first | omega | (simp only [id_eq] at *; omega)), by (first | omega | (simp only [id_eq] at *; omega))⟩ ?_
                    refine wp_vl (fun w92 ew92 => ?_)
                    clear ew92
                    have f37 : (d37_g59 + 1).toInt = d37_g59.toInt + 1 := z_addc (by decide +kernel) (by (first | omega | (simp only [id_eq] at *; omega))) (by (first | omega | (simp only [id_eq] at *; omega)))
                    refine wp_vl (fun x100 ex100 => ?_)
                    have f38 : x100.toInt = (d37_g59 + 1).toInt := congrArg Int32.toInt ex100
                    clear ex100
                    have hg39 : ((0) ≤ x100.toInt ∧ x100.toInt ≤ 200) := ⟨by (first | omega | (simp only [id_eq] at *; omega)), by (first | omega | (simp only [id_eq] at *; omega))⟩
                    exact Jj103 (y37_2 + 1) x100 w92 hg39 (show (0 ≤ (y37_2 + 1).toInt ∧ (y37_2 + 1).toInt ≤ 100 * y24_3.toInt + y37_4.toInt + 1) from by (first | omega | (simp only [id_eq] at *; omega)))
          exact lp37 NN y24_2 x35 d24_g59 d24_F58 (by have := NN_eq; (first | omega | (simp only [id_eq] at *; omega))) hg19 (show (0 ≤ x35.toInt ∧ x35.toInt ≤ 100) from by (first | omega | (simp only [id_eq] at *; omega))) (show (0 ≤ y24_2.toInt ∧ y24_2.toInt ≤ 100 * y24_3.toInt + x35.toInt) from by (first | omega | (simp only [id_eq] at *; omega)))
    exact lp24 NN (0 : Int32) (0 : Int32) (0 : Int32) (F 58) (by have := NN_eq; (first | omega | (simp only [id_eq] at *; omega))) hg18 (show (0 ≤ (0 : Int32).toInt ∧ (0 : Int32).toInt ≤ 100) from by (first | omega | (simp only [id_eq] at *; omega))) (show (0 ≤ (0 : Int32).toInt ∧ (0 : Int32).toInt ≤ 100 * (0 : Int32).toInt) from by (first | omega | (simp only [id_eq] at *; omega)))
abbrev Q_rhymes (g : Nat → Int32) (F : Nat → Nat → Int32) (p0 : Int32) : (Int32 × Int32 × Int32 × Int32 × Int32 × Int32 × Int32 × Int32 × (Nat → Int32) × (Nat → Int32) × (Nat → Int32) × (Nat → Int32) × (Nat → Int32) × (Nat → Int32) × (Nat → Int32) × (Nat → Int32) × (Nat → Int32) × (Nat → Int32) × (Nat → Int32) × (Nat → Int32) × (Nat → Int32) × (Nat → Int32) × (Nat → Int32) × (Nat → Int32)) → Prop := (fun t => (((0) ≤ (t.2.1).toInt ∧ (t.2.1).toInt ≤ 24)) ∧ (((0) ≤ (t.2.2.1).toInt ∧ (t.2.2.1).toInt ≤ 30)) ∧ (((0) ≤ (t.2.2.2.1).toInt ∧ (t.2.2.2.1).toInt ≤ 384)) ∧ (((0) ≤ (t.2.2.2.2.1).toInt ∧ (t.2.2.2.2.1).toInt ≤ 30)) ∧ (((0) ≤ (t.2.2.2.2.2.1).toInt ∧ (t.2.2.2.2.2.1).toInt ≤ 1)) ∧ (((0) ≤ (t.2.2.2.2.2.2.1).toInt ∧ (t.2.2.2.2.2.2.1).toInt ≤ 12)) ∧ (((0) ≤ (t.2.2.2.2.2.2.2.1).toInt ∧ (t.2.2.2.2.2.2.2.1).toInt ≤ 1)) ∧ (rng (0) 24 (t.2.2.2.2.2.2.2.2.2.1)) ∧ (rng (0) 24 (t.2.2.2.2.2.2.2.2.2.2.1)) ∧ (rng (0) 24 (t.2.2.2.2.2.2.2.2.2.2.2.1)) ∧ (rng (0) 24 (t.2.2.2.2.2.2.2.2.2.2.2.2.2.2.2.2.1)) ∧ (rng (0) 24 (t.2.2.2.2.2.2.2.2.2.2.2.2.2.2.2.2.2.2.1)) ∧ (rng (0) 24 (t.2.2.2.2.2.2.2.2.2.2.2.2.2.2.2.2.2.2.2.2.1)) ∧ (rng (0) 24 (t.2.2.2.2.2.2.2.2.2.2.2.2.2.2.2.2.2.2.2.2.2.2.1)) ∧ (rng (0) 12 (t.2.2.2.2.2.2.2.2.2.2.2.2.2.2.2.2.2.2.2.2.2.2.2)))
set_option maxHeartbeats 4000000 in
set_option maxRecDepth 100000 in
theorem ok_rhymes (g : Nat → Int32) (F : Nat → Nat → Int32) (p0 : Int32) (hI : MInv g F) : wp (f_rhymes g F p0) (Q_rhymes g F p0) := by
  unfold f_rhymes
  refine MInv_e hI (fun (hzg1 : id _) (hzg2 : id _) (hzg3 : id _) (hzg4 : id _) (hzg5 : id _) (hzg6 : id _) (hzg7 : id _) (hzg8 : id _) hzg9 hzg23 hzg27 hzg30 hzg34 hzg36 hzg39 (hzg44 : id _) (hzg47 : id _) hzg48 hzg51 (hzg56 : id _) (hzg59 : id _) (hzg62 : id _) (hzg65 : id _) (hzg66 : id _) (hzg70 : id _) hzF11 hzF12 hzF13 hzF15 hzF19 hzF21 hzF24 hzF25 hzF26 hzF33 hzF38 hzF41 hzF43 hzF45 hzF46 hzF50 hzF53 hzF54 hzLQ => ?_)
  clear hI
  have zkm2 : (-2 : Int32).toInt = -2 := by decide +kernel
  have zk0 : (0 : Int32).toInt = 0 := by decide +kernel
  have zk1 : (1 : Int32).toInt = 1 := by decide +kernel
  have zk24 : (24 : Int32).toInt = 24 := by decide +kernel
  obtain ⟨r2, hc2, hq2⟩ := ok_isStage g F p0 (MInv_i hzg1 hzg2 hzg3 hzg4 hzg5 hzg6 hzg7 hzg8 hzg9 hzg23 hzg27 hzg30 hzg34 hzg36 hzg39 hzg44 hzg47 hzg48 hzg51 hzg56 hzg59 hzg62 hzg65 hzg66 hzg70 hzF11 hzF12 hzF13 hzF15 hzF19 hzF21 hzF24 hzF25 hzF26 hzF33 hzF38 hzF41 hzF43 hzF45 hzF46 hzF50 hzF53 hzF54 hzLQ)
  obtain ⟨f1, f2⟩ : (id (r2.toInt = 1 → 0 ≤ p0.toInt ∧ p0.toInt ≤ (g 9).toInt)) ∧ ((0 ≤ r2.toInt ∧ r2.toInt ≤ 1)) := hq2
  refine wp_b1 hc2 ?_
  clear hc2
  refine wp_ite (fun c5 => ?_) (fun c5 => ?_)
  · have c5 := congrArg Int32.toInt c5
    exact ⟨_, rfl, ⟨hzg23, hzg27, hzg30, hzg34, hzg36, hzg39, hzg51, hzF24, hzF25, hzF26, hzF33, hzF38, hzF41, hzF53, hzF54⟩⟩
  · have c5 := z_ne c5
    obtain ⟨⟨c12_g23, c12_g27, c12_g30, c12_g34, c12_g36, c12_g39, c12_g51, c12_F22, c12_F24, c12_F25, c12_F26, c12_F28, c12_F29, c12_F31, c12_F32, c12_F33, c12_F37, c12_F38, c12_F40, c12_F41, c12_F52, c12_F53, c12_F54⟩, hc12, hq12⟩ := ok_make g F (MInv_i hzg1 hzg2 hzg3 hzg4 hzg5 hzg6 hzg7 hzg8 hzg9 hzg23 hzg27 hzg30 hzg34 hzg36 hzg39 hzg44 hzg47 hzg48 hzg51 hzg56 hzg59 hzg62 hzg65 hzg66 hzg70 hzF11 hzF12 hzF13 hzF15 hzF19 hzF21 hzF24 hzF25 hzF26 hzF33 hzF38 hzF41 hzF43 hzF45 hzF46 hzF50 hzF53 hzF54 hzLQ)
    obtain ⟨hg3, hg4, hg5, hg6, hg7, hg8, hg9, hg10, hg11, hg12, hg13, hg14, hg15, hg16, hg17⟩ : (((0) ≤ c12_g23.toInt ∧ c12_g23.toInt ≤ 24)) ∧ (((0) ≤ c12_g27.toInt ∧ c12_g27.toInt ≤ 30)) ∧ (((0) ≤ c12_g30.toInt ∧ c12_g30.toInt ≤ 384)) ∧ (((0) ≤ c12_g34.toInt ∧ c12_g34.toInt ≤ 30)) ∧ (((0) ≤ c12_g36.toInt ∧ c12_g36.toInt ≤ 1)) ∧ (((0) ≤ c12_g39.toInt ∧ c12_g39.toInt ≤ 12)) ∧ (((0) ≤ c12_g51.toInt ∧ c12_g51.toInt ≤ 1)) ∧ (rng (0) 24 c12_F24) ∧ (rng (0) 24 c12_F25) ∧ (rng (0) 24 c12_F26) ∧ (rng (0) 24 c12_F33) ∧ (rng (0) 24 c12_F38) ∧ (rng (0) 24 c12_F41) ∧ (rng (0) 24 c12_F53) ∧ (rng (0) 12 c12_F54) := hq12
    refine wp_b23 hc12 ?_
    clear hc12
    have lp19 : ∀ (n19 : Nat) (y19_2 : Int32) (y19_3 : Int32), (100 - y19_3.toInt).toNat < n19 → (0 ≤ y19_3.toInt ∧ y19_3.toInt ≤ 100) → (0 ≤ y19_2.toInt ∧ y19_2.toInt ≤ 100 * y19_3.toInt) → wp (L_rhymes_19 g F p0 c12_g23 c12_g27 c12_g30 c12_g34 c12_g36 c12_g39 c12_g51 c12_F22 c12_F24 c12_F25 c12_F26 c12_F28 c12_F29 c12_F31 c12_F32 c12_F33 c12_F37 c12_F38 c12_F40 c12_F41 c12_F52 c12_F53 c12_F54 n19 y19_2 y19_3) (Q_rhymes g F p0) := by
      intro n19
      induction n19 with
      | zero => intro y19_2 y19_3 hm; exact absurd hm (Nat.not_lt_zero _)
      | succ n19 ih19 =>
        intro y19_2 y19_3 hm19 f18 f19
        show wp (B_rhymes_19 g F p0 c12_g23 c12_g27 c12_g30 c12_g34 c12_g36 c12_g39 c12_g51 c12_F22 c12_F24 c12_F25 c12_F26 c12_F28 c12_F29 c12_F31 c12_F32 c12_F33 c12_F37 c12_F38 c12_F40 c12_F41 c12_F52 c12_F53 c12_F54 (L_rhymes_19 g F p0 c12_g23 c12_g27 c12_g30 c12_g34 c12_g36 c12_g39 c12_g51 c12_F22 c12_F24 c12_F25 c12_F26 c12_F28 c12_F29 c12_F31 c12_F32 c12_F33 c12_F37 c12_F38 c12_F40 c12_F41 c12_F52 c12_F53 c12_F54 n19) y19_2 y19_3) _
        unfold B_rhymes_19
        refine wp_ite (fun c24 => ?_) (fun c24 => ?_)
        · have c24 := (z_le _ _).mp c24
          exact ⟨_, rfl, ⟨hg3, hg4, hg5, hg6, hg7, hg8, hg9, hg10, hg11, hg12, hg13, hg14, hg15, hg16, hg17⟩⟩
        · have c24 := z_nle c24
          have f20 : (y19_3 + 1).toInt = y19_3.toInt + 1 := z_addc (by decide +kernel) (by (first | omega | (simp only [id_eq] at *; omega))) (by (first | omega | (simp only [id_eq] at *; omega)))
          refine wp_vl (fun x30 ex30 => ?_)
          have f21 : x30.toInt = (y19_3 + 1).toInt := congrArg Int32.toInt ex30
          clear ex30
          refine wp_jn (fun k102 => ∀ (x102_2 : Int32), (0 ≤ x102_2.toInt ∧ x102_2.toInt ≤ 100 * y19_3.toInt + 100) → wp (k102 x102_2) (Q_rhymes g F p0)) ?_ ?_
          · intro x102_2 f22
            show wp _ _
            exact ih19 x102_2 (y19_3 + 1) (show (100 - (y19_3 + 1).toInt).toNat < n19 from by (first | omega | (simp only [id_eq] at *; omega))) (show (0 ≤ (y19_3 + 1).toInt ∧ (y19_3 + 1).toInt ≤ 100) from by (first | omega | (simp only [id_eq] at *; omega))) (show (0 ≤ x102_2.toInt ∧ x102_2.toInt ≤ 100 * (y19_3 + 1).toInt) from by (first | omega | (simp only [id_eq] at *; omega)))
          intro k102 Jk102
          have lp32 : ∀ (n32 : Nat) (y32_2 : Int32) (y32_4 : Int32), (100 - y32_4.toInt).toNat < n32 → (0 ≤ y32_4.toInt ∧ y32_4.toInt ≤ 100) → (0 ≤ y32_2.toInt ∧ y32_2.toInt ≤ 100 * y19_3.toInt + y32_4.toInt) → wp (L_rhymes_32 g F p0 c12_g23 c12_g27 c12_g30 c12_g34 c12_g36 c12_g39 c12_g51 c12_F22 c12_F24 c12_F25 c12_F26 c12_F28 c12_F29 c12_F31 c12_F32 c12_F33 c12_F37 c12_F38 c12_F40 c12_F41 c12_F52 c12_F53 c12_F54 y19_3 k102 n32 y32_2 y32_4) (Q_rhymes g F p0) := by
            intro n32
            induction n32 with
            | zero => intro y32_2 y32_4 hm; exact absurd hm (Nat.not_lt_zero _)
            | succ n32 ih32 =>
              intro y32_2 y32_4 hm32 f24 f25
              show wp (B_rhymes_32 g F p0 c12_g23 c12_g27 c12_g30 c12_g34 c12_g36 c12_g39 c12_g51 c12_F22 c12_F24 c12_F25 c12_F26 c12_F28 c12_F29 c12_F31 c12_F32 c12_F33 c12_F37 c12_F38 c12_F40 c12_F41 c12_F52 c12_F53 c12_F54 y19_3 k102 (L_rhymes_32 g F p0 c12_g23 c12_g27 c12_g30 c12_g34 c12_g36 c12_g39 c12_g51 c12_F22 c12_F24 c12_F25 c12_F26 c12_F28 c12_F29 c12_F31 c12_F32 c12_F33 c12_F37 c12_F38 c12_F40 c12_F41 c12_F52 c12_F53 c12_F54 y19_3 k102 n32) y32_2 y32_4) _
              unfold B_rhymes_32
              refine wp_ite (fun c38 => ?_) (fun c38 => ?_)
              · have c38 := (z_le _ _).mp c38
                exact Jk102 y32_2 (show (0 ≤ y32_2.toInt ∧ y32_2.toInt ≤ 100 * y19_3.toInt + 100) from by (first | omega | (simp only [id_eq] at *; omega)))
              · have c38 := z_nle c38
                have f26 : (24 * y19_3).toInt = 24 * y19_3.toInt := z_muld (by decide +kernel) (by (first | omega | (simp only [id_eq] at *; omega))) (by (first | omega | (simp only [id_eq] at *; omega)))
                refine wp_if ⟨by (first | omega | (simp only [id_eq] at *; omega)), by (first | omega | (simp only [id_eq] at *; omega))⟩ ?_
                have f27 := hzF50 (Int32.toNatClampNeg y19_3)
                have f28 : (24 * y32_4).toInt = 24 * y32_4.toInt := z_muld (by decide +kernel) (by (first | omega | (simp only [id_eq] at *; omega))) (by (first | omega | (simp only [id_eq] at *; omega)))
                refine wp_if ⟨by (first | omega | (simp only [id_eq] at *; omega)), by (first | omega | (simp only [id_eq] at *; omega))⟩ ?_
                have f29 := hzF50 (Int32.toNatClampNeg y32_4)
                obtain ⟨r72, hc72, hq72⟩ := ok_rhyme (F 49) 2400 (24 * y19_3) ((F 50) (Int32.toNatClampNeg y19_3)) (F 49) 2400 (24 * y32_4) ((F 50) (Int32.toNatClampNeg y32_4)) (show (0 ≤ (24 * y19_3).toInt ∧ (24 * y19_3).toInt + ((F 50) (Int32.toNatClampNeg y19_3)).toInt ≤ 2400) from by (first | omega | (simp only [id_eq] at *; omega))) (show 2400 ≤ 500000 from by (first | omega | (simp only [id_eq] at *; omega))) (show (0 ≤ (24 * y32_4).toInt ∧ (24 * y32_4).toInt + ((F 50) (Int32.toNatClampNeg y32_4)).toInt ≤ 2400) from by (first | omega | (simp only [id_eq] at *; omega))) (show 2400 ≤ 500000 from by (first | omega | (simp only [id_eq] at *; omega))) (show ((F 50) (Int32.toNatClampNeg y19_3)).toInt ≤ 24 from by (first | omega | (simp only [id_eq] at *; omega))) (show ((F 50) (Int32.toNatClampNeg y32_4)).toInt ≤ 24 from by (first | omega | (simp only [id_eq] at *; omega)))
                have f30 : (0 ≤ r72.toInt ∧ r72.toInt ≤ 1) := hq72
                refine wp_b1 hc72 ?_
                clear hc72
                refine wp_jn (fun j94 => ∀ (t94_0 : Int32), (0 ≤ t94_0.toInt ∧ t94_0.toInt ≤ 1) → wp (j94 t94_0) (Q_rhymes g F p0)) ?_ ?_
                · intro t94_0 f31
                  show wp _ _
                  have f32 : (y32_2 + t94_0).toInt = y32_2.toInt + t94_0.toInt := z_add (by (first | omega | (simp only [id_eq] at *; omega))) (by (first | omega | (simp only [id_eq] at *; omega)))
                  refine wp_vl (fun x95 ex95 => ?_)
                  have f33 : x95.toInt = (y32_2 + t94_0).toInt := congrArg Int32.toInt ex95
                  clear ex95
                  have f34 : (y32_4 + 1).toInt = y32_4.toInt + (1) := z_addc (by decide +kernel) (by (first | omega | (simp only [id_eq] at *; omega))) (by (first | omega | (simp only [id_eq] at *; omega)))
                  exact ih32 x95 (y32_4 + 1) (show (100 - (y32_4 + 1).toInt).toNat < n32 from by (first | omega | (simp only [id_eq] at *; omega))) (show (0 ≤ (y32_4 + 1).toInt ∧ (y32_4 + 1).toInt ≤ 100) from by (first | omega | (simp only [id_eq] at *; omega))) (show (0 ≤ x95.toInt ∧ x95.toInt ≤ 100 * y19_3.toInt + (y32_4 + 1).toInt) from by (first | omega | (simp only [id_eq] at *; omega)))
                intro j94 Jj94
                refine wp_jn (fun j93 => wp (j93 ()) (Q_rhymes g F p0)) ?_ ?_
                · show wp _ _
                  show wp _ _
                  exact Jj94 (0 : Int32) (show (0 ≤ (0 : Int32).toInt ∧ (0 : Int32).toInt ≤ 1) from by (first | omega | (simp only [id_eq] at *; omega)))
                intro j93 Jj93
                refine wp_ite (fun c75 => ?_) (fun c75 => ?_)
                · have c75 := congrArg Int32.toInt c75
                  exact Jj93
                · have c75 := z_ne c75
                  obtain ⟨r83, hc83, hq83⟩ := ok_rhymeAt (upd (upd (upd (upd (upd (upd (upd g 23 c12_g23) 27 c12_g27) 30 c12_g30) 34 c12_g34) 36 c12_g36) 39 c12_g39) 51 c12_g51) (upF (upF (upF (upF (upF (upF (upF (upF (upF (upF (upF (upF (upF (upF (upF (upF F 22 c12_F22) 24 c12_F24) 25 c12_F25) 26 c12_F26) 28 c12_F28) 29 c12_F29) 31 c12_F31) 32 c12_F32) 33 c12_F33) 37 c12_F37) 38 c12_F38) 40 c12_F40) 41 c12_F41) 52 c12_F52) 53 c12_F53) 54 c12_F54) y19_3 y32_4 p0 (MInv_i hzg1 hzg2 hzg3 hzg4 hzg5 hzg6 hzg7 hzg8 hzg9 hg3 hg4 hg5 hg6 hg7 hg8 hzg44 hzg47 hzg48 hg9 hzg56 hzg59 hzg62 hzg65 hzg66 hzg70 hzF11 hzF12 hzF13 hzF15 hzF19 hzF21 hg10 hg11 hg12 hg13 hg14 hg15 hzF43 hzF45 hzF46 hzF50 hg16 hg17 hzLQ) (show (0 ≤ y19_3.toInt ∧ y19_3.toInt ≤ 99) from by (first | omega | (simp only [id_eq] at *; omega))) (show (0 ≤ y32_4.toInt ∧ y32_4.toInt ≤ 99) from by (first | omega | (simp only [id_eq] at *; omega))) (show (0 ≤ p0.toInt ∧ p0.toInt ≤ 6) from by (first | omega | (simp only [id_eq] at *; omega)))
                  have f35 : (0 ≤ r83.toInt ∧ r83.toInt ≤ 1) := hq83
                  refine wp_b1 hc83 ?_
                  clear hc83
                  refine wp_ite (fun c86 => ?_) (fun c86 => ?_)
                  · have c86 := congrArg Int32.toInt c86
                    exact Jj94 (1 : Int32) (show (0 ≤ (1 : Int32).toInt ∧ (1 : Int32).toInt ≤ 1) from by (first | omega | (simp only [id_eq] at *; omega)))
                  · have c86 := z_ne c86
                    exact Jj93
          exact lp32 NN y19_2 x30 (by have := NN_eq; (first | omega | (simp only [id_eq] at *; omega))) (show (0 ≤ x30.toInt ∧ x30.toInt ≤ 100) from by (first | omega | (simp only [id_eq] at *; omega))) (show (0 ≤ y19_2.toInt ∧ y19_2.toInt ≤ 100 * y19_3.toInt + x30.toInt) from by (first | omega | (simp only [id_eq] at *; omega)))
    exact lp19 NN (0 : Int32) (0 : Int32) (by have := NN_eq; (first | omega | (simp only [id_eq] at *; omega))) (show (0 ≤ (0 : Int32).toInt ∧ (0 : Int32).toInt ≤ 100) from by (first | omega | (simp only [id_eq] at *; omega))) (show (0 ≤ (0 : Int32).toInt ∧ (0 : Int32).toInt ≤ 100 * (0 : Int32).toInt) from by (first | omega | (simp only [id_eq] at *; omega)))
abbrev Q_tell (g : Nat → Int32) (F : Nat → Nat → Int32) (p0 : Int32) (p1 : Int32) : (Int32 × Int32 × Int32 × Int32 × Int32 × Int32 × Int32 × Int32 × (Nat → Int32) × (Nat → Int32) × (Nat → Int32) × (Nat → Int32) × (Nat → Int32) × (Nat → Int32) × (Nat → Int32) × (Nat → Int32) × (Nat → Int32) × (Nat → Int32) × (Nat → Int32) × (Nat → Int32) × (Nat → Int32) × (Nat → Int32) × (Nat → Int32) × (Nat → Int32)) → Prop := (fun t => (((0) ≤ (t.2.1).toInt ∧ (t.2.1).toInt ≤ 24)) ∧ (((0) ≤ (t.2.2.1).toInt ∧ (t.2.2.1).toInt ≤ 30)) ∧ (((0) ≤ (t.2.2.2.1).toInt ∧ (t.2.2.2.1).toInt ≤ 384)) ∧ (((0) ≤ (t.2.2.2.2.1).toInt ∧ (t.2.2.2.2.1).toInt ≤ 30)) ∧ (((0) ≤ (t.2.2.2.2.2.1).toInt ∧ (t.2.2.2.2.2.1).toInt ≤ 1)) ∧ (((0) ≤ (t.2.2.2.2.2.2.1).toInt ∧ (t.2.2.2.2.2.2.1).toInt ≤ 12)) ∧ (((0) ≤ (t.2.2.2.2.2.2.2.1).toInt ∧ (t.2.2.2.2.2.2.2.1).toInt ≤ 1)) ∧ (rng (0) 24 (t.2.2.2.2.2.2.2.2.2.1)) ∧ (rng (0) 24 (t.2.2.2.2.2.2.2.2.2.2.1)) ∧ (rng (0) 24 (t.2.2.2.2.2.2.2.2.2.2.2.1)) ∧ (rng (0) 24 (t.2.2.2.2.2.2.2.2.2.2.2.2.2.2.2.2.1)) ∧ (rng (0) 24 (t.2.2.2.2.2.2.2.2.2.2.2.2.2.2.2.2.2.2.1)) ∧ (rng (0) 24 (t.2.2.2.2.2.2.2.2.2.2.2.2.2.2.2.2.2.2.2.2.1)) ∧ (rng (0) 24 (t.2.2.2.2.2.2.2.2.2.2.2.2.2.2.2.2.2.2.2.2.2.2.1)) ∧ (rng (0) 12 (t.2.2.2.2.2.2.2.2.2.2.2.2.2.2.2.2.2.2.2.2.2.2.2)))
set_option maxHeartbeats 4000000 in
set_option maxRecDepth 100000 in
theorem ok_tell (g : Nat → Int32) (F : Nat → Nat → Int32) (p0 : Int32) (p1 : Int32) (hI : MInv g F) : wp (f_tell g F p0 p1) (Q_tell g F p0 p1) := by
  unfold f_tell
  refine MInv_e hI (fun (hzg1 : id _) (hzg2 : id _) (hzg3 : id _) (hzg4 : id _) (hzg5 : id _) (hzg6 : id _) (hzg7 : id _) (hzg8 : id _) hzg9 hzg23 hzg27 hzg30 hzg34 hzg36 hzg39 (hzg44 : id _) (hzg47 : id _) hzg48 hzg51 (hzg56 : id _) (hzg59 : id _) (hzg62 : id _) (hzg65 : id _) (hzg66 : id _) (hzg70 : id _) hzF11 hzF12 hzF13 hzF15 hzF19 hzF21 hzF24 hzF25 hzF26 hzF33 hzF38 hzF41 hzF43 hzF45 hzF46 hzF50 hzF53 hzF54 hzLQ => ?_)
  clear hI
  have zkm2 : (-2 : Int32).toInt = -2 := by decide +kernel
  have zk0 : (0 : Int32).toInt = 0 := by decide +kernel
  have zk1 : (1 : Int32).toInt = 1 := by decide +kernel
  have zk2 : (2 : Int32).toInt = 2 := by decide +kernel
  have zk7 : (7 : Int32).toInt = 7 := by decide +kernel
  have zk24 : (24 : Int32).toInt = 24 := by decide +kernel
  obtain ⟨r2, hc2, hq2⟩ := ok_isStage g F p0 (MInv_i hzg1 hzg2 hzg3 hzg4 hzg5 hzg6 hzg7 hzg8 hzg9 hzg23 hzg27 hzg30 hzg34 hzg36 hzg39 hzg44 hzg47 hzg48 hzg51 hzg56 hzg59 hzg62 hzg65 hzg66 hzg70 hzF11 hzF12 hzF13 hzF15 hzF19 hzF21 hzF24 hzF25 hzF26 hzF33 hzF38 hzF41 hzF43 hzF45 hzF46 hzF50 hzF53 hzF54 hzLQ)
  obtain ⟨f1, f2⟩ : (id (r2.toInt = 1 → 0 ≤ p0.toInt ∧ p0.toInt ≤ (g 9).toInt)) ∧ ((0 ≤ r2.toInt ∧ r2.toInt ≤ 1)) := hq2
  refine wp_b1 hc2 ?_
  clear hc2
  refine wp_jn (fun j17 => wp (j17 ()) (Q_tell g F p0 p1)) ?_ ?_
  · show wp _ _
    show wp _ _
    exact ⟨_, rfl, ⟨hzg23, hzg27, hzg30, hzg34, hzg36, hzg39, hzg51, hzF24, hzF25, hzF26, hzF33, hzF38, hzF41, hzF53, hzF54⟩⟩
  intro j17 Jj17
  refine wp_ite (fun c5 => ?_) (fun c5 => ?_)
  · have c5 := congrArg Int32.toInt c5
    exact Jj17
  · have c5 := z_ne c5
    obtain ⟨r11, hc11, hq11⟩ := ok_in p1 0 2 
    obtain ⟨f3, f4, f5⟩ : (id (r11.toInt = 1 → (0 : Int32).toInt ≤ p1.toInt ∧ p1.toInt ≤ (2 : Int32).toInt)) ∧ (id (r11.toInt = 0 → p1.toInt < (0 : Int32).toInt ∨ (2 : Int32).toInt < p1.toInt)) ∧ ((0 ≤ r11.toInt ∧ r11.toInt ≤ 1)) := hq11
    refine wp_b1 hc11 ?_
    clear hc11
    refine wp_ite (fun c14 => ?_) (fun c14 => ?_)
    · have c14 := congrArg Int32.toInt c14
      exact Jj17
    · have c14 := z_ne c14
      obtain ⟨⟨c21_g23, c21_g27, c21_g30, c21_g34, c21_g36, c21_g39, c21_g51, c21_F22, c21_F24, c21_F25, c21_F26, c21_F28, c21_F29, c21_F31, c21_F32, c21_F33, c21_F37, c21_F38, c21_F40, c21_F41, c21_F52, c21_F53, c21_F54⟩, hc21, hq21⟩ := ok_make g F (MInv_i hzg1 hzg2 hzg3 hzg4 hzg5 hzg6 hzg7 hzg8 hzg9 hzg23 hzg27 hzg30 hzg34 hzg36 hzg39 hzg44 hzg47 hzg48 hzg51 hzg56 hzg59 hzg62 hzg65 hzg66 hzg70 hzF11 hzF12 hzF13 hzF15 hzF19 hzF21 hzF24 hzF25 hzF26 hzF33 hzF38 hzF41 hzF43 hzF45 hzF46 hzF50 hzF53 hzF54 hzLQ)
      obtain ⟨hg6, hg7, hg8, hg9, hg10, hg11, hg12, hg13, hg14, hg15, hg16, hg17, hg18, hg19, hg20⟩ : (((0) ≤ c21_g23.toInt ∧ c21_g23.toInt ≤ 24)) ∧ (((0) ≤ c21_g27.toInt ∧ c21_g27.toInt ≤ 30)) ∧ (((0) ≤ c21_g30.toInt ∧ c21_g30.toInt ≤ 384)) ∧ (((0) ≤ c21_g34.toInt ∧ c21_g34.toInt ≤ 30)) ∧ (((0) ≤ c21_g36.toInt ∧ c21_g36.toInt ≤ 1)) ∧ (((0) ≤ c21_g39.toInt ∧ c21_g39.toInt ≤ 12)) ∧ (((0) ≤ c21_g51.toInt ∧ c21_g51.toInt ≤ 1)) ∧ (rng (0) 24 c21_F24) ∧ (rng (0) 24 c21_F25) ∧ (rng (0) 24 c21_F26) ∧ (rng (0) 24 c21_F33) ∧ (rng (0) 24 c21_F38) ∧ (rng (0) 24 c21_F41) ∧ (rng (0) 24 c21_F53) ∧ (rng (0) 12 c21_F54) := hq21
      refine wp_b23 hc21 ?_
      clear hc21
      have lp29 : ∀ (n29 : Nat) (y29_3 : Int32) (y29_4 : Int32), (100 - y29_4.toInt).toNat < n29 → (0 ≤ y29_4.toInt ∧ y29_4.toInt ≤ 100) → (0 ≤ y29_3.toInt ∧ y29_3.toInt ≤ y29_4.toInt) → wp (L_tell_29 g F p0 p1 c21_g23 c21_g27 c21_g30 c21_g34 c21_g36 c21_g39 c21_g51 c21_F22 c21_F24 c21_F25 c21_F26 c21_F28 c21_F29 c21_F31 c21_F32 c21_F33 c21_F37 c21_F38 c21_F40 c21_F41 c21_F52 c21_F53 c21_F54 n29 y29_3 y29_4) (Q_tell g F p0 p1) := by
        intro n29
        induction n29 with
        | zero => intro y29_3 y29_4 hm; exact absurd hm (Nat.not_lt_zero _)
        | succ n29 ih29 =>
          intro y29_3 y29_4 hm29 f21 f22
          show wp (B_tell_29 g F p0 p1 c21_g23 c21_g27 c21_g30 c21_g34 c21_g36 c21_g39 c21_g51 c21_F22 c21_F24 c21_F25 c21_F26 c21_F28 c21_F29 c21_F31 c21_F32 c21_F33 c21_F37 c21_F38 c21_F40 c21_F41 c21_F52 c21_F53 c21_F54 (L_tell_29 g F p0 p1 c21_g23 c21_g27 c21_g30 c21_g34 c21_g36 c21_g39 c21_g51 c21_F22 c21_F24 c21_F25 c21_F26 c21_F28 c21_F29 c21_F31 c21_F32 c21_F33 c21_F37 c21_F38 c21_F40 c21_F41 c21_F52 c21_F53 c21_F54 n29) y29_3 y29_4) _
          unfold B_tell_29
          refine wp_ite (fun c35 => ?_) (fun c35 => ?_)
          · have c35 := (z_le _ _).mp c35
            exact ⟨_, rfl, ⟨hg6, hg7, hg8, hg9, hg10, hg11, hg12, hg13, hg14, hg15, hg16, hg17, hg18, hg19, hg20⟩⟩
          · have c35 := z_nle c35
            have f23 : (7 * y29_4).toInt = 7 * y29_4.toInt := z_muld (by decide +kernel) (by (first | omega | (simp only [id_eq] at *; omega))) (by (first | omega | (simp only [id_eq] at *; omega)))
            have f24 : ((7 * y29_4) + p0).toInt = (7 * y29_4).toInt + p0.toInt := z_add (by (first | omega | (simp only [id_eq] at *; omega))) (by (first | omega | (simp only [id_eq] at *; omega)))
            refine wp_if ⟨by (first | omega | (simp only [id_eq] at *; omega)), by (first | omega | (simp only [id_eq] at *; omega))⟩ ?_
            have f25 := hg20 (Int32.toNatClampNeg ((7 * y29_4) + p0))
            refine wp_vl (fun x50 ex50 => ?_)
            have f26 : x50.toInt = (c21_F54 (Int32.toNatClampNeg ((7 * y29_4) + p0))).toInt := congrArg Int32.toInt ex50
            clear ex50
            refine wp_jn (fun j125 => ∀ (t125_0 : Int32), wp (j125 t125_0) (Q_tell g F p0 p1)) ?_ ?_
            · intro t125_0
              show wp _ _
              refine wp_jn (fun j138 => ∀ (t138_0 : Int32), (0 ≤ t138_0.toInt ∧ t138_0.toInt ≤ 1) → wp (j138 t138_0) (Q_tell g F p0 p1)) ?_ ?_
              · intro t138_0 f27
                show wp _ _
                have f28 : (y29_3 + t138_0).toInt = y29_3.toInt + t138_0.toInt := z_add (by (first | omega | (simp only [id_eq] at *; omega))) (by (first | omega | (simp only [id_eq] at *; omega)))
                refine wp_vl (fun x139 ex139 => ?_)
                have f29 : x139.toInt = (y29_3 + t138_0).toInt := congrArg Int32.toInt ex139
                clear ex139
                have f30 : (y29_4 + 1).toInt = y29_4.toInt + (1) := z_addc (by decide +kernel) (by (first | omega | (simp only [id_eq] at *; omega))) (by (first | omega | (simp only [id_eq] at *; omega)))
                exact ih29 x139 (y29_4 + 1) (show (100 - (y29_4 + 1).toInt).toNat < n29 from by (first | omega | (simp only [id_eq] at *; omega))) (show (0 ≤ (y29_4 + 1).toInt ∧ (y29_4 + 1).toInt ≤ 100) from by (first | omega | (simp only [id_eq] at *; omega))) (show (0 ≤ x139.toInt ∧ x139.toInt ≤ (y29_4 + 1).toInt) from by (first | omega | (simp only [id_eq] at *; omega)))
              intro j138 Jj138
              refine wp_ite (fun c130 => ?_) (fun c130 => ?_)
              · have c130 := congrArg Int32.toInt c130
                exact Jj138 (0 : Int32) (show (0 ≤ (0 : Int32).toInt ∧ (0 : Int32).toInt ≤ 1) from by (first | omega | (simp only [id_eq] at *; omega)))
              · have c130 := z_ne c130
                exact Jj138 (1 : Int32) (show (0 ≤ (1 : Int32).toInt ∧ (1 : Int32).toInt ≤ 1) from by (first | omega | (simp only [id_eq] at *; omega)))
            intro j125 Jj125
            refine wp_ite (fun c53 => ?_) (fun c53 => ?_)
            · have c53 := congrArg Int32.toInt c53
              refine wp_ite (fun c59 => ?_) (fun c59 => ?_)
              · have c59 := (z_le _ _).mp c59
                exact Jj125 (0 : Int32)
              · have c59 := z_nle c59
                exact Jj125 (1 : Int32)
            · have c53 := z_ne c53
              refine wp_ite (fun c72 => ?_) (fun c72 => ?_)
              · have c72 := congrArg Int32.toInt c72
                refine wp_ite (fun c77 => ?_) (fun c77 => ?_)
                · have c77 := congrArg Int32.toInt c77
                  exact Jj125 (1 : Int32)
                · have c77 := z_ne c77
                  exact Jj125 (0 : Int32)
              · have c72 := z_ne c72
                refine wp_jn (fun j124 => wp (j124 ()) (Q_tell g F p0 p1)) ?_ ?_
                · show wp _ _
                  show wp _ _
                  exact Jj125 (0 : Int32)
                intro j124 Jj124
                refine wp_ite (fun c91 => ?_) (fun c91 => ?_)
                · have c91 := congrArg Int32.toInt c91
                  have f31 : (24 * y29_4).toInt = 24 * y29_4.toInt := z_muld (by decide +kernel) (by (first | omega | (simp only [id_eq] at *; omega))) (by (first | omega | (simp only [id_eq] at *; omega)))
                  refine wp_if ⟨by (first | omega | (simp only [id_eq] at *; omega)), by (first | omega | (simp only [id_eq] at *; omega))⟩ ?_
                  have f32 := hzF50 (Int32.toNatClampNeg y29_4)
                  obtain ⟨r114, hc114, hq114⟩ := ok_hasForm (upd (upd (upd (upd (upd (upd (upd g 23 c21_g23) 27 c21_g27) 30 c21_g30) 34 c21_g34) 36 c21_g36) 39 c21_g39) 51 c21_g51) (upF (upF (upF (upF (upF (upF (upF (upF (upF (upF (upF (upF (upF (upF (upF (upF F 22 c21_F22) 24 c21_F24) 25 c21_F25) 26 c21_F26) 28 c21_F28) 29 c21_F29) 31 c21_F31) 32 c21_F32) 33 c21_F33) 37 c21_F37) 38 c21_F38) 40 c21_F40) 41 c21_F41) 52 c21_F52) 53 c21_F53) 54 c21_F54) y29_4 p0 (F 49) 2400 (24 * y29_4) ((F 50) (Int32.toNatClampNeg y29_4)) (MInv_i hzg1 hzg2 hzg3 hzg4 hzg5 hzg6 hzg7 hzg8 hzg9 hg6 hg7 hg8 hg9 hg10 hg11 hzg44 hzg47 hzg48 hg12 hzg56 hzg59 hzg62 hzg65 hzg66 hzg70 hzF11 hzF12 hzF13 hzF15 hzF19 hzF21 hg13 hg14 hg15 hg16 hg17 hg18 hzF43 hzF45 hzF46 hzF50 hg19 hg20 hzLQ) (show (0 ≤ y29_4.toInt ∧ y29_4.toInt ≤ 99) from by (first | omega | (simp only [id_eq] at *; omega))) (show (0 ≤ p0.toInt ∧ p0.toInt ≤ 6) from by (first | omega | (simp only [id_eq] at *; omega))) (show (0 ≤ (24 * y29_4).toInt ∧ (24 * y29_4).toInt + ((F 50) (Int32.toNatClampNeg y29_4)).toInt ≤ 2400) from by (first | omega | (simp only [id_eq] at *; omega))) (show 2400 ≤ 500000 from by (first | omega | (simp only [id_eq] at *; omega)))
                  have f33 : (0 ≤ r114.toInt ∧ r114.toInt ≤ 1) := hq114
                  refine wp_b1 hc114 ?_
                  clear hc114
                  refine wp_ite (fun c117 => ?_) (fun c117 => ?_)
                  · have c117 := congrArg Int32.toInt c117
                    exact Jj124
                  · have c117 := z_ne c117
                    exact Jj125 (1 : Int32)
                · have c91 := z_ne c91
                  exact Jj124
      exact lp29 NN (0 : Int32) (0 : Int32) (by have := NN_eq; (first | omega | (simp only [id_eq] at *; omega))) (show (0 ≤ (0 : Int32).toInt ∧ (0 : Int32).toInt ≤ 100) from by (first | omega | (simp only [id_eq] at *; omega))) (show (0 ≤ (0 : Int32).toInt ∧ (0 : Int32).toInt ≤ (0 : Int32).toInt) from by (first | omega | (simp only [id_eq] at *; omega)))
abbrev Q_uses (g : Nat → Int32) (F : Nat → Nat → Int32) (p0 : Int32) (p1 : Int32) : (Int32 × Int32 × Int32 × Int32 × Int32 × Int32 × Int32 × Int32 × Int32 × (Nat → Int32) × (Nat → Int32) × (Nat → Int32) × (Nat → Int32) × (Nat → Int32) × (Nat → Int32) × (Nat → Int32) × (Nat → Int32) × (Nat → Int32) × (Nat → Int32) × (Nat → Int32) × (Nat → Int32) × (Nat → Int32) × (Nat → Int32) × (Nat → Int32) × (Nat → Int32)) → Prop := (fun t => (((0) ≤ (t.2.1).toInt ∧ (t.2.1).toInt ≤ 24)) ∧ (((0) ≤ (t.2.2.1).toInt ∧ (t.2.2.1).toInt ≤ 30)) ∧ (((0) ≤ (t.2.2.2.1).toInt ∧ (t.2.2.2.1).toInt ≤ 384)) ∧ (((0) ≤ (t.2.2.2.2.1).toInt ∧ (t.2.2.2.2.1).toInt ≤ 30)) ∧ (((0) ≤ (t.2.2.2.2.2.2.1).toInt ∧ (t.2.2.2.2.2.2.1).toInt ≤ 1)) ∧ (((0) ≤ (t.2.2.2.2.2.2.2.1).toInt ∧ (t.2.2.2.2.2.2.2.1).toInt ≤ 12)) ∧ (((0) ≤ (t.2.2.2.2.2.2.2.2.1).toInt ∧ (t.2.2.2.2.2.2.2.2.1).toInt ≤ 1)) ∧ (rng (0) 24 (t.2.2.2.2.2.2.2.2.2.2.1)) ∧ (rng (0) 24 (t.2.2.2.2.2.2.2.2.2.2.2.1)) ∧ (rng (0) 24 (t.2.2.2.2.2.2.2.2.2.2.2.2.1)) ∧ (rng (0) 24 (t.2.2.2.2.2.2.2.2.2.2.2.2.2.2.2.2.2.1)) ∧ (rng (0) 24 (t.2.2.2.2.2.2.2.2.2.2.2.2.2.2.2.2.2.2.2.1)) ∧ (rng (0) 24 (t.2.2.2.2.2.2.2.2.2.2.2.2.2.2.2.2.2.2.2.2.2.1)) ∧ (rng (0) 24 (t.2.2.2.2.2.2.2.2.2.2.2.2.2.2.2.2.2.2.2.2.2.2.2.1)) ∧ (rng (0) 12 (t.2.2.2.2.2.2.2.2.2.2.2.2.2.2.2.2.2.2.2.2.2.2.2.2)))
set_option maxHeartbeats 4000000 in
set_option maxRecDepth 100000 in
theorem ok_uses (g : Nat → Int32) (F : Nat → Nat → Int32) (p0 : Int32) (p1 : Int32) (hI : MInv g F) : wp (f_uses g F p0 p1) (Q_uses g F p0 p1) := by
  unfold f_uses
  refine MInv_e hI (fun (hzg1 : id _) (hzg2 : id _) (hzg3 : id _) (hzg4 : id _) (hzg5 : id _) (hzg6 : id _) (hzg7 : id _) (hzg8 : id _) hzg9 hzg23 hzg27 hzg30 hzg34 hzg36 hzg39 (hzg44 : id _) (hzg47 : id _) hzg48 hzg51 (hzg56 : id _) (hzg59 : id _) (hzg62 : id _) (hzg65 : id _) (hzg66 : id _) (hzg70 : id _) hzF11 hzF12 hzF13 hzF15 hzF19 hzF21 hzF24 hzF25 hzF26 hzF33 hzF38 hzF41 hzF43 hzF45 hzF46 hzF50 hzF53 hzF54 hzLQ => ?_)
  clear hI
  have zkm2 : (-2 : Int32).toInt = -2 := by decide +kernel
  have zk0 : (0 : Int32).toInt = 0 := by decide +kernel
  have zk1 : (1 : Int32).toInt = 1 := by decide +kernel
  have zk7 : (7 : Int32).toInt = 7 := by decide +kernel
  have zk12 : (12 : Int32).toInt = 12 := by decide +kernel
  have zk24 : (24 : Int32).toInt = 24 := by decide +kernel
  have zk40 : (40 : Int32).toInt = 40 := by decide +kernel
  have f1 : ((g 9) - 1).toInt = (g 9).toInt - 1 := z_subc (by decide +kernel) (by (first | omega | (simp only [id_eq] at *; omega))) (by (first | omega | (simp only [id_eq] at *; omega)))
  obtain ⟨r8, hc8, hq8⟩ := ok_in p0 0 ((g 9) - 1) 
  obtain ⟨f2, f3, f4⟩ : (id (r8.toInt = 1 → (0 : Int32).toInt ≤ p0.toInt ∧ p0.toInt ≤ ((g 9) - 1).toInt)) ∧ (id (r8.toInt = 0 → p0.toInt < (0 : Int32).toInt ∨ ((g 9) - 1).toInt < p0.toInt)) ∧ ((0 ≤ r8.toInt ∧ r8.toInt ≤ 1)) := hq8
  refine wp_b1 hc8 ?_
  clear hc8
  refine wp_jn (fun j30 => wp (j30 ()) (Q_uses g F p0 p1)) ?_ ?_
  · show wp _ _
    show wp _ _
    exact ⟨_, rfl, ⟨hzg23, hzg27, hzg30, hzg34, hzg36, hzg39, hzg51, hzF24, hzF25, hzF26, hzF33, hzF38, hzF41, hzF53, hzF54⟩⟩
  intro j30 Jj30
  refine wp_ite (fun c11 => ?_) (fun c11 => ?_)
  · have c11 := congrArg Int32.toInt c11
    exact Jj30
  · have c11 := z_ne c11
    refine wp_if ⟨by (first | omega | (simp only [id_eq] at *; omega)), by (first | omega | (simp only [id_eq] at *; omega))⟩ ?_
    have f5 := hzF11 (Int32.toNatClampNeg p0)
    have f6 : (((F 11) (Int32.toNatClampNeg p0)) - 1).toInt = ((F 11) (Int32.toNatClampNeg p0)).toInt - 1 := z_subc (by decide +kernel) (by (first | omega | (simp only [id_eq] at *; omega))) (by (first | omega | (simp only [id_eq] at *; omega)))
    obtain ⟨r24, hc24, hq24⟩ := ok_in p1 0 (((F 11) (Int32.toNatClampNeg p0)) - 1) 
    obtain ⟨f7, f8, f9⟩ : (id (r24.toInt = 1 → (0 : Int32).toInt ≤ p1.toInt ∧ p1.toInt ≤ (((F 11) (Int32.toNatClampNeg p0)) - 1).toInt)) ∧ (id (r24.toInt = 0 → p1.toInt < (0 : Int32).toInt ∨ (((F 11) (Int32.toNatClampNeg p0)) - 1).toInt < p1.toInt)) ∧ ((0 ≤ r24.toInt ∧ r24.toInt ≤ 1)) := hq24
    refine wp_b1 hc24 ?_
    clear hc24
    refine wp_ite (fun c27 => ?_) (fun c27 => ?_)
    · have c27 := congrArg Int32.toInt c27
      exact Jj30
    · have c27 := z_ne c27
      obtain ⟨⟨c34_g23, c34_g27, c34_g30, c34_g34, c34_g36, c34_g39, c34_g51, c34_F22, c34_F24, c34_F25, c34_F26, c34_F28, c34_F29, c34_F31, c34_F32, c34_F33, c34_F37, c34_F38, c34_F40, c34_F41, c34_F52, c34_F53, c34_F54⟩, hc34, hq34⟩ := ok_make g F (MInv_i hzg1 hzg2 hzg3 hzg4 hzg5 hzg6 hzg7 hzg8 hzg9 hzg23 hzg27 hzg30 hzg34 hzg36 hzg39 hzg44 hzg47 hzg48 hzg51 hzg56 hzg59 hzg62 hzg65 hzg66 hzg70 hzF11 hzF12 hzF13 hzF15 hzF19 hzF21 hzF24 hzF25 hzF26 hzF33 hzF38 hzF41 hzF43 hzF45 hzF46 hzF50 hzF53 hzF54 hzLQ)
      obtain ⟨hg10, hg11, hg12, hg13, hg14, hg15, hg16, hg17, hg18, hg19, hg20, hg21, hg22, hg23, hg24⟩ : (((0) ≤ c34_g23.toInt ∧ c34_g23.toInt ≤ 24)) ∧ (((0) ≤ c34_g27.toInt ∧ c34_g27.toInt ≤ 30)) ∧ (((0) ≤ c34_g30.toInt ∧ c34_g30.toInt ≤ 384)) ∧ (((0) ≤ c34_g34.toInt ∧ c34_g34.toInt ≤ 30)) ∧ (((0) ≤ c34_g36.toInt ∧ c34_g36.toInt ≤ 1)) ∧ (((0) ≤ c34_g39.toInt ∧ c34_g39.toInt ≤ 12)) ∧ (((0) ≤ c34_g51.toInt ∧ c34_g51.toInt ≤ 1)) ∧ (rng (0) 24 c34_F24) ∧ (rng (0) 24 c34_F25) ∧ (rng (0) 24 c34_F26) ∧ (rng (0) 24 c34_F33) ∧ (rng (0) 24 c34_F38) ∧ (rng (0) 24 c34_F41) ∧ (rng (0) 24 c34_F53) ∧ (rng (0) 12 c34_F54) := hq34
      refine wp_b23 hc34 ?_
      clear hc34
      have f25 : (40 * p0).toInt = 40 * p0.toInt := z_muld (by decide +kernel) (by (first | omega | (simp only [id_eq] at *; omega))) (by (first | omega | (simp only [id_eq] at *; omega)))
      have f26 : ((40 * p0) + p1).toInt = (40 * p0).toInt + p1.toInt := z_add (by (first | omega | (simp only [id_eq] at *; omega))) (by (first | omega | (simp only [id_eq] at *; omega)))
      refine wp_vl (fun x44 ex44 => ?_)
      have f27 : x44.toInt = ((40 * p0) + p1).toInt := congrArg Int32.toInt ex44
      clear ex44
      have lp52 : ∀ (n52 : Nat) (y52_3 : Int32) (y52_4 : Int32) (d52_g23 : Int32) (d52_g27 : Int32) (d52_g30 : Int32) (d52_g34 : Int32) (d52_g36 : Int32) (d52_F22 : (Nat → Int32)) (d52_F24 : (Nat → Int32)) (d52_F25 : (Nat → Int32)) (d52_F26 : (Nat → Int32)) (d52_F28 : (Nat → Int32)) (d52_F29 : (Nat → Int32)) (d52_F31 : (Nat → Int32)) (d52_F32 : (Nat → Int32)) (d52_F33 : (Nat → Int32)), (100 - y52_4.toInt).toNat < n52 → ((0) ≤ d52_g23.toInt ∧ d52_g23.toInt ≤ 24) → ((0) ≤ d52_g27.toInt ∧ d52_g27.toInt ≤ 30) → ((0) ≤ d52_g30.toInt ∧ d52_g30.toInt ≤ 384) → ((0) ≤ d52_g34.toInt ∧ d52_g34.toInt ≤ 30) → ((0) ≤ d52_g36.toInt ∧ d52_g36.toInt ≤ 1) → rng (0) 24 d52_F24 → rng (0) 24 d52_F25 → rng (0) 24 d52_F26 → rng (0) 24 d52_F33 → (0 ≤ y52_4.toInt ∧ y52_4.toInt ≤ 100) → (0 ≤ y52_3.toInt ∧ y52_3.toInt ≤ y52_4.toInt) → wp (L_uses_52 g F p0 c34_g39 c34_g51 c34_F37 c34_F38 c34_F40 c34_F41 c34_F52 c34_F53 c34_F54 x44 n52 y52_3 y52_4 d52_g23 d52_g27 d52_g30 d52_g34 d52_g36 d52_F22 d52_F24 d52_F25 d52_F26 d52_F28 d52_F29 d52_F31 d52_F32 d52_F33) (Q_uses g F p0 p1) := by
        intro n52
        induction n52 with
        | zero => intro y52_3 y52_4 d52_g23 d52_g27 d52_g30 d52_g34 d52_g36 d52_F22 d52_F24 d52_F25 d52_F26 d52_F28 d52_F29 d52_F31 d52_F32 d52_F33 hm; exact absurd hm (Nat.not_lt_zero _)
        | succ n52 ih52 =>
          intro y52_3 y52_4 d52_g23 d52_g27 d52_g30 d52_g34 d52_g36 d52_F22 d52_F24 d52_F25 d52_F26 d52_F28 d52_F29 d52_F31 d52_F32 d52_F33 hm52 hg28 hg29 hg30 hg31 hg32 hg33 hg34 hg35 hg36 f37 f38
          show wp (B_uses_52 g F p0 c34_g39 c34_g51 c34_F37 c34_F38 c34_F40 c34_F41 c34_F52 c34_F53 c34_F54 x44 (L_uses_52 g F p0 c34_g39 c34_g51 c34_F37 c34_F38 c34_F40 c34_F41 c34_F52 c34_F53 c34_F54 x44 n52) y52_3 y52_4 d52_g23 d52_g27 d52_g30 d52_g34 d52_g36 d52_F22 d52_F24 d52_F25 d52_F26 d52_F28 d52_F29 d52_F31 d52_F32 d52_F33) _
          unfold B_uses_52
          refine wp_ite (fun c58 => ?_) (fun c58 => ?_)
          · have c58 := (z_le _ _).mp c58
            exact ⟨_, rfl, ⟨hg28, hg29, hg30, hg31, hg32, hg15, hg16, hg33, hg34, hg35, hg36, hg21, hg22, hg23, hg24⟩⟩
          · have c58 := z_nle c58
            have hg39 : ((0) ≤ (0 : Int32).toInt ∧ (0 : Int32).toInt ≤ 1) := ⟨by (first | omega | (simp only [id_eq] at *; omega)), by (first | omega | (simp only [id_eq] at *; omega))⟩
            have f40 : (7 * y52_4).toInt = 7 * y52_4.toInt := z_muld (by decide +kernel) (by (first | omega | (simp only [id_eq] at *; omega))) (by (first | omega | (simp only [id_eq] at *; omega)))
            have f41 : ((7 * y52_4) + p0).toInt = (7 * y52_4).toInt + p0.toInt := z_add (by (first | omega | (simp only [id_eq] at *; omega))) (by (first | omega | (simp only [id_eq] at *; omega)))
            have f42 : (12 * ((7 * y52_4) + p0)).toInt = 12 * ((7 * y52_4) + p0).toInt := z_muld (by decide +kernel) (by (first | omega | (simp only [id_eq] at *; omega))) (by (first | omega | (simp only [id_eq] at *; omega)))
            refine wp_vl (fun x76 ex76 => ?_)
            have f43 : x76.toInt = (12 * ((7 * y52_4) + p0)).toInt := congrArg Int32.toInt ex76
            clear ex76
            refine wp_jn (fun k137 => ∀ (c137_g23 : Int32) (c137_g27 : Int32) (c137_g30 : Int32) (c137_g34 : Int32) (c137_g36 : Int32) (c137_F22 : (Nat → Int32)) (c137_F24 : (Nat → Int32)) (c137_F25 : (Nat → Int32)) (c137_F26 : (Nat → Int32)) (c137_F28 : (Nat → Int32)) (c137_F29 : (Nat → Int32)) (c137_F31 : (Nat → Int32)) (c137_F32 : (Nat → Int32)) (c137_F33 : (Nat → Int32)), ((0) ≤ c137_g23.toInt ∧ c137_g23.toInt ≤ 24) → ((0) ≤ c137_g27.toInt ∧ c137_g27.toInt ≤ 30) → ((0) ≤ c137_g30.toInt ∧ c137_g30.toInt ≤ 384) → ((0) ≤ c137_g34.toInt ∧ c137_g34.toInt ≤ 30) → ((0) ≤ c137_g36.toInt ∧ c137_g36.toInt ≤ 1) → rng (0) 24 c137_F24 → rng (0) 24 c137_F25 → rng (0) 24 c137_F26 → rng (0) 24 c137_F33 → wp (k137 c137_g23 c137_g27 c137_g30 c137_g34 c137_g36 c137_F22 c137_F24 c137_F25 c137_F26 c137_F28 c137_F29 c137_F31 c137_F32 c137_F33) (Q_uses g F p0 p1)) ?_ ?_
            · intro c137_g23 c137_g27 c137_g30 c137_g34 c137_g36 c137_F22 c137_F24 c137_F25 c137_F26 c137_F28 c137_F29 c137_F31 c137_F32 c137_F33 hg44 hg45 hg46 hg47 hg48 hg49 hg50 hg51 hg52
              show wp _ _
              refine wp_jn (fun j150 => ∀ (t150_0 : Int32), (0 ≤ t150_0.toInt ∧ t150_0.toInt ≤ 1) → wp (j150 t150_0) (Q_uses g F p0 p1)) ?_ ?_
              · intro t150_0 f53
                show wp _ _
                have f54 : (y52_3 + t150_0).toInt = y52_3.toInt + t150_0.toInt := z_add (by (first | omega | (simp only [id_eq] at *; omega))) (by (first | omega | (simp only [id_eq] at *; omega)))
                refine wp_vl (fun x151 ex151 => ?_)
                have f55 : x151.toInt = (y52_3 + t150_0).toInt := congrArg Int32.toInt ex151
                clear ex151
                have f56 : (y52_4 + 1).toInt = y52_4.toInt + (1) := z_addc (by decide +kernel) (by (first | omega | (simp only [id_eq] at *; omega))) (by (first | omega | (simp only [id_eq] at *; omega)))
                exact ih52 x151 (y52_4 + 1) c137_g23 c137_g27 c137_g30 c137_g34 c137_g36 c137_F22 c137_F24 c137_F25 c137_F26 c137_F28 c137_F29 c137_F31 c137_F32 c137_F33 (show (100 - (y52_4 + 1).toInt).toNat < n52 from by (first | omega | (simp only [id_eq] at *; omega))) hg44 hg45 hg46 hg47 hg48 hg49 hg50 hg51 hg52 (show (0 ≤ (y52_4 + 1).toInt ∧ (y52_4 + 1).toInt ≤ 100) from by (first | omega | (simp only [id_eq] at *; omega))) (show (0 ≤ x151.toInt ∧ x151.toInt ≤ (y52_4 + 1).toInt) from by (first | omega | (simp only [id_eq] at *; omega)))
              intro j150 Jj150
              refine wp_ite (fun c142 => ?_) (fun c142 => ?_)
              · have c142 := congrArg Int32.toInt c142
                exact Jj150 (0 : Int32) (show (0 ≤ (0 : Int32).toInt ∧ (0 : Int32).toInt ≤ 1) from by (first | omega | (simp only [id_eq] at *; omega)))
              · have c142 := z_ne c142
                exact Jj150 (1 : Int32) (show (0 ≤ (1 : Int32).toInt ∧ (1 : Int32).toInt ≤ 1) from by (first | omega | (simp only [id_eq] at *; omega)))
            intro k137 Jk137
            have lp78 : ∀ (n78 : Nat) (y78_5 : Int32) (d78_g23 : Int32) (d78_g27 : Int32) (d78_g30 : Int32) (d78_g34 : Int32) (d78_g36 : Int32) (d78_F22 : (Nat → Int32)) (d78_F24 : (Nat → Int32)) (d78_F25 : (Nat → Int32)) (d78_F26 : (Nat → Int32)) (d78_F28 : (Nat → Int32)) (d78_F29 : (Nat → Int32)) (d78_F31 : (Nat → Int32)) (d78_F32 : (Nat → Int32)) (d78_F33 : (Nat → Int32)), (84 * y52_4.toInt + 12 * p0.toInt + 12 - y78_5.toInt).toNat < n78 → ((0) ≤ d78_g23.toInt ∧ d78_g23.toInt ≤ 24) → ((0) ≤ d78_g27.toInt ∧ d78_g27.toInt ≤ 30) → ((0) ≤ d78_g30.toInt ∧ d78_g30.toInt ≤ 384) → ((0) ≤ d78_g34.toInt ∧ d78_g34.toInt ≤ 30) → ((0) ≤ d78_g36.toInt ∧ d78_g36.toInt ≤ 1) → rng (0) 24 d78_F24 → rng (0) 24 d78_F25 → rng (0) 24 d78_F26 → rng (0) 24 d78_F33 → (84 * y52_4.toInt + 12 * p0.toInt ≤ y78_5.toInt ∧ y78_5.toInt ≤ 84 * y52_4.toInt + 12 * p0.toInt + 12) → wp (L_uses_78 g F p0 c34_g39 c34_g51 c34_F37 c34_F38 c34_F40 c34_F41 c34_F52 c34_F53 c34_F54 x44 y52_4 k137 n78 y78_5 d78_g23 d78_g27 d78_g30 d78_g34 d78_g36 d78_F22 d78_F24 d78_F25 d78_F26 d78_F28 d78_F29 d78_F31 d78_F32 d78_F33) (Q_uses g F p0 p1) := by
              intro n78
              induction n78 with
              | zero => intro y78_5 d78_g23 d78_g27 d78_g30 d78_g34 d78_g36 d78_F22 d78_F24 d78_F25 d78_F26 d78_F28 d78_F29 d78_F31 d78_F32 d78_F33 hm; exact absurd hm (Nat.not_lt_zero _)
              | succ n78 ih78 =>
                intro y78_5 d78_g23 d78_g27 d78_g30 d78_g34 d78_g36 d78_F22 d78_F24 d78_F25 d78_F26 d78_F28 d78_F29 d78_F31 d78_F32 d78_F33 hm78 hg57 hg58 hg59 hg60 hg61 hg62 hg63 hg64 hg65 f66
                show wp (B_uses_78 g F p0 c34_g39 c34_g51 c34_F37 c34_F38 c34_F40 c34_F41 c34_F52 c34_F53 c34_F54 x44 y52_4 k137 (L_uses_78 g F p0 c34_g39 c34_g51 c34_F37 c34_F38 c34_F40 c34_F41 c34_F52 c34_F53 c34_F54 x44 y52_4 k137 n78) y78_5 d78_g23 d78_g27 d78_g30 d78_g34 d78_g36 d78_F22 d78_F24 d78_F25 d78_F26 d78_F28 d78_F29 d78_F31 d78_F32 d78_F33) _
                unfold B_uses_78
                refine wp_if ⟨by (first | omega | (simp only [id_eq] at *; omega)), by (first | omega | (simp only [id_eq] at *; omega))⟩ ?_
                have f72 := hg24 (Int32.toNatClampNeg ((7 * y52_4) + p0))
                have f73 : ((12 * ((7 * y52_4) + p0)) + (c34_F54 (Int32.toNatClampNeg ((7 * y52_4) + p0)))).toInt = (12 * ((7 * y52_4) + p0)).toInt + (c34_F54 (Int32.toNatClampNeg ((7 * y52_4) + p0))).toInt := z_add (by (first | omega | (simp only [id_eq] at *; omega))) (by (first | omega | (simp only [id_eq] at *; omega)))
                refine wp_ite (fun c103 => ?_) (fun c103 => ?_)
                · have c103 := (z_le _ _).mp c103
                  exact Jk137 d78_g23 d78_g27 d78_g30 d78_g34 d78_g36 d78_F22 d78_F24 d78_F25 d78_F26 d78_F28 d78_F29 d78_F31 d78_F32 d78_F33 hg57 hg58 hg59 hg60 hg61 hg62 hg63 hg64 hg65
                · have c103 := z_nle c103
                  have f74 : (24 * y78_5).toInt = 24 * y78_5.toInt := z_muld (by decide +kernel) (by (first | omega | (simp only [id_eq] at *; omega))) (by (first | omega | (simp only [id_eq] at *; omega)))
                  refine wp_if ⟨by (first | omega | (simp only [id_eq] at *; omega)), by (first | omega | (simp only [id_eq] at *; omega))⟩ ?_
                  have f75 := hg23 (Int32.toNatClampNeg y78_5)
                  obtain ⟨⟨c123_g23, c123_F22⟩, hc123, hq123⟩ := ok_takeWord (upd (upd (upd (upd (upd (upd (upd (upd g 23 d78_g23) 27 d78_g27) 30 d78_g30) 34 d78_g34) 35 x44) 36 d78_g36) 39 c34_g39) 51 c34_g51) (upF (upF (upF (upF (upF (upF (upF (upF (upF (upF (upF (upF (upF (upF (upF (upF F 22 d78_F22) 24 d78_F24) 25 d78_F25) 26 d78_F26) 28 d78_F28) 29 d78_F29) 31 d78_F31) 32 d78_F32) 33 d78_F33) 37 c34_F37) 38 c34_F38) 40 c34_F40) 41 c34_F41) 52 c34_F52) 53 c34_F53) 54 c34_F54) c34_F52 201600 (24 * y78_5) (c34_F53 (Int32.toNatClampNeg y78_5)) (MInv_i hzg1 hzg2 hzg3 hzg4 hzg5 hzg6 hzg7 hzg8 hzg9 hg57 hg58 hg59 hg60 hg61 hg15 hzg44 hzg47 hzg48 hg16 hzg56 hzg59 hzg62 hzg65 hzg66 hzg70 hzF11 hzF12 hzF13 hzF15 hzF19 hzF21 hg62 hg63 hg64 hg65 hg21 hg22 hzF43 hzF45 hzF46 hzF50 hg23 hg24 hzLQ) (show (0 ≤ (24 * y78_5).toInt ∧ (24 * y78_5).toInt + (c34_F53 (Int32.toNatClampNeg y78_5)).toInt ≤ 201600) from by (first | omega | (simp only [id_eq] at *; omega))) (show 201600 ≤ 500000 from by (first | omega | (simp only [id_eq] at *; omega))) (show (0 ≤ (c34_F53 (Int32.toNatClampNeg y78_5)).toInt ∧ (c34_F53 (Int32.toNatClampNeg y78_5)).toInt ≤ 24) from by (first | omega | (simp only [id_eq] at *; omega)))
                  obtain ⟨hg76, f77⟩ : (((0) ≤ c123_g23.toInt ∧ c123_g23.toInt ≤ 24)) ∧ (c123_g23.toInt = (c34_F53 (Int32.toNatClampNeg y78_5)).toInt) := hq123
                  refine wp_b2 hc123 ?_
                  clear hc123
                  obtain ⟨⟨c128_g27, c128_g30, c128_g34, c128_g36, c128_F24, c128_F25, c128_F26, c128_F28, c128_F29, c128_F31, c128_F32, c128_F33⟩, hc128, hq128⟩ := ok_turnBy (upd (upd (upd (upd (upd (upd (upd (upd g 23 c123_g23) 27 d78_g27) 30 d78_g30) 34 d78_g34) 35 x44) 36 d78_g36) 39 c34_g39) 51 c34_g51) (upF (upF (upF (upF (upF (upF (upF (upF (upF (upF (upF (upF (upF (upF (upF (upF F 22 c123_F22) 24 d78_F24) 25 d78_F25) 26 d78_F26) 28 d78_F28) 29 d78_F29) 31 d78_F31) 32 d78_F32) 33 d78_F33) 37 c34_F37) 38 c34_F38) 40 c34_F40) 41 c34_F41) 52 c34_F52) 53 c34_F53) 54 c34_F54) p0 (MInv_i hzg1 hzg2 hzg3 hzg4 hzg5 hzg6 hzg7 hzg8 hzg9 hg76 hg58 hg59 hg60 hg61 hg15 hzg44 hzg47 hzg48 hg16 hzg56 hzg59 hzg62 hzg65 hzg66 hzg70 hzF11 hzF12 hzF13 hzF15 hzF19 hzF21 hg62 hg63 hg64 hg65 hg21 hg22 hzF43 hzF45 hzF46 hzF50 hg23 hg24 hzLQ) (show (0 ≤ p0.toInt ∧ p0.toInt < (g 9).toInt) from by (first | omega | (simp only [id_eq] at *; omega)))
                  obtain ⟨hg78, hg79, hg80, hg81, hg82, hg83, hg84, hg85⟩ : (((0) ≤ c128_g27.toInt ∧ c128_g27.toInt ≤ 30)) ∧ (((0) ≤ c128_g30.toInt ∧ c128_g30.toInt ≤ 384)) ∧ (((0) ≤ c128_g34.toInt ∧ c128_g34.toInt ≤ 30)) ∧ (((0) ≤ c128_g36.toInt ∧ c128_g36.toInt ≤ 1)) ∧ (rng (0) 24 c128_F24) ∧ (rng (0) 24 c128_F25) ∧ (rng (0) 24 c128_F26) ∧ (rng (0) 24 c128_F33) := hq128
                  refine wp_b12 hc128 ?_
                  clear hc128
                  have f86 : (y78_5 + 1).toInt = y78_5.toInt + (1) := z_addc (by decide +kernel) (by (first | omega | (simp only [id_eq] at *; omega))) (by (first | omega | (simp only [id_eq] at *; omega)))
                  exact ih78 (y78_5 + 1) c123_g23 c128_g27 c128_g30 c128_g34 c128_g36 c123_F22 c128_F24 c128_F25 c128_F26 c128_F28 c128_F29 c128_F31 c128_F32 c128_F33 (show (84 * y52_4.toInt + 12 * p0.toInt + 12 - (y78_5 + 1).toInt).toNat < n78 from by (first | omega | (simp only [id_eq] at *; omega))) hg76 hg78 hg79 hg80 hg81 hg82 hg83 hg84 hg85 (show (84 * y52_4.toInt + 12 * p0.toInt ≤ (y78_5 + 1).toInt ∧ (y78_5 + 1).toInt ≤ 84 * y52_4.toInt + 12 * p0.toInt + 12) from by (first | omega | (simp only [id_eq] at *; omega)))
            exact lp78 NN x76 d52_g23 d52_g27 d52_g30 d52_g34 (0 : Int32) d52_F22 d52_F24 d52_F25 d52_F26 d52_F28 d52_F29 d52_F31 d52_F32 d52_F33 (by have := NN_eq; (first | omega | (simp only [id_eq] at *; omega))) hg28 hg29 hg30 hg31 hg39 hg33 hg34 hg35 hg36 (show (84 * y52_4.toInt + 12 * p0.toInt ≤ x76.toInt ∧ x76.toInt ≤ 84 * y52_4.toInt + 12 * p0.toInt + 12) from by (first | omega | (simp only [id_eq] at *; omega)))
      exact lp52 NN (0 : Int32) (0 : Int32) c34_g23 c34_g27 c34_g30 c34_g34 c34_g36 c34_F22 c34_F24 c34_F25 c34_F26 c34_F28 c34_F29 c34_F31 c34_F32 c34_F33 (by have := NN_eq; (first | omega | (simp only [id_eq] at *; omega))) hg10 hg11 hg12 hg13 hg14 hg17 hg18 hg19 hg20 (show (0 ≤ (0 : Int32).toInt ∧ (0 : Int32).toInt ≤ 100) from by (first | omega | (simp only [id_eq] at *; omega))) (show (0 ≤ (0 : Int32).toInt ∧ (0 : Int32).toInt ≤ (0 : Int32).toInt) from by (first | omega | (simp only [id_eq] at *; omega)))
abbrev Q_writeWord (g : Nat → Int32) (F : Nat → Nat → Int32) (p0 : Int32) (p1 : Int32) (p2 : Int32) (p3 : Int32) : (Int32 × Int32 × Int32 × Int32 × Int32 × Int32 × Int32 × Int32 × (Nat → Int32) × (Nat → Int32) × (Nat → Int32) × (Nat → Int32) × (Nat → Int32) × (Nat → Int32) × (Nat → Int32) × (Nat → Int32) × (Nat → Int32) × (Nat → Int32) × (Nat → Int32) × (Nat → Int32) × (Nat → Int32) × (Nat → Int32) × (Nat → Int32)) → Prop := (fun t => (((0) ≤ (t.2.1).toInt ∧ (t.2.1).toInt ≤ 24)) ∧ (((0) ≤ (t.2.2.1).toInt ∧ (t.2.2.1).toInt ≤ 30)) ∧ (((0) ≤ (t.2.2.2.1).toInt ∧ (t.2.2.2.1).toInt ≤ 384)) ∧ (((0) ≤ (t.2.2.2.2.1).toInt ∧ (t.2.2.2.2.1).toInt ≤ 30)) ∧ (((0) ≤ (t.2.2.2.2.2.1).toInt ∧ (t.2.2.2.2.2.1).toInt ≤ 1)) ∧ (((0) ≤ (t.2.2.2.2.2.2.1).toInt ∧ (t.2.2.2.2.2.2.1).toInt ≤ 12)) ∧ (((0) ≤ (t.2.2.2.2.2.2.2.1).toInt ∧ (t.2.2.2.2.2.2.2.1).toInt ≤ 2500)) ∧ (rng (0) 24 (t.2.2.2.2.2.2.2.2.2.1)) ∧ (rng (0) 24 (t.2.2.2.2.2.2.2.2.2.2.1)) ∧ (rng (0) 24 (t.2.2.2.2.2.2.2.2.2.2.2.1)) ∧ (rng (0) 24 (t.2.2.2.2.2.2.2.2.2.2.2.2.2.2.2.2.1)) ∧ (rng (0) 24 (t.2.2.2.2.2.2.2.2.2.2.2.2.2.2.2.2.2.2.1)) ∧ (rng (0) 24 (t.2.2.2.2.2.2.2.2.2.2.2.2.2.2.2.2.2.2.2.2.1)) ∧ ((0 ≤ (t.1).toInt ∧ (t.1).toInt ≤ 1)))
set_option maxHeartbeats 4000000 in
set_option maxRecDepth 100000 in
theorem ok_writeWord (g : Nat → Int32) (F : Nat → Nat → Int32) (p0 : Int32) (p1 : Int32) (p2 : Int32) (p3 : Int32) (hI : MInv g F) (hp0 : (0 ≤ p0.toInt ∧ p0.toInt ≤ p1.toInt ∧ p1.toInt ≤ 2000)) (hp1 : (0 ≤ p2.toInt ∧ p2.toInt ≤ 6)) (hp2 : p3.toInt ≤ (g 9).toInt) : wp (f_writeWord g F p0 p1 p2 p3) (Q_writeWord g F p0 p1 p2 p3) := by
  unfold f_writeWord
  refine MInv_e hI (fun (hzg1 : id _) (hzg2 : id _) (hzg3 : id _) (hzg4 : id _) (hzg5 : id _) (hzg6 : id _) (hzg7 : id _) (hzg8 : id _) hzg9 hzg23 hzg27 hzg30 hzg34 hzg36 hzg39 (hzg44 : id _) (hzg47 : id _) (hzg48 : id _) (hzg51 : id _) (hzg56 : id _) (hzg59 : id _) (hzg62 : id _) (hzg65 : id _) (hzg66 : id _) (hzg70 : id _) hzF11 hzF12 hzF13 hzF15 hzF19 hzF21 hzF24 hzF25 hzF26 hzF33 hzF38 hzF41 hzF43 hzF45 hzF46 hzF50 hzF53 hzF54 hzLQ => ?_)
  clear hI
  have zk0 : (0 : Int32).toInt = 0 := by decide +kernel
  have zk1 : (1 : Int32).toInt = 1 := by decide +kernel
  have zk2 : (2 : Int32).toInt = 2 := by decide +kernel
  have zk3 : (3 : Int32).toInt = 3 := by decide +kernel
  have zk4 : (4 : Int32).toInt = 4 := by decide +kernel
  have zk24 : (24 : Int32).toInt = 24 := by decide +kernel
  obtain ⟨r3, hc3, hq3⟩ := ok_isName g F p0 p1 (MInv_i hzg1 hzg2 hzg3 hzg4 hzg5 hzg6 hzg7 hzg8 hzg9 hzg23 hzg27 hzg30 hzg34 hzg36 hzg39 hzg44 hzg47 hzg48 hzg51 hzg56 hzg59 hzg62 hzg65 hzg66 hzg70 hzF11 hzF12 hzF13 hzF15 hzF19 hzF21 hzF24 hzF25 hzF26 hzF33 hzF38 hzF41 hzF43 hzF45 hzF46 hzF50 hzF53 hzF54 hzLQ) (show 0 ≤ p0.toInt from by (first | omega | (simp only [id_eq] at *; omega))) (show p1.toInt ≤ 2000 from by (first | omega | (simp only [id_eq] at *; omega)))
  have f1 : (0 ≤ r3.toInt ∧ r3.toInt ≤ 1) := hq3
  refine wp_b1 hc3 ?_
  clear hc3
  refine wp_ite (fun c6 => ?_) (fun c6 => ?_)
  · have c6 := congrArg Int32.toInt c6
    refine wp_if ⟨by (first | omega | (simp only [id_eq] at *; omega)), by (first | omega | (simp only [id_eq] at *; omega))⟩ ?_
    refine wp_if ⟨by (first | omega | (simp only [id_eq] at *; omega)), by (first | omega | (simp only [id_eq] at *; omega))⟩ ?_
    refine wp_vl (fun w41 ew41 => ?_)
    clear ew41
    have hg2 : ((0) ≤ (0 : Int32).toInt ∧ (0 : Int32).toInt ≤ 12) := ⟨by (first | omega | (simp only [id_eq] at *; omega)), by (first | omega | (simp only [id_eq] at *; omega))⟩
    have f3 : (p1 - p0).toInt = p1.toInt - p0.toInt := z_sub (by (first | omega | (simp only [id_eq] at *; omega))) (by (first | omega | (simp only [id_eq] at *; omega)))
    refine wp_jn (fun j74 => ∀ (c74_g23 : Int32) (c74_g27 : Int32) (c74_g30 : Int32) (c74_g34 : Int32) (c74_g36 : Int32) (c74_g39 : Int32) (c74_F22 : (Nat → Int32)) (c74_F24 : (Nat → Int32)) (c74_F25 : (Nat → Int32)) (c74_F26 : (Nat → Int32)) (c74_F28 : (Nat → Int32)) (c74_F29 : (Nat → Int32)) (c74_F31 : (Nat → Int32)) (c74_F32 : (Nat → Int32)) (c74_F33 : (Nat → Int32)) (c74_F37 : (Nat → Int32)) (c74_F38 : (Nat → Int32)) (c74_F40 : (Nat → Int32)) (c74_F41 : (Nat → Int32)), ((0) ≤ c74_g23.toInt ∧ c74_g23.toInt ≤ 24) → ((0) ≤ c74_g27.toInt ∧ c74_g27.toInt ≤ 30) → ((0) ≤ c74_g30.toInt ∧ c74_g30.toInt ≤ 384) → ((0) ≤ c74_g34.toInt ∧ c74_g34.toInt ≤ 30) → ((0) ≤ c74_g36.toInt ∧ c74_g36.toInt ≤ 1) → ((0) ≤ c74_g39.toInt ∧ c74_g39.toInt ≤ 12) → rng (0) 24 c74_F24 → rng (0) 24 c74_F25 → rng (0) 24 c74_F26 → rng (0) 24 c74_F33 → rng (0) 24 c74_F38 → rng (0) 24 c74_F41 → wp (j74 c74_g23 c74_g27 c74_g30 c74_g34 c74_g36 c74_g39 c74_F22 c74_F24 c74_F25 c74_F26 c74_F28 c74_F29 c74_F31 c74_F32 c74_F33 c74_F37 c74_F38 c74_F40 c74_F41) (Q_writeWord g F p0 p1 p2 p3)) ?_ ?_
    · intro c74_g23 c74_g27 c74_g30 c74_g34 c74_g36 c74_g39 c74_F22 c74_F24 c74_F25 c74_F26 c74_F28 c74_F29 c74_F31 c74_F32 c74_F33 c74_F37 c74_F38 c74_F40 c74_F41 hg4 hg5 hg6 hg7 hg8 hg9 hg10 hg11 hg12 hg13 hg14 hg15
      show wp _ _
      refine wp_if ⟨by (first | omega | (simp only [id_eq] at *; omega)), by (first | omega | (simp only [id_eq] at *; omega))⟩ ?_
      refine wp_jn (fun j94 => ∀ (t94_0 : Int32), wp (j94 t94_0) (Q_writeWord g F p0 p1 p2 p3)) ?_ ?_
      · intro t94_0
        show wp _ _
        refine wp_if ⟨by (first | omega | (simp only [id_eq] at *; omega)), by (first | omega | (simp only [id_eq] at *; omega))⟩ ?_
        refine wp_vl (fun w95 ew95 => ?_)
        clear ew95
        refine wp_if ⟨by (first | omega | (simp only [id_eq] at *; omega)), by (first | omega | (simp only [id_eq] at *; omega))⟩ ?_
        refine wp_jn (fun j115 => ∀ (t115_0 : Int32), wp (j115 t115_0) (Q_writeWord g F p0 p1 p2 p3)) ?_ ?_
        · intro t115_0
          show wp _ _
          refine wp_if ⟨by (first | omega | (simp only [id_eq] at *; omega)), by (first | omega | (simp only [id_eq] at *; omega))⟩ ?_
          refine wp_vl (fun w116 ew116 => ?_)
          clear ew116
          refine wp_ite (fun c121 => ?_) (fun c121 => ?_)
          · have c121 := congrArg Int32.toInt c121
            obtain ⟨⟨r133, c133_g66, c133_F61⟩, hc133, hq133⟩ := ok_write1 (upd (upd (upd (upd (upd (upd g 23 c74_g23) 27 c74_g27) 30 c74_g30) 34 c74_g34) 36 c74_g36) 39 c74_g39) (upF (upF (upF (upF (upF (upF (upF (upF (upF (upF (upF (upF (upF (upF F 22 c74_F22) 24 c74_F24) 25 c74_F25) 26 c74_F26) 28 c74_F28) 29 c74_F29) 31 c74_F31) 32 c74_F32) 33 c74_F33) 37 c74_F37) 38 c74_F38) 40 c74_F40) 41 c74_F41) 64 w116) (F 0) 2000 p0 (p1 - p0) (MInv_i hzg1 hzg2 hzg3 hzg4 hzg5 hzg6 hzg7 hzg8 hzg9 hg4 hg5 hg6 hg7 hg8 hg9 hzg44 hzg47 hzg48 hzg51 hzg56 hzg59 hzg62 hzg65 hzg66 hzg70 hzF11 hzF12 hzF13 hzF15 hzF19 hzF21 hg10 hg11 hg12 hg13 hg14 hg15 hzF43 hzF45 hzF46 hzF50 hzF53 hzF54 hzLQ) (show (0 ≤ p0.toInt ∧ 0 ≤ (p1 - p0).toInt ∧ p0.toInt + (p1 - p0).toInt ≤ 2000) from by (first | omega | (simp only [id_eq] at *; omega))) (show 2000 ≤ 2500 from by (first | omega | (simp only [id_eq] at *; omega)))
            obtain ⟨hg17, f18⟩ : (((0) ≤ c133_g66.toInt ∧ c133_g66.toInt ≤ 2500)) ∧ ((0 ≤ r133.toInt ∧ r133.toInt ≤ 1)) := hq133
            refine wp_b3 hc133 ?_
            clear hc133
            refine wp_if ⟨by (first | omega | (simp only [id_eq] at *; omega)), by (first | omega | (simp only [id_eq] at *; omega))⟩ ?_
            exact ⟨_, rfl, ⟨hg4, hg5, hg6, hg7, hg8, hg9, hg17, hg10, hg11, hg12, hg13, hg14, hg15, (show (0 ≤ r133.toInt ∧ r133.toInt ≤ 1) from by (first | omega | (simp only [id_eq] at *; omega)))⟩⟩
          · have c121 := z_ne c121
            refine wp_if ⟨by (first | omega | (simp only [id_eq] at *; omega)), by (first | omega | (simp only [id_eq] at *; omega))⟩ ?_
            refine wp_if ⟨by (first | omega | (simp only [id_eq] at *; omega)), by (first | omega | (simp only [id_eq] at *; omega))⟩ ?_
            have f19 := hg14 (Int32.toNatClampNeg (0 : Int32))
            obtain ⟨r163, hc163, hq163⟩ := ok_sameBytes c74_F37 288 0 (c74_F38 (Int32.toNatClampNeg 0)) (F 0) 2000 p0 (p1 - p0) (show (0 ≤ (0 : Int32).toInt ∧ (0 : Int32).toInt + (c74_F38 (Int32.toNatClampNeg 0)).toInt ≤ 288) from by (first | omega | (simp only [id_eq] at *; omega))) (show 288 ≤ 500000 from by (first | omega | (simp only [id_eq] at *; omega))) (show (0 ≤ p0.toInt ∧ p0.toInt + (p1 - p0).toInt ≤ 2000) from by (first | omega | (simp only [id_eq] at *; omega))) (show 2000 ≤ 500000 from by (first | omega | (simp only [id_eq] at *; omega)))
            have f21 : (0 ≤ r163.toInt ∧ r163.toInt ≤ 1) := hq163
            refine wp_b1 hc163 ?_
            clear hc163
            refine wp_jn (fun j174 => ∀ (t174_0 : Int32), wp (j174 t174_0) (Q_writeWord g F p0 p1 p2 p3)) ?_ ?_
            · intro t174_0
              show wp _ _
              refine wp_if ⟨by (first | omega | (simp only [id_eq] at *; omega)), by (first | omega | (simp only [id_eq] at *; omega))⟩ ?_
              refine wp_vl (fun w175 ew175 => ?_)
              clear ew175
              refine wp_if ⟨by (first | omega | (simp only [id_eq] at *; omega)), by (first | omega | (simp only [id_eq] at *; omega))⟩ ?_
              obtain ⟨⟨r188, c188_g66, c188_F61⟩, hc188, hq188⟩ := ok_write1 (upd (upd (upd (upd (upd (upd g 23 c74_g23) 27 c74_g27) 30 c74_g30) 34 c74_g34) 36 c74_g36) 39 c74_g39) (upF (upF (upF (upF (upF (upF (upF (upF (upF (upF (upF (upF (upF (upF F 22 c74_F22) 24 c74_F24) 25 c74_F25) 26 c74_F26) 28 c74_F28) 29 c74_F29) 31 c74_F31) 32 c74_F32) 33 c74_F33) 37 c74_F37) 38 c74_F38) 40 c74_F40) 41 c74_F41) 64 w175) c74_F37 288 0 (c74_F38 (Int32.toNatClampNeg 0)) (MInv_i hzg1 hzg2 hzg3 hzg4 hzg5 hzg6 hzg7 hzg8 hzg9 hg4 hg5 hg6 hg7 hg8 hg9 hzg44 hzg47 hzg48 hzg51 hzg56 hzg59 hzg62 hzg65 hzg66 hzg70 hzF11 hzF12 hzF13 hzF15 hzF19 hzF21 hg10 hg11 hg12 hg13 hg14 hg15 hzF43 hzF45 hzF46 hzF50 hzF53 hzF54 hzLQ) (show (0 ≤ (0 : Int32).toInt ∧ 0 ≤ (c74_F38 (Int32.toNatClampNeg 0)).toInt ∧ (0 : Int32).toInt + (c74_F38 (Int32.toNatClampNeg 0)).toInt ≤ 288) from by (first | omega | (simp only [id_eq] at *; omega))) (show 288 ≤ 2500 from by (first | omega | (simp only [id_eq] at *; omega)))
              obtain ⟨hg23, f24⟩ : (((0) ≤ c188_g66.toInt ∧ c188_g66.toInt ≤ 2500)) ∧ ((0 ≤ r188.toInt ∧ r188.toInt ≤ 1)) := hq188
              refine wp_b3 hc188 ?_
              clear hc188
              refine wp_if ⟨by (first | omega | (simp only [id_eq] at *; omega)), by (first | omega | (simp only [id_eq] at *; omega))⟩ ?_
              exact ⟨_, rfl, ⟨hg4, hg5, hg6, hg7, hg8, hg9, hg23, hg10, hg11, hg12, hg13, hg14, hg15, (show (0 ≤ r188.toInt ∧ r188.toInt ≤ 1) from by (first | omega | (simp only [id_eq] at *; omega)))⟩⟩
            intro j174 Jj174
            refine wp_ite (fun c166 => ?_) (fun c166 => ?_)
            · have c166 := congrArg Int32.toInt c166
              exact Jj174 (1 : Int32)
            · have c166 := z_ne c166
              exact Jj174 (0 : Int32)
        intro j115 Jj115
        refine wp_ite (fun c107 => ?_) (fun c107 => ?_)
        · have c107 := congrArg Int32.toInt c107
          exact Jj115 (1 : Int32)
        · have c107 := z_ne c107
          exact Jj115 (0 : Int32)
      intro j94 Jj94
      refine wp_ite (fun c86 => ?_) (fun c86 => ?_)
      · have c86 := (z_le _ _).mp c86
        exact Jj94 (0 : Int32)
      · have c86 := z_nle c86
        exact Jj94 (1 : Int32)
    intro j74 Jj74
    refine wp_ite (fun c52 => ?_) (fun c52 => ?_)
    · have c52 := (z_lt _ _).mp c52
      exact Jj74 (g 23) (g 27) (g 30) (g 34) (g 36) (0 : Int32) (F 22) (F 24) (F 25) (F 26) (F 28) (F 29) (F 31) (F 32) (F 33) (F 37) (F 38) (F 40) (F 41) hzg23 hzg27 hzg30 hzg34 hzg36 hg2 hzF24 hzF25 hzF26 hzF33 hzF38 hzF41
    · have c52 := z_nlt c52
      obtain ⟨⟨c64_g23, c64_F22⟩, hc64, hq64⟩ := ok_takeWord (upd g 39 0) (upF F 64 w41) (F 0) 2000 p0 (p1 - p0) (MInv_i hzg1 hzg2 hzg3 hzg4 hzg5 hzg6 hzg7 hzg8 hzg9 hzg23 hzg27 hzg30 hzg34 hzg36 hg2 hzg44 hzg47 hzg48 hzg51 hzg56 hzg59 hzg62 hzg65 hzg66 hzg70 hzF11 hzF12 hzF13 hzF15 hzF19 hzF21 hzF24 hzF25 hzF26 hzF33 hzF38 hzF41 hzF43 hzF45 hzF46 hzF50 hzF53 hzF54 hzLQ) (show (0 ≤ p0.toInt ∧ p0.toInt + (p1 - p0).toInt ≤ 2000) from by (first | omega | (simp only [id_eq] at *; omega))) (show 2000 ≤ 500000 from by (first | omega | (simp only [id_eq] at *; omega))) (show (0 ≤ (p1 - p0).toInt ∧ (p1 - p0).toInt ≤ 24) from by (first | omega | (simp only [id_eq] at *; omega)))
      obtain ⟨hg26, f27⟩ : (((0) ≤ c64_g23.toInt ∧ c64_g23.toInt ≤ 24)) ∧ (c64_g23.toInt = (p1 - p0).toInt) := hq64
      refine wp_b2 hc64 ?_
      clear hc64
      obtain ⟨⟨c71_g23, c71_g27, c71_g30, c71_g34, c71_g36, c71_g39, c71_F22, c71_F24, c71_F25, c71_F26, c71_F28, c71_F29, c71_F31, c71_F32, c71_F33, c71_F37, c71_F38, c71_F40, c71_F41⟩, hc71, hq71⟩ := ok_through (upd (upd g 23 c64_g23) 39 0) (upF (upF F 22 c64_F22) 64 w41) p2 p3 (MInv_i hzg1 hzg2 hzg3 hzg4 hzg5 hzg6 hzg7 hzg8 hzg9 hg26 hzg27 hzg30 hzg34 hzg36 hg2 hzg44 hzg47 hzg48 hzg51 hzg56 hzg59 hzg62 hzg65 hzg66 hzg70 hzF11 hzF12 hzF13 hzF15 hzF19 hzF21 hzF24 hzF25 hzF26 hzF33 hzF38 hzF41 hzF43 hzF45 hzF46 hzF50 hzF53 hzF54 hzLQ) (show (0 ≤ p2.toInt ∧ p2.toInt ≤ 6) from by (first | omega | (simp only [id_eq] at *; omega))) (show p3.toInt ≤ (g 9).toInt from by (first | omega | (simp only [id_eq] at *; omega)))
      obtain ⟨hg28, hg29, hg30, hg31, hg32, hg33, hg34, hg35, hg36, hg37, hg38, hg39⟩ : (((0) ≤ c71_g23.toInt ∧ c71_g23.toInt ≤ 24)) ∧ (((0) ≤ c71_g27.toInt ∧ c71_g27.toInt ≤ 30)) ∧ (((0) ≤ c71_g30.toInt ∧ c71_g30.toInt ≤ 384)) ∧ (((0) ≤ c71_g34.toInt ∧ c71_g34.toInt ≤ 30)) ∧ (((0) ≤ c71_g36.toInt ∧ c71_g36.toInt ≤ 1)) ∧ (((0) ≤ c71_g39.toInt ∧ c71_g39.toInt ≤ 12)) ∧ (rng (0) 24 c71_F24) ∧ (rng (0) 24 c71_F25) ∧ (rng (0) 24 c71_F26) ∧ (rng (0) 24 c71_F33) ∧ (rng (0) 24 c71_F38) ∧ (rng (0) 24 c71_F41) := hq71
      refine wp_b19 hc71 ?_
      clear hc71
      exact Jj74 c71_g23 c71_g27 c71_g30 c71_g34 c71_g36 c71_g39 c71_F22 c71_F24 c71_F25 c71_F26 c71_F28 c71_F29 c71_F31 c71_F32 c71_F33 c71_F37 c71_F38 c71_F40 c71_F41 hg28 hg29 hg30 hg31 hg32 hg33 hg34 hg35 hg36 hg37 hg38 hg39
  · have c6 := z_ne c6
    refine wp_if ⟨by (first | omega | (simp only [id_eq] at *; omega)), by (first | omega | (simp only [id_eq] at *; omega))⟩ ?_
    refine wp_if ⟨by (first | omega | (simp only [id_eq] at *; omega)), by (first | omega | (simp only [id_eq] at *; omega))⟩ ?_
    refine wp_vl (fun w18 ew18 => ?_)
    clear ew18
    have f40 : (p1 - p0).toInt = p1.toInt - p0.toInt := z_sub (by (first | omega | (simp only [id_eq] at *; omega))) (by (first | omega | (simp only [id_eq] at *; omega)))
    obtain ⟨⟨r28, c28_g66, c28_F61⟩, hc28, hq28⟩ := ok_write1 g (upF F 64 w18) (F 0) 2000 p0 (p1 - p0) (MInv_i hzg1 hzg2 hzg3 hzg4 hzg5 hzg6 hzg7 hzg8 hzg9 hzg23 hzg27 hzg30 hzg34 hzg36 hzg39 hzg44 hzg47 hzg48 hzg51 hzg56 hzg59 hzg62 hzg65 hzg66 hzg70 hzF11 hzF12 hzF13 hzF15 hzF19 hzF21 hzF24 hzF25 hzF26 hzF33 hzF38 hzF41 hzF43 hzF45 hzF46 hzF50 hzF53 hzF54 hzLQ) (show (0 ≤ p0.toInt ∧ 0 ≤ (p1 - p0).toInt ∧ p0.toInt + (p1 - p0).toInt ≤ 2000) from by (first | omega | (simp only [id_eq] at *; omega))) (show 2000 ≤ 2500 from by (first | omega | (simp only [id_eq] at *; omega)))
    obtain ⟨hg41, f42⟩ : (((0) ≤ c28_g66.toInt ∧ c28_g66.toInt ≤ 2500)) ∧ ((0 ≤ r28.toInt ∧ r28.toInt ≤ 1)) := hq28
    refine wp_b3 hc28 ?_
    clear hc28
    refine wp_if ⟨by (first | omega | (simp only [id_eq] at *; omega)), by (first | omega | (simp only [id_eq] at *; omega))⟩ ?_
    exact ⟨_, rfl, ⟨hzg23, hzg27, hzg30, hzg34, hzg36, hzg39, hg41, hzF24, hzF25, hzF26, hzF33, hzF38, hzF41, (show (0 ≤ r28.toInt ∧ r28.toInt ≤ 1) from by (first | omega | (simp only [id_eq] at *; omega)))⟩⟩
abbrev Q_write (g : Nat → Int32) (F : Nat → Nat → Int32) (p0 : Int32) (p1 : Int32) : (Int32 × Int32 × Int32 × Int32 × Int32 × Int32 × Int32 × Int32 × Int32 × Int32 × Int32 × (Nat → Int32) × (Nat → Int32) × (Nat → Int32) × (Nat → Int32) × (Nat → Int32) × (Nat → Int32) × (Nat → Int32) × (Nat → Int32) × (Nat → Int32) × (Nat → Int32) × (Nat → Int32) × (Nat → Int32) × (Nat → Int32) × (Nat → Int32) × (Nat → Int32) × (Nat → Int32) × (Nat → Int32)) → Prop := (fun t => (((0) ≤ (t.2.1).toInt ∧ (t.2.1).toInt ≤ 2000)) ∧ (((0) ≤ (t.2.2.1).toInt ∧ (t.2.2.1).toInt ≤ 24)) ∧ (((0) ≤ (t.2.2.2.1).toInt ∧ (t.2.2.2.1).toInt ≤ 30)) ∧ (((0) ≤ (t.2.2.2.2.1).toInt ∧ (t.2.2.2.2.1).toInt ≤ 384)) ∧ (((0) ≤ (t.2.2.2.2.2.1).toInt ∧ (t.2.2.2.2.2.1).toInt ≤ 30)) ∧ (((0) ≤ (t.2.2.2.2.2.2.1).toInt ∧ (t.2.2.2.2.2.2.1).toInt ≤ 1)) ∧ (((0) ≤ (t.2.2.2.2.2.2.2.1).toInt ∧ (t.2.2.2.2.2.2.2.1).toInt ≤ 12)) ∧ (((0) ≤ (t.2.2.2.2.2.2.2.2.1).toInt ∧ (t.2.2.2.2.2.2.2.2.1).toInt ≤ 2500)) ∧ (((0) ≤ (t.2.2.2.2.2.2.2.2.2.1).toInt ∧ (t.2.2.2.2.2.2.2.2.2.1).toInt ≤ 1)) ∧ (((0) ≤ (t.2.2.2.2.2.2.2.2.2.2.1).toInt ∧ (t.2.2.2.2.2.2.2.2.2.2.1).toInt ≤ 2500)) ∧ (rng (0) 24 (t.2.2.2.2.2.2.2.2.2.2.2.2.1)) ∧ (rng (0) 24 (t.2.2.2.2.2.2.2.2.2.2.2.2.2.1)) ∧ (rng (0) 24 (t.2.2.2.2.2.2.2.2.2.2.2.2.2.2.1)) ∧ (rng (0) 24 (t.2.2.2.2.2.2.2.2.2.2.2.2.2.2.2.2.2.2.2.1)) ∧ (rng (0) 24 (t.2.2.2.2.2.2.2.2.2.2.2.2.2.2.2.2.2.2.2.2.2.1)) ∧ (rng (0) 24 (t.2.2.2.2.2.2.2.2.2.2.2.2.2.2.2.2.2.2.2.2.2.2.2.1)) ∧ ((t.2.1).toInt = 0))
set_option maxHeartbeats 4000000 in
set_option maxRecDepth 100000 in
theorem ok_write (g : Nat → Int32) (F : Nat → Nat → Int32) (p0 : Int32) (p1 : Int32) (hI : MInv g F) : wp (f_write g F p0 p1) (Q_write g F p0 p1) := by
  unfold f_write
  refine MInv_e hI (fun hzg1 (hzg2 : id _) (hzg3 : id _) (hzg4 : id _) (hzg5 : id _) (hzg6 : id _) (hzg7 : id _) (hzg8 : id _) hzg9 hzg23 hzg27 hzg30 hzg34 hzg36 hzg39 (hzg44 : id _) (hzg47 : id _) (hzg48 : id _) (hzg51 : id _) (hzg56 : id _) (hzg59 : id _) hzg62 hzg65 hzg66 (hzg70 : id _) hzF11 hzF12 hzF13 hzF15 hzF19 hzF21 hzF24 hzF25 hzF26 hzF33 hzF38 hzF41 hzF43 hzF45 hzF46 hzF50 hzF53 hzF54 hzLQ => ?_)
  clear hI
  have zkm2 : (-2 : Int32).toInt = -2 := by decide +kernel
  have zkm1 : (-1 : Int32).toInt = -1 := by decide +kernel
  have zk0 : (0 : Int32).toInt = 0 := by decide +kernel
  have zk1 : (1 : Int32).toInt = 1 := by decide +kernel
  have zk5 : (5 : Int32).toInt = 5 := by decide +kernel
  have zk34 : (34 : Int32).toInt = 34 := by decide +kernel
  have hg1 : ((0) ≤ (0 : Int32).toInt ∧ (0 : Int32).toInt ≤ 2000) := ⟨by (first | omega | (simp only [id_eq] at *; omega)), by (first | omega | (simp only [id_eq] at *; omega))⟩
  obtain ⟨r12, hc12, hq12⟩ := ok_isStage (upd g 1 0) F p0 (MInv_i hg1 hzg2 hzg3 hzg4 hzg5 hzg6 hzg7 hzg8 hzg9 hzg23 hzg27 hzg30 hzg34 hzg36 hzg39 hzg44 hzg47 hzg48 hzg51 hzg56 hzg59 hzg62 hzg65 hzg66 hzg70 hzF11 hzF12 hzF13 hzF15 hzF19 hzF21 hzF24 hzF25 hzF26 hzF33 hzF38 hzF41 hzF43 hzF45 hzF46 hzF50 hzF53 hzF54 hzLQ)
  obtain ⟨f2, f3⟩ : (id (r12.toInt = 1 → 0 ≤ p0.toInt ∧ p0.toInt ≤ (g 9).toInt)) ∧ ((0 ≤ r12.toInt ∧ r12.toInt ≤ 1)) := hq12
  refine wp_b1 hc12 ?_
  clear hc12
  refine wp_jn (fun j31 => wp (j31 ()) (Q_write g F p0 p1)) ?_ ?_
  · show wp _ _
    show wp _ _
    exact ⟨_, rfl, ⟨hg1, hzg23, hzg27, hzg30, hzg34, hzg36, hzg39, hzg62, hzg65, hzg66, hzF24, hzF25, hzF26, hzF33, hzF38, hzF41, (show (0 : Int32).toInt = 0 from by (first | omega | (simp only [id_eq] at *; omega)))⟩⟩
  intro j31 Jj31
  refine wp_ite (fun c15 => ?_) (fun c15 => ?_)
  · have c15 := congrArg Int32.toInt c15
    exact Jj31
  · have c15 := z_ne c15
    obtain ⟨r20, hc20, hq20⟩ := ok_isStage (upd g 1 0) F p1 (MInv_i hg1 hzg2 hzg3 hzg4 hzg5 hzg6 hzg7 hzg8 hzg9 hzg23 hzg27 hzg30 hzg34 hzg36 hzg39 hzg44 hzg47 hzg48 hzg51 hzg56 hzg59 hzg62 hzg65 hzg66 hzg70 hzF11 hzF12 hzF13 hzF15 hzF19 hzF21 hzF24 hzF25 hzF26 hzF33 hzF38 hzF41 hzF43 hzF45 hzF46 hzF50 hzF53 hzF54 hzLQ)
    obtain ⟨f4, f5⟩ : (id (r20.toInt = 1 → 0 ≤ p1.toInt ∧ p1.toInt ≤ (g 9).toInt)) ∧ ((0 ≤ r20.toInt ∧ r20.toInt ≤ 1)) := hq20
    refine wp_b1 hc20 ?_
    clear hc20
    refine wp_ite (fun c23 => ?_) (fun c23 => ?_)
    · have c23 := congrArg Int32.toInt c23
      exact Jj31
    · have c23 := z_ne c23
      refine wp_ite (fun c28 => ?_) (fun c28 => ?_)
      · have c28 := (z_le _ _).mp c28
        obtain ⟨r36, hc36, hq36⟩ := ok_hasNought (upd g 1 0) F (g 1) (MInv_i hg1 hzg2 hzg3 hzg4 hzg5 hzg6 hzg7 hzg8 hzg9 hzg23 hzg27 hzg30 hzg34 hzg36 hzg39 hzg44 hzg47 hzg48 hzg51 hzg56 hzg59 hzg62 hzg65 hzg66 hzg70 hzF11 hzF12 hzF13 hzF15 hzF19 hzF21 hzF24 hzF25 hzF26 hzF33 hzF38 hzF41 hzF43 hzF45 hzF46 hzF50 hzF53 hzF54 hzLQ) (show (g 1).toInt ≤ 2000 from by (first | omega | (simp only [id_eq] at *; omega)))
        have f6 : (0 ≤ r36.toInt ∧ r36.toInt ≤ 1) := hq36
        refine wp_b1 hc36 ?_
        clear hc36
        refine wp_ite (fun c39 => ?_) (fun c39 => ?_)
        · have c39 := congrArg Int32.toInt c39
          have hg7 : ((0) ≤ (0 : Int32).toInt ∧ (0 : Int32).toInt ≤ 2500) := ⟨by (first | omega | (simp only [id_eq] at *; omega)), by (first | omega | (simp only [id_eq] at *; omega))⟩
          refine wp_jn (fun k72 => ∀ (c72_F64 : (Nat → Int32)), wp (k72 c72_F64) (Q_write g F p0 p1)) ?_ ?_
          · intro c72_F64
            show wp _ _
            refine wp_jn (fun k208 => ∀ (c208_g23 : Int32) (c208_g27 : Int32) (c208_g30 : Int32) (c208_g34 : Int32) (c208_g36 : Int32) (c208_g39 : Int32) (c208_g66 : Int32) (c208_F22 : (Nat → Int32)) (c208_F24 : (Nat → Int32)) (c208_F25 : (Nat → Int32)) (c208_F26 : (Nat → Int32)) (c208_F28 : (Nat → Int32)) (c208_F29 : (Nat → Int32)) (c208_F31 : (Nat → Int32)) (c208_F32 : (Nat → Int32)) (c208_F33 : (Nat → Int32)) (c208_F37 : (Nat → Int32)) (c208_F38 : (Nat → Int32)) (c208_F40 : (Nat → Int32)) (c208_F41 : (Nat → Int32)) (c208_F61 : (Nat → Int32)) (c208_F64 : (Nat → Int32)), ((0) ≤ c208_g23.toInt ∧ c208_g23.toInt ≤ 24) → ((0) ≤ c208_g27.toInt ∧ c208_g27.toInt ≤ 30) → ((0) ≤ c208_g30.toInt ∧ c208_g30.toInt ≤ 384) → ((0) ≤ c208_g34.toInt ∧ c208_g34.toInt ≤ 30) → ((0) ≤ c208_g36.toInt ∧ c208_g36.toInt ≤ 1) → ((0) ≤ c208_g39.toInt ∧ c208_g39.toInt ≤ 12) → ((0) ≤ c208_g66.toInt ∧ c208_g66.toInt ≤ 2500) → rng (0) 24 c208_F24 → rng (0) 24 c208_F25 → rng (0) 24 c208_F26 → rng (0) 24 c208_F33 → rng (0) 24 c208_F38 → rng (0) 24 c208_F41 → wp (k208 c208_g23 c208_g27 c208_g30 c208_g34 c208_g36 c208_g39 c208_g66 c208_F22 c208_F24 c208_F25 c208_F26 c208_F28 c208_F29 c208_F31 c208_F32 c208_F33 c208_F37 c208_F38 c208_F40 c208_F41 c208_F61 c208_F64) (Q_write g F p0 p1)) ?_ ?_
            · intro c208_g23 c208_g27 c208_g30 c208_g34 c208_g36 c208_g39 c208_g66 c208_F22 c208_F24 c208_F25 c208_F26 c208_F28 c208_F29 c208_F31 c208_F32 c208_F33 c208_F37 c208_F38 c208_F40 c208_F41 c208_F61 c208_F64 hg8 hg9 hg10 hg11 hg12 hg13 hg14 hg15 hg16 hg17 hg18 hg19 hg20
              show wp _ _
              have hg21 : ((0) ≤ c208_g66.toInt ∧ c208_g66.toInt ≤ 2500) := ⟨by (first | omega | (simp only [id_eq] at *; omega)), by (first | omega | (simp only [id_eq] at *; omega))⟩
              have hg22 : ((0) ≤ (1 : Int32).toInt ∧ (1 : Int32).toInt ≤ 1) := ⟨by (first | omega | (simp only [id_eq] at *; omega)), by (first | omega | (simp only [id_eq] at *; omega))⟩
              refine wp_jn (fun k253 => ∀ (c253_F60 : (Nat → Int32)), wp (k253 c253_F60) (Q_write g F p0 p1)) ?_ ?_
              · intro c253_F60
                show wp _ _
                have lp256 : ∀ (n256 : Nat) (y256_5 : Int32) (d256_F63 : (Nat → Int32)), (5 - y256_5.toInt).toNat < n256 → (0 ≤ y256_5.toInt ∧ y256_5.toInt ≤ 5) → wp (L_write_256 c208_g23 c208_g27 c208_g30 c208_g34 c208_g36 c208_g39 c208_g66 c208_F22 c208_F24 c208_F25 c208_F26 c208_F28 c208_F29 c208_F31 c208_F32 c208_F33 c208_F37 c208_F38 c208_F40 c208_F41 c208_F61 c208_F64 c253_F60 n256 y256_5 d256_F63) (Q_write g F p0 p1) := by
                  intro n256
                  induction n256 with
                  | zero => intro y256_5 d256_F63 hm; exact absurd hm (Nat.not_lt_zero _)
                  | succ n256 ih256 =>
                    intro y256_5 d256_F63 hm256 f23
                    show wp (B_write_256 c208_g23 c208_g27 c208_g30 c208_g34 c208_g36 c208_g39 c208_g66 c208_F22 c208_F24 c208_F25 c208_F26 c208_F28 c208_F29 c208_F31 c208_F32 c208_F33 c208_F37 c208_F38 c208_F40 c208_F41 c208_F61 c208_F64 c253_F60 (L_write_256 c208_g23 c208_g27 c208_g30 c208_g34 c208_g36 c208_g39 c208_g66 c208_F22 c208_F24 c208_F25 c208_F26 c208_F28 c208_F29 c208_F31 c208_F32 c208_F33 c208_F37 c208_F38 c208_F40 c208_F41 c208_F61 c208_F64 c253_F60 n256) y256_5 d256_F63) _
                    unfold B_write_256
                    refine wp_ite (fun c259 => ?_) (fun c259 => ?_)
                    · have c259 := (z_le _ _).mp c259
                      exact ⟨_, rfl, ⟨hg1, hg8, hg9, hg10, hg11, hg12, hg13, hg21, hg22, hg14, hg15, hg16, hg17, hg18, hg19, hg20, (show (0 : Int32).toInt = 0 from by (first | omega | (simp only [id_eq] at *; omega)))⟩⟩
                    · have c259 := z_nle c259
                      refine wp_if ⟨by (first | omega | (simp only [id_eq] at *; omega)), by (first | omega | (simp only [id_eq] at *; omega))⟩ ?_
                      refine wp_if ⟨by (first | omega | (simp only [id_eq] at *; omega)), by (first | omega | (simp only [id_eq] at *; omega))⟩ ?_
                      refine wp_vl (fun w275 ew275 => ?_)
                      clear ew275
                      have f24 : (y256_5 + 1).toInt = y256_5.toInt + (1) := z_addc (by decide +kernel) (by (first | omega | (simp only [id_eq] at *; omega))) (by (first | omega | (simp only [id_eq] at *; omega)))
                      exact ih256 (y256_5 + 1) w275 (show (5 - (y256_5 + 1).toInt).toNat < n256 from by (first | omega | (simp only [id_eq] at *; omega))) (show (0 ≤ (y256_5 + 1).toInt ∧ (y256_5 + 1).toInt ≤ 5) from by (first | omega | (simp only [id_eq] at *; omega)))
                exact lp256 NN (0 : Int32) (F 63) (by have := NN_eq; (first | omega | (simp only [id_eq] at *; omega))) (show (0 ≤ (0 : Int32).toInt ∧ (0 : Int32).toInt ≤ 5) from by (first | omega | (simp only [id_eq] at *; omega)))
              intro k253 Jk253
              have lp224 : ∀ (n224 : Nat) (y224_5 : Int32) (d224_F60 : (Nat → Int32)), (2500 - y224_5.toInt).toNat < n224 → 0 ≤ y224_5.toInt → wp (L_write_224 c208_g66 c208_F61 k253 n224 y224_5 d224_F60) (Q_write g F p0 p1) := by
                intro n224
                induction n224 with
                | zero => intro y224_5 d224_F60 hm; exact absurd hm (Nat.not_lt_zero _)
                | succ n224 ih224 =>
                  intro y224_5 d224_F60 hm224 f25
                  show wp (B_write_224 c208_g66 c208_F61 k253 (L_write_224 c208_g66 c208_F61 k253 n224) y224_5 d224_F60) _
                  unfold B_write_224
                  refine wp_ite (fun c230 => ?_) (fun c230 => ?_)
                  · have c230 := (z_le _ _).mp c230
                    exact Jk253 d224_F60
                  · have c230 := z_nle c230
                    refine wp_if ⟨by (first | omega | (simp only [id_eq] at *; omega)), by (first | omega | (simp only [id_eq] at *; omega))⟩ ?_
                    refine wp_if ⟨by (first | omega | (simp only [id_eq] at *; omega)), by (first | omega | (simp only [id_eq] at *; omega))⟩ ?_
                    refine wp_vl (fun w246 ew246 => ?_)
                    clear ew246
                    have f26 : (y224_5 + 1).toInt = y224_5.toInt + (1) := z_addc (by decide +kernel) (by (first | omega | (simp only [id_eq] at *; omega))) (by (first | omega | (simp only [id_eq] at *; omega)))
                    exact ih224 (y224_5 + 1) w246 (show (2500 - (y224_5 + 1).toInt).toNat < n224 from by (first | omega | (simp only [id_eq] at *; omega))) (show 0 ≤ (y224_5 + 1).toInt from by (first | omega | (simp only [id_eq] at *; omega)))
              exact lp224 NN (0 : Int32) (F 60) (by have := NN_eq; (first | omega | (simp only [id_eq] at *; omega))) (show 0 ≤ (0 : Int32).toInt from by (first | omega | (simp only [id_eq] at *; omega)))
            intro k208 Jk208
            have lp75 : ∀ (n75 : Nat) (y75_4 : Int32) (d75_g23 : Int32) (d75_g27 : Int32) (d75_g30 : Int32) (d75_g34 : Int32) (d75_g36 : Int32) (d75_g39 : Int32) (d75_g66 : Int32) (d75_F22 : (Nat → Int32)) (d75_F24 : (Nat → Int32)) (d75_F25 : (Nat → Int32)) (d75_F26 : (Nat → Int32)) (d75_F28 : (Nat → Int32)) (d75_F29 : (Nat → Int32)) (d75_F31 : (Nat → Int32)) (d75_F32 : (Nat → Int32)) (d75_F33 : (Nat → Int32)) (d75_F37 : (Nat → Int32)) (d75_F38 : (Nat → Int32)) (d75_F40 : (Nat → Int32)) (d75_F41 : (Nat → Int32)) (d75_F61 : (Nat → Int32)) (d75_F64 : (Nat → Int32)), (2000 - y75_4.toInt).toNat < n75 → ((0) ≤ d75_g23.toInt ∧ d75_g23.toInt ≤ 24) → ((0) ≤ d75_g27.toInt ∧ d75_g27.toInt ≤ 30) → ((0) ≤ d75_g30.toInt ∧ d75_g30.toInt ≤ 384) → ((0) ≤ d75_g34.toInt ∧ d75_g34.toInt ≤ 30) → ((0) ≤ d75_g36.toInt ∧ d75_g36.toInt ≤ 1) → ((0) ≤ d75_g39.toInt ∧ d75_g39.toInt ≤ 12) → ((0) ≤ d75_g66.toInt ∧ d75_g66.toInt ≤ 2500) → rng (0) 24 d75_F24 → rng (0) 24 d75_F25 → rng (0) 24 d75_F26 → rng (0) 24 d75_F33 → rng (0) 24 d75_F38 → rng (0) 24 d75_F41 → (0 ≤ y75_4.toInt ∧ y75_4.toInt ≤ (g 1).toInt) → wp (L_write_75 g F p0 p1 k208 n75 y75_4 d75_g23 d75_g27 d75_g30 d75_g34 d75_g36 d75_g39 d75_g66 d75_F22 d75_F24 d75_F25 d75_F26 d75_F28 d75_F29 d75_F31 d75_F32 d75_F33 d75_F37 d75_F38 d75_F40 d75_F41 d75_F61 d75_F64) (Q_write g F p0 p1) := by
              intro n75
              induction n75 with
              | zero => intro y75_4 d75_g23 d75_g27 d75_g30 d75_g34 d75_g36 d75_g39 d75_g66 d75_F22 d75_F24 d75_F25 d75_F26 d75_F28 d75_F29 d75_F31 d75_F32 d75_F33 d75_F37 d75_F38 d75_F40 d75_F41 d75_F61 d75_F64 hm; exact absurd hm (Nat.not_lt_zero _)
              | succ n75 ih75 =>
                intro y75_4 d75_g23 d75_g27 d75_g30 d75_g34 d75_g36 d75_g39 d75_g66 d75_F22 d75_F24 d75_F25 d75_F26 d75_F28 d75_F29 d75_F31 d75_F32 d75_F33 d75_F37 d75_F38 d75_F40 d75_F41 d75_F61 d75_F64 hm75 hg27 hg28 hg29 hg30 hg31 hg32 hg33 hg34 hg35 hg36 hg37 hg38 hg39 f40
                show wp (B_write_75 g F p0 p1 k208 (L_write_75 g F p0 p1 k208 n75) y75_4 d75_g23 d75_g27 d75_g30 d75_g34 d75_g36 d75_g39 d75_g66 d75_F22 d75_F24 d75_F25 d75_F26 d75_F28 d75_F29 d75_F31 d75_F32 d75_F33 d75_F37 d75_F38 d75_F40 d75_F41 d75_F61 d75_F64) _
                unfold B_write_75
                refine wp_ite (fun c78 => ?_) (fun c78 => ?_)
                · have c78 := (z_le _ _).mp c78
                  exact Jk208 d75_g23 d75_g27 d75_g30 d75_g34 d75_g36 d75_g39 d75_g66 d75_F22 d75_F24 d75_F25 d75_F26 d75_F28 d75_F29 d75_F31 d75_F32 d75_F33 d75_F37 d75_F38 d75_F40 d75_F41 d75_F61 d75_F64 hg27 hg28 hg29 hg30 hg31 hg32 hg33 hg34 hg35 hg36 hg37 hg38 hg39
                · have c78 := z_nle c78
                  have f41 : (y75_4 + 1).toInt = y75_4.toInt + 1 := z_addc (by decide +kernel) (by (first | omega | (simp only [id_eq] at *; omega))) (by (first | omega | (simp only [id_eq] at *; omega)))
                  refine wp_vl (fun x85 ex85 => ?_)
                  have f42 : x85.toInt = (y75_4 + 1).toInt := congrArg Int32.toInt ex85
                  clear ex85
                  refine wp_if ⟨by (first | omega | (simp only [id_eq] at *; omega)), by (first | omega | (simp only [id_eq] at *; omega))⟩ ?_
                  refine wp_jn (fun j194 => ∀ (x194_5 : Int32) (x194_6 : Int32) (c194_g23 : Int32) (c194_g27 : Int32) (c194_g30 : Int32) (c194_g34 : Int32) (c194_g36 : Int32) (c194_g39 : Int32) (c194_g66 : Int32) (c194_F22 : (Nat → Int32)) (c194_F24 : (Nat → Int32)) (c194_F25 : (Nat → Int32)) (c194_F26 : (Nat → Int32)) (c194_F28 : (Nat → Int32)) (c194_F29 : (Nat → Int32)) (c194_F31 : (Nat → Int32)) (c194_F32 : (Nat → Int32)) (c194_F33 : (Nat → Int32)) (c194_F37 : (Nat → Int32)) (c194_F38 : (Nat → Int32)) (c194_F40 : (Nat → Int32)) (c194_F41 : (Nat → Int32)) (c194_F61 : (Nat → Int32)) (c194_F64 : (Nat → Int32)), ((0) ≤ c194_g23.toInt ∧ c194_g23.toInt ≤ 24) → ((0) ≤ c194_g27.toInt ∧ c194_g27.toInt ≤ 30) → ((0) ≤ c194_g30.toInt ∧ c194_g30.toInt ≤ 384) → ((0) ≤ c194_g34.toInt ∧ c194_g34.toInt ≤ 30) → ((0) ≤ c194_g36.toInt ∧ c194_g36.toInt ≤ 1) → ((0) ≤ c194_g39.toInt ∧ c194_g39.toInt ≤ 12) → ((0) ≤ c194_g66.toInt ∧ c194_g66.toInt ≤ 2500) → rng (0) 24 c194_F24 → rng (0) 24 c194_F25 → rng (0) 24 c194_F26 → rng (0) 24 c194_F33 → rng (0) 24 c194_F38 → rng (0) 24 c194_F41 → (y75_4.toInt < x194_5.toInt ∧ x194_5.toInt ≤ (g 1).toInt) → (0 ≤ x194_6.toInt ∧ x194_6.toInt ≤ 1) → wp (j194 x194_5 x194_6 c194_g23 c194_g27 c194_g30 c194_g34 c194_g36 c194_g39 c194_g66 c194_F22 c194_F24 c194_F25 c194_F26 c194_F28 c194_F29 c194_F31 c194_F32 c194_F33 c194_F37 c194_F38 c194_F40 c194_F41 c194_F61 c194_F64) (Q_write g F p0 p1)) ?_ ?_
                  · intro x194_5 x194_6 c194_g23 c194_g27 c194_g30 c194_g34 c194_g36 c194_g39 c194_g66 c194_F22 c194_F24 c194_F25 c194_F26 c194_F28 c194_F29 c194_F31 c194_F32 c194_F33 c194_F37 c194_F38 c194_F40 c194_F41 c194_F61 c194_F64 hg43 hg44 hg45 hg46 hg47 hg48 hg49 hg50 hg51 hg52 hg53 hg54 hg55 f56 f57
                    show wp _ _
                    refine wp_ite (fun c196 => ?_) (fun c196 => ?_)
                    · have c196 := congrArg Int32.toInt c196
                      exact ⟨_, rfl, ⟨hg1, hg43, hg44, hg45, hg46, hg47, hg48, hzg62, hzg65, hg49, hg50, hg51, hg52, hg53, hg54, hg55, (show (0 : Int32).toInt = 0 from by (first | omega | (simp only [id_eq] at *; omega)))⟩⟩
                    · have c196 := z_ne c196
                      exact ih75 x194_5 c194_g23 c194_g27 c194_g30 c194_g34 c194_g36 c194_g39 c194_g66 c194_F22 c194_F24 c194_F25 c194_F26 c194_F28 c194_F29 c194_F31 c194_F32 c194_F33 c194_F37 c194_F38 c194_F40 c194_F41 c194_F61 c194_F64 (show (2000 - x194_5.toInt).toNat < n75 from by (first | omega | (simp only [id_eq] at *; omega))) hg43 hg44 hg45 hg46 hg47 hg48 hg49 hg50 hg51 hg52 hg53 hg54 hg55 (show (0 ≤ x194_5.toInt ∧ x194_5.toInt ≤ (g 1).toInt) from by (first | omega | (simp only [id_eq] at *; omega)))
                  intro j194 Jj194
                  refine wp_ite (fun c96 => ?_) (fun c96 => ?_)
                  · have c96 := congrArg Int32.toInt c96
                    obtain ⟨r103, hc103, hq103⟩ := ok_quoted (upd (upd (upd (upd (upd (upd (upd (upd g 1 0) 23 d75_g23) 27 d75_g27) 30 d75_g30) 34 d75_g34) 36 d75_g36) 39 d75_g39) 66 d75_g66) (upF (upF (upF (upF (upF (upF (upF (upF (upF (upF (upF (upF (upF (upF (upF F 22 d75_F22) 24 d75_F24) 25 d75_F25) 26 d75_F26) 28 d75_F28) 29 d75_F29) 31 d75_F31) 32 d75_F32) 33 d75_F33) 37 d75_F37) 38 d75_F38) 40 d75_F40) 41 d75_F41) 61 d75_F61) 64 d75_F64) y75_4 (g 1) (MInv_i hg1 hzg2 hzg3 hzg4 hzg5 hzg6 hzg7 hzg8 hzg9 hg27 hg28 hg29 hg30 hg31 hg32 hzg44 hzg47 hzg48 hzg51 hzg56 hzg59 hzg62 hzg65 hg33 hzg70 hzF11 hzF12 hzF13 hzF15 hzF19 hzF21 hg34 hg35 hg36 hg37 hg38 hg39 hzF43 hzF45 hzF46 hzF50 hzF53 hzF54 hzLQ) (show 0 ≤ y75_4.toInt from by (first | omega | (simp only [id_eq] at *; omega))) (show y75_4.toInt < (g 1).toInt from by (first | omega | (simp only [id_eq] at *; omega))) (show (g 1).toInt ≤ 2000 from by (first | omega | (simp only [id_eq] at *; omega)))
                    have f58 : (y75_4.toInt < r103.toInt ∧ r103.toInt ≤ (g 1).toInt) := hq103
                    refine wp_b1 hc103 ?_
                    clear hc103
                    have f59 : (r103 - y75_4).toInt = r103.toInt - y75_4.toInt := z_sub (by (first | omega | (simp only [id_eq] at *; omega))) (by (first | omega | (simp only [id_eq] at *; omega)))
                    obtain ⟨⟨r120, c120_g66, c120_F61⟩, hc120, hq120⟩ := ok_write1 (upd (upd (upd (upd (upd (upd (upd (upd g 1 0) 23 d75_g23) 27 d75_g27) 30 d75_g30) 34 d75_g34) 36 d75_g36) 39 d75_g39) 66 d75_g66) (upF (upF (upF (upF (upF (upF (upF (upF (upF (upF (upF (upF (upF (upF (upF F 22 d75_F22) 24 d75_F24) 25 d75_F25) 26 d75_F26) 28 d75_F28) 29 d75_F29) 31 d75_F31) 32 d75_F32) 33 d75_F33) 37 d75_F37) 38 d75_F38) 40 d75_F40) 41 d75_F41) 61 d75_F61) 64 d75_F64) (F 0) 2000 y75_4 (r103 - y75_4) (MInv_i hg1 hzg2 hzg3 hzg4 hzg5 hzg6 hzg7 hzg8 hzg9 hg27 hg28 hg29 hg30 hg31 hg32 hzg44 hzg47 hzg48 hzg51 hzg56 hzg59 hzg62 hzg65 hg33 hzg70 hzF11 hzF12 hzF13 hzF15 hzF19 hzF21 hg34 hg35 hg36 hg37 hg38 hg39 hzF43 hzF45 hzF46 hzF50 hzF53 hzF54 hzLQ) (show (0 ≤ y75_4.toInt ∧ 0 ≤ (r103 - y75_4).toInt ∧ y75_4.toInt + (r103 - y75_4).toInt ≤ 2000) from by (first | omega | (simp only [id_eq] at *; omega))) (show 2000 ≤ 2500 from by (first | omega | (simp only [id_eq] at *; omega)))
                    obtain ⟨hg60, f61⟩ : (((0) ≤ c120_g66.toInt ∧ c120_g66.toInt ≤ 2500)) ∧ ((0 ≤ r120.toInt ∧ r120.toInt ≤ 1)) := hq120
                    refine wp_b3 hc120 ?_
                    clear hc120
                    exact Jj194 r103 r120 d75_g23 d75_g27 d75_g30 d75_g34 d75_g36 d75_g39 c120_g66 d75_F22 d75_F24 d75_F25 d75_F26 d75_F28 d75_F29 d75_F31 d75_F32 d75_F33 d75_F37 d75_F38 d75_F40 d75_F41 c120_F61 d75_F64 hg27 hg28 hg29 hg30 hg31 hg32 hg60 hg34 hg35 hg36 hg37 hg38 hg39 (show (y75_4.toInt < r103.toInt ∧ r103.toInt ≤ (g 1).toInt) from by (first | omega | (simp only [id_eq] at *; omega))) (show (0 ≤ r120.toInt ∧ r120.toInt ≤ 1) from by (first | omega | (simp only [id_eq] at *; omega)))
                  · have c96 := z_ne c96
                    refine wp_if ⟨by (first | omega | (simp only [id_eq] at *; omega)), by (first | omega | (simp only [id_eq] at *; omega))⟩ ?_
                    obtain ⟨r135, hc135, hq135⟩ := ok_isLetter ((F 0) (Int32.toNatClampNeg y75_4)) 
                    obtain ⟨f62, f63⟩ : (id (r135.toInt = 1 → 65 ≤ ((F 0) (Int32.toNatClampNeg y75_4)).toInt)) ∧ ((0 ≤ r135.toInt ∧ r135.toInt ≤ 1)) := hq135
                    refine wp_b1 hc135 ?_
                    clear hc135
                    refine wp_ite (fun c138 => ?_) (fun c138 => ?_)
                    · have c138 := congrArg Int32.toInt c138
                      obtain ⟨⟨r189, c189_g66, c189_F61⟩, hc189, hq189⟩ := ok_write1 (upd (upd (upd (upd (upd (upd (upd (upd g 1 0) 23 d75_g23) 27 d75_g27) 30 d75_g30) 34 d75_g34) 36 d75_g36) 39 d75_g39) 66 d75_g66) (upF (upF (upF (upF (upF (upF (upF (upF (upF (upF (upF (upF (upF (upF (upF F 22 d75_F22) 24 d75_F24) 25 d75_F25) 26 d75_F26) 28 d75_F28) 29 d75_F29) 31 d75_F31) 32 d75_F32) 33 d75_F33) 37 d75_F37) 38 d75_F38) 40 d75_F40) 41 d75_F41) 61 d75_F61) 64 d75_F64) (F 0) 2000 y75_4 1 (MInv_i hg1 hzg2 hzg3 hzg4 hzg5 hzg6 hzg7 hzg8 hzg9 hg27 hg28 hg29 hg30 hg31 hg32 hzg44 hzg47 hzg48 hzg51 hzg56 hzg59 hzg62 hzg65 hg33 hzg70 hzF11 hzF12 hzF13 hzF15 hzF19 hzF21 hg34 hg35 hg36 hg37 hg38 hg39 hzF43 hzF45 hzF46 hzF50 hzF53 hzF54 hzLQ) (show (0 ≤ y75_4.toInt ∧ 0 ≤ (1 : Int32).toInt ∧ y75_4.toInt + (1 : Int32).toInt ≤ 2000) from by (first | omega | (simp only [id_eq] at *; omega))) (show 2000 ≤ 2500 from by (first | omega | (simp only [id_eq] at *; omega)))
                      obtain ⟨hg64, f65⟩ : (((0) ≤ c189_g66.toInt ∧ c189_g66.toInt ≤ 2500)) ∧ ((0 ≤ r189.toInt ∧ r189.toInt ≤ 1)) := hq189
                      refine wp_b3 hc189 ?_
                      clear hc189
                      exact Jj194 x85 r189 d75_g23 d75_g27 d75_g30 d75_g34 d75_g36 d75_g39 c189_g66 d75_F22 d75_F24 d75_F25 d75_F26 d75_F28 d75_F29 d75_F31 d75_F32 d75_F33 d75_F37 d75_F38 d75_F40 d75_F41 c189_F61 d75_F64 hg27 hg28 hg29 hg30 hg31 hg32 hg64 hg34 hg35 hg36 hg37 hg38 hg39 (show (y75_4.toInt < x85.toInt ∧ x85.toInt ≤ (g 1).toInt) from by (first | omega | (simp only [id_eq] at *; omega))) (show (0 ≤ r189.toInt ∧ r189.toInt ≤ 1) from by (first | omega | (simp only [id_eq] at *; omega)))
                    · have c138 := z_ne c138
                      refine wp_jn (fun k166 => ∀ (x166_5 : Int32), (y75_4.toInt + 1 ≤ x166_5.toInt ∧ x166_5.toInt ≤ (g 1).toInt) → wp (k166 x166_5) (Q_write g F p0 p1)) ?_ ?_
                      · intro x166_5 f66
                        show wp _ _
                        obtain ⟨⟨r173, c173_g23, c173_g27, c173_g30, c173_g34, c173_g36, c173_g39, c173_g66, c173_F22, c173_F24, c173_F25, c173_F26, c173_F28, c173_F29, c173_F31, c173_F32, c173_F33, c173_F37, c173_F38, c173_F40, c173_F41, c173_F61, c173_F64⟩, hc173, hq173⟩ := ok_writeWord (upd (upd (upd (upd (upd (upd (upd (upd g 1 0) 23 d75_g23) 27 d75_g27) 30 d75_g30) 34 d75_g34) 36 d75_g36) 39 d75_g39) 66 d75_g66) (upF (upF (upF (upF (upF (upF (upF (upF (upF (upF (upF (upF (upF (upF (upF F 22 d75_F22) 24 d75_F24) 25 d75_F25) 26 d75_F26) 28 d75_F28) 29 d75_F29) 31 d75_F31) 32 d75_F32) 33 d75_F33) 37 d75_F37) 38 d75_F38) 40 d75_F40) 41 d75_F41) 61 d75_F61) 64 d75_F64) y75_4 x166_5 p0 p1 (MInv_i hg1 hzg2 hzg3 hzg4 hzg5 hzg6 hzg7 hzg8 hzg9 hg27 hg28 hg29 hg30 hg31 hg32 hzg44 hzg47 hzg48 hzg51 hzg56 hzg59 hzg62 hzg65 hg33 hzg70 hzF11 hzF12 hzF13 hzF15 hzF19 hzF21 hg34 hg35 hg36 hg37 hg38 hg39 hzF43 hzF45 hzF46 hzF50 hzF53 hzF54 hzLQ) (show (0 ≤ y75_4.toInt ∧ y75_4.toInt ≤ x166_5.toInt ∧ x166_5.toInt ≤ 2000) from by (first | omega | (simp only [id_eq] at *; omega))) (show (0 ≤ p0.toInt ∧ p0.toInt ≤ 6) from by (first | omega | (simp only [id_eq] at *; omega))) (show p1.toInt ≤ (g 9).toInt from by (first | omega | (simp only [id_eq] at *; omega)))
                        obtain ⟨hg67, hg68, hg69, hg70, hg71, hg72, hg73, hg74, hg75, hg76, hg77, hg78, hg79, f80⟩ : (((0) ≤ c173_g23.toInt ∧ c173_g23.toInt ≤ 24)) ∧ (((0) ≤ c173_g27.toInt ∧ c173_g27.toInt ≤ 30)) ∧ (((0) ≤ c173_g30.toInt ∧ c173_g30.toInt ≤ 384)) ∧ (((0) ≤ c173_g34.toInt ∧ c173_g34.toInt ≤ 30)) ∧ (((0) ≤ c173_g36.toInt ∧ c173_g36.toInt ≤ 1)) ∧ (((0) ≤ c173_g39.toInt ∧ c173_g39.toInt ≤ 12)) ∧ (((0) ≤ c173_g66.toInt ∧ c173_g66.toInt ≤ 2500)) ∧ (rng (0) 24 c173_F24) ∧ (rng (0) 24 c173_F25) ∧ (rng (0) 24 c173_F26) ∧ (rng (0) 24 c173_F33) ∧ (rng (0) 24 c173_F38) ∧ (rng (0) 24 c173_F41) ∧ ((0 ≤ r173.toInt ∧ r173.toInt ≤ 1)) := hq173
                        refine wp_b23 hc173 ?_
                        clear hc173
                        exact Jj194 x166_5 r173 c173_g23 c173_g27 c173_g30 c173_g34 c173_g36 c173_g39 c173_g66 c173_F22 c173_F24 c173_F25 c173_F26 c173_F28 c173_F29 c173_F31 c173_F32 c173_F33 c173_F37 c173_F38 c173_F40 c173_F41 c173_F61 c173_F64 hg67 hg68 hg69 hg70 hg71 hg72 hg73 hg74 hg75 hg76 hg77 hg78 hg79 (show (y75_4.toInt < x166_5.toInt ∧ x166_5.toInt ≤ (g 1).toInt) from by (first | omega | (simp only [id_eq] at *; omega))) (show (0 ≤ r173.toInt ∧ r173.toInt ≤ 1) from by (first | omega | (simp only [id_eq] at *; omega)))
                      intro k166 Jk166
                      have lp141 : ∀ (n141 : Nat) (y141_5 : Int32), (2000 - y141_5.toInt).toNat < n141 → (y75_4.toInt + 1 ≤ y141_5.toInt ∧ y141_5.toInt ≤ (g 1).toInt) → wp (L_write_141 g F k166 n141 y141_5) (Q_write g F p0 p1) := by
                        intro n141
                        induction n141 with
                        | zero => intro y141_5 hm; exact absurd hm (Nat.not_lt_zero _)
                        | succ n141 ih141 =>
                          intro y141_5 hm141 f81
                          show wp (B_write_141 g F k166 (L_write_141 g F k166 n141) y141_5) _
                          unfold B_write_141
                          refine wp_ite (fun c144 => ?_) (fun c144 => ?_)
                          · have c144 := (z_le _ _).mp c144
                            exact Jk166 y141_5 (show (y75_4.toInt + 1 ≤ y141_5.toInt ∧ y141_5.toInt ≤ (g 1).toInt) from by (first | omega | (simp only [id_eq] at *; omega)))
                          · have c144 := z_nle c144
                            refine wp_if ⟨by (first | omega | (simp only [id_eq] at *; omega)), by (first | omega | (simp only [id_eq] at *; omega))⟩ ?_
                            obtain ⟨r154, hc154, hq154⟩ := ok_isLetter ((F 0) (Int32.toNatClampNeg y141_5)) 
                            obtain ⟨f82, f83⟩ : (id (r154.toInt = 1 → 65 ≤ ((F 0) (Int32.toNatClampNeg y141_5)).toInt)) ∧ ((0 ≤ r154.toInt ∧ r154.toInt ≤ 1)) := hq154
                            refine wp_b1 hc154 ?_
                            clear hc154
                            refine wp_ite (fun c157 => ?_) (fun c157 => ?_)
                            · have c157 := congrArg Int32.toInt c157
                              exact Jk166 y141_5 (show (y75_4.toInt + 1 ≤ y141_5.toInt ∧ y141_5.toInt ≤ (g 1).toInt) from by (first | omega | (simp only [id_eq] at *; omega)))
                            · have c157 := z_ne c157
                              have f84 : (y141_5 + 1).toInt = y141_5.toInt + (1) := z_addc (by decide +kernel) (by (first | omega | (simp only [id_eq] at *; omega))) (by (first | omega | (simp only [id_eq] at *; omega)))
                              exact ih141 (y141_5 + 1) (show (2000 - (y141_5 + 1).toInt).toNat < n141 from by (first | omega | (simp only [id_eq] at *; omega))) (show (y75_4.toInt + 1 ≤ (y141_5 + 1).toInt ∧ (y141_5 + 1).toInt ≤ (g 1).toInt) from by (first | omega | (simp only [id_eq] at *; omega)))
                      exact lp141 NN x85 (by have := NN_eq; (first | omega | (simp only [id_eq] at *; omega))) (show (y75_4.toInt + 1 ≤ x85.toInt ∧ x85.toInt ≤ (g 1).toInt) from by (first | omega | (simp only [id_eq] at *; omega)))
            exact lp75 NN (0 : Int32) (g 23) (g 27) (g 30) (g 34) (g 36) (g 39) (0 : Int32) (F 22) (F 24) (F 25) (F 26) (F 28) (F 29) (F 31) (F 32) (F 33) (F 37) (F 38) (F 40) (F 41) (F 61) c72_F64 (by have := NN_eq; (first | omega | (simp only [id_eq] at *; omega))) hzg23 hzg27 hzg30 hzg34 hzg36 hzg39 hg7 hzF24 hzF25 hzF26 hzF33 hzF38 hzF41 (show (0 ≤ (0 : Int32).toInt ∧ (0 : Int32).toInt ≤ (g 1).toInt) from by (first | omega | (simp only [id_eq] at *; omega)))
          intro k72 Jk72
          have lp52 : ∀ (n52 : Nat) (y52_4 : Int32) (d52_F64 : (Nat → Int32)), (5 - y52_4.toInt).toNat < n52 → (0 ≤ y52_4.toInt ∧ y52_4.toInt ≤ 5) → wp (L_write_52 k72 n52 y52_4 d52_F64) (Q_write g F p0 p1) := by
            intro n52
            induction n52 with
            | zero => intro y52_4 d52_F64 hm; exact absurd hm (Nat.not_lt_zero _)
            | succ n52 ih52 =>
              intro y52_4 d52_F64 hm52 f85
              show wp (B_write_52 k72 (L_write_52 k72 n52) y52_4 d52_F64) _
              unfold B_write_52
              refine wp_ite (fun c55 => ?_) (fun c55 => ?_)
              · have c55 := (z_le _ _).mp c55
                exact Jk72 d52_F64
              · have c55 := z_nle c55
                refine wp_if ⟨by (first | omega | (simp only [id_eq] at *; omega)), by (first | omega | (simp only [id_eq] at *; omega))⟩ ?_
                refine wp_vl (fun w65 ew65 => ?_)
                clear ew65
                have f86 : (y52_4 + 1).toInt = y52_4.toInt + (1) := z_addc (by decide +kernel) (by (first | omega | (simp only [id_eq] at *; omega))) (by (first | omega | (simp only [id_eq] at *; omega)))
                exact ih52 (y52_4 + 1) w65 (show (5 - (y52_4 + 1).toInt).toNat < n52 from by (first | omega | (simp only [id_eq] at *; omega))) (show (0 ≤ (y52_4 + 1).toInt ∧ (y52_4 + 1).toInt ≤ 5) from by (first | omega | (simp only [id_eq] at *; omega)))
          exact lp52 NN (0 : Int32) (F 64) (by have := NN_eq; (first | omega | (simp only [id_eq] at *; omega))) (show (0 ≤ (0 : Int32).toInt ∧ (0 : Int32).toInt ≤ 5) from by (first | omega | (simp only [id_eq] at *; omega)))
        · have c39 := z_ne c39
          exact ⟨_, rfl, ⟨hg1, hzg23, hzg27, hzg30, hzg34, hzg36, hzg39, hzg62, hzg65, hzg66, hzF24, hzF25, hzF26, hzF33, hzF38, hzF41, (show (0 : Int32).toInt = 0 from by (first | omega | (simp only [id_eq] at *; omega)))⟩⟩
      · have c28 := z_nle c28
        exact Jj31
