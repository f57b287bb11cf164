abbrev Q_mixed (g : Nat → Int32) (F : Nat → Nat → Int32) (p0 : Int32) : (Int32 × Int32 × Int32 × Int32 × Int32 × Int32 × Int32 × Int32 × Int32 × Int32 × (Nat → Int32) × (Nat → Int32) × (Nat → Int32) × (Nat → Int32) × (Nat → Int32) × (Nat → Int32) × (Nat → Int32) × (Nat → Int32) × (Nat → Int32) × (Nat → Int32) × (Nat → Int32) × (Nat → Int32) × (Nat → Int32) × (Nat → Int32) × (Nat → Int32) × (Nat → Int32) × (Nat → Int32) × (Nat → Int32) × (Nat → Int32)) → Prop := (fun t => (((0) ≤ (t.2.1).toInt ∧ (t.2.1).toInt ≤ 2000)) ∧ (((0) ≤ (t.2.2.1).toInt ∧ (t.2.2.1).toInt ≤ 24)) ∧ (((0) ≤ (t.2.2.2.1).toInt ∧ (t.2.2.2.1).toInt ≤ 30)) ∧ (((0) ≤ (t.2.2.2.2.1).toInt ∧ (t.2.2.2.2.1).toInt ≤ 384)) ∧ (((0) ≤ (t.2.2.2.2.2.1).toInt ∧ (t.2.2.2.2.2.1).toInt ≤ 30)) ∧ (((0) ≤ (t.2.2.2.2.2.2.1).toInt ∧ (t.2.2.2.2.2.2.1).toInt ≤ 1)) ∧ (((0) ≤ (t.2.2.2.2.2.2.2.1).toInt ∧ (t.2.2.2.2.2.2.2.1).toInt ≤ 12)) ∧ (((0) ≤ (t.2.2.2.2.2.2.2.2.1).toInt ∧ (t.2.2.2.2.2.2.2.2.1).toInt ≤ 1)) ∧ (((0) ≤ (t.2.2.2.2.2.2.2.2.2.1).toInt ∧ (t.2.2.2.2.2.2.2.2.2.1).toInt ≤ 40)) ∧ (rng (0) 24 (t.2.2.2.2.2.2.2.2.2.2.2.1)) ∧ (rng (0) 24 (t.2.2.2.2.2.2.2.2.2.2.2.2.1)) ∧ (rng (0) 24 (t.2.2.2.2.2.2.2.2.2.2.2.2.2.1)) ∧ (rng (0) 24 (t.2.2.2.2.2.2.2.2.2.2.2.2.2.2.2.2.2.2.1)) ∧ (rng (0) 24 (t.2.2.2.2.2.2.2.2.2.2.2.2.2.2.2.2.2.2.2.2.1)) ∧ (rng (0) 24 (t.2.2.2.2.2.2.2.2.2.2.2.2.2.2.2.2.2.2.2.2.2.2.1)) ∧ (rng (0) 24 (t.2.2.2.2.2.2.2.2.2.2.2.2.2.2.2.2.2.2.2.2.2.2.2.2.1)) ∧ (rng (0) 12 (t.2.2.2.2.2.2.2.2.2.2.2.2.2.2.2.2.2.2.2.2.2.2.2.2.2.1)) ∧ ((t.2.1).toInt = 0))
set_option maxHeartbeats 4000000 in
set_option maxRecDepth 100000 in
theorem ok_mixed (g : Nat → Int32) (F : Nat → Nat → Int32) (p0 : Int32) (hI : MInv g F) : wp (f_mixed g F p0) (Q_mixed g F p0) := by
  unfold f_mixed
  refine MInv_e hI (fun hzg1 (hzg2 : id _) (hzg3 : id _) (hzg4 : id _) (hzg5 : id _) (hzg6 : id _) (hzg7 : id _) (hzg8 : id _) hzg9 hzg23 hzg27 hzg30 hzg34 hzg36 hzg39 (hzg44 : id _) (hzg47 : id _) (hzg48 : id _) hzg51 (hzg56 : id _) (hzg59 : id _) (hzg62 : id _) (hzg65 : id _) (hzg66 : id _) hzg70 hzF11 hzF12 hzF13 hzF15 hzF19 hzF21 hzF24 hzF25 hzF26 hzF33 hzF38 hzF41 hzF43 hzF45 hzF46 hzF50 hzF53 hzF54 hzLQ => ?_)
  clear hI
  have zkm2 : (-2 : Int32).toInt = -2 := by decide +kernel
  have zkm1 : (-1 : Int32).toInt = -1 := by decide +kernel
  have zk0 : (0 : Int32).toInt = 0 := by decide +kernel
  have zk1 : (1 : Int32).toInt = 1 := by decide +kernel
  have zk7 : (7 : Int32).toInt = 7 := by decide +kernel
  have zk10 : (10 : Int32).toInt = 10 := by decide +kernel
  have zk34 : (34 : Int32).toInt = 34 := by decide +kernel
  have zk40 : (40 : Int32).toInt = 40 := by decide +kernel
  have zk50 : (50 : Int32).toInt = 50 := by decide +kernel
  have zk280 : (280 : Int32).toInt = 280 := by decide +kernel
  have hg1 : ((0) ≤ (0 : Int32).toInt ∧ (0 : Int32).toInt ≤ 2000) := ⟨by (first | omega | (simp only [id_eq] at *; omega)), by (first | omega | (simp only [id_eq] at *; omega))⟩
  obtain ⟨r14, hc14, hq14⟩ := ok_in p0 0 50 
  obtain ⟨f2, f3, f4⟩ : (id (r14.toInt = 1 → (0 : Int32).toInt ≤ p0.toInt ∧ p0.toInt ≤ (50 : Int32).toInt)) ∧ (id (r14.toInt = 0 → p0.toInt < (0 : Int32).toInt ∨ (50 : Int32).toInt < p0.toInt)) ∧ ((0 ≤ r14.toInt ∧ r14.toInt ≤ 1)) := hq14
  refine wp_b1 hc14 ?_
  clear hc14
  refine wp_ite (fun c17 => ?_) (fun c17 => ?_)
  · have c17 := congrArg Int32.toInt c17
    exact ⟨_, rfl, ⟨hg1, hzg23, hzg27, hzg30, hzg34, hzg36, hzg39, hzg51, hzg70, hzF24, hzF25, hzF26, hzF33, hzF38, hzF41, hzF53, hzF54, (show (0 : Int32).toInt = 0 from by (first | omega | (simp only [id_eq] at *; omega)))⟩⟩
  · have c17 := z_ne c17
    obtain ⟨r25, hc25, hq25⟩ := ok_hasNought (upd g 1 0) F (g 1) (MInv_i hg1 hzg2 hzg3 hzg4 hzg5 hzg6 hzg7 hzg8 hzg9 hzg23 hzg27 hzg30 hzg34 hzg36 hzg39 hzg44 hzg47 hzg48 hzg51 hzg56 hzg59 hzg62 hzg65 hzg66 hzg70 hzF11 hzF12 hzF13 hzF15 hzF19 hzF21 hzF24 hzF25 hzF26 hzF33 hzF38 hzF41 hzF43 hzF45 hzF46 hzF50 hzF53 hzF54 hzLQ) (show (g 1).toInt ≤ 2000 from by (first | omega | (simp only [id_eq] at *; omega)))
    have f5 : (0 ≤ r25.toInt ∧ r25.toInt ≤ 1) := hq25
    refine wp_b1 hc25 ?_
    clear hc25
    refine wp_ite (fun c28 => ?_) (fun c28 => ?_)
    · have c28 := congrArg Int32.toInt c28
      refine wp_jn (fun k70 => ∀ (x70_3 : Int32), x70_3.toInt = 1 + c10 (F 0) (g 1).toInt.toNat → wp (k70 x70_3) (Q_mixed g F p0)) ?_ ?_
      · intro x70_3 f6
        show wp _ _
        have hcbn := c10_b (F 0) (g 1).toInt.toNat
        refine wp_ite (fun c73 => ?_) (fun c73 => ?_)
        · have c73 := (z_le _ _).mp c73
          obtain ⟨⟨c79_g23, c79_g27, c79_g30, c79_g34, c79_g36, c79_g39, c79_g51, c79_F22, c79_F24, c79_F25, c79_F26, c79_F28, c79_F29, c79_F31, c79_F32, c79_F33, c79_F37, c79_F38, c79_F40, c79_F41, c79_F52, c79_F53, c79_F54⟩, hc79, hq79⟩ := ok_make (upd g 1 0) F (MInv_i hg1 hzg2 hzg3 hzg4 hzg5 hzg6 hzg7 hzg8 hzg9 hzg23 hzg27 hzg30 hzg34 hzg36 hzg39 hzg44 hzg47 hzg48 hzg51 hzg56 hzg59 hzg62 hzg65 hzg66 hzg70 hzF11 hzF12 hzF13 hzF15 hzF19 hzF21 hzF24 hzF25 hzF26 hzF33 hzF38 hzF41 hzF43 hzF45 hzF46 hzF50 hzF53 hzF54 hzLQ)
          obtain ⟨hg7, hg8, hg9, hg10, hg11, hg12, hg13, hg14, hg15, hg16, hg17, hg18, hg19, hg20, hg21⟩ : (((0) ≤ c79_g23.toInt ∧ c79_g23.toInt ≤ 24)) ∧ (((0) ≤ c79_g27.toInt ∧ c79_g27.toInt ≤ 30)) ∧ (((0) ≤ c79_g30.toInt ∧ c79_g30.toInt ≤ 384)) ∧ (((0) ≤ c79_g34.toInt ∧ c79_g34.toInt ≤ 30)) ∧ (((0) ≤ c79_g36.toInt ∧ c79_g36.toInt ≤ 1)) ∧ (((0) ≤ c79_g39.toInt ∧ c79_g39.toInt ≤ 12)) ∧ (((0) ≤ c79_g51.toInt ∧ c79_g51.toInt ≤ 1)) ∧ (rng (0) 24 c79_F24) ∧ (rng (0) 24 c79_F25) ∧ (rng (0) 24 c79_F26) ∧ (rng (0) 24 c79_F33) ∧ (rng (0) 24 c79_F38) ∧ (rng (0) 24 c79_F41) ∧ (rng (0) 24 c79_F53) ∧ (rng (0) 12 c79_F54) := hq79
          refine wp_b23 hc79 ?_
          clear hc79
          refine wp_jn (fun k107 => ∀ (c107_F67 : (Nat → Int32)), wp (k107 c107_F67) (Q_mixed g F p0)) ?_ ?_
          · intro c107_F67
            show wp _ _
            refine wp_jn (fun k314 => ∀ (c314_F67 : (Nat → Int32)), wp (k314 c314_F67) (Q_mixed g F p0)) ?_ ?_
            · intro c314_F67
              show wp _ _
              refine wp_jn (fun k345 => ∀ (c345_F68 : (Nat → Int32)), wp (k345 c345_F68) (Q_mixed g F p0)) ?_ ?_
              · intro c345_F68
                show wp _ _
                have f22 : (x70_3 - 1).toInt = x70_3.toInt - 1 := z_subc (by decide +kernel) (by (first | omega | (simp only [id_eq] at *; omega))) (by (first | omega | (simp only [id_eq] at *; omega)))
                refine wp_vl (fun x348 ex348 => ?_)
                have f23 : x348.toInt = (x70_3 - 1).toInt := congrArg Int32.toInt ex348
                clear ex348
                refine wp_jn (fun k429 => ∀ (c429_F68 : (Nat → Int32)), wp (k429 c429_F68) (Q_mixed g F p0)) ?_ ?_
                · intro c429_F68
                  show wp _ _
                  have hg24 : ((0) ≤ x70_3.toInt ∧ x70_3.toInt ≤ 40) := ⟨by (first | omega | (simp only [id_eq] at *; omega)), by (first | omega | (simp only [id_eq] at *; omega))⟩
                  obtain ⟨r438, hc438, hq438⟩ := ok_onward (upd (upd (upd (upd (upd (upd (upd (upd (upd g 1 0) 23 c79_g23) 27 c79_g27) 30 c79_g30) 34 c79_g34) 36 c79_g36) 39 c79_g39) 51 c79_g51) 70 x70_3) (upF (upF (upF (upF (upF (upF (upF (upF (upF (upF (upF (upF (upF (upF (upF (upF (upF (upF F 22 c79_F22) 24 c79_F24) 25 c79_F25) 26 c79_F26) 28 c79_F28) 29 c79_F29) 31 c79_F31) 32 c79_F32) 33 c79_F33) 37 c79_F37) 38 c79_F38) 40 c79_F40) 41 c79_F41) 52 c79_F52) 53 c79_F53) 54 c79_F54) 67 c314_F67) 68 c429_F68) 0 (-1) p0 (MInv_i hg1 hzg2 hzg3 hzg4 hzg5 hzg6 hzg7 hzg8 hzg9 hg7 hg8 hg9 hg10 hg11 hg12 hzg44 hzg47 hzg48 hg13 hzg56 hzg59 hzg62 hzg65 hzg66 hg24 hzF11 hzF12 hzF13 hzF15 hzF19 hzF21 hg14 hg15 hg16 hg17 hg18 hg19 hzF43 hzF45 hzF46 hzF50 hg20 hg21 hzLQ) (show (0 ≤ (0 : Int32).toInt ∧ (0 : Int32).toInt ≤ 40) from by (first | omega | (simp only [id_eq] at *; omega)))
                  have f25 : owJ c429_F68 (0 : Int32) (-1 : Int32) p0 (g 9) r438 := hq438
                  refine wp_b1 hc438 ?_
                  clear hc438
                  have lp449 : ∀ (n449 : Nat) (y449_7 : Int32) (y449_8 : Int32) (d449_F69 : (Nat → Int32)), (40 - y449_8.toInt).toNat < n449 → (0 ≤ y449_8.toInt ∧ y449_8.toInt ≤ 40) → ((-1) ≤ y449_7.toInt ∧ y449_7.toInt ≤ 6) → wp (L_mixed_449 g F p0 x70_3 c79_g23 c79_g27 c79_g30 c79_g34 c79_g36 c79_g39 c79_g51 c79_F22 c79_F24 c79_F25 c79_F26 c79_F28 c79_F29 c79_F31 c79_F32 c79_F33 c79_F37 c79_F38 c79_F40 c79_F41 c79_F52 c79_F53 c79_F54 c314_F67 c429_F68 r438 n449 y449_7 y449_8 d449_F69) (Q_mixed g F p0) := by
                    intro n449
                    induction n449 with
                    | zero => intro y449_7 y449_8 d449_F69 hm; exact absurd hm (Nat.not_lt_zero _)
                    | succ n449 ih449 =>
                      intro y449_7 y449_8 d449_F69 hm449 f26 f27
                      show wp (B_mixed_449 g F p0 x70_3 c79_g23 c79_g27 c79_g30 c79_g34 c79_g36 c79_g39 c79_g51 c79_F22 c79_F24 c79_F25 c79_F26 c79_F28 c79_F29 c79_F31 c79_F32 c79_F33 c79_F37 c79_F38 c79_F40 c79_F41 c79_F52 c79_F53 c79_F54 c314_F67 c429_F68 r438 (L_mixed_449 g F p0 x70_3 c79_g23 c79_g27 c79_g30 c79_g34 c79_g36 c79_g39 c79_g51 c79_F22 c79_F24 c79_F25 c79_F26 c79_F28 c79_F29 c79_F31 c79_F32 c79_F33 c79_F37 c79_F38 c79_F40 c79_F41 c79_F52 c79_F53 c79_F54 c314_F67 c429_F68 r438 n449) y449_7 y449_8 d449_F69) _
                      unfold B_mixed_449
                      refine wp_ite (fun c452 => ?_) (fun c452 => ?_)
                      · have c452 := (z_le _ _).mp c452
                        exact ⟨_, rfl, ⟨hg1, hg7, hg8, hg9, hg10, hg11, hg12, hg13, hg24, hg14, hg15, hg16, hg17, hg18, hg19, hg20, hg21, (show (0 : Int32).toInt = 0 from by (first | omega | (simp only [id_eq] at *; omega)))⟩⟩
                      · have c452 := z_nle c452
                        obtain ⟨r461, hc461, hq461⟩ := ok_onward (upd (upd (upd (upd (upd (upd (upd (upd (upd g 1 0) 23 c79_g23) 27 c79_g27) 30 c79_g30) 34 c79_g34) 36 c79_g36) 39 c79_g39) 51 c79_g51) 70 x70_3) (upF (upF (upF (upF (upF (upF (upF (upF (upF (upF (upF (upF (upF (upF (upF (upF (upF (upF (upF F 22 c79_F22) 24 c79_F24) 25 c79_F25) 26 c79_F26) 28 c79_F28) 29 c79_F29) 31 c79_F31) 32 c79_F32) 33 c79_F33) 37 c79_F37) 38 c79_F38) 40 c79_F40) 41 c79_F41) 52 c79_F52) 53 c79_F53) 54 c79_F54) 67 c314_F67) 68 c429_F68) 69 d449_F69) y449_8 y449_7 p0 (MInv_i hg1 hzg2 hzg3 hzg4 hzg5 hzg6 hzg7 hzg8 hzg9 hg7 hg8 hg9 hg10 hg11 hg12 hzg44 hzg47 hzg48 hg13 hzg56 hzg59 hzg62 hzg65 hzg66 hg24 hzF11 hzF12 hzF13 hzF15 hzF19 hzF21 hg14 hg15 hg16 hg17 hg18 hg19 hzF43 hzF45 hzF46 hzF50 hg20 hg21 hzLQ) (show (0 ≤ y449_8.toInt ∧ y449_8.toInt ≤ 40) from by (first | omega | (simp only [id_eq] at *; omega)))
                        have f28 : owJ c429_F68 y449_8 y449_7 p0 (g 9) r461 := hq461
                        refine wp_b1 hc461 ?_
                        clear hc461
                        refine wp_jn (fun k512 => ∀ (x512_10 : Int32), (0 ≤ x512_10.toInt ∧ x512_10.toInt ≤ 6) → wp (k512 x512_10) (Q_mixed g F p0)) ?_ ?_
                        · intro x512_10 f29
                          show wp _ _
                          refine wp_if ⟨by (first | omega | (simp only [id_eq] at *; omega)), by (first | omega | (simp only [id_eq] at *; omega))⟩ ?_
                          refine wp_vl (fun w520 ew520 => ?_)
                          clear ew520
                          have f30 : (y449_8 + 1).toInt = y449_8.toInt + (1) := z_addc (by decide +kernel) (by (first | omega | (simp only [id_eq] at *; omega))) (by (first | omega | (simp only [id_eq] at *; omega)))
                          exact ih449 x512_10 (y449_8 + 1) w520 (show (40 - (y449_8 + 1).toInt).toNat < n449 from by (first | omega | (simp only [id_eq] at *; omega))) (show (0 ≤ (y449_8 + 1).toInt ∧ (y449_8 + 1).toInt ≤ 40) from by (first | omega | (simp only [id_eq] at *; omega))) (show ((-1) ≤ x512_10.toInt ∧ x512_10.toInt ≤ 6) from by (first | omega | (simp only [id_eq] at *; omega)))
                        intro k512 Jk512
                        have lp469 : ∀ (n469 : Nat) (y469_10 : Int32), (7 - y469_10.toInt).toNat < n469 → (0 ≤ y469_10.toInt ∧ y469_10.toInt ≤ 7) → owW c429_F68 y449_8 y449_7 p0 y469_10 (g 9) r461 → wp (L_mixed_469 p0 c429_F68 y449_7 y449_8 r461 k512 n469 y469_10) (Q_mixed g F p0) := by
                          intro n469
                          induction n469 with
                          | zero => intro y469_10 hm; exact absurd hm (Nat.not_lt_zero _)
                          | succ n469 ih469 =>
                            intro y469_10 hm469 f31 f32
                            show wp (B_mixed_469 p0 c429_F68 y449_7 y449_8 r461 k512 (L_mixed_469 p0 c429_F68 y449_7 y449_8 r461 k512 n469) y469_10) _
                            unfold B_mixed_469
                            have how : owW c429_F68 y449_8 y449_7 p0 y469_10 (g 9) r461 := by assumption
                            have hob := ow_b how
                            have f33 : (7 * y449_8).toInt = 7 * y449_8.toInt := z_muld (by decide +kernel) (by (first | omega | (simp only [id_eq] at *; omega))) (by (first | omega | (simp only [id_eq] at *; omega)))
                            have f34 : ((7 * y449_8) + y469_10).toInt = (7 * y449_8).toInt + y469_10.toInt := z_add (by (first | omega | (simp only [id_eq] at *; omega))) (by (first | omega | (simp only [id_eq] at *; omega)))
                            refine wp_if ⟨by (first | omega | (simp only [id_eq] at *; omega)), by (first | omega | (simp only [id_eq] at *; omega))⟩ ?_
                            refine wp_jn (fun j500 => ∀ (t500_0 : Int32), (y449_7.toInt = -1 ∨ y449_7.toInt = y469_10.toInt → t500_0 = 0) → (¬ (y449_7.toInt = -1 ∨ y449_7.toInt = y469_10.toInt) → t500_0 = p0) → wp (j500 t500_0) (Q_mixed g F p0)) ?_ ?_
                            · intro t500_0 f35 f36
                              show wp _ _
                              refine wp_ite (fun c503 => ?_) (fun c503 => ?_)
                              · have c503 := congrArg Int32.toInt c503
                                exact Jk512 y469_10 (show (0 ≤ y469_10.toInt ∧ y469_10.toInt ≤ 6) from by (first | omega | (simp only [id_eq] at *; omega)))
                              · have c503 := z_ne c503
                                have hup := ow_up (s1 := y469_10 + 1) how c503 (by (first | omega | (simp only [id_eq] at *; omega))) (by (first | omega | (simp only [id_eq] at *; omega))) (by (first | omega | (simp only [id_eq] at *; omega))) (by assumption) (by assumption) (z_addc (by decide +kernel) (by (first | omega | (simp only [id_eq] at *; omega))) (by (first | omega | (simp only [id_eq] at *; omega))))
                                have f37 : (y469_10 + 1).toInt = y469_10.toInt + (1) := z_addc (by decide +kernel) (by (first | omega | (simp only [id_eq] at *; omega))) (by (first | omega | (simp only [id_eq] at *; omega)))
                                exact ih469 (y469_10 + 1) (show (7 - (y469_10 + 1).toInt).toNat < n469 from by (first | omega | (simp only [id_eq] at *; omega))) (show (0 ≤ (y469_10 + 1).toInt ∧ (y469_10 + 1).toInt ≤ 7) from by first | (first | omega | (simp only [id_eq] at *; omega)) | exact hup) (show owW c429_F68 y449_8 y449_7 p0 (y469_10 + 1) (g 9) r461 from by first | (first | omega | (simp only [id_eq] at *; omega)) | exact hup)
                            intro j500 Jj500
                            refine wp_jn (fun j495 => (y449_7.toInt = -1 ∨ y449_7.toInt = y469_10.toInt) → wp (j495 ()) (Q_mixed g F p0)) ?_ ?_
                            · intro f38
                              show wp _ _
                              exact Jj500 (0 : Int32) (show (y449_7.toInt = -1 ∨ y449_7.toInt = y469_10.toInt → (0 : Int32) = 0) from by first | exact (fun _ => rfl) | exact (fun h => absurd h (by (first | omega | (simp only [id_eq] at *; omega))))) (show (¬ (y449_7.toInt = -1 ∨ y449_7.toInt = y469_10.toInt) → (0 : Int32) = p0) from by first | exact (fun _ => rfl) | exact (fun h => absurd h (by (first | omega | (simp only [id_eq] at *; omega)))))
                            intro j495 Jj495
                            refine wp_ite (fun c485 => ?_) (fun c485 => ?_)
                            · have c485 := congrArg Int32.toInt c485
                              exact Jj495 (show (y449_7.toInt = -1 ∨ y449_7.toInt = y469_10.toInt) from by (first | omega | (simp only [id_eq] at *; omega)))
                            · have c485 := z_ne c485
                              refine wp_ite (fun c492 => ?_) (fun c492 => ?_)
                              · have c492 := congrArg Int32.toInt c492
                                exact Jj495 (show (y449_7.toInt = -1 ∨ y449_7.toInt = y469_10.toInt) from by (first | omega | (simp only [id_eq] at *; omega)))
                              · have c492 := z_ne c492
                                exact Jj500 p0 (show (y449_7.toInt = -1 ∨ y449_7.toInt = y469_10.toInt → p0 = 0) from by first | exact (fun _ => rfl) | exact (fun h => absurd h (by (first | omega | (simp only [id_eq] at *; omega))))) (show (¬ (y449_7.toInt = -1 ∨ y449_7.toInt = y469_10.toInt) → p0 = p0) from by first | exact (fun _ => rfl) | exact (fun h => absurd h (by (first | omega | (simp only [id_eq] at *; omega)))))
                        exact lp469 NN (0 : Int32) (by have := NN_eq; (first | omega | (simp only [id_eq] at *; omega))) (show (0 ≤ (0 : Int32).toInt ∧ (0 : Int32).toInt ≤ 7) from by first | (first | omega | (simp only [id_eq] at *; omega)) | exact ow_0 (by assumption) (by (first | omega | (simp only [id_eq] at *; omega)))) (show owW c429_F68 y449_8 y449_7 p0 (0 : Int32) (g 9) r461 from by first | (first | omega | (simp only [id_eq] at *; omega)) | exact ow_0 (by assumption) (by (first | omega | (simp only [id_eq] at *; omega))))
                  exact lp449 NN (-1 : Int32) (0 : Int32) (F 69) (by have := NN_eq; (first | omega | (simp only [id_eq] at *; omega))) (show (0 ≤ (0 : Int32).toInt ∧ (0 : Int32).toInt ≤ 40) from by (first | omega | (simp only [id_eq] at *; omega))) (show ((-1) ≤ (-1 : Int32).toInt ∧ (-1 : Int32).toInt ≤ 6) from by (first | omega | (simp only [id_eq] at *; omega)))
                intro k429 Jk429
                have lp350 : ∀ (n350 : Nat) (y350_6 : Int32) (d350_F68 : (Nat → Int32)), (y350_6.toInt + 1).toNat < n350 → ((-1) ≤ y350_6.toInt ∧ y350_6.toInt < 40) → wp (L_mixed_350 g F p0 x70_3 c79_g23 c79_g27 c79_g30 c79_g34 c79_g36 c79_g39 c79_g51 c79_F22 c79_F24 c79_F25 c79_F26 c79_F28 c79_F29 c79_F31 c79_F32 c79_F33 c79_F37 c79_F38 c79_F40 c79_F41 c79_F52 c79_F53 c79_F54 c314_F67 k429 n350 y350_6 d350_F68) (Q_mixed g F p0) := by
                  intro n350
                  induction n350 with
                  | zero => intro y350_6 d350_F68 hm; exact absurd hm (Nat.not_lt_zero _)
                  | succ n350 ih350 =>
                    intro y350_6 d350_F68 hm350 f39
                    show wp (B_mixed_350 g F p0 x70_3 c79_g23 c79_g27 c79_g30 c79_g34 c79_g36 c79_g39 c79_g51 c79_F22 c79_F24 c79_F25 c79_F26 c79_F28 c79_F29 c79_F31 c79_F32 c79_F33 c79_F37 c79_F38 c79_F40 c79_F41 c79_F52 c79_F53 c79_F54 c314_F67 k429 (L_mixed_350 g F p0 x70_3 c79_g23 c79_g27 c79_g30 c79_g34 c79_g36 c79_g39 c79_g51 c79_F22 c79_F24 c79_F25 c79_F26 c79_F28 c79_F29 c79_F31 c79_F32 c79_F33 c79_F37 c79_F38 c79_F40 c79_F41 c79_F52 c79_F53 c79_F54 c314_F67 k429 n350) y350_6 d350_F68) _
                    unfold B_mixed_350
                    refine wp_ite (fun c352 => ?_) (fun c352 => ?_)
                    · have c352 := (z_lt _ _).mp c352
                      exact Jk429 d350_F68
                    · have c352 := z_nlt c352
                      refine wp_jn (fun k423 => ∀ (c423_F68 : (Nat → Int32)), wp (k423 c423_F68) (Q_mixed g F p0)) ?_ ?_
                      · intro c423_F68
                        show wp _ _
                        have f40 : (y350_6 + (-1)).toInt = y350_6.toInt + (-1) := z_addc (by decide +kernel) (by (first | omega | (simp only [id_eq] at *; omega))) (by (first | omega | (simp only [id_eq] at *; omega)))
                        obtain ⟨z41, ez41⟩ : ∃ z : Int32, z = (y350_6 + (-1)) := ⟨_, rfl⟩
                        have fz41 : z41.toInt = y350_6.toInt + (-1) := by rw [ez41]; exact f40
                        rw [← ez41]
                        clear f40 ez41
                        exact ih350 z41 c423_F68 (show (z41.toInt + 1).toNat < n350 from by (first | omega | (simp only [id_eq] at *; omega))) (show ((-1) ≤ z41.toInt ∧ z41.toInt < 40) from by (first | omega | (simp only [id_eq] at *; omega)))
                      intro k423 Jk423
                      have lp358 : ∀ (n358 : Nat) (y358_7 : Int32) (d358_F68 : (Nat → Int32)), (7 - y358_7.toInt).toNat < n358 → (0 ≤ y358_7.toInt ∧ y358_7.toInt ≤ 7) → wp (L_mixed_358 g F p0 x70_3 c79_g23 c79_g27 c79_g30 c79_g34 c79_g36 c79_g39 c79_g51 c79_F22 c79_F24 c79_F25 c79_F26 c79_F28 c79_F29 c79_F31 c79_F32 c79_F33 c79_F37 c79_F38 c79_F40 c79_F41 c79_F52 c79_F53 c79_F54 c314_F67 y350_6 k423 n358 y358_7 d358_F68) (Q_mixed g F p0) := by
                        intro n358
                        induction n358 with
                        | zero => intro y358_7 d358_F68 hm; exact absurd hm (Nat.not_lt_zero _)
                        | succ n358 ih358 =>
                          intro y358_7 d358_F68 hm358 f42
                          show wp (B_mixed_358 g F p0 x70_3 c79_g23 c79_g27 c79_g30 c79_g34 c79_g36 c79_g39 c79_g51 c79_F22 c79_F24 c79_F25 c79_F26 c79_F28 c79_F29 c79_F31 c79_F32 c79_F33 c79_F37 c79_F38 c79_F40 c79_F41 c79_F52 c79_F53 c79_F54 c314_F67 y350_6 k423 (L_mixed_358 g F p0 x70_3 c79_g23 c79_g27 c79_g30 c79_g34 c79_g36 c79_g39 c79_g51 c79_F22 c79_F24 c79_F25 c79_F26 c79_F28 c79_F29 c79_F31 c79_F32 c79_F33 c79_F37 c79_F38 c79_F40 c79_F41 c79_F52 c79_F53 c79_F54 c314_F67 y350_6 k423 n358) y358_7 d358_F68) _
                          unfold B_mixed_358
                          refine wp_ite (fun c364 => ?_) (fun c364 => ?_)
                          · have c364 := (z_lt _ _).mp c364
                            exact Jk423 d358_F68
                          · have c364 := z_nlt c364
                            have f43 : (7 * y350_6).toInt = 7 * y350_6.toInt := z_muld (by decide +kernel) (by (first | omega | (simp only [id_eq] at *; omega))) (by (first | omega | (simp only [id_eq] at *; omega)))
                            have f44 : ((7 * y350_6) + y358_7).toInt = (7 * y350_6).toInt + y358_7.toInt := z_add (by (first | omega | (simp only [id_eq] at *; omega))) (by (first | omega | (simp only [id_eq] at *; omega)))
                            refine wp_if ⟨by (first | omega | (simp only [id_eq] at *; omega)), by (first | omega | (simp only [id_eq] at *; omega))⟩ ?_
                            have f47 : (y350_6 + 1).toInt = y350_6.toInt + 1 := z_addc (by decide +kernel) (by (first | omega | (simp only [id_eq] at *; omega))) (by (first | omega | (simp only [id_eq] at *; omega)))
                            refine wp_jn (fun j415 => ∀ (t415_0 : Int32), wp (j415 t415_0) (Q_mixed g F p0)) ?_ ?_
                            · intro t415_0
                              show wp _ _
                              refine wp_if ⟨by (first | omega | (simp only [id_eq] at *; omega)), by (first | omega | (simp only [id_eq] at *; omega))⟩ ?_
                              refine wp_vl (fun w416 ew416 => ?_)
                              clear ew416
                              have f48 : (y358_7 + 1).toInt = y358_7.toInt + (1) := z_addc (by decide +kernel) (by (first | omega | (simp only [id_eq] at *; omega))) (by (first | omega | (simp only [id_eq] at *; omega)))
                              exact ih358 (y358_7 + 1) w416 (show (7 - (y358_7 + 1).toInt).toNat < n358 from by (first | omega | (simp only [id_eq] at *; omega))) (show (0 ≤ (y358_7 + 1).toInt ∧ (y358_7 + 1).toInt ≤ 7) from by (first | omega | (simp only [id_eq] at *; omega)))
                            intro j415 Jj415
                            refine wp_ite (fun c397 => ?_) (fun c397 => ?_)
                            · have c397 := (z_le _ _).mp c397
                              exact Jj415 (0 : Int32)
                            · have c397 := z_nle c397
                              obtain ⟨r408, hc408, hq408⟩ := ok_onward (upd (upd (upd (upd (upd (upd (upd (upd g 1 0) 23 c79_g23) 27 c79_g27) 30 c79_g30) 34 c79_g34) 36 c79_g36) 39 c79_g39) 51 c79_g51) (upF (upF (upF (upF (upF (upF (upF (upF (upF (upF (upF (upF (upF (upF (upF (upF (upF (upF F 22 c79_F22) 24 c79_F24) 25 c79_F25) 26 c79_F26) 28 c79_F28) 29 c79_F29) 31 c79_F31) 32 c79_F32) 33 c79_F33) 37 c79_F37) 38 c79_F38) 40 c79_F40) 41 c79_F41) 52 c79_F52) 53 c79_F53) 54 c79_F54) 67 c314_F67) 68 d358_F68) (y350_6 + 1) y358_7 p0 (MInv_i hg1 hzg2 hzg3 hzg4 hzg5 hzg6 hzg7 hzg8 hzg9 hg7 hg8 hg9 hg10 hg11 hg12 hzg44 hzg47 hzg48 hg13 hzg56 hzg59 hzg62 hzg65 hzg66 hzg70 hzF11 hzF12 hzF13 hzF15 hzF19 hzF21 hg14 hg15 hg16 hg17 hg18 hg19 hzF43 hzF45 hzF46 hzF50 hg20 hg21 hzLQ) (show (0 ≤ (y350_6 + 1).toInt ∧ (y350_6 + 1).toInt ≤ 40) from by (first | omega | (simp only [id_eq] at *; omega)))
                              have f50 : owJ d358_F68 (y350_6 + 1) y358_7 p0 (g 9) r408 := hq408
                              refine wp_b1 hc408 ?_
                              clear hc408
                              exact Jj415 r408
                      exact lp358 NN (0 : Int32) d350_F68 (by have := NN_eq; (first | omega | (simp only [id_eq] at *; omega))) (show (0 ≤ (0 : Int32).toInt ∧ (0 : Int32).toInt ≤ 7) from by (first | omega | (simp only [id_eq] at *; omega)))
                exact lp350 NN x348 c345_F68 (by have := NN_eq; (first | omega | (simp only [id_eq] at *; omega))) (show ((-1) ≤ x348.toInt ∧ x348.toInt < 40) from by (first | omega | (simp only [id_eq] at *; omega)))
              intro k345 Jk345
              have lp317 : ∀ (n317 : Nat) (y317_6 : Int32) (d317_F68 : (Nat → Int32)), (7 - y317_6.toInt).toNat < n317 → (0 ≤ y317_6.toInt ∧ y317_6.toInt ≤ 7) → wp (L_mixed_317 g x70_3 k345 n317 y317_6 d317_F68) (Q_mixed g F p0) := by
                intro n317
                induction n317 with
                | zero => intro y317_6 d317_F68 hm; exact absurd hm (Nat.not_lt_zero _)
                | succ n317 ih317 =>
                  intro y317_6 d317_F68 hm317 f51
                  show wp (B_mixed_317 g x70_3 k345 (L_mixed_317 g x70_3 k345 n317) y317_6 d317_F68) _
                  unfold B_mixed_317
                  refine wp_ite (fun c323 => ?_) (fun c323 => ?_)
                  · have c323 := (z_lt _ _).mp c323
                    exact Jk345 d317_F68
                  · have c323 := z_nlt c323
                    have f52 : (7 * x70_3).toInt = 7 * x70_3.toInt := z_muld (by decide +kernel) (by (first | omega | (simp only [id_eq] at *; omega))) (by (first | omega | (simp only [id_eq] at *; omega)))
                    have f53 : ((7 * x70_3) + y317_6).toInt = (7 * x70_3).toInt + y317_6.toInt := z_add (by (first | omega | (simp only [id_eq] at *; omega))) (by (first | omega | (simp only [id_eq] at *; omega)))
                    refine wp_if ⟨by (first | omega | (simp only [id_eq] at *; omega)), by (first | omega | (simp only [id_eq] at *; omega))⟩ ?_
                    refine wp_vl (fun w338 ew338 => ?_)
                    clear ew338
                    have f54 : (y317_6 + 1).toInt = y317_6.toInt + (1) := z_addc (by decide +kernel) (by (first | omega | (simp only [id_eq] at *; omega))) (by (first | omega | (simp only [id_eq] at *; omega)))
                    exact ih317 (y317_6 + 1) w338 (show (7 - (y317_6 + 1).toInt).toNat < n317 from by (first | omega | (simp only [id_eq] at *; omega))) (show (0 ≤ (y317_6 + 1).toInt ∧ (y317_6 + 1).toInt ≤ 7) from by (first | omega | (simp only [id_eq] at *; omega)))
              exact lp317 NN (0 : Int32) (F 68) (by have := NN_eq; (first | omega | (simp only [id_eq] at *; omega))) (show (0 ≤ (0 : Int32).toInt ∧ (0 : Int32).toInt ≤ 7) from by (first | omega | (simp only [id_eq] at *; omega)))
            intro k314 Jk314
            have lp113 : ∀ (n113 : Nat) (y113_4 : Int32) (y113_5 : Int32) (d113_F67 : (Nat → Int32)), (2000 - y113_5.toInt).toNat < n113 → (0 ≤ y113_5.toInt ∧ y113_5.toInt ≤ (g 1).toInt) → y113_4.toInt = c10 (F 0) y113_5.toInt.toNat → wp (L_mixed_113 g F c79_g23 c79_g27 c79_g30 c79_g34 c79_g36 c79_g39 c79_g51 c79_F22 c79_F24 c79_F25 c79_F26 c79_F28 c79_F29 c79_F31 c79_F32 c79_F33 c79_F37 c79_F38 c79_F40 c79_F41 c79_F52 c79_F53 c79_F54 k314 n113 y113_4 y113_5 d113_F67) (Q_mixed g F p0) := by
              intro n113
              induction n113 with
              | zero => intro y113_4 y113_5 d113_F67 hm; exact absurd hm (Nat.not_lt_zero _)
              | succ n113 ih113 =>
                intro y113_4 y113_5 d113_F67 hm113 f55 f56
                show wp (B_mixed_113 g F c79_g23 c79_g27 c79_g30 c79_g34 c79_g36 c79_g39 c79_g51 c79_F22 c79_F24 c79_F25 c79_F26 c79_F28 c79_F29 c79_F31 c79_F32 c79_F33 c79_F37 c79_F38 c79_F40 c79_F41 c79_F52 c79_F53 c79_F54 k314 (L_mixed_113 g F c79_g23 c79_g27 c79_g30 c79_g34 c79_g36 c79_g39 c79_g51 c79_F22 c79_F24 c79_F25 c79_F26 c79_F28 c79_F29 c79_F31 c79_F32 c79_F33 c79_F37 c79_F38 c79_F40 c79_F41 c79_F52 c79_F53 c79_F54 k314 n113) y113_4 y113_5 d113_F67) _
                unfold B_mixed_113
                refine wp_ite (fun c116 => ?_) (fun c116 => ?_)
                · have c116 := (z_le _ _).mp c116
                  exact Jk314 d113_F67
                · have c116 := z_nle c116
                  have hcb := c10_b (F 0) y113_5.toInt.toNat
                  have hcl := c10_le (F 0) (a := y113_5) (b := (g 1)) (by (first | omega | (simp only [id_eq] at *; omega))) (by (first | omega | (simp only [id_eq] at *; omega)))
                  have f57 : (y113_5 + 1).toInt = y113_5.toInt + 1 := z_addc (by decide +kernel) (by (first | omega | (simp only [id_eq] at *; omega))) (by (first | omega | (simp only [id_eq] at *; omega)))
                  refine wp_vl (fun x123 ex123 => ?_)
                  have f58 : x123.toInt = (y113_5 + 1).toInt := congrArg Int32.toInt ex123
                  clear ex123
                  have hcs := c10_s (F 0) (a := y113_5) (b := x123) (by (first | omega | (simp only [id_eq] at *; omega))) (by (first | omega | (simp only [id_eq] at *; omega)))
                  refine wp_if ⟨by (first | omega | (simp only [id_eq] at *; omega)), by (first | omega | (simp only [id_eq] at *; omega))⟩ ?_
                  refine wp_jn (fun j307 => ∀ (x307_4 : Int32) (x307_6 : Int32) (c307_F67 : (Nat → Int32)), x307_4.toInt = c10 (F 0) x307_6.toInt.toNat → (y113_5.toInt < x307_6.toInt ∧ x307_6.toInt ≤ (g 1).toInt) → wp (j307 x307_4 x307_6 c307_F67) (Q_mixed g F p0)) ?_ ?_
                  · intro x307_4 x307_6 c307_F67 f59 f60
                    show wp _ _
                    exact ih113 x307_4 x307_6 c307_F67 (show (2000 - x307_6.toInt).toNat < n113 from by (first | omega | (simp only [id_eq] at *; omega))) (show (0 ≤ x307_6.toInt ∧ x307_6.toInt ≤ (g 1).toInt) from by (first | omega | (simp only [id_eq] at *; omega))) (show x307_4.toInt = c10 (F 0) x307_6.toInt.toNat from by (first | omega | (simp only [id_eq] at *; omega)))
                  intro j307 Jj307
                  refine wp_ite (fun c134 => ?_) (fun c134 => ?_)
                  · have c134 := congrArg Int32.toInt c134
                    obtain ⟨r141, hc141, hq141⟩ := ok_quoted (upd (upd (upd (upd (upd (upd (upd (upd g 1 0) 23 c79_g23) 27 c79_g27) 30 c79_g30) 34 c79_g34) 36 c79_g36) 39 c79_g39) 51 c79_g51) (upF (upF (upF (upF (upF (upF (upF (upF (upF (upF (upF (upF (upF (upF (upF (upF (upF F 22 c79_F22) 24 c79_F24) 25 c79_F25) 26 c79_F26) 28 c79_F28) 29 c79_F29) 31 c79_F31) 32 c79_F32) 33 c79_F33) 37 c79_F37) 38 c79_F38) 40 c79_F40) 41 c79_F41) 52 c79_F52) 53 c79_F53) 54 c79_F54) 67 d113_F67) y113_5 (g 1) (MInv_i hg1 hzg2 hzg3 hzg4 hzg5 hzg6 hzg7 hzg8 hzg9 hg7 hg8 hg9 hg10 hg11 hg12 hzg44 hzg47 hzg48 hg13 hzg56 hzg59 hzg62 hzg65 hzg66 hzg70 hzF11 hzF12 hzF13 hzF15 hzF19 hzF21 hg14 hg15 hg16 hg17 hg18 hg19 hzF43 hzF45 hzF46 hzF50 hg20 hg21 hzLQ) (show 0 ≤ y113_5.toInt from by (first | omega | (simp only [id_eq] at *; omega))) (show y113_5.toInt < (g 1).toInt from by (first | omega | (simp only [id_eq] at *; omega))) (show (g 1).toInt ≤ 2000 from by (first | omega | (simp only [id_eq] at *; omega)))
                    have f61 : (y113_5.toInt < r141.toInt ∧ r141.toInt ≤ (g 1).toInt) := hq141
                    refine wp_b1 hc141 ?_
                    clear hc141
                    refine wp_jn (fun k185 => ∀ (x185_4 : Int32), x185_4.toInt = c10 (F 0) r141.toInt.toNat → wp (k185 x185_4) (Q_mixed g F p0)) ?_ ?_
                    · intro x185_4 f62
                      show wp _ _
                      exact Jj307 x185_4 r141 d113_F67 (show x185_4.toInt = c10 (F 0) r141.toInt.toNat from by (first | omega | (simp only [id_eq] at *; omega))) (show (y113_5.toInt < r141.toInt ∧ r141.toInt ≤ (g 1).toInt) from by (first | omega | (simp only [id_eq] at *; omega)))
                    intro k185 Jk185
                    have lp150 : ∀ (n150 : Nat) (y150_4 : Int32) (y150_7 : Int32), (2000 - y150_7.toInt).toNat < n150 → (y113_5.toInt ≤ y150_7.toInt ∧ y150_7.toInt ≤ r141.toInt) → y150_4.toInt = c10 (F 0) y150_7.toInt.toNat → wp (L_mixed_150 F r141 k185 n150 y150_4 y150_7) (Q_mixed g F p0) := by
                      intro n150
                      induction n150 with
                      | zero => intro y150_4 y150_7 hm; exact absurd hm (Nat.not_lt_zero _)
                      | succ n150 ih150 =>
                        intro y150_4 y150_7 hm150 f63 f64
                        show wp (B_mixed_150 F r141 k185 (L_mixed_150 F r141 k185 n150) y150_4 y150_7) _
                        unfold B_mixed_150
                        refine wp_ite (fun c154 => ?_) (fun c154 => ?_)
                        · have c154 := (z_le _ _).mp c154
                          exact Jk185 y150_4 (show y150_4.toInt = c10 (F 0) r141.toInt.toNat from by (have e9 : r141.toInt.toNat = y150_7.toInt.toNat := (by (first | omega | (simp only [id_eq] at *; omega))); rw [e9]; (first | omega | (simp only [id_eq] at *; omega))))
                        · have c154 := z_nle c154
                          have hcb := c10_b (F 0) y150_7.toInt.toNat
                          have hcs := c10_s (F 0) (a := y150_7) (b := y150_7 + 1) (by (first | omega | (simp only [id_eq] at *; omega))) (z_addc (by decide +kernel) (by (first | omega | (simp only [id_eq] at *; omega))) (by (first | omega | (simp only [id_eq] at *; omega))))
                          refine wp_if ⟨by (first | omega | (simp only [id_eq] at *; omega)), by (first | omega | (simp only [id_eq] at *; omega))⟩ ?_
                          refine wp_jn (fun j176 => ∀ (t176_0 : Int32), (((F 0) (Int32.toNatClampNeg y150_7)).toInt = 10 → t176_0.toInt = 1) → (((F 0) (Int32.toNatClampNeg y150_7)).toInt ≠ 10 → t176_0.toInt = 0) → wp (j176 t176_0) (Q_mixed g F p0)) ?_ ?_
                          · intro t176_0 f65 f66
                            show wp _ _
                            have f67 : (y150_4 + t176_0).toInt = y150_4.toInt + t176_0.toInt := z_add (by (first | omega | (simp only [id_eq] at *; omega))) (by (first | omega | (simp only [id_eq] at *; omega)))
                            refine wp_vl (fun x177 ex177 => ?_)
                            have f68 : x177.toInt = (y150_4 + t176_0).toInt := congrArg Int32.toInt ex177
                            clear ex177
                            have f69 : (y150_7 + 1).toInt = y150_7.toInt + (1) := z_addc (by decide +kernel) (by (first | omega | (simp only [id_eq] at *; omega))) (by (first | omega | (simp only [id_eq] at *; omega)))
                            exact ih150 x177 (y150_7 + 1) (show (2000 - (y150_7 + 1).toInt).toNat < n150 from by (first | omega | (simp only [id_eq] at *; omega))) (show (y113_5.toInt ≤ (y150_7 + 1).toInt ∧ (y150_7 + 1).toInt ≤ r141.toInt) from by (first | omega | (simp only [id_eq] at *; omega))) (show x177.toInt = c10 (F 0) (y150_7 + 1).toInt.toNat from by (first | omega | (simp only [id_eq] at *; omega)))
                          intro j176 Jj176
                          refine wp_ite (fun c168 => ?_) (fun c168 => ?_)
                          · have c168 := congrArg Int32.toInt c168
                            exact Jj176 (1 : Int32) (show (((F 0) (Int32.toNatClampNeg y150_7)).toInt = 10 → (1 : Int32).toInt = 1) from by (first | omega | (simp only [id_eq] at *; omega))) (show (((F 0) (Int32.toNatClampNeg y150_7)).toInt ≠ 10 → (1 : Int32).toInt = 0) from by (first | omega | (simp only [id_eq] at *; omega)))
                          · have c168 := z_ne c168
                            exact Jj176 (0 : Int32) (show (((F 0) (Int32.toNatClampNeg y150_7)).toInt = 10 → (0 : Int32).toInt = 1) from by (first | omega | (simp only [id_eq] at *; omega))) (show (((F 0) (Int32.toNatClampNeg y150_7)).toInt ≠ 10 → (0 : Int32).toInt = 0) from by (first | omega | (simp only [id_eq] at *; omega)))
                    exact lp150 NN y113_4 y113_5 (by have := NN_eq; (first | omega | (simp only [id_eq] at *; omega))) (show (y113_5.toInt ≤ y113_5.toInt ∧ y113_5.toInt ≤ r141.toInt) from by (first | omega | (simp only [id_eq] at *; omega))) (show y113_4.toInt = c10 (F 0) y113_5.toInt.toNat from by (first | omega | (simp only [id_eq] at *; omega)))
                  · have c134 := z_ne c134
                    refine wp_if ⟨by (first | omega | (simp only [id_eq] at *; omega)), by (first | omega | (simp only [id_eq] at *; omega))⟩ ?_
                    obtain ⟨r195, hc195, hq195⟩ := ok_isLetter ((F 0) (Int32.toNatClampNeg y113_5)) 
                    obtain ⟨f70, f71⟩ : (id (r195.toInt = 1 → 65 ≤ ((F 0) (Int32.toNatClampNeg y113_5)).toInt)) ∧ ((0 ≤ r195.toInt ∧ r195.toInt ≤ 1)) := hq195
                    refine wp_b1 hc195 ?_
                    clear hc195
                    refine wp_ite (fun c198 => ?_) (fun c198 => ?_)
                    · have c198 := congrArg Int32.toInt c198
                      refine wp_if ⟨by (first | omega | (simp only [id_eq] at *; omega)), by (first | omega | (simp only [id_eq] at *; omega))⟩ ?_
                      refine wp_ite (fun c301 => ?_) (fun c301 => ?_)
                      · have c301 := congrArg Int32.toInt c301
                        have f72 : (y113_4 + 1).toInt = y113_4.toInt + (1) := z_addc (by decide +kernel) (by (first | omega | (simp only [id_eq] at *; omega))) (by (first | omega | (simp only [id_eq] at *; omega)))
                        exact Jj307 (y113_4 + 1) x123 d113_F67 (show (y113_4 + 1).toInt = c10 (F 0) x123.toInt.toNat from by (first | omega | (simp only [id_eq] at *; omega))) (show (y113_5.toInt < x123.toInt ∧ x123.toInt ≤ (g 1).toInt) from by (first | omega | (simp only [id_eq] at *; omega)))
                      · have c301 := z_ne c301
                        exact Jj307 y113_4 x123 d113_F67 (show y113_4.toInt = c10 (F 0) x123.toInt.toNat from by (first | omega | (simp only [id_eq] at *; omega))) (show (y113_5.toInt < x123.toInt ∧ x123.toInt ≤ (g 1).toInt) from by (first | omega | (simp only [id_eq] at *; omega)))
                    · have c198 := z_ne c198
                      refine wp_jn (fun k226 => ∀ (x226_6 : Int32), (y113_5.toInt + 1 ≤ x226_6.toInt ∧ x226_6.toInt ≤ (g 1).toInt) → y113_4.toInt = c10 (F 0) x226_6.toInt.toNat → wp (k226 x226_6) (Q_mixed g F p0)) ?_ ?_
                      · intro x226_6 f73 f74
                        show wp _ _
                        have hcl2 := c10_b (F 0) y113_5.toInt.toNat
                        refine wp_jn (fun k289 => ∀ (c289_F67 : (Nat → Int32)), wp (k289 c289_F67) (Q_mixed g F p0)) ?_ ?_
                        · intro c289_F67
                          show wp _ _
                          exact Jj307 y113_4 x226_6 c289_F67 (show y113_4.toInt = c10 (F 0) x226_6.toInt.toNat from by (first | omega | (simp only [id_eq] at *; omega))) (show (y113_5.toInt < x226_6.toInt ∧ x226_6.toInt ≤ (g 1).toInt) from by (first | omega | (simp only [id_eq] at *; omega)))
                        intro k289 Jk289
                        have lp229 : ∀ (n229 : Nat) (y229_7 : Int32) (d229_F67 : (Nat → Int32)), (7 - y229_7.toInt).toNat < n229 → (0 ≤ y229_7.toInt ∧ y229_7.toInt ≤ 7) → wp (L_mixed_229 g F c79_g23 c79_g27 c79_g30 c79_g34 c79_g36 c79_g39 c79_g51 c79_F22 c79_F24 c79_F25 c79_F26 c79_F28 c79_F29 c79_F31 c79_F32 c79_F33 c79_F37 c79_F38 c79_F40 c79_F41 c79_F52 c79_F53 c79_F54 y113_4 y113_5 x226_6 k289 n229 y229_7 d229_F67) (Q_mixed g F p0) := by
                          intro n229
                          induction n229 with
                          | zero => intro y229_7 d229_F67 hm; exact absurd hm (Nat.not_lt_zero _)
                          | succ n229 ih229 =>
                            intro y229_7 d229_F67 hm229 f75
                            show wp (B_mixed_229 g F c79_g23 c79_g27 c79_g30 c79_g34 c79_g36 c79_g39 c79_g51 c79_F22 c79_F24 c79_F25 c79_F26 c79_F28 c79_F29 c79_F31 c79_F32 c79_F33 c79_F37 c79_F38 c79_F40 c79_F41 c79_F52 c79_F53 c79_F54 y113_4 y113_5 x226_6 k289 (L_mixed_229 g F c79_g23 c79_g27 c79_g30 c79_g34 c79_g36 c79_g39 c79_g51 c79_F22 c79_F24 c79_F25 c79_F26 c79_F28 c79_F29 c79_F31 c79_F32 c79_F33 c79_F37 c79_F38 c79_F40 c79_F41 c79_F52 c79_F53 c79_F54 y113_4 y113_5 x226_6 k289 n229) y229_7 d229_F67) _
                            unfold B_mixed_229
                            refine wp_ite (fun c235 => ?_) (fun c235 => ?_)
                            · have c235 := (z_lt _ _).mp c235
                              exact Jk289 d229_F67
                            · have c235 := z_nlt c235
                              have f76 : (7 * y113_4).toInt = 7 * y113_4.toInt := z_muld (by decide +kernel) (by (first | omega | (simp only [id_eq] at *; omega))) (by (first | omega | (simp only [id_eq] at *; omega)))
                              have f77 : ((7 * y113_4) + y229_7).toInt = (7 * y113_4).toInt + y229_7.toInt := z_add (by (first | omega | (simp only [id_eq] at *; omega))) (by (first | omega | (simp only [id_eq] at *; omega)))
                              refine wp_if ⟨by (first | omega | (simp only [id_eq] at *; omega)), by (first | omega | (simp only [id_eq] at *; omega))⟩ ?_
                              obtain ⟨r257, hc257, hq257⟩ := ok_isName (upd (upd (upd (upd (upd (upd (upd (upd g 1 0) 23 c79_g23) 27 c79_g27) 30 c79_g30) 34 c79_g34) 36 c79_g36) 39 c79_g39) 51 c79_g51) (upF (upF (upF (upF (upF (upF (upF (upF (upF (upF (upF (upF (upF (upF (upF (upF (upF F 22 c79_F22) 24 c79_F24) 25 c79_F25) 26 c79_F26) 28 c79_F28) 29 c79_F29) 31 c79_F31) 32 c79_F32) 33 c79_F33) 37 c79_F37) 38 c79_F38) 40 c79_F40) 41 c79_F41) 52 c79_F52) 53 c79_F53) 54 c79_F54) 67 d229_F67) y113_5 x226_6 (MInv_i hg1 hzg2 hzg3 hzg4 hzg5 hzg6 hzg7 hzg8 hzg9 hg7 hg8 hg9 hg10 hg11 hg12 hzg44 hzg47 hzg48 hg13 hzg56 hzg59 hzg62 hzg65 hzg66 hzg70 hzF11 hzF12 hzF13 hzF15 hzF19 hzF21 hg14 hg15 hg16 hg17 hg18 hg19 hzF43 hzF45 hzF46 hzF50 hg20 hg21 hzLQ) (show 0 ≤ y113_5.toInt from by (first | omega | (simp only [id_eq] at *; omega))) (show x226_6.toInt ≤ 2000 from by (first | omega | (simp only [id_eq] at *; omega)))
                              have f78 : (0 ≤ r257.toInt ∧ r257.toInt ≤ 1) := hq257
                              refine wp_b1 hc257 ?_
                              clear hc257
                              refine wp_jn (fun j281 => ∀ (t281_0 : Int32), wp (j281 t281_0) (Q_mixed g F p0)) ?_ ?_
                              · intro t281_0
                                show wp _ _
                                refine wp_if ⟨by (first | omega | (simp only [id_eq] at *; omega)), by (first | omega | (simp only [id_eq] at *; omega))⟩ ?_
                                refine wp_vl (fun w282 ew282 => ?_)
                                clear ew282
                                have f79 : (y229_7 + 1).toInt = y229_7.toInt + (1) := z_addc (by decide +kernel) (by (first | omega | (simp only [id_eq] at *; omega))) (by (first | omega | (simp only [id_eq] at *; omega)))
                                exact ih229 (y229_7 + 1) w282 (show (7 - (y229_7 + 1).toInt).toNat < n229 from by (first | omega | (simp only [id_eq] at *; omega))) (show (0 ≤ (y229_7 + 1).toInt ∧ (y229_7 + 1).toInt ≤ 7) from by (first | omega | (simp only [id_eq] at *; omega)))
                              intro j281 Jj281
                              refine wp_jn (fun j276 => wp (j276 ()) (Q_mixed g F p0)) ?_ ?_
                              · show wp _ _
                                show wp _ _
                                exact Jj281 (0 : Int32)
                              intro j276 Jj276
                              refine wp_ite (fun c260 => ?_) (fun c260 => ?_)
                              · have c260 := congrArg Int32.toInt c260
                                obtain ⟨r270, hc270, hq270⟩ := ok_isKnown (upd (upd (upd (upd (upd (upd (upd (upd g 1 0) 23 c79_g23) 27 c79_g27) 30 c79_g30) 34 c79_g34) 36 c79_g36) 39 c79_g39) 51 c79_g51) (upF (upF (upF (upF (upF (upF (upF (upF (upF (upF (upF (upF (upF (upF (upF (upF (upF F 22 c79_F22) 24 c79_F24) 25 c79_F25) 26 c79_F26) 28 c79_F28) 29 c79_F29) 31 c79_F31) 32 c79_F32) 33 c79_F33) 37 c79_F37) 38 c79_F38) 40 c79_F40) 41 c79_F41) 52 c79_F52) 53 c79_F53) 54 c79_F54) 67 d229_F67) y229_7 y113_5 x226_6 (MInv_i hg1 hzg2 hzg3 hzg4 hzg5 hzg6 hzg7 hzg8 hzg9 hg7 hg8 hg9 hg10 hg11 hg12 hzg44 hzg47 hzg48 hg13 hzg56 hzg59 hzg62 hzg65 hzg66 hzg70 hzF11 hzF12 hzF13 hzF15 hzF19 hzF21 hg14 hg15 hg16 hg17 hg18 hg19 hzF43 hzF45 hzF46 hzF50 hg20 hg21 hzLQ) (show (0 ≤ y229_7.toInt ∧ y229_7.toInt ≤ 6) from by (first | omega | (simp only [id_eq] at *; omega))) (show (0 ≤ y113_5.toInt ∧ y113_5.toInt ≤ x226_6.toInt ∧ x226_6.toInt ≤ 2000) from by (first | omega | (simp only [id_eq] at *; omega)))
                                have f80 : (0 ≤ r270.toInt ∧ r270.toInt ≤ 1) := hq270
                                refine wp_b1 hc270 ?_
                                clear hc270
                                refine wp_ite (fun c273 => ?_) (fun c273 => ?_)
                                · have c273 := congrArg Int32.toInt c273
                                  exact Jj281 (1 : Int32)
                                · have c273 := z_ne c273
                                  exact Jj276
                              · have c260 := z_ne c260
                                exact Jj276
                        exact lp229 NN (0 : Int32) d113_F67 (by have := NN_eq; (first | omega | (simp only [id_eq] at *; omega))) (show (0 ≤ (0 : Int32).toInt ∧ (0 : Int32).toInt ≤ 7) from by (first | omega | (simp only [id_eq] at *; omega)))
                      intro k226 Jk226
                      have lp201 : ∀ (n201 : Nat) (y201_6 : Int32), (2000 - y201_6.toInt).toNat < n201 → (y113_5.toInt + 1 ≤ y201_6.toInt ∧ y201_6.toInt ≤ (g 1).toInt) → y113_4.toInt = c10 (F 0) y201_6.toInt.toNat → wp (L_mixed_201 g F k226 n201 y201_6) (Q_mixed g F p0) := by
                        intro n201
                        induction n201 with
                        | zero => intro y201_6 hm; exact absurd hm (Nat.not_lt_zero _)
                        | succ n201 ih201 =>
                          intro y201_6 hm201 f81 f82
                          show wp (B_mixed_201 g F k226 (L_mixed_201 g F k226 n201) y201_6) _
                          unfold B_mixed_201
                          refine wp_ite (fun c204 => ?_) (fun c204 => ?_)
                          · have c204 := (z_le _ _).mp c204
                            exact Jk226 y201_6 (show (y113_5.toInt + 1 ≤ y201_6.toInt ∧ y201_6.toInt ≤ (g 1).toInt) from by (first | omega | (simp only [id_eq] at *; omega))) (show y113_4.toInt = c10 (F 0) y201_6.toInt.toNat from by (first | omega | (simp only [id_eq] at *; omega)))
                          · have c204 := z_nle c204
                            have hcb := c10_b (F 0) y201_6.toInt.toNat
                            have hcs := c10_s (F 0) (a := y201_6) (b := y201_6 + 1) (by (first | omega | (simp only [id_eq] at *; omega))) (z_addc (by decide +kernel) (by (first | omega | (simp only [id_eq] at *; omega))) (by (first | omega | (simp only [id_eq] at *; omega))))
                            refine wp_if ⟨by (first | omega | (simp only [id_eq] at *; omega)), by (first | omega | (simp only [id_eq] at *; omega))⟩ ?_
                            obtain ⟨r214, hc214, hq214⟩ := ok_isLetter ((F 0) (Int32.toNatClampNeg y201_6)) 
                            obtain ⟨f83, f84⟩ : (id (r214.toInt = 1 → 65 ≤ ((F 0) (Int32.toNatClampNeg y201_6)).toInt)) ∧ ((0 ≤ r214.toInt ∧ r214.toInt ≤ 1)) := hq214
                            refine wp_b1 hc214 ?_
                            clear hc214
                            refine wp_ite (fun c217 => ?_) (fun c217 => ?_)
                            · have c217 := congrArg Int32.toInt c217
                              exact Jk226 y201_6 (show (y113_5.toInt + 1 ≤ y201_6.toInt ∧ y201_6.toInt ≤ (g 1).toInt) from by (first | omega | (simp only [id_eq] at *; omega))) (show y113_4.toInt = c10 (F 0) y201_6.toInt.toNat from by (first | omega | (simp only [id_eq] at *; omega)))
                            · have c217 := z_ne c217
                              have f85 : (y201_6 + 1).toInt = y201_6.toInt + (1) := z_addc (by decide +kernel) (by (first | omega | (simp only [id_eq] at *; omega))) (by (first | omega | (simp only [id_eq] at *; omega)))
                              exact ih201 (y201_6 + 1) (show (2000 - (y201_6 + 1).toInt).toNat < n201 from by (first | omega | (simp only [id_eq] at *; omega))) (show (y113_5.toInt + 1 ≤ (y201_6 + 1).toInt ∧ (y201_6 + 1).toInt ≤ (g 1).toInt) from by (first | omega | (simp only [id_eq] at *; omega))) (show y113_4.toInt = c10 (F 0) (y201_6 + 1).toInt.toNat from by (first | omega | (simp only [id_eq] at *; omega)))
                      exact lp201 NN x123 (by have := NN_eq; (first | omega | (simp only [id_eq] at *; omega))) (show (y113_5.toInt + 1 ≤ x123.toInt ∧ x123.toInt ≤ (g 1).toInt) from by (first | omega | (simp only [id_eq] at *; omega))) (show y113_4.toInt = c10 (F 0) x123.toInt.toNat from by (first | omega | (simp only [id_eq] at *; omega)))
            exact lp113 NN (0 : Int32) (0 : Int32) c107_F67 (by have := NN_eq; (first | omega | (simp only [id_eq] at *; omega))) (show (0 ≤ (0 : Int32).toInt ∧ (0 : Int32).toInt ≤ (g 1).toInt) from by first | (first | omega | (simp only [id_eq] at *; omega)) | exact c10_00 _) (show (0 : Int32).toInt = c10 (F 0) (0 : Int32).toInt.toNat from by first | (first | omega | (simp only [id_eq] at *; omega)) | exact c10_00 _)
          intro k107 Jk107
          have lp85 : ∀ (n85 : Nat) (y85_4 : Int32) (d85_F67 : (Nat → Int32)), (280 - y85_4.toInt).toNat < n85 → (0 ≤ y85_4.toInt ∧ y85_4.toInt ≤ 280) → wp (L_mixed_85 k107 n85 y85_4 d85_F67) (Q_mixed g F p0) := by
            intro n85
            induction n85 with
            | zero => intro y85_4 d85_F67 hm; exact absurd hm (Nat.not_lt_zero _)
            | succ n85 ih85 =>
              intro y85_4 d85_F67 hm85 f86
              show wp (B_mixed_85 k107 (L_mixed_85 k107 n85) y85_4 d85_F67) _
              unfold B_mixed_85
              refine wp_ite (fun c90 => ?_) (fun c90 => ?_)
              · have c90 := (z_le _ _).mp c90
                exact Jk107 d85_F67
              · have c90 := z_nle c90
                refine wp_if ⟨by (first | omega | (simp only [id_eq] at *; omega)), by (first | omega | (simp only [id_eq] at *; omega))⟩ ?_
                refine wp_vl (fun w100 ew100 => ?_)
                clear ew100
                have f87 : (y85_4 + 1).toInt = y85_4.toInt + (1) := z_addc (by decide +kernel) (by (first | omega | (simp only [id_eq] at *; omega))) (by (first | omega | (simp only [id_eq] at *; omega)))
                exact ih85 (y85_4 + 1) w100 (show (280 - (y85_4 + 1).toInt).toNat < n85 from by (first | omega | (simp only [id_eq] at *; omega))) (show (0 ≤ (y85_4 + 1).toInt ∧ (y85_4 + 1).toInt ≤ 280) from by (first | omega | (simp only [id_eq] at *; omega)))
          exact lp85 NN (0 : Int32) (F 67) (by have := NN_eq; (first | omega | (simp only [id_eq] at *; omega))) (show (0 ≤ (0 : Int32).toInt ∧ (0 : Int32).toInt ≤ 280) from by (first | omega | (simp only [id_eq] at *; omega)))
        · have c73 := z_nle c73
          exact ⟨_, rfl, ⟨hg1, hzg23, hzg27, hzg30, hzg34, hzg36, hzg39, hzg51, hzg70, hzF24, hzF25, hzF26, hzF33, hzF38, hzF41, hzF53, hzF54, (show (0 : Int32).toInt = 0 from by (first | omega | (simp only [id_eq] at *; omega)))⟩⟩
      intro k70 Jk70
      have lp38 : ∀ (n38 : Nat) (y38_3 : Int32) (y38_4 : Int32), (2000 - y38_4.toInt).toNat < n38 → (0 ≤ y38_4.toInt ∧ y38_4.toInt ≤ (g 1).toInt) → y38_3.toInt = 1 + c10 (F 0) y38_4.toInt.toNat → wp (L_mixed_38 g F k70 n38 y38_3 y38_4) (Q_mixed g F p0) := by
        intro n38
        induction n38 with
        | zero => intro y38_3 y38_4 hm; exact absurd hm (Nat.not_lt_zero _)
        | succ n38 ih38 =>
          intro y38_3 y38_4 hm38 f88 f89
          show wp (B_mixed_38 g F k70 (L_mixed_38 g F k70 n38) y38_3 y38_4) _
          unfold B_mixed_38
          refine wp_ite (fun c41 => ?_) (fun c41 => ?_)
          · have c41 := (z_le _ _).mp c41
            exact Jk70 y38_3 (show y38_3.toInt = 1 + c10 (F 0) (g 1).toInt.toNat from by (have e9 : (g 1).toInt.toNat = y38_4.toInt.toNat := (by (first | omega | (simp only [id_eq] at *; omega))); rw [e9]; (first | omega | (simp only [id_eq] at *; omega))))
          · have c41 := z_nle c41
            have hcb := c10_b (F 0) y38_4.toInt.toNat
            have hcs := c10_s (F 0) (a := y38_4) (b := y38_4 + 1) (by (first | omega | (simp only [id_eq] at *; omega))) (z_addc (by decide +kernel) (by (first | omega | (simp only [id_eq] at *; omega))) (by (first | omega | (simp only [id_eq] at *; omega))))
            refine wp_if ⟨by (first | omega | (simp only [id_eq] at *; omega)), by (first | omega | (simp only [id_eq] at *; omega))⟩ ?_
            refine wp_jn (fun j62 => ∀ (t62_0 : Int32), (((F 0) (Int32.toNatClampNeg y38_4)).toInt = 10 → t62_0.toInt = 1) → (((F 0) (Int32.toNatClampNeg y38_4)).toInt ≠ 10 → t62_0.toInt = 0) → wp (j62 t62_0) (Q_mixed g F p0)) ?_ ?_
            · intro t62_0 f90 f91
              show wp _ _
              have f92 : (y38_3 + t62_0).toInt = y38_3.toInt + t62_0.toInt := z_add (by (first | omega | (simp only [id_eq] at *; omega))) (by (first | omega | (simp only [id_eq] at *; omega)))
              refine wp_vl (fun x63 ex63 => ?_)
              have f93 : x63.toInt = (y38_3 + t62_0).toInt := congrArg Int32.toInt ex63
              clear ex63
              have f94 : (y38_4 + 1).toInt = y38_4.toInt + (1) := z_addc (by decide +kernel) (by (first | omega | (simp only [id_eq] at *; omega))) (by (first | omega | (simp only [id_eq] at *; omega)))
              exact ih38 x63 (y38_4 + 1) (show (2000 - (y38_4 + 1).toInt).toNat < n38 from by (first | omega | (simp only [id_eq] at *; omega))) (show (0 ≤ (y38_4 + 1).toInt ∧ (y38_4 + 1).toInt ≤ (g 1).toInt) from by (first | omega | (simp only [id_eq] at *; omega))) (show x63.toInt = 1 + c10 (F 0) (y38_4 + 1).toInt.toNat from by (first | omega | (simp only [id_eq] at *; omega)))
            intro j62 Jj62
            refine wp_ite (fun c54 => ?_) (fun c54 => ?_)
            · have c54 := congrArg Int32.toInt c54
              exact Jj62 (1 : Int32) (show (((F 0) (Int32.toNatClampNeg y38_4)).toInt = 10 → (1 : Int32).toInt = 1) from by (first | omega | (simp only [id_eq] at *; omega))) (show (((F 0) (Int32.toNatClampNeg y38_4)).toInt ≠ 10 → (1 : Int32).toInt = 0) from by (first | omega | (simp only [id_eq] at *; omega)))
            · have c54 := z_ne c54
              exact Jj62 (0 : Int32) (show (((F 0) (Int32.toNatClampNeg y38_4)).toInt = 10 → (0 : Int32).toInt = 1) from by (first | omega | (simp only [id_eq] at *; omega))) (show (((F 0) (Int32.toNatClampNeg y38_4)).toInt ≠ 10 → (0 : Int32).toInt = 0) from by (first | omega | (simp only [id_eq] at *; omega)))
      exact lp38 NN (1 : Int32) (0 : Int32) (by have := NN_eq; (first | omega | (simp only [id_eq] at *; omega))) (show (0 ≤ (0 : Int32).toInt ∧ (0 : Int32).toInt ≤ (g 1).toInt) from by first | (first | omega | (simp only [id_eq] at *; omega)) | exact c10_01 _) (show (1 : Int32).toInt = 1 + c10 (F 0) (0 : Int32).toInt.toNat from by first | (first | omega | (simp only [id_eq] at *; omega)) | exact c10_01 _)
    · have c28 := z_ne c28
      exact ⟨_, rfl, ⟨hg1, hzg23, hzg27, hzg30, hzg34, hzg36, hzg39, hzg51, hzg70, hzF24, hzF25, hzF26, hzF33, hzF38, hzF41, hzF53, hzF54, (show (0 : Int32).toInt = 0 from by (first | omega | (simp only [id_eq] at *; omega)))⟩⟩
