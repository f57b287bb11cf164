abbrev Q_through (g : Nat → Int32) (F : Nat → Nat → Int32) (p0 : Int32) (p1 : Int32) : (Int32 × Int32 × Int32 × Int32 × Int32 × Int32 × (Nat → Int32) × (Nat → Int32) × (Nat → Int32) × (Nat → Int32) × (Nat → Int32) × (Nat → Int32) × (Nat → Int32) × (Nat → Int32) × (Nat → Int32) × (Nat → Int32) × (Nat → Int32) × (Nat → Int32) × (Nat → Int32)) → Prop := (fun t => (((0) ≤ (t.1).toInt ∧ (t.1).toInt ≤ 24)) ∧ (((0) ≤ (t.2.1).toInt ∧ (t.2.1).toInt ≤ 30)) ∧ (((0) ≤ (t.2.2.1).toInt ∧ (t.2.2.1).toInt ≤ 384)) ∧ (((0) ≤ (t.2.2.2.1).toInt ∧ (t.2.2.2.1).toInt ≤ 30)) ∧ (((0) ≤ (t.2.2.2.2.1).toInt ∧ (t.2.2.2.2.1).toInt ≤ 1)) ∧ (((0) ≤ (t.2.2.2.2.2.1).toInt ∧ (t.2.2.2.2.2.1).toInt ≤ 12)) ∧ (rng (0) 24 (t.2.2.2.2.2.2.2.1)) ∧ (rng (0) 24 (t.2.2.2.2.2.2.2.2.1)) ∧ (rng (0) 24 (t.2.2.2.2.2.2.2.2.2.1)) ∧ (rng (0) 24 (t.2.2.2.2.2.2.2.2.2.2.2.2.2.2.1)) ∧ (rng (0) 24 (t.2.2.2.2.2.2.2.2.2.2.2.2.2.2.2.2.1)) ∧ (rng (0) 24 (t.2.2.2.2.2.2.2.2.2.2.2.2.2.2.2.2.2.2)))
set_option maxHeartbeats 4000000 in
set_option maxRecDepth 100000 in
theorem ok_through (g : Nat → Int32) (F : Nat → Nat → Int32) (p0 : Int32) (p1 : Int32) (hI : MInv g F) (hp0 : (0 ≤ p0.toInt ∧ p0.toInt ≤ 6)) (hp1 : p1.toInt ≤ (g 9).toInt) : wp (f_through g F p0 p1) (Q_through g F p0 p1) := by
  unfold f_through
  refine MInv_e hI (fun (hzg1 : id _) (hzg2 : id _) (hzg3 : id _) (hzg4 : id _) (hzg5 : id _) (hzg6 : id _) (hzg7 : id _) (hzg8 : id _) hzg9 hzg23 hzg27 hzg30 hzg34 hzg36 (hzg39 : id _) (hzg44 : id _) (hzg47 : id _) (hzg48 : id _) (hzg51 : id _) (hzg56 : id _) (hzg59 : id _) (hzg62 : id _) (hzg65 : id _) (hzg66 : id _) (hzg70 : id _) hzF11 hzF12 hzF13 hzF15 hzF19 hzF21 hzF24 hzF25 hzF26 hzF33 hzF38 hzF41 hzF43 hzF45 hzF46 hzF50 hzF53 hzF54 hzLQ => ?_)
  clear hI
  have zk0 : (0 : Int32).toInt = 0 := by decide +kernel
  have zk1 : (1 : Int32).toInt = 1 := by decide +kernel
  have zk12 : (12 : Int32).toInt = 12 := by decide +kernel
  have zk24 : (24 : Int32).toInt = 24 := by decide +kernel
  refine wp_jn (fun k28 => ∀ (c28_F37 : (Nat → Int32)), wp (k28 c28_F37) (Q_through g F p0 p1)) ?_ ?_
  · intro c28_F37
    show wp _ _
    refine wp_if ⟨by (first | omega | (simp only [id_eq] at *; omega)), by (first | omega | (simp only [id_eq] at *; omega))⟩ ?_
    refine wp_vl (fun w37 ew37 => ?_)
    have hF1 : rng (0) 24 w37 := by rw [ew37]; exact rng_upd hzF38 (by (first | omega | (simp only [id_eq] at *; omega))) (by (first | omega | (simp only [id_eq] at *; omega)))
    clear ew37
    have hg2 : ((0) ≤ (1 : Int32).toInt ∧ (1 : Int32).toInt ≤ 12) := ⟨by (first | omega | (simp only [id_eq] at *; omega)), by (first | omega | (simp only [id_eq] at *; omega))⟩
    have lp45 : ∀ (n45 : Nat) (y45_3 : Int32) (d45_g23 : Int32) (d45_g27 : Int32) (d45_g30 : Int32) (d45_g34 : Int32) (d45_g36 : Int32) (d45_g39 : Int32) (d45_F22 : (Nat → Int32)) (d45_F24 : (Nat → Int32)) (d45_F25 : (Nat → Int32)) (d45_F26 : (Nat → Int32)) (d45_F28 : (Nat → Int32)) (d45_F29 : (Nat → Int32)) (d45_F31 : (Nat → Int32)) (d45_F32 : (Nat → Int32)) (d45_F33 : (Nat → Int32)) (d45_F37 : (Nat → Int32)) (d45_F38 : (Nat → Int32)) (d45_F40 : (Nat → Int32)) (d45_F41 : (Nat → Int32)), (7 - y45_3.toInt).toNat < n45 → ((0) ≤ d45_g23.toInt ∧ d45_g23.toInt ≤ 24) → ((0) ≤ d45_g27.toInt ∧ d45_g27.toInt ≤ 30) → ((0) ≤ d45_g30.toInt ∧ d45_g30.toInt ≤ 384) → ((0) ≤ d45_g34.toInt ∧ d45_g34.toInt ≤ 30) → ((0) ≤ d45_g36.toInt ∧ d45_g36.toInt ≤ 1) → ((0) ≤ d45_g39.toInt ∧ d45_g39.toInt ≤ 12) → rng (0) 24 d45_F24 → rng (0) 24 d45_F25 → rng (0) 24 d45_F26 → rng (0) 24 d45_F33 → rng (0) 24 d45_F38 → rng (0) 24 d45_F41 → (p0.toInt ≤ y45_3.toInt ∧ y45_3.toInt ≤ 7) → wp (L_through_45 g F p1 n45 y45_3 d45_g23 d45_g27 d45_g30 d45_g34 d45_g36 d45_g39 d45_F22 d45_F24 d45_F25 d45_F26 d45_F28 d45_F29 d45_F31 d45_F32 d45_F33 d45_F37 d45_F38 d45_F40 d45_F41) (Q_through g F p0 p1) := by
      intro n45
      induction n45 with
      | zero => intro y45_3 d45_g23 d45_g27 d45_g30 d45_g34 d45_g36 d45_g39 d45_F22 d45_F24 d45_F25 d45_F26 d45_F28 d45_F29 d45_F31 d45_F32 d45_F33 d45_F37 d45_F38 d45_F40 d45_F41 hm; exact absurd hm (Nat.not_lt_zero _)
      | succ n45 ih45 =>
        intro y45_3 d45_g23 d45_g27 d45_g30 d45_g34 d45_g36 d45_g39 d45_F22 d45_F24 d45_F25 d45_F26 d45_F28 d45_F29 d45_F31 d45_F32 d45_F33 d45_F37 d45_F38 d45_F40 d45_F41 hm45 hg3 hg4 hg5 hg6 hg7 hg8 hg9 hg10 hg11 hg12 hg13 hg14 f15
        show wp (B_through_45 g F p1 (L_through_45 g F p1 n45) y45_3 d45_g23 d45_g27 d45_g30 d45_g34 d45_g36 d45_g39 d45_F22 d45_F24 d45_F25 d45_F26 d45_F28 d45_F29 d45_F31 d45_F32 d45_F33 d45_F37 d45_F38 d45_F40 d45_F41) _
        unfold B_through_45
        refine wp_ite (fun c47 => ?_) (fun c47 => ?_)
        · have c47 := (z_le _ _).mp c47
          exact ⟨_, rfl, ⟨hg3, hg4, hg5, hg6, hg7, hg8, hg9, hg10, hg11, hg12, hg13, hg14⟩⟩
        · have c47 := z_nle c47
          refine wp_jn (fun k262 => ∀ (x262_4 : Int32) (c262_g23 : Int32) (c262_g27 : Int32) (c262_g30 : Int32) (c262_g34 : Int32) (c262_g36 : Int32) (c262_F22 : (Nat → Int32)) (c262_F24 : (Nat → Int32)) (c262_F25 : (Nat → Int32)) (c262_F26 : (Nat → Int32)) (c262_F28 : (Nat → Int32)) (c262_F29 : (Nat → Int32)) (c262_F31 : (Nat → Int32)) (c262_F32 : (Nat → Int32)) (c262_F33 : (Nat → Int32)) (c262_F40 : (Nat → Int32)) (c262_F41 : (Nat → Int32)), ((0) ≤ c262_g23.toInt ∧ c262_g23.toInt ≤ 24) → ((0) ≤ c262_g27.toInt ∧ c262_g27.toInt ≤ 30) → ((0) ≤ c262_g30.toInt ∧ c262_g30.toInt ≤ 384) → ((0) ≤ c262_g34.toInt ∧ c262_g34.toInt ≤ 30) → ((0) ≤ c262_g36.toInt ∧ c262_g36.toInt ≤ 1) → rng (0) 24 c262_F24 → rng (0) 24 c262_F25 → rng (0) 24 c262_F26 → rng (0) 24 c262_F33 → rng (0) 24 c262_F41 → (0 ≤ x262_4.toInt ∧ x262_4.toInt ≤ 12) → wp (k262 x262_4 c262_g23 c262_g27 c262_g30 c262_g34 c262_g36 c262_F22 c262_F24 c262_F25 c262_F26 c262_F28 c262_F29 c262_F31 c262_F32 c262_F33 c262_F40 c262_F41) (Q_through g F p0 p1)) ?_ ?_
          · intro x262_4 c262_g23 c262_g27 c262_g30 c262_g34 c262_g36 c262_F22 c262_F24 c262_F25 c262_F26 c262_F28 c262_F29 c262_F31 c262_F32 c262_F33 c262_F40 c262_F41 hg16 hg17 hg18 hg19 hg20 hg21 hg22 hg23 hg24 hg25 f26
            show wp _ _
            have hg27 : ((0) ≤ x262_4.toInt ∧ x262_4.toInt ≤ 12) := ⟨by (first | omega | (simp only [id_eq] at *; omega)), by (first | omega | (simp only [id_eq] at *; omega))⟩
            refine wp_jn (fun k345 => ∀ (c345_F37 : (Nat → Int32)) (c345_F38 : (Nat → Int32)), rng (0) 24 c345_F38 → wp (k345 c345_F37 c345_F38) (Q_through g F p0 p1)) ?_ ?_
            · intro c345_F37 c345_F38 hg28
              show wp _ _
              have f29 : (y45_3 + 1).toInt = y45_3.toInt + (1) := z_addc (by decide +kernel) (by (first | omega | (simp only [id_eq] at *; omega))) (by (first | omega | (simp only [id_eq] at *; omega)))
              exact ih45 (y45_3 + 1) c262_g23 c262_g27 c262_g30 c262_g34 c262_g36 x262_4 c262_F22 c262_F24 c262_F25 c262_F26 c262_F28 c262_F29 c262_F31 c262_F32 c262_F33 c345_F37 c345_F38 c262_F40 c262_F41 (show (7 - (y45_3 + 1).toInt).toNat < n45 from by (first | omega | (simp only [id_eq] at *; omega))) hg16 hg17 hg18 hg19 hg20 hg27 hg21 hg22 hg23 hg24 hg28 hg25 (show (p0.toInt ≤ (y45_3 + 1).toInt ∧ (y45_3 + 1).toInt ≤ 7) from by (first | omega | (simp only [id_eq] at *; omega)))
            intro k345 Jk345
            have lp271 : ∀ (n271 : Nat) (y271_5 : Int32) (d271_F37 : (Nat → Int32)) (d271_F38 : (Nat → Int32)), (12 - y271_5.toInt).toNat < n271 → rng (0) 24 d271_F38 → (0 ≤ y271_5.toInt ∧ y271_5.toInt ≤ 12) → wp (L_through_271 x262_4 c262_F40 c262_F41 k345 n271 y271_5 d271_F37 d271_F38) (Q_through g F p0 p1) := by
              intro n271
              induction n271 with
              | zero => intro y271_5 d271_F37 d271_F38 hm; exact absurd hm (Nat.not_lt_zero _)
              | succ n271 ih271 =>
                intro y271_5 d271_F37 d271_F38 hm271 hg30 f31
                show wp (B_through_271 x262_4 c262_F40 c262_F41 k345 (L_through_271 x262_4 c262_F40 c262_F41 k345 n271) y271_5 d271_F37 d271_F38) _
                unfold B_through_271
                refine wp_ite (fun c275 => ?_) (fun c275 => ?_)
                · have c275 := (z_le _ _).mp c275
                  exact Jk345 d271_F37 d271_F38 hg30
                · have c275 := z_nle c275
                  refine wp_if ⟨by (first | omega | (simp only [id_eq] at *; omega)), by (first | omega | (simp only [id_eq] at *; omega))⟩ ?_
                  have f32 := hg25 (Int32.toNatClampNeg y271_5)
                  refine wp_if ⟨by (first | omega | (simp only [id_eq] at *; omega)), by (first | omega | (simp only [id_eq] at *; omega))⟩ ?_
                  refine wp_vl (fun w291 ew291 => ?_)
                  have hF33 : rng (0) 24 w291 := by rw [ew291]; exact rng_upd hg30 (by (first | omega | (simp only [id_eq] at *; omega))) (by (first | omega | (simp only [id_eq] at *; omega)))
                  clear ew291
                  refine wp_jn (fun k339 => ∀ (c339_F37 : (Nat → Int32)), wp (k339 c339_F37) (Q_through g F p0 p1)) ?_ ?_
                  · intro c339_F37
                    show wp _ _
                    have f34 : (y271_5 + 1).toInt = y271_5.toInt + (1) := z_addc (by decide +kernel) (by (first | omega | (simp only [id_eq] at *; omega))) (by (first | omega | (simp only [id_eq] at *; omega)))
                    exact ih271 (y271_5 + 1) c339_F37 w291 (show (12 - (y271_5 + 1).toInt).toNat < n271 from by (first | omega | (simp only [id_eq] at *; omega))) hF33 (show (0 ≤ (y271_5 + 1).toInt ∧ (y271_5 + 1).toInt ≤ 12) from by (first | omega | (simp only [id_eq] at *; omega)))
                  intro k339 Jk339
                  have lp295 : ∀ (n295 : Nat) (y295_6 : Int32) (d295_F37 : (Nat → Int32)), (24 - y295_6.toInt).toNat < n295 → 0 ≤ y295_6.toInt → wp (L_through_295 c262_F40 c262_F41 y271_5 k339 n295 y295_6 d295_F37) (Q_through g F p0 p1) := by
                    intro n295
                    induction n295 with
                    | zero => intro y295_6 d295_F37 hm; exact absurd hm (Nat.not_lt_zero _)
                    | succ n295 ih295 =>
                      intro y295_6 d295_F37 hm295 f35
                      show wp (B_through_295 c262_F40 c262_F41 y271_5 k339 (L_through_295 c262_F40 c262_F41 y271_5 k339 n295) y295_6 d295_F37) _
                      unfold B_through_295
                      refine wp_if ⟨by (first | omega | (simp only [id_eq] at *; omega)), by (first | omega | (simp only [id_eq] at *; omega))⟩ ?_
                      refine wp_ite (fun c304 => ?_) (fun c304 => ?_)
                      · have c304 := (z_le _ _).mp c304
                        exact Jk339 d295_F37
                      · have c304 := z_nle c304
                        have f37 : (24 * y271_5).toInt = 24 * y271_5.toInt := z_muld (by decide +kernel) (by (first | omega | (simp only [id_eq] at *; omega))) (by (first | omega | (simp only [id_eq] at *; omega)))
                        have f38 : ((24 * y271_5) + y295_6).toInt = (24 * y271_5).toInt + y295_6.toInt := z_add (by (first | omega | (simp only [id_eq] at *; omega))) (by (first | omega | (simp only [id_eq] at *; omega)))
                        refine wp_if ⟨by (first | omega | (simp only [id_eq] at *; omega)), by (first | omega | (simp only [id_eq] at *; omega))⟩ ?_
                        refine wp_if ⟨by (first | omega | (simp only [id_eq] at *; omega)), by (first | omega | (simp only [id_eq] at *; omega))⟩ ?_
                        refine wp_vl (fun w332 ew332 => ?_)
                        clear ew332
                        have f41 : (y295_6 + 1).toInt = y295_6.toInt + (1) := z_addc (by decide +kernel) (by (first | omega | (simp only [id_eq] at *; omega))) (by (first | omega | (simp only [id_eq] at *; omega)))
                        exact ih295 (y295_6 + 1) w332 (show (24 - (y295_6 + 1).toInt).toNat < n295 from by (first | omega | (simp only [id_eq] at *; omega))) (show 0 ≤ (y295_6 + 1).toInt from by (first | omega | (simp only [id_eq] at *; omega)))
                  exact lp295 NN (0 : Int32) d271_F37 (by have := NN_eq; (first | omega | (simp only [id_eq] at *; omega))) (show 0 ≤ (0 : Int32).toInt from by (first | omega | (simp only [id_eq] at *; omega)))
            exact lp271 NN (0 : Int32) d45_F37 d45_F38 (by have := NN_eq; (first | omega | (simp only [id_eq] at *; omega))) hg13 (show (0 ≤ (0 : Int32).toInt ∧ (0 : Int32).toInt ≤ 12) from by (first | omega | (simp only [id_eq] at *; omega)))
          intro k262 Jk262
          have lp56 : ∀ (n56 : Nat) (y56_4 : Int32) (y56_5 : Int32) (d56_g23 : Int32) (d56_g27 : Int32) (d56_g30 : Int32) (d56_g34 : Int32) (d56_g36 : Int32) (d56_F22 : (Nat → Int32)) (d56_F24 : (Nat → Int32)) (d56_F25 : (Nat → Int32)) (d56_F26 : (Nat → Int32)) (d56_F28 : (Nat → Int32)) (d56_F29 : (Nat → Int32)) (d56_F31 : (Nat → Int32)) (d56_F32 : (Nat → Int32)) (d56_F33 : (Nat → Int32)) (d56_F40 : (Nat → Int32)) (d56_F41 : (Nat → Int32)), (12 - y56_5.toInt).toNat < n56 → ((0) ≤ d56_g23.toInt ∧ d56_g23.toInt ≤ 24) → ((0) ≤ d56_g27.toInt ∧ d56_g27.toInt ≤ 30) → ((0) ≤ d56_g30.toInt ∧ d56_g30.toInt ≤ 384) → ((0) ≤ d56_g34.toInt ∧ d56_g34.toInt ≤ 30) → ((0) ≤ d56_g36.toInt ∧ d56_g36.toInt ≤ 1) → rng (0) 24 d56_F24 → rng (0) 24 d56_F25 → rng (0) 24 d56_F26 → rng (0) 24 d56_F33 → rng (0) 24 d56_F41 → (0 ≤ y56_4.toInt ∧ y56_4.toInt ≤ 12) → (0 ≤ y56_5.toInt ∧ y56_5.toInt ≤ 12) → wp (L_through_56 g F y45_3 d45_g39 d45_F37 d45_F38 k262 n56 y56_4 y56_5 d56_g23 d56_g27 d56_g30 d56_g34 d56_g36 d56_F22 d56_F24 d56_F25 d56_F26 d56_F28 d56_F29 d56_F31 d56_F32 d56_F33 d56_F40 d56_F41) (Q_through g F p0 p1) := by
            intro n56
            induction n56 with
            | zero => intro y56_4 y56_5 d56_g23 d56_g27 d56_g30 d56_g34 d56_g36 d56_F22 d56_F24 d56_F25 d56_F26 d56_F28 d56_F29 d56_F31 d56_F32 d56_F33 d56_F40 d56_F41 hm; exact absurd hm (Nat.not_lt_zero _)
            | succ n56 ih56 =>
              intro y56_4 y56_5 d56_g23 d56_g27 d56_g30 d56_g34 d56_g36 d56_F22 d56_F24 d56_F25 d56_F26 d56_F28 d56_F29 d56_F31 d56_F32 d56_F33 d56_F40 d56_F41 hm56 hg42 hg43 hg44 hg45 hg46 hg47 hg48 hg49 hg50 hg51 f52 f53
              show wp (B_through_56 g F y45_3 d45_g39 d45_F37 d45_F38 k262 (L_through_56 g F y45_3 d45_g39 d45_F37 d45_F38 k262 n56) y56_4 y56_5 d56_g23 d56_g27 d56_g30 d56_g34 d56_g36 d56_F22 d56_F24 d56_F25 d56_F26 d56_F28 d56_F29 d56_F31 d56_F32 d56_F33 d56_F40 d56_F41) _
              unfold B_through_56
              refine wp_ite (fun c62 => ?_) (fun c62 => ?_)
              · have c62 := (z_le _ _).mp c62
                exact Jk262 y56_4 d56_g23 d56_g27 d56_g30 d56_g34 d56_g36 d56_F22 d56_F24 d56_F25 d56_F26 d56_F28 d56_F29 d56_F31 d56_F32 d56_F33 d56_F40 d56_F41 hg42 hg43 hg44 hg45 hg46 hg47 hg48 hg49 hg50 hg51 (show (0 ≤ y56_4.toInt ∧ y56_4.toInt ≤ 12) from by (first | omega | (simp only [id_eq] at *; omega)))
              · have c62 := z_nle c62
                have f54 : (24 * y56_5).toInt = 24 * y56_5.toInt := z_muld (by decide +kernel) (by (first | omega | (simp only [id_eq] at *; omega))) (by (first | omega | (simp only [id_eq] at *; omega)))
                refine wp_if ⟨by (first | omega | (simp only [id_eq] at *; omega)), by (first | omega | (simp only [id_eq] at *; omega))⟩ ?_
                have f55 := hg13 (Int32.toNatClampNeg y56_5)
                obtain ⟨⟨c82_g23, c82_F22⟩, hc82, hq82⟩ := ok_takeWord (upd (upd (upd (upd (upd (upd g 23 d56_g23) 27 d56_g27) 30 d56_g30) 34 d56_g34) 36 d56_g36) 39 d45_g39) (upF (upF (upF (upF (upF (upF (upF (upF (upF (upF (upF (upF (upF F 22 d56_F22) 24 d56_F24) 25 d56_F25) 26 d56_F26) 28 d56_F28) 29 d56_F29) 31 d56_F31) 32 d56_F32) 33 d56_F33) 37 d45_F37) 38 d45_F38) 40 d56_F40) 41 d56_F41) d45_F37 288 (24 * y56_5) (d45_F38 (Int32.toNatClampNeg y56_5)) (MInv_i hzg1 hzg2 hzg3 hzg4 hzg5 hzg6 hzg7 hzg8 hzg9 hg42 hg43 hg44 hg45 hg46 hg8 hzg44 hzg47 hzg48 hzg51 hzg56 hzg59 hzg62 hzg65 hzg66 hzg70 hzF11 hzF12 hzF13 hzF15 hzF19 hzF21 hg47 hg48 hg49 hg50 hg13 hg51 hzF43 hzF45 hzF46 hzF50 hzF53 hzF54 hzLQ) (show (0 ≤ (24 * y56_5).toInt ∧ (24 * y56_5).toInt + (d45_F38 (Int32.toNatClampNeg y56_5)).toInt ≤ 288) from by (first | omega | (simp only [id_eq] at *; omega))) (show 288 ≤ 500000 from by (first | omega | (simp only [id_eq] at *; omega))) (show (0 ≤ (d45_F38 (Int32.toNatClampNeg y56_5)).toInt ∧ (d45_F38 (Int32.toNatClampNeg y56_5)).toInt ≤ 24) from by (first | omega | (simp only [id_eq] at *; omega)))
                obtain ⟨hg56, f57⟩ : (((0) ≤ c82_g23.toInt ∧ c82_g23.toInt ≤ 24)) ∧ (c82_g23.toInt = (d45_F38 (Int32.toNatClampNeg y56_5)).toInt) := hq82
                refine wp_b2 hc82 ?_
                clear hc82
                obtain ⟨⟨c87_g27, c87_g30, c87_g34, c87_g36, c87_F24, c87_F25, c87_F26, c87_F28, c87_F29, c87_F31, c87_F32, c87_F33⟩, hc87, hq87⟩ := ok_turnBy (upd (upd (upd (upd (upd (upd g 23 c82_g23) 27 d56_g27) 30 d56_g30) 34 d56_g34) 36 d56_g36) 39 d45_g39) (upF (upF (upF (upF (upF (upF (upF (upF (upF (upF (upF (upF (upF F 22 c82_F22) 24 d56_F24) 25 d56_F25) 26 d56_F26) 28 d56_F28) 29 d56_F29) 31 d56_F31) 32 d56_F32) 33 d56_F33) 37 d45_F37) 38 d45_F38) 40 d56_F40) 41 d56_F41) y45_3 (MInv_i hzg1 hzg2 hzg3 hzg4 hzg5 hzg6 hzg7 hzg8 hzg9 hg56 hg43 hg44 hg45 hg46 hg8 hzg44 hzg47 hzg48 hzg51 hzg56 hzg59 hzg62 hzg65 hzg66 hzg70 hzF11 hzF12 hzF13 hzF15 hzF19 hzF21 hg47 hg48 hg49 hg50 hg13 hg51 hzF43 hzF45 hzF46 hzF50 hzF53 hzF54 hzLQ) (show (0 ≤ y45_3.toInt ∧ y45_3.toInt < (g 9).toInt) from by (first | omega | (simp only [id_eq] at *; omega)))
                obtain ⟨hg58, hg59, hg60, hg61, hg62, hg63, hg64, hg65⟩ : (((0) ≤ c87_g27.toInt ∧ c87_g27.toInt ≤ 30)) ∧ (((0) ≤ c87_g30.toInt ∧ c87_g30.toInt ≤ 384)) ∧ (((0) ≤ c87_g34.toInt ∧ c87_g34.toInt ≤ 30)) ∧ (((0) ≤ c87_g36.toInt ∧ c87_g36.toInt ≤ 1)) ∧ (rng (0) 24 c87_F24) ∧ (rng (0) 24 c87_F25) ∧ (rng (0) 24 c87_F26) ∧ (rng (0) 24 c87_F33) := hq87
                refine wp_b12 hc87 ?_
                clear hc87
                refine wp_jn (fun k256 => ∀ (x256_4 : Int32) (c256_F40 : (Nat → Int32)) (c256_F41 : (Nat → Int32)), rng (0) 24 c256_F41 → (0 ≤ x256_4.toInt ∧ x256_4.toInt ≤ 12) → wp (k256 x256_4 c256_F40 c256_F41) (Q_through g F p0 p1)) ?_ ?_
                · intro x256_4 c256_F40 c256_F41 hg66 f67
                  show wp _ _
                  have f68 : (y56_5 + 1).toInt = y56_5.toInt + (1) := z_addc (by decide +kernel) (by (first | omega | (simp only [id_eq] at *; omega))) (by (first | omega | (simp only [id_eq] at *; omega)))
                  exact ih56 x256_4 (y56_5 + 1) c82_g23 c87_g27 c87_g30 c87_g34 c87_g36 c82_F22 c87_F24 c87_F25 c87_F26 c87_F28 c87_F29 c87_F31 c87_F32 c87_F33 c256_F40 c256_F41 (show (12 - (y56_5 + 1).toInt).toNat < n56 from by (first | omega | (simp only [id_eq] at *; omega))) hg56 hg58 hg59 hg60 hg61 hg62 hg63 hg64 hg65 hg66 (show (0 ≤ x256_4.toInt ∧ x256_4.toInt ≤ 12) from by (first | omega | (simp only [id_eq] at *; omega))) (show (0 ≤ (y56_5 + 1).toInt ∧ (y56_5 + 1).toInt ≤ 12) from by (first | omega | (simp only [id_eq] at *; omega)))
                intro k256 Jk256
                have lp93 : ∀ (n93 : Nat) (y93_4 : Int32) (y93_6 : Int32) (d93_F40 : (Nat → Int32)) (d93_F41 : (Nat → Int32)), (30 - y93_6.toInt).toNat < n93 → rng (0) 24 d93_F41 → (0 ≤ y93_4.toInt ∧ y93_4.toInt ≤ 12) → (0 ≤ y93_6.toInt ∧ y93_6.toInt ≤ 30) → wp (L_through_93 c87_g34 c87_F32 c87_F33 k256 n93 y93_4 y93_6 d93_F40 d93_F41) (Q_through g F p0 p1) := by
                  intro n93
                  induction n93 with
                  | zero => intro y93_4 y93_6 d93_F40 d93_F41 hm; exact absurd hm (Nat.not_lt_zero _)
                  | succ n93 ih93 =>
                    intro y93_4 y93_6 d93_F40 d93_F41 hm93 hg69 f70 f71
                    show wp (B_through_93 c87_g34 c87_F32 c87_F33 k256 (L_through_93 c87_g34 c87_F32 c87_F33 k256 n93) y93_4 y93_6 d93_F40 d93_F41) _
                    unfold B_through_93
                    refine wp_ite (fun c99 => ?_) (fun c99 => ?_)
                    · have c99 := (z_le _ _).mp c99
                      exact Jk256 y93_4 d93_F40 d93_F41 hg69 (show (0 ≤ y93_4.toInt ∧ y93_4.toInt ≤ 12) from by (first | omega | (simp only [id_eq] at *; omega)))
                    · have c99 := z_nle c99
                      refine wp_ite (fun c106 => ?_) (fun c106 => ?_)
                      · have c106 := (z_le _ _).mp c106
                        exact Jk256 y93_4 d93_F40 d93_F41 hg69 (show (0 ≤ y93_4.toInt ∧ y93_4.toInt ≤ 12) from by (first | omega | (simp only [id_eq] at *; omega)))
                      · have c106 := z_nle c106
                        refine wp_jn (fun k178 => ∀ (x178_7 : Int32), wp (k178 x178_7) (Q_through g F p0 p1)) ?_ ?_
                        · intro x178_7
                          show wp _ _
                          refine wp_jn (fun j250 => ∀ (x250_4 : Int32) (c250_F40 : (Nat → Int32)) (c250_F41 : (Nat → Int32)), rng (0) 24 c250_F41 → (0 ≤ x250_4.toInt ∧ x250_4.toInt ≤ 12) → wp (j250 x250_4 c250_F40 c250_F41) (Q_through g F p0 p1)) ?_ ?_
                          · intro x250_4 c250_F40 c250_F41 hg72 f73
                            show wp _ _
                            have f74 : (y93_6 + 1).toInt = y93_6.toInt + (1) := z_addc (by decide +kernel) (by (first | omega | (simp only [id_eq] at *; omega))) (by (first | omega | (simp only [id_eq] at *; omega)))
                            exact ih93 x250_4 (y93_6 + 1) c250_F40 c250_F41 (show (30 - (y93_6 + 1).toInt).toNat < n93 from by (first | omega | (simp only [id_eq] at *; omega))) hg72 (show (0 ≤ x250_4.toInt ∧ x250_4.toInt ≤ 12) from by (first | omega | (simp only [id_eq] at *; omega))) (show (0 ≤ (y93_6 + 1).toInt ∧ (y93_6 + 1).toInt ≤ 30) from by (first | omega | (simp only [id_eq] at *; omega)))
                          intro j250 Jj250
                          refine wp_ite (fun c180 => ?_) (fun c180 => ?_)
                          · have c180 := congrArg Int32.toInt c180
                            exact Jj250 y93_4 d93_F40 d93_F41 hg69 (show (0 ≤ y93_4.toInt ∧ y93_4.toInt ≤ 12) from by (first | omega | (simp only [id_eq] at *; omega)))
                          · have c180 := z_ne c180
                            refine wp_jn (fun k233 => ∀ (c233_F40 : (Nat → Int32)), wp (k233 c233_F40) (Q_through g F p0 p1)) ?_ ?_
                            · intro c233_F40
                              show wp _ _
                              refine wp_if ⟨by (first | omega | (simp only [id_eq] at *; omega)), by (first | omega | (simp only [id_eq] at *; omega))⟩ ?_
                              have f75 := hg65 (Int32.toNatClampNeg y93_6)
                              refine wp_if ⟨by (first | omega | (simp only [id_eq] at *; omega)), by (first | omega | (simp only [id_eq] at *; omega))⟩ ?_
                              refine wp_vl (fun w246 ew246 => ?_)
                              have hF76 : rng (0) 24 w246 := by rw [ew246]; exact rng_upd hg69 (by (first | omega | (simp only [id_eq] at *; omega))) (by (first | omega | (simp only [id_eq] at *; omega)))
                              clear ew246
                              have f77 : (y93_4 + 1).toInt = y93_4.toInt + (1) := z_addc (by decide +kernel) (by (first | omega | (simp only [id_eq] at *; omega))) (by (first | omega | (simp only [id_eq] at *; omega)))
                              exact Jj250 (y93_4 + 1) c233_F40 w246 hF76 (show (0 ≤ (y93_4 + 1).toInt ∧ (y93_4 + 1).toInt ≤ 12) from by (first | omega | (simp only [id_eq] at *; omega)))
                            intro k233 Jk233
                            have lp189 : ∀ (n189 : Nat) (y189_8 : Int32) (d189_F40 : (Nat → Int32)), (24 - y189_8.toInt).toNat < n189 → 0 ≤ y189_8.toInt → wp (L_through_189 c87_F32 c87_F33 y93_4 y93_6 k233 n189 y189_8 d189_F40) (Q_through g F p0 p1) := by
                              intro n189
                              induction n189 with
                              | zero => intro y189_8 d189_F40 hm; exact absurd hm (Nat.not_lt_zero _)
                              | succ n189 ih189 =>
                                intro y189_8 d189_F40 hm189 f78
                                show wp (B_through_189 c87_F32 c87_F33 y93_4 y93_6 k233 (L_through_189 c87_F32 c87_F33 y93_4 y93_6 k233 n189) y189_8 d189_F40) _
                                unfold B_through_189
                                refine wp_if ⟨by (first | omega | (simp only [id_eq] at *; omega)), by (first | omega | (simp only [id_eq] at *; omega))⟩ ?_
                                have f79 := hg65 (Int32.toNatClampNeg y93_6)
                                refine wp_ite (fun c198 => ?_) (fun c198 => ?_)
                                · have c198 := (z_le _ _).mp c198
                                  exact Jk233 d189_F40
                                · have c198 := z_nle c198
                                  have f80 : (24 * y93_4).toInt = 24 * y93_4.toInt := z_muld (by decide +kernel) (by (first | omega | (simp only [id_eq] at *; omega))) (by (first | omega | (simp only [id_eq] at *; omega)))
                                  have f81 : ((24 * y93_4) + y189_8).toInt = (24 * y93_4).toInt + y189_8.toInt := z_add (by (first | omega | (simp only [id_eq] at *; omega))) (by (first | omega | (simp only [id_eq] at *; omega)))
                                  have f82 : (24 * y93_6).toInt = 24 * y93_6.toInt := z_muld (by decide +kernel) (by (first | omega | (simp only [id_eq] at *; omega))) (by (first | omega | (simp only [id_eq] at *; omega)))
                                  have f83 : ((24 * y93_6) + y189_8).toInt = (24 * y93_6).toInt + y189_8.toInt := z_add (by (first | omega | (simp only [id_eq] at *; omega))) (by (first | omega | (simp only [id_eq] at *; omega)))
                                  refine wp_if ⟨by (first | omega | (simp only [id_eq] at *; omega)), by (first | omega | (simp only [id_eq] at *; omega))⟩ ?_
                                  refine wp_if ⟨by (first | omega | (simp only [id_eq] at *; omega)), by (first | omega | (simp only [id_eq] at *; omega))⟩ ?_
                                  refine wp_vl (fun w226 ew226 => ?_)
                                  clear ew226
                                  have f84 : (y189_8 + 1).toInt = y189_8.toInt + (1) := z_addc (by decide +kernel) (by (first | omega | (simp only [id_eq] at *; omega))) (by (first | omega | (simp only [id_eq] at *; omega)))
                                  exact ih189 (y189_8 + 1) w226 (show (24 - (y189_8 + 1).toInt).toNat < n189 from by (first | omega | (simp only [id_eq] at *; omega))) (show 0 ≤ (y189_8 + 1).toInt from by (first | omega | (simp only [id_eq] at *; omega)))
                            exact lp189 NN (0 : Int32) d93_F40 (by have := NN_eq; (first | omega | (simp only [id_eq] at *; omega))) (show 0 ≤ (0 : Int32).toInt from by (first | omega | (simp only [id_eq] at *; omega)))
                        intro k178 Jk178
                        have lp115 : ∀ (n115 : Nat) (y115_7 : Int32) (y115_8 : Int32), (12 - y115_8.toInt).toNat < n115 → (0 ≤ y115_8.toInt ∧ y115_8.toInt ≤ 12) → wp (L_through_115 c87_F32 c87_F33 y93_4 y93_6 d93_F40 d93_F41 k178 n115 y115_7 y115_8) (Q_through g F p0 p1) := by
                          intro n115
                          induction n115 with
                          | zero => intro y115_7 y115_8 hm; exact absurd hm (Nat.not_lt_zero _)
                          | succ n115 ih115 =>
                            intro y115_7 y115_8 hm115 f85
                            show wp (B_through_115 c87_F32 c87_F33 y93_4 y93_6 d93_F40 d93_F41 k178 (L_through_115 c87_F32 c87_F33 y93_4 y93_6 d93_F40 d93_F41 k178 n115) y115_7 y115_8) _
                            unfold B_through_115
                            refine wp_ite (fun c119 => ?_) (fun c119 => ?_)
                            · have c119 := (z_le _ _).mp c119
                              exact Jk178 y115_7
                            · have c119 := z_nle c119
                              refine wp_ite (fun c124 => ?_) (fun c124 => ?_)
                              · have c124 := congrArg Int32.toInt c124
                                exact Jk178 y115_7
                              · have c124 := z_ne c124
                                have f86 : (24 * y115_8).toInt = 24 * y115_8.toInt := z_muld (by decide +kernel) (by (first | omega | (simp only [id_eq] at *; omega))) (by (first | omega | (simp only [id_eq] at *; omega)))
                                refine wp_if ⟨by (first | omega | (simp only [id_eq] at *; omega)), by (first | omega | (simp only [id_eq] at *; omega))⟩ ?_
                                have f87 := hg69 (Int32.toNatClampNeg y115_8)
                                have f88 : (24 * y93_6).toInt = 24 * y93_6.toInt := z_muld (by decide +kernel) (by (first | omega | (simp only [id_eq] at *; omega))) (by (first | omega | (simp only [id_eq] at *; omega)))
                                refine wp_if ⟨by (first | omega | (simp only [id_eq] at *; omega)), by (first | omega | (simp only [id_eq] at *; omega))⟩ ?_
                                have f89 := hg65 (Int32.toNatClampNeg y93_6)
                                obtain ⟨r159, hc159, hq159⟩ := ok_sameBytes d93_F40 288 (24 * y115_8) (d93_F41 (Int32.toNatClampNeg y115_8)) c87_F32 720 (24 * y93_6) (c87_F33 (Int32.toNatClampNeg y93_6)) (show (0 ≤ (24 * y115_8).toInt ∧ (24 * y115_8).toInt + (d93_F41 (Int32.toNatClampNeg y115_8)).toInt ≤ 288) from by (first | omega | (simp only [id_eq] at *; omega))) (show 288 ≤ 500000 from by (first | omega | (simp only [id_eq] at *; omega))) (show (0 ≤ (24 * y93_6).toInt ∧ (24 * y93_6).toInt + (c87_F33 (Int32.toNatClampNeg y93_6)).toInt ≤ 720) from by (first | omega | (simp only [id_eq] at *; omega))) (show 720 ≤ 500000 from by (first | omega | (simp only [id_eq] at *; omega)))
                                have f90 : (0 ≤ r159.toInt ∧ r159.toInt ≤ 1) := hq159
                                refine wp_b1 hc159 ?_
                                clear hc159
                                refine wp_jn (fun j170 => ∀ (t170_0 : Int32), wp (j170 t170_0) (Q_through g F p0 p1)) ?_ ?_
                                · intro t170_0
                                  show wp _ _
                                  have f91 : (y115_8 + 1).toInt = y115_8.toInt + (1) := z_addc (by decide +kernel) (by (first | omega | (simp only [id_eq] at *; omega))) (by (first | omega | (simp only [id_eq] at *; omega)))
                                  exact ih115 t170_0 (y115_8 + 1) (show (12 - (y115_8 + 1).toInt).toNat < n115 from by (first | omega | (simp only [id_eq] at *; omega))) (show (0 ≤ (y115_8 + 1).toInt ∧ (y115_8 + 1).toInt ≤ 12) from by (first | omega | (simp only [id_eq] at *; omega)))
                                intro j170 Jj170
                                refine wp_ite (fun c162 => ?_) (fun c162 => ?_)
                                · have c162 := congrArg Int32.toInt c162
                                  exact Jj170 (1 : Int32)
                                · have c162 := z_ne c162
                                  exact Jj170 (0 : Int32)
                        exact lp115 NN (1 : Int32) (0 : Int32) (by have := NN_eq; (first | omega | (simp only [id_eq] at *; omega))) (show (0 ≤ (0 : Int32).toInt ∧ (0 : Int32).toInt ≤ 12) from by (first | omega | (simp only [id_eq] at *; omega)))
                exact lp93 NN y56_4 (0 : Int32) d56_F40 d56_F41 (by have := NN_eq; (first | omega | (simp only [id_eq] at *; omega))) hg51 (show (0 ≤ y56_4.toInt ∧ y56_4.toInt ≤ 12) from by (first | omega | (simp only [id_eq] at *; omega))) (show (0 ≤ (0 : Int32).toInt ∧ (0 : Int32).toInt ≤ 30) from by (first | omega | (simp only [id_eq] at *; omega)))
          exact lp56 NN (0 : Int32) (0 : Int32) d45_g23 d45_g27 d45_g30 d45_g34 d45_g36 d45_F22 d45_F24 d45_F25 d45_F26 d45_F28 d45_F29 d45_F31 d45_F32 d45_F33 d45_F40 d45_F41 (by have := NN_eq; (first | omega | (simp only [id_eq] at *; omega))) hg3 hg4 hg5 hg6 hg7 hg9 hg10 hg11 hg12 hg14 (show (0 ≤ (0 : Int32).toInt ∧ (0 : Int32).toInt ≤ 12) from by (first | omega | (simp only [id_eq] at *; omega))) (show (0 ≤ (0 : Int32).toInt ∧ (0 : Int32).toInt ≤ 12) from by (first | omega | (simp only [id_eq] at *; omega)))
    exact lp45 NN p0 (g 23) (g 27) (g 30) (g 34) (g 36) (1 : Int32) (F 22) (F 24) (F 25) (F 26) (F 28) (F 29) (F 31) (F 32) (F 33) c28_F37 w37 (F 40) (F 41) (by have := NN_eq; (first | omega | (simp only [id_eq] at *; omega))) hzg23 hzg27 hzg30 hzg34 hzg36 hg2 hzF24 hzF25 hzF26 hzF33 hF1 hzF41 (show (p0.toInt ≤ p0.toInt ∧ p0.toInt ≤ 7) from by (first | omega | (simp only [id_eq] at *; omega)))
  intro k28 Jk28
  have lp2 : ∀ (n2 : Nat) (y2_3 : Int32) (d2_F37 : (Nat → Int32)), (24 - y2_3.toInt).toNat < n2 → 0 ≤ y2_3.toInt → wp (L_through_2 g F k28 n2 y2_3 d2_F37) (Q_through g F p0 p1) := by
    intro n2
    induction n2 with
    | zero => intro y2_3 d2_F37 hm; exact absurd hm (Nat.not_lt_zero _)
    | succ n2 ih2 =>
      intro y2_3 d2_F37 hm2 f92
      show wp (B_through_2 g F k28 (L_through_2 g F k28 n2) y2_3 d2_F37) _
      unfold B_through_2
      refine wp_ite (fun c7 => ?_) (fun c7 => ?_)
      · have c7 := (z_le _ _).mp c7
        exact Jk28 d2_F37
      · have c7 := z_nle c7
        refine wp_if ⟨by (first | omega | (simp only [id_eq] at *; omega)), by (first | omega | (simp only [id_eq] at *; omega))⟩ ?_
        refine wp_if ⟨by (first | omega | (simp only [id_eq] at *; omega)), by (first | omega | (simp only [id_eq] at *; omega))⟩ ?_
        refine wp_vl (fun w21 ew21 => ?_)
        clear ew21
        have f93 : (y2_3 + 1).toInt = y2_3.toInt + (1) := z_addc (by decide +kernel) (by (first | omega | (simp only [id_eq] at *; omega))) (by (first | omega | (simp only [id_eq] at *; omega)))
        exact ih2 (y2_3 + 1) w21 (show (24 - (y2_3 + 1).toInt).toNat < n2 from by (first | omega | (simp only [id_eq] at *; omega))) (show 0 ≤ (y2_3 + 1).toInt from by (first | omega | (simp only [id_eq] at *; omega)))
  exact lp2 NN (0 : Int32) (F 37) (by have := NN_eq; (first | omega | (simp only [id_eq] at *; omega))) (show 0 ≤ (0 : Int32).toInt from by (first | omega | (simp only [id_eq] at *; omega)))
abbrev Q_turn (g : Nat → Int32) (F : Nat → Nat → Int32) (p0 : Int32) (p1 : Int32) : (Int32 × Int32 × Int32 × Int32 × Int32 × Int32 × Int32 × Int32 × Int32 × (Nat → Int32) × (Nat → Int32) × (Nat → Int32) × (Nat → Int32) × (Nat → Int32) × (Nat → Int32) × (Nat → Int32) × (Nat → Int32) × (Nat → Int32) × (Nat → Int32) × (Nat → Int32) × (Nat → Int32) × (Nat → Int32) × (Nat → Int32) × (Nat → Int32)) → Prop := (fun t => (((0) ≤ (t.2.1).toInt ∧ (t.2.1).toInt ≤ 2000)) ∧ (((0) ≤ (t.2.2.1).toInt ∧ (t.2.2.1).toInt ≤ 24)) ∧ (((0) ≤ (t.2.2.2.1).toInt ∧ (t.2.2.2.1).toInt ≤ 30)) ∧ (((0) ≤ (t.2.2.2.2.1).toInt ∧ (t.2.2.2.2.1).toInt ≤ 384)) ∧ (((0) ≤ (t.2.2.2.2.2.1).toInt ∧ (t.2.2.2.2.2.1).toInt ≤ 30)) ∧ (((0) ≤ (t.2.2.2.2.2.2.1).toInt ∧ (t.2.2.2.2.2.2.1).toInt ≤ 1)) ∧ (((0) ≤ (t.2.2.2.2.2.2.2.1).toInt ∧ (t.2.2.2.2.2.2.2.1).toInt ≤ 12)) ∧ (((0) ≤ (t.2.2.2.2.2.2.2.2.1).toInt ∧ (t.2.2.2.2.2.2.2.2.1).toInt ≤ 12)) ∧ (rng (0) 24 (t.2.2.2.2.2.2.2.2.2.2.1)) ∧ (rng (0) 24 (t.2.2.2.2.2.2.2.2.2.2.2.1)) ∧ (rng (0) 24 (t.2.2.2.2.2.2.2.2.2.2.2.2.1)) ∧ (rng (0) 24 (t.2.2.2.2.2.2.2.2.2.2.2.2.2.2.2.2.2.1)) ∧ (rng (0) 24 (t.2.2.2.2.2.2.2.2.2.2.2.2.2.2.2.2.2.2.2.1)) ∧ (rng (0) 24 (t.2.2.2.2.2.2.2.2.2.2.2.2.2.2.2.2.2.2.2.2.2.1)) ∧ (rng (0) 24 (t.2.2.2.2.2.2.2.2.2.2.2.2.2.2.2.2.2.2.2.2.2.2.2)) ∧ ((t.2.1).toInt = 0))
set_option maxHeartbeats 4000000 in
set_option maxRecDepth 100000 in
theorem ok_turn (g : Nat → Int32) (F : Nat → Nat → Int32) (p0 : Int32) (p1 : Int32) (hI : MInv g F) : wp (f_turn g F p0 p1) (Q_turn g F p0 p1) := by
  unfold f_turn
  refine MInv_e hI (fun (hzg1 : id _) (hzg2 : id _) (hzg3 : id _) (hzg4 : id _) (hzg5 : id _) (hzg6 : id _) (hzg7 : id _) (hzg8 : id _) hzg9 (hzg23 : id _) hzg27 hzg30 hzg34 hzg36 hzg39 hzg44 (hzg47 : id _) (hzg48 : id _) (hzg51 : id _) (hzg56 : id _) (hzg59 : id _) (hzg62 : id _) (hzg65 : id _) (hzg66 : id _) (hzg70 : id _) hzF11 hzF12 hzF13 hzF15 hzF19 hzF21 hzF24 hzF25 hzF26 hzF33 hzF38 hzF41 hzF43 hzF45 hzF46 hzF50 hzF53 hzF54 hzLQ => ?_)
  clear hI
  have zkm2 : (-2 : Int32).toInt = -2 := by decide +kernel
  have zk0 : (0 : Int32).toInt = 0 := by decide +kernel
  have zk24 : (24 : Int32).toInt = 24 := by decide +kernel
  obtain ⟨⟨r1, c1_g1, c1_g23, c1_F22⟩, hc1, hq1⟩ := ok_readWord g F (MInv_i hzg1 hzg2 hzg3 hzg4 hzg5 hzg6 hzg7 hzg8 hzg9 hzg23 hzg27 hzg30 hzg34 hzg36 hzg39 hzg44 hzg47 hzg48 hzg51 hzg56 hzg59 hzg62 hzg65 hzg66 hzg70 hzF11 hzF12 hzF13 hzF15 hzF19 hzF21 hzF24 hzF25 hzF26 hzF33 hzF38 hzF41 hzF43 hzF45 hzF46 hzF50 hzF53 hzF54 hzLQ)
  obtain ⟨hg1, hg2, f3, f4, f5⟩ : (((0) ≤ c1_g1.toInt ∧ c1_g1.toInt ≤ 2000)) ∧ (((0) ≤ c1_g23.toInt ∧ c1_g23.toInt ≤ 24)) ∧ (c1_g1.toInt = 0) ∧ (id (r1.toInt = 1 → 1 ≤ c1_g23.toInt)) ∧ ((0 ≤ r1.toInt ∧ r1.toInt ≤ 1)) := hq1
  refine wp_b4 hc1 ?_
  clear hc1
  refine wp_jn (fun j28 => wp (j28 ()) (Q_turn g F p0 p1)) ?_ ?_
  · show wp _ _
    show wp _ _
    exact ⟨_, rfl, ⟨hg1, hg2, hzg27, hzg30, hzg34, hzg36, hzg39, hzg44, hzF24, hzF25, hzF26, hzF33, hzF38, hzF41, hzF43, (show c1_g1.toInt = 0 from by (first | omega | (simp only [id_eq] at *; omega)))⟩⟩
  intro j28 Jj28
  refine wp_ite (fun c4 => ?_) (fun c4 => ?_)
  · have c4 := congrArg Int32.toInt c4
    exact Jj28
  · have c4 := z_ne c4
    obtain ⟨r9, hc9, hq9⟩ := ok_isStage (upd (upd g 1 c1_g1) 23 c1_g23) (upF F 22 c1_F22) p0 (MInv_i hg1 hzg2 hzg3 hzg4 hzg5 hzg6 hzg7 hzg8 hzg9 hg2 hzg27 hzg30 hzg34 hzg36 hzg39 hzg44 hzg47 hzg48 hzg51 hzg56 hzg59 hzg62 hzg65 hzg66 hzg70 hzF11 hzF12 hzF13 hzF15 hzF19 hzF21 hzF24 hzF25 hzF26 hzF33 hzF38 hzF41 hzF43 hzF45 hzF46 hzF50 hzF53 hzF54 hzLQ)
    obtain ⟨f6, f7⟩ : (id (r9.toInt = 1 → 0 ≤ p0.toInt ∧ p0.toInt ≤ (g 9).toInt)) ∧ ((0 ≤ r9.toInt ∧ r9.toInt ≤ 1)) := hq9
    refine wp_b1 hc9 ?_
    clear hc9
    refine wp_ite (fun c12 => ?_) (fun c12 => ?_)
    · have c12 := congrArg Int32.toInt c12
      exact Jj28
    · have c12 := z_ne c12
      obtain ⟨r17, hc17, hq17⟩ := ok_isStage (upd (upd g 1 c1_g1) 23 c1_g23) (upF F 22 c1_F22) p1 (MInv_i hg1 hzg2 hzg3 hzg4 hzg5 hzg6 hzg7 hzg8 hzg9 hg2 hzg27 hzg30 hzg34 hzg36 hzg39 hzg44 hzg47 hzg48 hzg51 hzg56 hzg59 hzg62 hzg65 hzg66 hzg70 hzF11 hzF12 hzF13 hzF15 hzF19 hzF21 hzF24 hzF25 hzF26 hzF33 hzF38 hzF41 hzF43 hzF45 hzF46 hzF50 hzF53 hzF54 hzLQ)
      obtain ⟨f8, f9⟩ : (id (r17.toInt = 1 → 0 ≤ p1.toInt ∧ p1.toInt ≤ (g 9).toInt)) ∧ ((0 ≤ r17.toInt ∧ r17.toInt ≤ 1)) := hq17
      refine wp_b1 hc17 ?_
      clear hc17
      refine wp_ite (fun c20 => ?_) (fun c20 => ?_)
      · have c20 := congrArg Int32.toInt c20
        exact Jj28
      · have c20 := z_ne c20
        refine wp_ite (fun c25 => ?_) (fun c25 => ?_)
        · have c25 := (z_le _ _).mp c25
          obtain ⟨⟨c34_g23, c34_g27, c34_g30, c34_g34, c34_g36, c34_g39, c34_F22, c34_F24, c34_F25, c34_F26, c34_F28, c34_F29, c34_F31, c34_F32, c34_F33, c34_F37, c34_F38, c34_F40, c34_F41⟩, hc34, hq34⟩ := ok_through (upd (upd g 1 c1_g1) 23 c1_g23) (upF F 22 c1_F22) p0 p1 (MInv_i hg1 hzg2 hzg3 hzg4 hzg5 hzg6 hzg7 hzg8 hzg9 hg2 hzg27 hzg30 hzg34 hzg36 hzg39 hzg44 hzg47 hzg48 hzg51 hzg56 hzg59 hzg62 hzg65 hzg66 hzg70 hzF11 hzF12 hzF13 hzF15 hzF19 hzF21 hzF24 hzF25 hzF26 hzF33 hzF38 hzF41 hzF43 hzF45 hzF46 hzF50 hzF53 hzF54 hzLQ) (show (0 ≤ p0.toInt ∧ p0.toInt ≤ 6) from by (first | omega | (simp only [id_eq] at *; omega))) (show p1.toInt ≤ (g 9).toInt from by (first | omega | (simp only [id_eq] at *; omega)))
          obtain ⟨hg10, hg11, hg12, hg13, hg14, hg15, hg16, hg17, hg18, hg19, hg20, hg21⟩ : (((0) ≤ c34_g23.toInt ∧ c34_g23.toInt ≤ 24)) ∧ (((0) ≤ c34_g27.toInt ∧ c34_g27.toInt ≤ 30)) ∧ (((0) ≤ c34_g30.toInt ∧ c34_g30.toInt ≤ 384)) ∧ (((0) ≤ c34_g34.toInt ∧ c34_g34.toInt ≤ 30)) ∧ (((0) ≤ c34_g36.toInt ∧ c34_g36.toInt ≤ 1)) ∧ (((0) ≤ c34_g39.toInt ∧ c34_g39.toInt ≤ 12)) ∧ (rng (0) 24 c34_F24) ∧ (rng (0) 24 c34_F25) ∧ (rng (0) 24 c34_F26) ∧ (rng (0) 24 c34_F33) ∧ (rng (0) 24 c34_F38) ∧ (rng (0) 24 c34_F41) := hq34
          refine wp_b19 hc34 ?_
          clear hc34
          have hg22 : ((0) ≤ c34_g39.toInt ∧ c34_g39.toInt ≤ 12) := ⟨by (first | omega | (simp only [id_eq] at *; omega)), by (first | omega | (simp only [id_eq] at *; omega))⟩
          have lp47 : ∀ (n47 : Nat) (y47_3 : Int32) (d47_F42 : (Nat → Int32)) (d47_F43 : (Nat → Int32)), (12 - y47_3.toInt).toNat < n47 → rng (0) 24 d47_F43 → (0 ≤ y47_3.toInt ∧ y47_3.toInt ≤ 12) → wp (L_turn_47 c1_g1 c34_g23 c34_g27 c34_g30 c34_g34 c34_g36 c34_g39 c34_F22 c34_F24 c34_F25 c34_F26 c34_F28 c34_F29 c34_F31 c34_F32 c34_F33 c34_F37 c34_F38 c34_F40 c34_F41 n47 y47_3 d47_F42 d47_F43) (Q_turn g F p0 p1) := by
            intro n47
            induction n47 with
            | zero => intro y47_3 d47_F42 d47_F43 hm; exact absurd hm (Nat.not_lt_zero _)
            | succ n47 ih47 =>
              intro y47_3 d47_F42 d47_F43 hm47 hg23 f24
              show wp (B_turn_47 c1_g1 c34_g23 c34_g27 c34_g30 c34_g34 c34_g36 c34_g39 c34_F22 c34_F24 c34_F25 c34_F26 c34_F28 c34_F29 c34_F31 c34_F32 c34_F33 c34_F37 c34_F38 c34_F40 c34_F41 (L_turn_47 c1_g1 c34_g23 c34_g27 c34_g30 c34_g34 c34_g36 c34_g39 c34_F22 c34_F24 c34_F25 c34_F26 c34_F28 c34_F29 c34_F31 c34_F32 c34_F33 c34_F37 c34_F38 c34_F40 c34_F41 n47) y47_3 d47_F42 d47_F43) _
              unfold B_turn_47
              refine wp_ite (fun c52 => ?_) (fun c52 => ?_)
              · have c52 := (z_le _ _).mp c52
                exact ⟨_, rfl, ⟨hg1, hg10, hg11, hg12, hg13, hg14, hg15, hg22, hg16, hg17, hg18, hg19, hg20, hg21, hg23, (show c1_g1.toInt = 0 from by (first | omega | (simp only [id_eq] at *; omega)))⟩⟩
              · have c52 := z_nle c52
                refine wp_if ⟨by (first | omega | (simp only [id_eq] at *; omega)), by (first | omega | (simp only [id_eq] at *; omega))⟩ ?_
                have f25 := hg20 (Int32.toNatClampNeg y47_3)
                refine wp_if ⟨by (first | omega | (simp only [id_eq] at *; omega)), by (first | omega | (simp only [id_eq] at *; omega))⟩ ?_
                refine wp_vl (fun w66 ew66 => ?_)
                have hF26 : rng (0) 24 w66 := by rw [ew66]; exact rng_upd hg23 (by (first | omega | (simp only [id_eq] at *; omega))) (by (first | omega | (simp only [id_eq] at *; omega)))
                clear ew66
                refine wp_jn (fun k111 => ∀ (c111_F42 : (Nat → Int32)), wp (k111 c111_F42) (Q_turn g F p0 p1)) ?_ ?_
                · intro c111_F42
                  show wp _ _
                  have f27 : (y47_3 + 1).toInt = y47_3.toInt + (1) := z_addc (by decide +kernel) (by (first | omega | (simp only [id_eq] at *; omega))) (by (first | omega | (simp only [id_eq] at *; omega)))
                  exact ih47 (y47_3 + 1) c111_F42 w66 (show (12 - (y47_3 + 1).toInt).toNat < n47 from by (first | omega | (simp only [id_eq] at *; omega))) hF26 (show (0 ≤ (y47_3 + 1).toInt ∧ (y47_3 + 1).toInt ≤ 12) from by (first | omega | (simp only [id_eq] at *; omega)))
                intro k111 Jk111
                have lp70 : ∀ (n70 : Nat) (y70_4 : Int32) (d70_F42 : (Nat → Int32)), (24 - y70_4.toInt).toNat < n70 → 0 ≤ y70_4.toInt → wp (L_turn_70 c34_F37 c34_F38 y47_3 k111 n70 y70_4 d70_F42) (Q_turn g F p0 p1) := by
                  intro n70
                  induction n70 with
                  | zero => intro y70_4 d70_F42 hm; exact absurd hm (Nat.not_lt_zero _)
                  | succ n70 ih70 =>
                    intro y70_4 d70_F42 hm70 f28
                    show wp (B_turn_70 c34_F37 c34_F38 y47_3 k111 (L_turn_70 c34_F37 c34_F38 y47_3 k111 n70) y70_4 d70_F42) _
                    unfold B_turn_70
                    refine wp_if ⟨by (first | omega | (simp only [id_eq] at *; omega)), by (first | omega | (simp only [id_eq] at *; omega))⟩ ?_
                    refine wp_ite (fun c78 => ?_) (fun c78 => ?_)
                    · have c78 := (z_le _ _).mp c78
                      exact Jk111 d70_F42
                    · have c78 := z_nle c78
                      have f30 : (24 * y47_3).toInt = 24 * y47_3.toInt := z_muld (by decide +kernel) (by (first | omega | (simp only [id_eq] at *; omega))) (by (first | omega | (simp only [id_eq] at *; omega)))
                      have f31 : ((24 * y47_3) + y70_4).toInt = (24 * y47_3).toInt + y70_4.toInt := z_add (by (first | omega | (simp only [id_eq] at *; omega))) (by (first | omega | (simp only [id_eq] at *; omega)))
                      refine wp_if ⟨by (first | omega | (simp only [id_eq] at *; omega)), by (first | omega | (simp only [id_eq] at *; omega))⟩ ?_
                      refine wp_if ⟨by (first | omega | (simp only [id_eq] at *; omega)), by (first | omega | (simp only [id_eq] at *; omega))⟩ ?_
                      refine wp_vl (fun w104 ew104 => ?_)
                      clear ew104
                      have f34 : (y70_4 + 1).toInt = y70_4.toInt + (1) := z_addc (by decide +kernel) (by (first | omega | (simp only [id_eq] at *; omega))) (by (first | omega | (simp only [id_eq] at *; omega)))
                      exact ih70 (y70_4 + 1) w104 (show (24 - (y70_4 + 1).toInt).toNat < n70 from by (first | omega | (simp only [id_eq] at *; omega))) (show 0 ≤ (y70_4 + 1).toInt from by (first | omega | (simp only [id_eq] at *; omega)))
                exact lp70 NN (0 : Int32) d47_F42 (by have := NN_eq; (first | omega | (simp only [id_eq] at *; omega))) (show 0 ≤ (0 : Int32).toInt from by (first | omega | (simp only [id_eq] at *; omega)))
          exact lp47 NN (0 : Int32) (F 42) (F 43) (by have := NN_eq; (first | omega | (simp only [id_eq] at *; omega))) hzF43 (show (0 ≤ (0 : Int32).toInt ∧ (0 : Int32).toInt ≤ 12) from by (first | omega | (simp only [id_eq] at *; omega)))
        · have c25 := z_nle c25
          exact Jj28
abbrev Q_partings (g : Nat → Int32) (F : Nat → Nat → Int32) (p0 : Int32) : (Int32 × Int32 × Int32 × Int32 × Int32 × (Nat → Int32) × (Nat → Int32) × (Nat → Int32) × (Nat → Int32) × (Nat → Int32) × (Nat → Int32) × (Nat → Int32)) → Prop := (fun t => (((0) ≤ (t.2.1).toInt ∧ (t.2.1).toInt ≤ 2000)) ∧ (((0) ≤ (t.2.2.1).toInt ∧ (t.2.2.1).toInt ≤ 24)) ∧ (((0) ≤ (t.2.2.2.1).toInt ∧ (t.2.2.2.1).toInt ≤ 30)) ∧ (((0) ≤ (t.2.2.2.2.1).toInt ∧ (t.2.2.2.2.1).toInt ≤ 30)) ∧ (rng (0) 24 (t.2.2.2.2.2.2.1)) ∧ (rng (0) 24 (t.2.2.2.2.2.2.2.1)) ∧ (rng (0) 24 (t.2.2.2.2.2.2.2.2.1)) ∧ (rng (0) 24 (t.2.2.2.2.2.2.2.2.2.2.1)) ∧ (rng (0) 24 (t.2.2.2.2.2.2.2.2.2.2.2)) ∧ ((t.2.1).toInt = 0))
set_option maxHeartbeats 4000000 in
set_option maxRecDepth 100000 in
theorem ok_partings (g : Nat → Int32) (F : Nat → Nat → Int32) (p0 : Int32) (hI : MInv g F) : wp (f_partings g F p0) (Q_partings g F p0) := by
  unfold f_partings
  refine MInv_e hI (fun (hzg1 : id _) (hzg2 : id _) (hzg3 : id _) (hzg4 : id _) (hzg5 : id _) (hzg6 : id _) (hzg7 : id _) (hzg8 : id _) hzg9 (hzg23 : id _) hzg27 (hzg30 : id _) (hzg34 : id _) (hzg36 : id _) (hzg39 : id _) (hzg44 : id _) hzg47 (hzg48 : id _) (hzg51 : id _) (hzg56 : id _) (hzg59 : id _) (hzg62 : id _) (hzg65 : id _) (hzg66 : id _) (hzg70 : id _) hzF11 hzF12 hzF13 hzF15 hzF19 hzF21 hzF24 hzF25 hzF26 hzF33 hzF38 hzF41 hzF43 hzF45 hzF46 hzF50 hzF53 hzF54 hzLQ => ?_)
  clear hI
  have zkm11 : (-11 : Int32).toInt = -11 := by decide +kernel
  have zkm10 : (-10 : Int32).toInt = -10 := by decide +kernel
  have zkm2 : (-2 : Int32).toInt = -2 := by decide +kernel
  have zkm1 : (-1 : Int32).toInt = -1 := by decide +kernel
  have zk0 : (0 : Int32).toInt = 0 := by decide +kernel
  have zk1 : (1 : Int32).toInt = 1 := by decide +kernel
  have zk2 : (2 : Int32).toInt = 2 := by decide +kernel
  have zk24 : (24 : Int32).toInt = 24 := by decide +kernel
  obtain ⟨⟨r1, c1_g1, c1_g23, c1_F22⟩, hc1, hq1⟩ := ok_readWord g F (MInv_i hzg1 hzg2 hzg3 hzg4 hzg5 hzg6 hzg7 hzg8 hzg9 hzg23 hzg27 hzg30 hzg34 hzg36 hzg39 hzg44 hzg47 hzg48 hzg51 hzg56 hzg59 hzg62 hzg65 hzg66 hzg70 hzF11 hzF12 hzF13 hzF15 hzF19 hzF21 hzF24 hzF25 hzF26 hzF33 hzF38 hzF41 hzF43 hzF45 hzF46 hzF50 hzF53 hzF54 hzLQ)
  obtain ⟨hg1, hg2, f3, f4, f5⟩ : (((0) ≤ c1_g1.toInt ∧ c1_g1.toInt ≤ 2000)) ∧ (((0) ≤ c1_g23.toInt ∧ c1_g23.toInt ≤ 24)) ∧ (c1_g1.toInt = 0) ∧ (id (r1.toInt = 1 → 1 ≤ c1_g23.toInt)) ∧ ((0 ≤ r1.toInt ∧ r1.toInt ≤ 1)) := hq1
  refine wp_b4 hc1 ?_
  clear hc1
  refine wp_jn (fun j21 => wp (j21 ()) (Q_partings g F p0)) ?_ ?_
  · show wp _ _
    show wp _ _
    exact ⟨_, rfl, ⟨hg1, hg2, hzg27, hzg47, hzF24, hzF25, hzF26, hzF45, hzF46, (show c1_g1.toInt = 0 from by (first | omega | (simp only [id_eq] at *; omega)))⟩⟩
  intro j21 Jj21
  refine wp_ite (fun c4 => ?_) (fun c4 => ?_)
  · have c4 := congrArg Int32.toInt c4
    exact Jj21
  · have c4 := z_ne c4
    have f6 : ((g 9) - 1).toInt = (g 9).toInt - 1 := z_subc (by decide +kernel) (by (first | omega | (simp only [id_eq] at *; omega))) (by (first | omega | (simp only [id_eq] at *; omega)))
    obtain ⟨r15, hc15, hq15⟩ := ok_in p0 0 ((g 9) - 1) 
    obtain ⟨f7, f8, f9⟩ : (id (r15.toInt = 1 → (0 : Int32).toInt ≤ p0.toInt ∧ p0.toInt ≤ ((g 9) - 1).toInt)) ∧ (id (r15.toInt = 0 → p0.toInt < (0 : Int32).toInt ∨ ((g 9) - 1).toInt < p0.toInt)) ∧ ((0 ≤ r15.toInt ∧ r15.toInt ≤ 1)) := hq15
    refine wp_b1 hc15 ?_
    clear hc15
    refine wp_ite (fun c18 => ?_) (fun c18 => ?_)
    · have c18 := congrArg Int32.toInt c18
      exact Jj21
    · have c18 := z_ne c18
      obtain ⟨r26, hc26, hq26⟩ := ok_listedAs (upd (upd g 1 c1_g1) 23 c1_g23) (upF F 22 c1_F22) p0 (MInv_i hg1 hzg2 hzg3 hzg4 hzg5 hzg6 hzg7 hzg8 hzg9 hg2 hzg27 hzg30 hzg34 hzg36 hzg39 hzg44 hzg47 hzg48 hzg51 hzg56 hzg59 hzg62 hzg65 hzg66 hzg70 hzF11 hzF12 hzF13 hzF15 hzF19 hzF21 hzF24 hzF25 hzF26 hzF33 hzF38 hzF41 hzF43 hzF45 hzF46 hzF50 hzF53 hzF54 hzLQ) (show (0 ≤ p0.toInt ∧ p0.toInt ≤ 6) from by (first | omega | (simp only [id_eq] at *; omega)))
      have f10 : (r26.toInt = -1 ∨ (40 * p0.toInt ≤ r26.toInt ∧ r26.toInt < 40 * p0.toInt + 40)) := hq26
      refine wp_b1 hc26 ?_
      clear hc26
      refine wp_ite (fun c32 => ?_) (fun c32 => ?_)
      · have c32 := congrArg Int32.toInt c32
        obtain ⟨⟨c59_g27, c59_F24, c59_F25, c59_F26, c59_F28⟩, hc59, hq59⟩ := ok_makeWays (upd (upd g 1 c1_g1) 23 c1_g23) (upF F 22 c1_F22) p0 (MInv_i hg1 hzg2 hzg3 hzg4 hzg5 hzg6 hzg7 hzg8 hzg9 hg2 hzg27 hzg30 hzg34 hzg36 hzg39 hzg44 hzg47 hzg48 hzg51 hzg56 hzg59 hzg62 hzg65 hzg66 hzg70 hzF11 hzF12 hzF13 hzF15 hzF19 hzF21 hzF24 hzF25 hzF26 hzF33 hzF38 hzF41 hzF43 hzF45 hzF46 hzF50 hzF53 hzF54 hzLQ) (show (0 ≤ p0.toInt ∧ p0.toInt ≤ 6) from by (first | omega | (simp only [id_eq] at *; omega)))
        obtain ⟨hg11, hg12, hg13, hg14, f15⟩ : (((0) ≤ c59_g27.toInt ∧ c59_g27.toInt ≤ 30)) ∧ (rng (0) 24 c59_F24) ∧ (rng (0) 24 c59_F25) ∧ (rng (0) 24 c59_F26) ∧ (WS c59_F25 c59_F26 c59_g27) := hq59
        refine wp_b5 hc59 ?_
        clear hc59
        have hg16 : ((0) ≤ c59_g27.toInt ∧ c59_g27.toInt ≤ 30) := ⟨by (first | omega | (simp only [id_eq] at *; omega)), by (first | omega | (simp only [id_eq] at *; omega))⟩
        have lp72 : ∀ (n72 : Nat) (y72_3 : Int32) (d72_F45 : (Nat → Int32)) (d72_F46 : (Nat → Int32)), (30 - y72_3.toInt).toNat < n72 → rng (0) 24 d72_F45 → rng (0) 24 d72_F46 → (0 ≤ y72_3.toInt ∧ y72_3.toInt ≤ 30) → wp (L_partings_72 c1_g1 c1_g23 c1_F22 c59_g27 c59_F24 c59_F25 c59_F26 c59_F28 n72 y72_3 d72_F45 d72_F46) (Q_partings g F p0) := by
          intro n72
          induction n72 with
          | zero => intro y72_3 d72_F45 d72_F46 hm; exact absurd hm (Nat.not_lt_zero _)
          | succ n72 ih72 =>
            intro y72_3 d72_F45 d72_F46 hm72 hg17 hg18 f19
            show wp (B_partings_72 c1_g1 c1_g23 c1_F22 c59_g27 c59_F24 c59_F25 c59_F26 c59_F28 (L_partings_72 c1_g1 c1_g23 c1_F22 c59_g27 c59_F24 c59_F25 c59_F26 c59_F28 n72) y72_3 d72_F45 d72_F46) _
            unfold B_partings_72
            refine wp_ite (fun c77 => ?_) (fun c77 => ?_)
            · have c77 := (z_le _ _).mp c77
              exact ⟨_, rfl, ⟨hg1, hg2, hg11, hg16, hg12, hg13, hg14, hg17, hg18, (show c1_g1.toInt = 0 from by (first | omega | (simp only [id_eq] at *; omega)))⟩⟩
            · have c77 := z_nle c77
              refine wp_if ⟨by (first | omega | (simp only [id_eq] at *; omega)), by (first | omega | (simp only [id_eq] at *; omega))⟩ ?_
              have f20 := hg14 (Int32.toNatClampNeg y72_3)
              refine wp_if ⟨by (first | omega | (simp only [id_eq] at *; omega)), by (first | omega | (simp only [id_eq] at *; omega))⟩ ?_
              refine wp_vl (fun w91 ew91 => ?_)
              have hF21 : rng (0) 24 w91 := by rw [ew91]; exact rng_upd hg18 (by (first | omega | (simp only [id_eq] at *; omega))) (by (first | omega | (simp only [id_eq] at *; omega)))
              clear ew91
              refine wp_jn (fun k136 => ∀ (c136_F45 : (Nat → Int32)), rng (0) 24 c136_F45 → wp (k136 c136_F45) (Q_partings g F p0)) ?_ ?_
              · intro c136_F45 hg22
                show wp _ _
                have f23 : (y72_3 + 1).toInt = y72_3.toInt + (1) := z_addc (by decide +kernel) (by (first | omega | (simp only [id_eq] at *; omega))) (by (first | omega | (simp only [id_eq] at *; omega)))
                exact ih72 (y72_3 + 1) c136_F45 w91 (show (30 - (y72_3 + 1).toInt).toNat < n72 from by (first | omega | (simp only [id_eq] at *; omega))) hg22 hF21 (show (0 ≤ (y72_3 + 1).toInt ∧ (y72_3 + 1).toInt ≤ 30) from by (first | omega | (simp only [id_eq] at *; omega)))
              intro k136 Jk136
              have lp95 : ∀ (n95 : Nat) (y95_4 : Int32) (d95_F45 : (Nat → Int32)), (24 - y95_4.toInt).toNat < n95 → rng (0) 24 d95_F45 → 0 ≤ y95_4.toInt → wp (L_partings_95 c59_F25 c59_F26 y72_3 k136 n95 y95_4 d95_F45) (Q_partings g F p0) := by
                intro n95
                induction n95 with
                | zero => intro y95_4 d95_F45 hm; exact absurd hm (Nat.not_lt_zero _)
                | succ n95 ih95 =>
                  intro y95_4 d95_F45 hm95 hg24 f25
                  show wp (B_partings_95 c59_F25 c59_F26 y72_3 k136 (L_partings_95 c59_F25 c59_F26 y72_3 k136 n95) y95_4 d95_F45) _
                  unfold B_partings_95
                  refine wp_if ⟨by (first | omega | (simp only [id_eq] at *; omega)), by (first | omega | (simp only [id_eq] at *; omega))⟩ ?_
                  refine wp_ite (fun c103 => ?_) (fun c103 => ?_)
                  · have c103 := (z_le _ _).mp c103
                    exact Jk136 d95_F45 hg24
                  · have c103 := z_nle c103
                    have f27 : (24 * y72_3).toInt = 24 * y72_3.toInt := z_muld (by decide +kernel) (by (first | omega | (simp only [id_eq] at *; omega))) (by (first | omega | (simp only [id_eq] at *; omega)))
                    have f28 : ((24 * y72_3) + y95_4).toInt = (24 * y72_3).toInt + y95_4.toInt := z_add (by (first | omega | (simp only [id_eq] at *; omega))) (by (first | omega | (simp only [id_eq] at *; omega)))
                    refine wp_if ⟨by (first | omega | (simp only [id_eq] at *; omega)), by (first | omega | (simp only [id_eq] at *; omega))⟩ ?_
                    have f31 := hg13 (Int32.toNatClampNeg ((24 * y72_3) + y95_4))
                    refine wp_if ⟨by (first | omega | (simp only [id_eq] at *; omega)), by (first | omega | (simp only [id_eq] at *; omega))⟩ ?_
                    refine wp_vl (fun w129 ew129 => ?_)
                    have hF32 : rng (0) 24 w129 := by rw [ew129]; exact rng_upd hg24 (by (first | omega | (simp only [id_eq] at *; omega))) (by (first | omega | (simp only [id_eq] at *; omega)))
                    clear ew129
                    have f33 : (y95_4 + 1).toInt = y95_4.toInt + (1) := z_addc (by decide +kernel) (by (first | omega | (simp only [id_eq] at *; omega))) (by (first | omega | (simp only [id_eq] at *; omega)))
                    exact ih95 (y95_4 + 1) w129 (show (24 - (y95_4 + 1).toInt).toNat < n95 from by (first | omega | (simp only [id_eq] at *; omega))) hF32 (show 0 ≤ (y95_4 + 1).toInt from by (first | omega | (simp only [id_eq] at *; omega)))
              exact lp95 NN (0 : Int32) d72_F45 (by have := NN_eq; (first | omega | (simp only [id_eq] at *; omega))) hg17 (show 0 ≤ (0 : Int32).toInt from by (first | omega | (simp only [id_eq] at *; omega)))
        exact lp72 NN (0 : Int32) (F 45) (F 46) (by have := NN_eq; (first | omega | (simp only [id_eq] at *; omega))) hzF45 hzF46 (show (0 ≤ (0 : Int32).toInt ∧ (0 : Int32).toInt ≤ 30) from by (first | omega | (simp only [id_eq] at *; omega)))
      · have c32 := z_ne c32
        have f34 : (2 * r26).toInt = 2 * r26.toInt := z_muld (by decide +kernel) (by (first | omega | (simp only [id_eq] at *; omega))) (by (first | omega | (simp only [id_eq] at *; omega)))
        have f35 : ((2 * r26) + 1).toInt = (2 * r26).toInt + 1 := z_addc (by decide +kernel) (by (first | omega | (simp only [id_eq] at *; omega))) (by (first | omega | (simp only [id_eq] at *; omega)))
        refine wp_if ⟨by (first | omega | (simp only [id_eq] at *; omega)), by (first | omega | (simp only [id_eq] at *; omega))⟩ ?_
        have f36 := hzF21 (Int32.toNatClampNeg ((2 * r26) + 1))
        refine wp_jn (fun j56 => ∀ (t56_0 : Int32), wp (j56 t56_0) (Q_partings g F p0)) ?_ ?_
        · intro t56_0
          show wp _ _
          exact ⟨_, rfl, ⟨hg1, hg2, hzg27, hzg47, hzF24, hzF25, hzF26, hzF45, hzF46, (show c1_g1.toInt = 0 from by (first | omega | (simp only [id_eq] at *; omega)))⟩⟩
        intro j56 Jj56
        refine wp_ite (fun c46 => ?_) (fun c46 => ?_)
        · have c46 := congrArg Int32.toInt c46
          exact Jj56 (-10 : Int32)
        · have c46 := z_ne c46
          exact Jj56 (-11 : Int32)
abbrev Q_make (g : Nat → Int32) (F : Nat → Nat → Int32) : (Int32 × Int32 × Int32 × Int32 × Int32 × Int32 × Int32 × (Nat → Int32) × (Nat → Int32) × (Nat → Int32) × (Nat → Int32) × (Nat → Int32) × (Nat → Int32) × (Nat → Int32) × (Nat → Int32) × (Nat → Int32) × (Nat → Int32) × (Nat → Int32) × (Nat → Int32) × (Nat → Int32) × (Nat → Int32) × (Nat → Int32) × (Nat → Int32)) → Prop := (fun t => (((0) ≤ (t.1).toInt ∧ (t.1).toInt ≤ 24)) ∧ (((0) ≤ (t.2.1).toInt ∧ (t.2.1).toInt ≤ 30)) ∧ (((0) ≤ (t.2.2.1).toInt ∧ (t.2.2.1).toInt ≤ 384)) ∧ (((0) ≤ (t.2.2.2.1).toInt ∧ (t.2.2.2.1).toInt ≤ 30)) ∧ (((0) ≤ (t.2.2.2.2.1).toInt ∧ (t.2.2.2.2.1).toInt ≤ 1)) ∧ (((0) ≤ (t.2.2.2.2.2.1).toInt ∧ (t.2.2.2.2.2.1).toInt ≤ 12)) ∧ (((0) ≤ (t.2.2.2.2.2.2.1).toInt ∧ (t.2.2.2.2.2.2.1).toInt ≤ 1)) ∧ (rng (0) 24 (t.2.2.2.2.2.2.2.2.1)) ∧ (rng (0) 24 (t.2.2.2.2.2.2.2.2.2.1)) ∧ (rng (0) 24 (t.2.2.2.2.2.2.2.2.2.2.1)) ∧ (rng (0) 24 (t.2.2.2.2.2.2.2.2.2.2.2.2.2.2.2.1)) ∧ (rng (0) 24 (t.2.2.2.2.2.2.2.2.2.2.2.2.2.2.2.2.2.1)) ∧ (rng (0) 24 (t.2.2.2.2.2.2.2.2.2.2.2.2.2.2.2.2.2.2.2.1)) ∧ (rng (0) 24 (t.2.2.2.2.2.2.2.2.2.2.2.2.2.2.2.2.2.2.2.2.2.1)) ∧ (rng (0) 12 (t.2.2.2.2.2.2.2.2.2.2.2.2.2.2.2.2.2.2.2.2.2.2)))
set_option maxHeartbeats 4000000 in
set_option maxRecDepth 100000 in
theorem ok_make (g : Nat → Int32) (F : Nat → Nat → Int32) (hI : MInv g F) : wp (f_make g F) (Q_make g F) := by
  unfold f_make
  refine MInv_e hI (fun (hzg1 : id _) (hzg2 : id _) (hzg3 : id _) (hzg4 : id _) (hzg5 : id _) (hzg6 : id _) (hzg7 : id _) (hzg8 : id _) hzg9 hzg23 hzg27 hzg30 hzg34 hzg36 hzg39 (hzg44 : id _) (hzg47 : id _) hzg48 hzg51 (hzg56 : id _) (hzg59 : id _) (hzg62 : id _) (hzg65 : id _) (hzg66 : id _) (hzg70 : id _) hzF11 hzF12 hzF13 hzF15 hzF19 hzF21 hzF24 hzF25 hzF26 hzF33 hzF38 hzF41 hzF43 hzF45 hzF46 hzF50 hzF53 hzF54 hzLQ => ?_)
  clear hI
  have zk0 : (0 : Int32).toInt = 0 := by decide +kernel
  have zk1 : (1 : Int32).toInt = 1 := by decide +kernel
  have zk7 : (7 : Int32).toInt = 7 := by decide +kernel
  have zk12 : (12 : Int32).toInt = 12 := by decide +kernel
  have zk24 : (24 : Int32).toInt = 24 := by decide +kernel
  refine wp_ite (fun c4 => ?_) (fun c4 => ?_)
  · have c4 := congrArg Int32.toInt c4
    have hg1 : ((0) ≤ (1 : Int32).toInt ∧ (1 : Int32).toInt ≤ 1) := ⟨by (first | omega | (simp only [id_eq] at *; omega)), by (first | omega | (simp only [id_eq] at *; omega))⟩
    have lp15 : ∀ (n15 : Nat) (y15_1 : Int32) (d15_g23 : Int32) (d15_g27 : Int32) (d15_g30 : Int32) (d15_g34 : Int32) (d15_g36 : Int32) (d15_g39 : Int32) (d15_F22 : (Nat → Int32)) (d15_F24 : (Nat → Int32)) (d15_F25 : (Nat → Int32)) (d15_F26 : (Nat → Int32)) (d15_F28 : (Nat → Int32)) (d15_F29 : (Nat → Int32)) (d15_F31 : (Nat → Int32)) (d15_F32 : (Nat → Int32)) (d15_F33 : (Nat → Int32)) (d15_F37 : (Nat → Int32)) (d15_F38 : (Nat → Int32)) (d15_F40 : (Nat → Int32)) (d15_F41 : (Nat → Int32)) (d15_F52 : (Nat → Int32)) (d15_F53 : (Nat → Int32)) (d15_F54 : (Nat → Int32)), (100 - y15_1.toInt).toNat < n15 → ((0) ≤ d15_g23.toInt ∧ d15_g23.toInt ≤ 24) → ((0) ≤ d15_g27.toInt ∧ d15_g27.toInt ≤ 30) → ((0) ≤ d15_g30.toInt ∧ d15_g30.toInt ≤ 384) → ((0) ≤ d15_g34.toInt ∧ d15_g34.toInt ≤ 30) → ((0) ≤ d15_g36.toInt ∧ d15_g36.toInt ≤ 1) → ((0) ≤ d15_g39.toInt ∧ d15_g39.toInt ≤ 12) → rng (0) 24 d15_F24 → rng (0) 24 d15_F25 → rng (0) 24 d15_F26 → rng (0) 24 d15_F33 → rng (0) 24 d15_F38 → rng (0) 24 d15_F41 → rng (0) 24 d15_F53 → rng (0) 12 d15_F54 → (0 ≤ y15_1.toInt ∧ y15_1.toInt ≤ 100) → wp (L_make_15 g F n15 y15_1 d15_g23 d15_g27 d15_g30 d15_g34 d15_g36 d15_g39 d15_F22 d15_F24 d15_F25 d15_F26 d15_F28 d15_F29 d15_F31 d15_F32 d15_F33 d15_F37 d15_F38 d15_F40 d15_F41 d15_F52 d15_F53 d15_F54) (Q_make g F) := by
      intro n15
      induction n15 with
      | zero => intro y15_1 d15_g23 d15_g27 d15_g30 d15_g34 d15_g36 d15_g39 d15_F22 d15_F24 d15_F25 d15_F26 d15_F28 d15_F29 d15_F31 d15_F32 d15_F33 d15_F37 d15_F38 d15_F40 d15_F41 d15_F52 d15_F53 d15_F54 hm; exact absurd hm (Nat.not_lt_zero _)
      | succ n15 ih15 =>
        intro y15_1 d15_g23 d15_g27 d15_g30 d15_g34 d15_g36 d15_g39 d15_F22 d15_F24 d15_F25 d15_F26 d15_F28 d15_F29 d15_F31 d15_F32 d15_F33 d15_F37 d15_F38 d15_F40 d15_F41 d15_F52 d15_F53 d15_F54 hm15 hg2 hg3 hg4 hg5 hg6 hg7 hg8 hg9 hg10 hg11 hg12 hg13 hg14 hg15 f16
        show wp (B_make_15 g F (L_make_15 g F n15) y15_1 d15_g23 d15_g27 d15_g30 d15_g34 d15_g36 d15_g39 d15_F22 d15_F24 d15_F25 d15_F26 d15_F28 d15_F29 d15_F31 d15_F32 d15_F33 d15_F37 d15_F38 d15_F40 d15_F41 d15_F52 d15_F53 d15_F54) _
        unfold B_make_15
        refine wp_ite (fun c20 => ?_) (fun c20 => ?_)
        · have c20 := (z_le _ _).mp c20
          exact ⟨_, rfl, ⟨hg2, hg3, hg4, hg5, hg6, hg7, hg1, hg8, hg9, hg10, hg11, hg12, hg13, hg14, hg15⟩⟩
        · have c20 := z_nle c20
          refine wp_jn (fun k169 => ∀ (c169_g23 : Int32) (c169_g27 : Int32) (c169_g30 : Int32) (c169_g34 : Int32) (c169_g36 : Int32) (c169_g39 : Int32) (c169_F22 : (Nat → Int32)) (c169_F24 : (Nat → Int32)) (c169_F25 : (Nat → Int32)) (c169_F26 : (Nat → Int32)) (c169_F28 : (Nat → Int32)) (c169_F29 : (Nat → Int32)) (c169_F31 : (Nat → Int32)) (c169_F32 : (Nat → Int32)) (c169_F33 : (Nat → Int32)) (c169_F37 : (Nat → Int32)) (c169_F38 : (Nat → Int32)) (c169_F40 : (Nat → Int32)) (c169_F41 : (Nat → Int32)) (c169_F52 : (Nat → Int32)) (c169_F53 : (Nat → Int32)) (c169_F54 : (Nat → Int32)), ((0) ≤ c169_g23.toInt ∧ c169_g23.toInt ≤ 24) → ((0) ≤ c169_g27.toInt ∧ c169_g27.toInt ≤ 30) → ((0) ≤ c169_g30.toInt ∧ c169_g30.toInt ≤ 384) → ((0) ≤ c169_g34.toInt ∧ c169_g34.toInt ≤ 30) → ((0) ≤ c169_g36.toInt ∧ c169_g36.toInt ≤ 1) → ((0) ≤ c169_g39.toInt ∧ c169_g39.toInt ≤ 12) → rng (0) 24 c169_F24 → rng (0) 24 c169_F25 → rng (0) 24 c169_F26 → rng (0) 24 c169_F33 → rng (0) 24 c169_F38 → rng (0) 24 c169_F41 → rng (0) 24 c169_F53 → rng (0) 12 c169_F54 → wp (k169 c169_g23 c169_g27 c169_g30 c169_g34 c169_g36 c169_g39 c169_F22 c169_F24 c169_F25 c169_F26 c169_F28 c169_F29 c169_F31 c169_F32 c169_F33 c169_F37 c169_F38 c169_F40 c169_F41 c169_F52 c169_F53 c169_F54) (Q_make g F)) ?_ ?_
          · intro c169_g23 c169_g27 c169_g30 c169_g34 c169_g36 c169_g39 c169_F22 c169_F24 c169_F25 c169_F26 c169_F28 c169_F29 c169_F31 c169_F32 c169_F33 c169_F37 c169_F38 c169_F40 c169_F41 c169_F52 c169_F53 c169_F54 hg17 hg18 hg19 hg20 hg21 hg22 hg23 hg24 hg25 hg26 hg27 hg28 hg29 hg30
            show wp _ _
            have f31 : (y15_1 + 1).toInt = y15_1.toInt + (1) := z_addc (by decide +kernel) (by (first | omega | (simp only [id_eq] at *; omega))) (by (first | omega | (simp only [id_eq] at *; omega)))
            exact ih15 (y15_1 + 1) c169_g23 c169_g27 c169_g30 c169_g34 c169_g36 c169_g39 c169_F22 c169_F24 c169_F25 c169_F26 c169_F28 c169_F29 c169_F31 c169_F32 c169_F33 c169_F37 c169_F38 c169_F40 c169_F41 c169_F52 c169_F53 c169_F54 (show (100 - (y15_1 + 1).toInt).toNat < n15 from by (first | omega | (simp only [id_eq] at *; omega))) hg17 hg18 hg19 hg20 hg21 hg22 hg23 hg24 hg25 hg26 hg27 hg28 hg29 hg30 (show (0 ≤ (y15_1 + 1).toInt ∧ (y15_1 + 1).toInt ≤ 100) from by (first | omega | (simp only [id_eq] at *; omega)))
          intro k169 Jk169
          have lp25 : ∀ (n25 : Nat) (y25_2 : Int32) (d25_g23 : Int32) (d25_g27 : Int32) (d25_g30 : Int32) (d25_g34 : Int32) (d25_g36 : Int32) (d25_g39 : Int32) (d25_F22 : (Nat → Int32)) (d25_F24 : (Nat → Int32)) (d25_F25 : (Nat → Int32)) (d25_F26 : (Nat → Int32)) (d25_F28 : (Nat → Int32)) (d25_F29 : (Nat → Int32)) (d25_F31 : (Nat → Int32)) (d25_F32 : (Nat → Int32)) (d25_F33 : (Nat → Int32)) (d25_F37 : (Nat → Int32)) (d25_F38 : (Nat → Int32)) (d25_F40 : (Nat → Int32)) (d25_F41 : (Nat → Int32)) (d25_F52 : (Nat → Int32)) (d25_F53 : (Nat → Int32)) (d25_F54 : (Nat → Int32)), (7 - y25_2.toInt).toNat < n25 → ((0) ≤ d25_g23.toInt ∧ d25_g23.toInt ≤ 24) → ((0) ≤ d25_g27.toInt ∧ d25_g27.toInt ≤ 30) → ((0) ≤ d25_g30.toInt ∧ d25_g30.toInt ≤ 384) → ((0) ≤ d25_g34.toInt ∧ d25_g34.toInt ≤ 30) → ((0) ≤ d25_g36.toInt ∧ d25_g36.toInt ≤ 1) → ((0) ≤ d25_g39.toInt ∧ d25_g39.toInt ≤ 12) → rng (0) 24 d25_F24 → rng (0) 24 d25_F25 → rng (0) 24 d25_F26 → rng (0) 24 d25_F33 → rng (0) 24 d25_F38 → rng (0) 24 d25_F41 → rng (0) 24 d25_F53 → rng (0) 12 d25_F54 → (0 ≤ y25_2.toInt ∧ y25_2.toInt ≤ 7) → wp (L_make_25 g F y15_1 k169 n25 y25_2 d25_g23 d25_g27 d25_g30 d25_g34 d25_g36 d25_g39 d25_F22 d25_F24 d25_F25 d25_F26 d25_F28 d25_F29 d25_F31 d25_F32 d25_F33 d25_F37 d25_F38 d25_F40 d25_F41 d25_F52 d25_F53 d25_F54) (Q_make g F) := by
            intro n25
            induction n25 with
            | zero => intro y25_2 d25_g23 d25_g27 d25_g30 d25_g34 d25_g36 d25_g39 d25_F22 d25_F24 d25_F25 d25_F26 d25_F28 d25_F29 d25_F31 d25_F32 d25_F33 d25_F37 d25_F38 d25_F40 d25_F41 d25_F52 d25_F53 d25_F54 hm; exact absurd hm (Nat.not_lt_zero _)
            | succ n25 ih25 =>
              intro y25_2 d25_g23 d25_g27 d25_g30 d25_g34 d25_g36 d25_g39 d25_F22 d25_F24 d25_F25 d25_F26 d25_F28 d25_F29 d25_F31 d25_F32 d25_F33 d25_F37 d25_F38 d25_F40 d25_F41 d25_F52 d25_F53 d25_F54 hm25 hg32 hg33 hg34 hg35 hg36 hg37 hg38 hg39 hg40 hg41 hg42 hg43 hg44 hg45 f46
              show wp (B_make_25 g F y15_1 k169 (L_make_25 g F y15_1 k169 n25) y25_2 d25_g23 d25_g27 d25_g30 d25_g34 d25_g36 d25_g39 d25_F22 d25_F24 d25_F25 d25_F26 d25_F28 d25_F29 d25_F31 d25_F32 d25_F33 d25_F37 d25_F38 d25_F40 d25_F41 d25_F52 d25_F53 d25_F54) _
              unfold B_make_25
              refine wp_ite (fun c30 => ?_) (fun c30 => ?_)
              · have c30 := (z_lt _ _).mp c30
                exact Jk169 d25_g23 d25_g27 d25_g30 d25_g34 d25_g36 d25_g39 d25_F22 d25_F24 d25_F25 d25_F26 d25_F28 d25_F29 d25_F31 d25_F32 d25_F33 d25_F37 d25_F38 d25_F40 d25_F41 d25_F52 d25_F53 d25_F54 hg32 hg33 hg34 hg35 hg36 hg37 hg38 hg39 hg40 hg41 hg42 hg43 hg44 hg45
              · have c30 := z_nlt c30
                have f47 : (24 * y15_1).toInt = 24 * y15_1.toInt := z_muld (by decide +kernel) (by (first | omega | (simp only [id_eq] at *; omega))) (by (first | omega | (simp only [id_eq] at *; omega)))
                refine wp_if ⟨by (first | omega | (simp only [id_eq] at *; omega)), by (first | omega | (simp only [id_eq] at *; omega))⟩ ?_
                have f48 := hzF50 (Int32.toNatClampNeg y15_1)
                obtain ⟨⟨c48_g23, c48_F22⟩, hc48, hq48⟩ := ok_takeWord (upd (upd (upd (upd (upd (upd (upd g 23 d25_g23) 27 d25_g27) 30 d25_g30) 34 d25_g34) 36 d25_g36) 39 d25_g39) 51 1) (upF (upF (upF (upF (upF (upF (upF (upF (upF (upF (upF (upF (upF (upF (upF (upF F 22 d25_F22) 24 d25_F24) 25 d25_F25) 26 d25_F26) 28 d25_F28) 29 d25_F29) 31 d25_F31) 32 d25_F32) 33 d25_F33) 37 d25_F37) 38 d25_F38) 40 d25_F40) 41 d25_F41) 52 d25_F52) 53 d25_F53) 54 d25_F54) (F 49) 2400 (24 * y15_1) ((F 50) (Int32.toNatClampNeg y15_1)) (MInv_i hzg1 hzg2 hzg3 hzg4 hzg5 hzg6 hzg7 hzg8 hzg9 hg32 hg33 hg34 hg35 hg36 hg37 hzg44 hzg47 hzg48 hg1 hzg56 hzg59 hzg62 hzg65 hzg66 hzg70 hzF11 hzF12 hzF13 hzF15 hzF19 hzF21 hg38 hg39 hg40 hg41 hg42 hg43 hzF43 hzF45 hzF46 hzF50 hg44 hg45 hzLQ) (show (0 ≤ (24 * y15_1).toInt ∧ (24 * y15_1).toInt + ((F 50) (Int32.toNatClampNeg y15_1)).toInt ≤ 2400) from by (first | omega | (simp only [id_eq] at *; omega))) (show 2400 ≤ 500000 from by (first | omega | (simp only [id_eq] at *; omega))) (show (0 ≤ ((F 50) (Int32.toNatClampNeg y15_1)).toInt ∧ ((F 50) (Int32.toNatClampNeg y15_1)).toInt ≤ 24) from by (first | omega | (simp only [id_eq] at *; omega)))
                obtain ⟨hg49, f50⟩ : (((0) ≤ c48_g23.toInt ∧ c48_g23.toInt ≤ 24)) ∧ (c48_g23.toInt = ((F 50) (Int32.toNatClampNeg y15_1)).toInt) := hq48
                refine wp_b2 hc48 ?_
                clear hc48
                obtain ⟨⟨c54_g23, c54_g27, c54_g30, c54_g34, c54_g36, c54_g39, c54_F22, c54_F24, c54_F25, c54_F26, c54_F28, c54_F29, c54_F31, c54_F32, c54_F33, c54_F37, c54_F38, c54_F40, c54_F41⟩, hc54, hq54⟩ := ok_through (upd (upd (upd (upd (upd (upd (upd g 23 c48_g23) 27 d25_g27) 30 d25_g30) 34 d25_g34) 36 d25_g36) 39 d25_g39) 51 1) (upF (upF (upF (upF (upF (upF (upF (upF (upF (upF (upF (upF (upF (upF (upF (upF F 22 c48_F22) 24 d25_F24) 25 d25_F25) 26 d25_F26) 28 d25_F28) 29 d25_F29) 31 d25_F31) 32 d25_F32) 33 d25_F33) 37 d25_F37) 38 d25_F38) 40 d25_F40) 41 d25_F41) 52 d25_F52) 53 d25_F53) 54 d25_F54) 0 y25_2 (MInv_i hzg1 hzg2 hzg3 hzg4 hzg5 hzg6 hzg7 hzg8 hzg9 hg49 hg33 hg34 hg35 hg36 hg37 hzg44 hzg47 hzg48 hg1 hzg56 hzg59 hzg62 hzg65 hzg66 hzg70 hzF11 hzF12 hzF13 hzF15 hzF19 hzF21 hg38 hg39 hg40 hg41 hg42 hg43 hzF43 hzF45 hzF46 hzF50 hg44 hg45 hzLQ) (show (0 ≤ (0 : Int32).toInt ∧ (0 : Int32).toInt ≤ 6) from by (first | omega | (simp only [id_eq] at *; omega))) (show y25_2.toInt ≤ (g 9).toInt from by (first | omega | (simp only [id_eq] at *; omega)))
                obtain ⟨hg51, hg52, hg53, hg54, hg55, hg56, hg57, hg58, hg59, hg60, hg61, hg62⟩ : (((0) ≤ c54_g23.toInt ∧ c54_g23.toInt ≤ 24)) ∧ (((0) ≤ c54_g27.toInt ∧ c54_g27.toInt ≤ 30)) ∧ (((0) ≤ c54_g30.toInt ∧ c54_g30.toInt ≤ 384)) ∧ (((0) ≤ c54_g34.toInt ∧ c54_g34.toInt ≤ 30)) ∧ (((0) ≤ c54_g36.toInt ∧ c54_g36.toInt ≤ 1)) ∧ (((0) ≤ c54_g39.toInt ∧ c54_g39.toInt ≤ 12)) ∧ (rng (0) 24 c54_F24) ∧ (rng (0) 24 c54_F25) ∧ (rng (0) 24 c54_F26) ∧ (rng (0) 24 c54_F33) ∧ (rng (0) 24 c54_F38) ∧ (rng (0) 24 c54_F41) := hq54
                refine wp_b19 hc54 ?_
                clear hc54
                have f63 : (7 * y15_1).toInt = 7 * y15_1.toInt := z_muld (by decide +kernel) (by (first | omega | (simp only [id_eq] at *; omega))) (by (first | omega | (simp only [id_eq] at *; omega)))
                have f64 : ((7 * y15_1) + y25_2).toInt = (7 * y15_1).toInt + y25_2.toInt := z_add (by (first | omega | (simp only [id_eq] at *; omega))) (by (first | omega | (simp only [id_eq] at *; omega)))
                refine wp_vl (fun x63 ex63 => ?_)
                have f65 : x63.toInt = ((7 * y15_1) + y25_2).toInt := congrArg Int32.toInt ex63
                clear ex63
                refine wp_if ⟨by (first | omega | (simp only [id_eq] at *; omega)), by (first | omega | (simp only [id_eq] at *; omega))⟩ ?_
                refine wp_vl (fun w73 ew73 => ?_)
                have hF66 : rng (0) 12 w73 := by rw [ew73]; exact rng_upd hg45 (by (first | omega | (simp only [id_eq] at *; omega))) (by (first | omega | (simp only [id_eq] at *; omega)))
                clear ew73
                refine wp_jn (fun k163 => ∀ (c163_F52 : (Nat → Int32)) (c163_F53 : (Nat → Int32)), rng (0) 24 c163_F53 → wp (k163 c163_F52 c163_F53) (Q_make g F)) ?_ ?_
                · intro c163_F52 c163_F53 hg67
                  show wp _ _
                  have f68 : (y25_2 + 1).toInt = y25_2.toInt + (1) := z_addc (by decide +kernel) (by (first | omega | (simp only [id_eq] at *; omega))) (by (first | omega | (simp only [id_eq] at *; omega)))
                  exact ih25 (y25_2 + 1) c54_g23 c54_g27 c54_g30 c54_g34 c54_g36 c54_g39 c54_F22 c54_F24 c54_F25 c54_F26 c54_F28 c54_F29 c54_F31 c54_F32 c54_F33 c54_F37 c54_F38 c54_F40 c54_F41 c163_F52 c163_F53 w73 (show (7 - (y25_2 + 1).toInt).toNat < n25 from by (first | omega | (simp only [id_eq] at *; omega))) hg51 hg52 hg53 hg54 hg55 hg56 hg57 hg58 hg59 hg60 hg61 hg62 hg67 hF66 (show (0 ≤ (y25_2 + 1).toInt ∧ (y25_2 + 1).toInt ≤ 7) from by (first | omega | (simp only [id_eq] at *; omega)))
                intro k163 Jk163
                have lp77 : ∀ (n77 : Nat) (y77_4 : Int32) (d77_F52 : (Nat → Int32)) (d77_F53 : (Nat → Int32)), (12 - y77_4.toInt).toNat < n77 → rng (0) 24 d77_F53 → (0 ≤ y77_4.toInt ∧ y77_4.toInt ≤ 12) → wp (L_make_77 c54_g39 c54_F37 c54_F38 x63 k163 n77 y77_4 d77_F52 d77_F53) (Q_make g F) := by
                  intro n77
                  induction n77 with
                  | zero => intro y77_4 d77_F52 d77_F53 hm; exact absurd hm (Nat.not_lt_zero _)
                  | succ n77 ih77 =>
                    intro y77_4 d77_F52 d77_F53 hm77 hg69 f70
                    show wp (B_make_77 c54_g39 c54_F37 c54_F38 x63 k163 (L_make_77 c54_g39 c54_F37 c54_F38 x63 k163 n77) y77_4 d77_F52 d77_F53) _
                    unfold B_make_77
                    refine wp_ite (fun c83 => ?_) (fun c83 => ?_)
                    · have c83 := (z_le _ _).mp c83
                      exact Jk163 d77_F52 d77_F53 hg69
                    · have c83 := z_nle c83
                      have f71 : (12 * x63).toInt = 12 * x63.toInt := z_muld (by decide +kernel) (by (first | omega | (simp only [id_eq] at *; omega))) (by (first | omega | (simp only [id_eq] at *; omega)))
                      have f72 : ((12 * x63) + y77_4).toInt = (12 * x63).toInt + y77_4.toInt := z_add (by (first | omega | (simp only [id_eq] at *; omega))) (by (first | omega | (simp only [id_eq] at *; omega)))
                      refine wp_if ⟨by (first | omega | (simp only [id_eq] at *; omega)), by (first | omega | (simp only [id_eq] at *; omega))⟩ ?_
                      have f73 := hg61 (Int32.toNatClampNeg y77_4)
                      refine wp_if ⟨by (first | omega | (simp only [id_eq] at *; omega)), by (first | omega | (simp only [id_eq] at *; omega))⟩ ?_
                      refine wp_vl (fun w104 ew104 => ?_)
                      have hF74 : rng (0) 24 w104 := by rw [ew104]; exact rng_upd hg69 (by (first | omega | (simp only [id_eq] at *; omega))) (by (first | omega | (simp only [id_eq] at *; omega)))
                      clear ew104
                      refine wp_jn (fun k157 => ∀ (c157_F52 : (Nat → Int32)), wp (k157 c157_F52) (Q_make g F)) ?_ ?_
                      · intro c157_F52
                        show wp _ _
                        have f75 : (y77_4 + 1).toInt = y77_4.toInt + (1) := z_addc (by decide +kernel) (by (first | omega | (simp only [id_eq] at *; omega))) (by (first | omega | (simp only [id_eq] at *; omega)))
                        exact ih77 (y77_4 + 1) c157_F52 w104 (show (12 - (y77_4 + 1).toInt).toNat < n77 from by (first | omega | (simp only [id_eq] at *; omega))) hF74 (show (0 ≤ (y77_4 + 1).toInt ∧ (y77_4 + 1).toInt ≤ 12) from by (first | omega | (simp only [id_eq] at *; omega)))
                      intro k157 Jk157
                      have lp108 : ∀ (n108 : Nat) (y108_5 : Int32) (d108_F52 : (Nat → Int32)), (24 - y108_5.toInt).toNat < n108 → 0 ≤ y108_5.toInt → wp (L_make_108 c54_F37 c54_F38 x63 y77_4 k157 n108 y108_5 d108_F52) (Q_make g F) := by
                        intro n108
                        induction n108 with
                        | zero => intro y108_5 d108_F52 hm; exact absurd hm (Nat.not_lt_zero _)
                        | succ n108 ih108 =>
                          intro y108_5 d108_F52 hm108 f76
                          show wp (B_make_108 c54_F37 c54_F38 x63 y77_4 k157 (L_make_108 c54_F37 c54_F38 x63 y77_4 k157 n108) y108_5 d108_F52) _
                          unfold B_make_108
                          refine wp_if ⟨by (first | omega | (simp only [id_eq] at *; omega)), by (first | omega | (simp only [id_eq] at *; omega))⟩ ?_
                          refine wp_ite (fun c117 => ?_) (fun c117 => ?_)
                          · have c117 := (z_le _ _).mp c117
                            exact Jk157 d108_F52
                          · have c117 := z_nle c117
                            have f80 : (24 * ((12 * x63) + y77_4)).toInt = 24 * ((12 * x63) + y77_4).toInt := z_muld (by decide +kernel) (by (first | omega | (simp only [id_eq] at *; omega))) (by (first | omega | (simp only [id_eq] at *; omega)))
                            have f81 : ((24 * ((12 * x63) + y77_4)) + y108_5).toInt = (24 * ((12 * x63) + y77_4)).toInt + y108_5.toInt := z_add (by (first | omega | (simp only [id_eq] at *; omega))) (by (first | omega | (simp only [id_eq] at *; omega)))
                            have f82 : (24 * y77_4).toInt = 24 * y77_4.toInt := z_muld (by decide +kernel) (by (first | omega | (simp only [id_eq] at *; omega))) (by (first | omega | (simp only [id_eq] at *; omega)))
                            have f83 : ((24 * y77_4) + y108_5).toInt = (24 * y77_4).toInt + y108_5.toInt := z_add (by (first | omega | (simp only [id_eq] at *; omega))) (by (first | omega | (simp only [id_eq] at *; omega)))
                            refine wp_if ⟨by (first | omega | (simp only [id_eq] at *; omega)), by (first | omega | (simp only [id_eq] at *; omega))⟩ ?_
                            refine wp_if ⟨by (first | omega | (simp only [id_eq] at *; omega)), by (first | omega | (simp only [id_eq] at *; omega))⟩ ?_
                            refine wp_vl (fun w150 ew150 => ?_)
                            clear ew150
                            have f84 : (y108_5 + 1).toInt = y108_5.toInt + (1) := z_addc (by decide +kernel) (by (first | omega | (simp only [id_eq] at *; omega))) (by (first | omega | (simp only [id_eq] at *; omega)))
                            exact ih108 (y108_5 + 1) w150 (show (24 - (y108_5 + 1).toInt).toNat < n108 from by (first | omega | (simp only [id_eq] at *; omega))) (show 0 ≤ (y108_5 + 1).toInt from by (first | omega | (simp only [id_eq] at *; omega)))
                      exact lp108 NN (0 : Int32) d77_F52 (by have := NN_eq; (first | omega | (simp only [id_eq] at *; omega))) (show 0 ≤ (0 : Int32).toInt from by (first | omega | (simp only [id_eq] at *; omega)))
                exact lp77 NN (0 : Int32) d25_F52 d25_F53 (by have := NN_eq; (first | omega | (simp only [id_eq] at *; omega))) hg44 (show (0 ≤ (0 : Int32).toInt ∧ (0 : Int32).toInt ≤ 12) from by (first | omega | (simp only [id_eq] at *; omega)))
          exact lp25 NN (0 : Int32) d15_g23 d15_g27 d15_g30 d15_g34 d15_g36 d15_g39 d15_F22 d15_F24 d15_F25 d15_F26 d15_F28 d15_F29 d15_F31 d15_F32 d15_F33 d15_F37 d15_F38 d15_F40 d15_F41 d15_F52 d15_F53 d15_F54 (by have := NN_eq; (first | omega | (simp only [id_eq] at *; omega))) hg2 hg3 hg4 hg5 hg6 hg7 hg8 hg9 hg10 hg11 hg12 hg13 hg14 hg15 (show (0 ≤ (0 : Int32).toInt ∧ (0 : Int32).toInt ≤ 7) from by (first | omega | (simp only [id_eq] at *; omega)))
    exact lp15 NN (0 : Int32) (g 23) (g 27) (g 30) (g 34) (g 36) (g 39) (F 22) (F 24) (F 25) (F 26) (F 28) (F 29) (F 31) (F 32) (F 33) (F 37) (F 38) (F 40) (F 41) (F 52) (F 53) (F 54) (by have := NN_eq; (first | omega | (simp only [id_eq] at *; omega))) hzg23 hzg27 hzg30 hzg34 hzg36 hzg39 hzF24 hzF25 hzF26 hzF33 hzF38 hzF41 hzF53 hzF54 (show (0 ≤ (0 : Int32).toInt ∧ (0 : Int32).toInt ≤ 100) from by (first | omega | (simp only [id_eq] at *; omega)))
  · have c4 := z_ne c4
    exact ⟨_, rfl, ⟨hzg23, hzg27, hzg30, hzg34, hzg36, hzg39, hzg51, hzF24, hzF25, hzF26, hzF33, hzF38, hzF41, hzF53, hzF54⟩⟩
