abbrev Q_part (g : Nat → Int32) (F : Nat → Nat → Int32) (p0 : Int32) (p1 : Int32) (p2 : Int32) : (Int32 × (Nat → Int32) × (Nat → Int32) × (Nat → Int32)) → Prop := (fun t => (((0) ≤ (t.1).toInt ∧ (t.1).toInt ≤ 30)) ∧ (rng (0) 24 (t.2.1)) ∧ (rng (0) 24 (t.2.2.1)) ∧ (rng (0) 24 (t.2.2.2)) ∧ (WS (t.2.2.1) (t.2.2.2) (t.1)) ∧ ((∀ k : Nat, (k : Int) < p2.toInt → (t.2.1) k = (F 24) k)))
set_option maxHeartbeats 4000000 in
set_option maxRecDepth 100000 in
theorem ok_part (dn : Nat) : ∀ (g : Nat → Int32) (F : Nat → Nat → Int32) (p0 : Int32) (p1 : Int32) (p2 : Int32) (hI : MInv g F) (hp0 : ((g 23).toInt - p1.toInt) < dn) (hp1 : (0 ≤ p0.toInt ∧ p0.toInt ≤ 6)) (hp2 : (0 ≤ p1.toInt ∧ p1.toInt ≤ (g 23).toInt)) (hp3 : (0 ≤ p2.toInt ∧ p2.toInt ≤ p1.toInt)) (hp4 : psum (F 24) 0 p2.toInt.toNat = p1.toInt) (hp5 : WS (F 25) (F 26) (g 27)), wp (f_part dn g F p0 p1 p2) (Q_part g F p0 p1 p2) := by
  induction dn with
  | zero => intro g F p0 p1 p2 hI hp0 hp1 hp2 hp3 hp4 hp5; exact absurd hp0 (by (first | omega | (simp only [id_eq] at *; omega)))
  | succ dn ihd =>
  intro g F p0 p1 p2 hI hp0 hp1 hp2 hp3 hp4 hp5
  show wp (F_part (f_part dn) g F p0 p1 p2) _
  unfold F_part
  refine MInv_e hI (fun (hzg1 : id _) (hzg2 : id _) (hzg3 : id _) (hzg4 : id _) (hzg5 : id _) (hzg6 : id _) (hzg7 : id _) (hzg8 : id _) (hzg9 : id _) hzg23 hzg27 (hzg30 : id _) (hzg34 : id _) (hzg36 : id _) (hzg39 : id _) (hzg44 : id _) (hzg47 : id _) (hzg48 : id _) (hzg51 : id _) (hzg56 : id _) (hzg59 : id _) (hzg62 : id _) (hzg65 : id _) (hzg66 : id _) (hzg70 : id _) hzF11 hzF12 hzF13 hzF15 hzF19 hzF21 hzF24 hzF25 hzF26 hzF33 hzF38 hzF41 hzF43 hzF45 hzF46 hzF50 hzF53 hzF54 hzLQ => ?_)
  clear hI
  have zk0 : (0 : Int32).toInt = 0 := by decide +kernel
  have zk1 : (1 : Int32).toInt = 1 := by decide +kernel
  have zk16 : (16 : Int32).toInt = 16 := by decide +kernel
  have zk24 : (24 : Int32).toInt = 24 := by decide +kernel
  have zk30 : (30 : Int32).toInt = 30 := by decide +kernel
  refine wp_ite (fun c6 => ?_) (fun c6 => ?_)
  · have c6 := congrArg Int32.toInt c6
    exact ⟨_, rfl, ⟨hzg27, hzF24, hzF25, hzF26, (show WS (F 25) (F 26) (g 27) from by first | assumption | exact WS_add hp5 (by (first | omega | (simp only [id_eq] at *; omega))) (by (first | omega | (simp only [id_eq] at *; omega))) hzF26 ew64 (by assumption) (by assumption) (by rw [hp4]; (first | omega | (simp only [id_eq] at *; omega)))), (show (∀ k : Nat, (k : Int) < p2.toInt → (F 24) k = (F 24) k) from by first | exact (fun k hk => rfl) | assumption)⟩⟩
  · have c6 := z_ne c6
    refine wp_ite (fun c15 => ?_) (fun c15 => ?_)
    · have c15 := congrArg Int32.toInt c15
      refine wp_jn (fun k55 => ∀ (c55_F25 : (Nat → Int32)), rng (0) 24 c55_F25 → (∀ k : Nat, (k : Int) < p2.toInt → c55_F25 (24 * (g 27).toInt.toNat + k) = (F 24) k) → (∀ k : Nat, k < 24 * (g 27).toInt.toNat → c55_F25 k = (F 25) k) → wp (k55 c55_F25) (Q_part g F p0 p1 p2)) ?_ ?_
      · intro c55_F25 hg1 f2 f3
        show wp _ _
        refine wp_if ⟨by (first | omega | (simp only [id_eq] at *; omega)), by (first | omega | (simp only [id_eq] at *; omega))⟩ ?_
        refine wp_vl (fun w64 ew64 => ?_)
        have hF4 : rng (0) 24 w64 := by rw [ew64]; exact rng_upd hzF26 (by (first | omega | (simp only [id_eq] at *; omega))) (by (first | omega | (simp only [id_eq] at *; omega)))
        have f5 : ((g 27) + 1).toInt = (g 27).toInt + 1 := z_addc (by decide +kernel) (by (first | omega | (simp only [id_eq] at *; omega))) (by (first | omega | (simp only [id_eq] at *; omega)))
        refine wp_vl (fun x72 ex72 => ?_)
        have f6 : x72.toInt = ((g 27) + 1).toInt := congrArg Int32.toInt ex72
        clear ex72
        have hg7 : ((0) ≤ x72.toInt ∧ x72.toInt ≤ 30) := ⟨by (first | omega | (simp only [id_eq] at *; omega)), by (first | omega | (simp only [id_eq] at *; omega))⟩
        exact ⟨_, rfl, ⟨hg7, hzF24, hg1, hF4, (show WS c55_F25 w64 x72 from by first | assumption | exact WS_add hp5 (by (first | omega | (simp only [id_eq] at *; omega))) (by (first | omega | (simp only [id_eq] at *; omega))) hzF26 ew64 (by assumption) (by assumption) (by rw [hp4]; (first | omega | (simp only [id_eq] at *; omega)))), (show (∀ k : Nat, (k : Int) < p2.toInt → (F 24) k = (F 24) k) from by first | exact (fun k hk => rfl) | assumption)⟩⟩
      intro k55 Jk55
      have lp21 : ∀ (n21 : Nat) (y21_4 : Int32) (d21_F25 : (Nat → Int32)), (24 - y21_4.toInt).toNat < n21 → rng (0) 24 d21_F25 → (0 ≤ y21_4.toInt ∧ y21_4.toInt ≤ p2.toInt) → (∀ k : Nat, (k : Int) < y21_4.toInt → d21_F25 (24 * (g 27).toInt.toNat + k) = (F 24) k) → (∀ k : Nat, k < 24 * (g 27).toInt.toNat → d21_F25 k = (F 25) k) → wp (L_part_21 g F p2 k55 n21 y21_4 d21_F25) (Q_part g F p0 p1 p2) := by
        intro n21
        induction n21 with
        | zero => intro y21_4 d21_F25 hm; exact absurd hm (Nat.not_lt_zero _)
        | succ n21 ih21 =>
          intro y21_4 d21_F25 hm21 hg8 f9 f10 f11
          show wp (B_part_21 g F p2 k55 (L_part_21 g F p2 k55 n21) y21_4 d21_F25) _
          unfold B_part_21
          refine wp_ite (fun c24 => ?_) (fun c24 => ?_)
          · have c24 := (z_le _ _).mp c24
            exact Jk55 d21_F25 hg8 (show (∀ k : Nat, (k : Int) < p2.toInt → d21_F25 (24 * (g 27).toInt.toNat + k) = (F 24) k) from by first | assumption | (rw [show p2.toInt = y21_4.toInt by (first | omega | (simp only [id_eq] at *; omega))]; assumption)) (show (∀ k : Nat, k < 24 * (g 27).toInt.toNat → d21_F25 k = (F 25) k) from by first | assumption | (rw [show p2.toInt = y21_4.toInt by (first | omega | (simp only [id_eq] at *; omega))]; assumption))
          · have c24 := z_nle c24
            have f12 : (24 * (g 27)).toInt = 24 * (g 27).toInt := z_muld (by decide +kernel) (by (first | omega | (simp only [id_eq] at *; omega))) (by (first | omega | (simp only [id_eq] at *; omega)))
            have f13 : ((24 * (g 27)) + y21_4).toInt = (24 * (g 27)).toInt + y21_4.toInt := z_add (by (first | omega | (simp only [id_eq] at *; omega))) (by (first | omega | (simp only [id_eq] at *; omega)))
            refine wp_if ⟨by (first | omega | (simp only [id_eq] at *; omega)), by (first | omega | (simp only [id_eq] at *; omega))⟩ ?_
            have f14 := hzF24 (Int32.toNatClampNeg y21_4)
            refine wp_if ⟨by (first | omega | (simp only [id_eq] at *; omega)), by (first | omega | (simp only [id_eq] at *; omega))⟩ ?_
            refine wp_vl (fun w48 ew48 => ?_)
            have hF15 : rng (0) 24 w48 := by rw [ew48]; exact rng_upd hg8 (by (first | omega | (simp only [id_eq] at *; omega))) (by (first | omega | (simp only [id_eq] at *; omega)))
            have f16 : (y21_4 + 1).toInt = y21_4.toInt + (1) := z_addc (by decide +kernel) (by (first | omega | (simp only [id_eq] at *; omega))) (by (first | omega | (simp only [id_eq] at *; omega)))
            exact ih21 (y21_4 + 1) w48 (show (24 - (y21_4 + 1).toInt).toNat < n21 from by (first | omega | (simp only [id_eq] at *; omega))) hF15 (show (0 ≤ (y21_4 + 1).toInt ∧ (y21_4 + 1).toInt ≤ p2.toInt) from by first | (first | omega | (simp only [id_eq] at *; omega)) | exact way_new ew48 (by (first | omega | (simp only [id_eq] at *; omega))) (by (first | omega | (simp only [id_eq] at *; omega))) (by (first | omega | (simp only [id_eq] at *; omega))) (by assumption) | exact way_old (i := y21_4) ew48 (by (first | omega | (simp only [id_eq] at *; omega))) (by (first | omega | (simp only [id_eq] at *; omega))) (by (first | omega | (simp only [id_eq] at *; omega))) (by assumption)) (show (∀ k : Nat, (k : Int) < (y21_4 + 1).toInt → w48 (24 * (g 27).toInt.toNat + k) = (F 24) k) from by first | (first | omega | (simp only [id_eq] at *; omega)) | exact way_new ew48 (by (first | omega | (simp only [id_eq] at *; omega))) (by (first | omega | (simp only [id_eq] at *; omega))) (by (first | omega | (simp only [id_eq] at *; omega))) (by assumption) | exact way_old (i := y21_4) ew48 (by (first | omega | (simp only [id_eq] at *; omega))) (by (first | omega | (simp only [id_eq] at *; omega))) (by (first | omega | (simp only [id_eq] at *; omega))) (by assumption)) (show (∀ k : Nat, k < 24 * (g 27).toInt.toNat → w48 k = (F 25) k) from by first | (first | omega | (simp only [id_eq] at *; omega)) | exact way_new ew48 (by (first | omega | (simp only [id_eq] at *; omega))) (by (first | omega | (simp only [id_eq] at *; omega))) (by (first | omega | (simp only [id_eq] at *; omega))) (by assumption) | exact way_old (i := y21_4) ew48 (by (first | omega | (simp only [id_eq] at *; omega))) (by (first | omega | (simp only [id_eq] at *; omega))) (by (first | omega | (simp only [id_eq] at *; omega))) (by assumption))
      exact lp21 NN (0 : Int32) (F 25) (by have := NN_eq; (first | omega | (simp only [id_eq] at *; omega))) hzF25 (show (0 ≤ (0 : Int32).toInt ∧ (0 : Int32).toInt ≤ p2.toInt) from by first | (first | omega | (simp only [id_eq] at *; omega)) | exact (fun k hk => absurd hk (by (first | omega | (simp only [id_eq] at *; omega)))) | exact (fun k hk => rfl)) (show (∀ k : Nat, (k : Int) < (0 : Int32).toInt → (F 25) (24 * (g 27).toInt.toNat + k) = (F 24) k) from by first | (first | omega | (simp only [id_eq] at *; omega)) | exact (fun k hk => absurd hk (by (first | omega | (simp only [id_eq] at *; omega)))) | exact (fun k hk => rfl)) (show (∀ k : Nat, k < 24 * (g 27).toInt.toNat → (F 25) k = (F 25) k) from by first | (first | omega | (simp only [id_eq] at *; omega)) | exact (fun k hk => absurd hk (by (first | omega | (simp only [id_eq] at *; omega)))) | exact (fun k hk => rfl))
    · have c15 := z_ne c15
      refine wp_jn (fun k149 => ∀ (c149_g27 : Int32) (c149_F24 : (Nat → Int32)) (c149_F25 : (Nat → Int32)) (c149_F26 : (Nat → Int32)), ((0) ≤ c149_g27.toInt ∧ c149_g27.toInt ≤ 30) → rng (0) 24 c149_F24 → rng (0) 24 c149_F25 → rng (0) 24 c149_F26 → WS c149_F25 c149_F26 c149_g27 → (∀ k : Nat, (k : Int) < p2.toInt → c149_F24 k = (F 24) k) → wp (k149 c149_g27 c149_F24 c149_F25 c149_F26) (Q_part g F p0 p1 p2)) ?_ ?_
      · intro c149_g27 c149_F24 c149_F25 c149_F26 hg17 hg18 hg19 hg20 f21 f22
        show wp _ _
        exact ⟨_, rfl, ⟨hg17, hg18, hg19, hg20, (show WS c149_F25 c149_F26 c149_g27 from by first | assumption | exact WS_add hp5 (by (first | omega | (simp only [id_eq] at *; omega))) (by (first | omega | (simp only [id_eq] at *; omega))) hzF26 ew64 (by assumption) (by assumption) (by rw [hp4]; (first | omega | (simp only [id_eq] at *; omega)))), (show (∀ k : Nat, (k : Int) < p2.toInt → c149_F24 k = (F 24) k) from by first | exact (fun k hk => rfl) | assumption)⟩⟩
      intro k149 Jk149
      have lp79 : ∀ (n79 : Nat) (y79_4 : Int32) (d79_g27 : Int32) (d79_F24 : (Nat → Int32)) (d79_F25 : (Nat → Int32)) (d79_F26 : (Nat → Int32)), (17 - y79_4.toInt).toNat < n79 → ((0) ≤ d79_g27.toInt ∧ d79_g27.toInt ≤ 30) → rng (0) 24 d79_F24 → rng (0) 24 d79_F25 → rng (0) 24 d79_F26 → (1 ≤ y79_4.toInt ∧ y79_4.toInt ≤ 17) → WS d79_F25 d79_F26 d79_g27 → (∀ k : Nat, (k : Int) < p2.toInt → d79_F24 k = (F 24) k) → wp (L_part_79 (f_part dn) g F p0 p1 p2 k149 n79 y79_4 d79_g27 d79_F24 d79_F25 d79_F26) (Q_part g F p0 p1 p2) := by
        intro n79
        induction n79 with
        | zero => intro y79_4 d79_g27 d79_F24 d79_F25 d79_F26 hm; exact absurd hm (Nat.not_lt_zero _)
        | succ n79 ih79 =>
          intro y79_4 d79_g27 d79_F24 d79_F25 d79_F26 hm79 hg23 hg24 hg25 hg26 f27 f28 f29
          show wp (B_part_79 (f_part dn) g F p0 p1 p2 k149 (L_part_79 (f_part dn) g F p0 p1 p2 k149 n79) y79_4 d79_g27 d79_F24 d79_F25 d79_F26) _
          unfold B_part_79
          refine wp_ite (fun c83 => ?_) (fun c83 => ?_)
          · have c83 := (z_lt _ _).mp c83
            exact Jk149 d79_g27 d79_F24 d79_F25 d79_F26 hg23 hg24 hg25 hg26 (show WS d79_F25 d79_F26 d79_g27 from by assumption) (show (∀ k : Nat, (k : Int) < p2.toInt → d79_F24 k = (F 24) k) from by assumption)
          · have c83 := z_nlt c83
            have f30 : (p1 + y79_4).toInt = p1.toInt + y79_4.toInt := z_add (by (first | omega | (simp only [id_eq] at *; omega))) (by (first | omega | (simp only [id_eq] at *; omega)))
            refine wp_ite (fun c94 => ?_) (fun c94 => ?_)
            · have c94 := (z_lt _ _).mp c94
              exact Jk149 d79_g27 d79_F24 d79_F25 d79_F26 hg23 hg24 hg25 hg26 (show WS d79_F25 d79_F26 d79_g27 from by assumption) (show (∀ k : Nat, (k : Int) < p2.toInt → d79_F24 k = (F 24) k) from by assumption)
            · have c94 := z_nlt c94
              refine wp_if ⟨by (first | omega | (simp only [id_eq] at *; omega)), by (first | omega | (simp only [id_eq] at *; omega))⟩ ?_
              refine wp_jn (fun j143 => ∀ (c143_g27 : Int32) (c143_F24 : (Nat → Int32)) (c143_F25 : (Nat → Int32)) (c143_F26 : (Nat → Int32)), ((0) ≤ c143_g27.toInt ∧ c143_g27.toInt ≤ 30) → rng (0) 24 c143_F24 → rng (0) 24 c143_F25 → rng (0) 24 c143_F26 → WS c143_F25 c143_F26 c143_g27 → (∀ k : Nat, (k : Int) < p2.toInt → c143_F24 k = (F 24) k) → wp (j143 c143_g27 c143_F24 c143_F25 c143_F26) (Q_part g F p0 p1 p2)) ?_ ?_
              · intro c143_g27 c143_F24 c143_F25 c143_F26 hg32 hg33 hg34 hg35 f36 f37
                show wp _ _
                have f38 : (y79_4 + 1).toInt = y79_4.toInt + (1) := z_addc (by decide +kernel) (by (first | omega | (simp only [id_eq] at *; omega))) (by (first | omega | (simp only [id_eq] at *; omega)))
                exact ih79 (y79_4 + 1) c143_g27 c143_F24 c143_F25 c143_F26 (show (17 - (y79_4 + 1).toInt).toNat < n79 from by (first | omega | (simp only [id_eq] at *; omega))) hg32 hg33 hg34 hg35 (show (1 ≤ (y79_4 + 1).toInt ∧ (y79_4 + 1).toInt ≤ 17) from by first | (first | omega | (simp only [id_eq] at *; omega)) | assumption) (show WS c143_F25 c143_F26 c143_g27 from by first | (first | omega | (simp only [id_eq] at *; omega)) | assumption) (show (∀ k : Nat, (k : Int) < p2.toInt → c143_F24 k = (F 24) k) from by first | (first | omega | (simp only [id_eq] at *; omega)) | assumption)
              intro j143 Jj143
              refine wp_ite (fun c106 => ?_) (fun c106 => ?_)
              · have c106 := congrArg Int32.toInt c106
                exact Jj143 d79_g27 d79_F24 d79_F25 d79_F26 hg23 hg24 hg25 hg26 (show WS d79_F25 d79_F26 d79_g27 from by first | assumption | exact pfx2 (by assumption) (by assumption) ew130 (by (first | omega | (simp only [id_eq] at *; omega)))) (show (∀ k : Nat, (k : Int) < p2.toInt → d79_F24 k = (F 24) k) from by first | assumption | exact pfx2 (by assumption) (by assumption) ew130 (by (first | omega | (simp only [id_eq] at *; omega))))
              · have c106 := z_ne c106
                obtain ⟨r114, hc114, hq114⟩ := ok_isWordPart (upd g 27 d79_g27) (upF (upF (upF F 24 d79_F24) 25 d79_F25) 26 d79_F26) p0 p1 y79_4 (MInv_i hzg1 hzg2 hzg3 hzg4 hzg5 hzg6 hzg7 hzg8 hzg9 hzg23 hg23 hzg30 hzg34 hzg36 hzg39 hzg44 hzg47 hzg48 hzg51 hzg56 hzg59 hzg62 hzg65 hzg66 hzg70 hzF11 hzF12 hzF13 hzF15 hzF19 hzF21 hg24 hg25 hg26 hzF33 hzF38 hzF41 hzF43 hzF45 hzF46 hzF50 hzF53 hzF54 hzLQ) (show (0 ≤ p0.toInt ∧ p0.toInt ≤ 6) from by (first | omega | (simp only [id_eq] at *; omega))) (show (0 ≤ p1.toInt ∧ p1.toInt + y79_4.toInt ≤ 24 ∧ y79_4.toInt ≤ 16) from by (first | omega | (simp only [id_eq] at *; omega)))
                have f39 : (0 ≤ r114.toInt ∧ r114.toInt ≤ 1) := hq114
                refine wp_b1 hc114 ?_
                clear hc114
                refine wp_ite (fun c117 => ?_) (fun c117 => ?_)
                · have c117 := congrArg Int32.toInt c117
                  exact Jj143 d79_g27 d79_F24 d79_F25 d79_F26 hg23 hg24 hg25 hg26 (show WS d79_F25 d79_F26 d79_g27 from by first | assumption | exact pfx2 (by assumption) (by assumption) ew130 (by (first | omega | (simp only [id_eq] at *; omega)))) (show (∀ k : Nat, (k : Int) < p2.toInt → d79_F24 k = (F 24) k) from by first | assumption | exact pfx2 (by assumption) (by assumption) ew130 (by (first | omega | (simp only [id_eq] at *; omega))))
                · have c117 := z_ne c117
                  refine wp_if ⟨by (first | omega | (simp only [id_eq] at *; omega)), by (first | omega | (simp only [id_eq] at *; omega))⟩ ?_
                  refine wp_vl (fun w130 ew130 => ?_)
                  have hF40 : rng (0) 24 w130 := by rw [ew130]; exact rng_upd hg24 (by (first | omega | (simp only [id_eq] at *; omega))) (by (first | omega | (simp only [id_eq] at *; omega)))
                  have f42 : (p2 + 1).toInt = p2.toInt + 1 := z_addc (by decide +kernel) (by (first | omega | (simp only [id_eq] at *; omega))) (by (first | omega | (simp only [id_eq] at *; omega)))
                  obtain ⟨⟨c140_g27, c140_F24, c140_F25, c140_F26⟩, hc140, hq140⟩ := ihd (upd g 27 d79_g27) (upF (upF (upF F 24 w130) 25 d79_F25) 26 d79_F26) p0 (p1 + y79_4) (p2 + 1) (MInv_i hzg1 hzg2 hzg3 hzg4 hzg5 hzg6 hzg7 hzg8 hzg9 hzg23 hg23 hzg30 hzg34 hzg36 hzg39 hzg44 hzg47 hzg48 hzg51 hzg56 hzg59 hzg62 hzg65 hzg66 hzg70 hzF11 hzF12 hzF13 hzF15 hzF19 hzF21 hF40 hg25 hg26 hzF33 hzF38 hzF41 hzF43 hzF45 hzF46 hzF50 hzF53 hzF54 hzLQ) (show ((g 23).toInt - (p1 + y79_4).toInt) < dn from by (first | omega | (simp only [id_eq] at *; omega))) (show (0 ≤ p0.toInt ∧ p0.toInt ≤ 6) from by (first | omega | (simp only [id_eq] at *; omega))) (show (0 ≤ (p1 + y79_4).toInt ∧ (p1 + y79_4).toInt ≤ (g 23).toInt) from by (first | omega | (simp only [id_eq] at *; omega))) (show (0 ≤ (p2 + 1).toInt ∧ (p2 + 1).toInt ≤ (p1 + y79_4).toInt) from by (first | omega | (simp only [id_eq] at *; omega))) (show psum w130 0 (p2 + 1).toInt.toNat = (p1 + y79_4).toInt from by rw [show (p2 + 1).toInt.toNat = p2.toInt.toNat + 1 by (first | omega | (simp only [id_eq] at *; omega)), ps_push ew130 (by (first | omega | (simp only [id_eq] at *; omega))) (by assumption), hp4]; (first | omega | (simp only [id_eq] at *; omega))) (show WS d79_F25 d79_F26 d79_g27 from by first | assumption | exact WS_zero)
                  obtain ⟨hg43, hg44, hg45, hg46, f47, f48⟩ : (((0) ≤ c140_g27.toInt ∧ c140_g27.toInt ≤ 30)) ∧ (rng (0) 24 c140_F24) ∧ (rng (0) 24 c140_F25) ∧ (rng (0) 24 c140_F26) ∧ (WS c140_F25 c140_F26 c140_g27) ∧ ((∀ k : Nat, (k : Int) < (p2 + 1).toInt → c140_F24 k = w130 k)) := hq140
                  refine wp_b4 hc140 ?_
                  clear hc140
                  exact Jj143 c140_g27 c140_F24 c140_F25 c140_F26 hg43 hg44 hg45 hg46 (show WS c140_F25 c140_F26 c140_g27 from by first | assumption | exact pfx2 (by assumption) (by assumption) ew130 (by (first | omega | (simp only [id_eq] at *; omega)))) (show (∀ k : Nat, (k : Int) < p2.toInt → c140_F24 k = (F 24) k) from by first | assumption | exact pfx2 (by assumption) (by assumption) ew130 (by (first | omega | (simp only [id_eq] at *; omega))))
      exact lp79 NN (1 : Int32) (g 27) (F 24) (F 25) (F 26) (by have := NN_eq; (first | omega | (simp only [id_eq] at *; omega))) hzg27 hzF24 hzF25 hzF26 (show (1 ≤ (1 : Int32).toInt ∧ (1 : Int32).toInt ≤ 17) from by first | (first | omega | (simp only [id_eq] at *; omega)) | assumption | exact (fun k hk => rfl)) (show WS (F 25) (F 26) (g 27) from by first | (first | omega | (simp only [id_eq] at *; omega)) | assumption | exact (fun k hk => rfl)) (show (∀ k : Nat, (k : Int) < p2.toInt → (F 24) k = (F 24) k) from by first | (first | omega | (simp only [id_eq] at *; omega)) | assumption | exact (fun k hk => rfl))
abbrev Q_makeWays (g : Nat → Int32) (F : Nat → Nat → Int32) (p0 : Int32) : (Int32 × (Nat → Int32) × (Nat → Int32) × (Nat → Int32) × (Nat → Int32)) → Prop := (fun t => (((0) ≤ (t.1).toInt ∧ (t.1).toInt ≤ 30)) ∧ (rng (0) 24 (t.2.1)) ∧ (rng (0) 24 (t.2.2.1)) ∧ (rng (0) 24 (t.2.2.2.1)) ∧ (WS (t.2.2.1) (t.2.2.2.1) (t.1)))
set_option maxHeartbeats 4000000 in
set_option maxRecDepth 100000 in
theorem ok_makeWays (g : Nat → Int32) (F : Nat → Nat → Int32) (p0 : Int32) (hI : MInv g F) (hp0 : (0 ≤ p0.toInt ∧ p0.toInt ≤ 6)) : wp (f_makeWays g F p0) (Q_makeWays g F p0) := by
  unfold f_makeWays
  refine MInv_e hI (fun (hzg1 : id _) (hzg2 : id _) (hzg3 : id _) (hzg4 : id _) (hzg5 : id _) (hzg6 : id _) (hzg7 : id _) (hzg8 : id _) (hzg9 : id _) hzg23 (hzg27 : id _) (hzg30 : id _) (hzg34 : id _) (hzg36 : id _) (hzg39 : id _) (hzg44 : id _) (hzg47 : id _) (hzg48 : id _) (hzg51 : id _) (hzg56 : id _) (hzg59 : id _) (hzg62 : id _) (hzg65 : id _) (hzg66 : id _) (hzg70 : id _) hzF11 hzF12 hzF13 hzF15 hzF19 hzF21 hzF24 hzF25 hzF26 hzF33 hzF38 hzF41 hzF43 hzF45 hzF46 hzF50 hzF53 hzF54 hzLQ => ?_)
  clear hI
  have zk0 : (0 : Int32).toInt = 0 := by decide +kernel
  have zk1 : (1 : Int32).toInt = 1 := by decide +kernel
  have zk16 : (16 : Int32).toInt = 16 := by decide +kernel
  refine wp_if ⟨by (first | omega | (simp only [id_eq] at *; omega)), by (first | omega | (simp only [id_eq] at *; omega))⟩ ?_
  refine wp_vl (fun w9 ew9 => ?_)
  clear ew9
  have f1 : ((g 23) - 1).toInt = (g 23).toInt - 1 := z_subc (by decide +kernel) (by (first | omega | (simp only [id_eq] at *; omega))) (by (first | omega | (simp only [id_eq] at *; omega)))
  refine wp_vl (fun x16 ex16 => ?_)
  have f2 : x16.toInt = ((g 23) - 1).toInt := congrArg Int32.toInt ex16
  clear ex16
  refine wp_jn (fun k99 => ∀ (c99_F28 : (Nat → Int32)), wp (k99 c99_F28) (Q_makeWays g F p0)) ?_ ?_
  · intro c99_F28
    show wp _ _
    have hg3 : ((0) ≤ (0 : Int32).toInt ∧ (0 : Int32).toInt ≤ 30) := ⟨by (first | omega | (simp only [id_eq] at *; omega)), by (first | omega | (simp only [id_eq] at *; omega))⟩
    refine wp_if ⟨by (first | omega | (simp only [id_eq] at *; omega)), by (first | omega | (simp only [id_eq] at *; omega))⟩ ?_
    refine wp_jn (fun j120 => ∀ (c120_g27 : Int32) (c120_F24 : (Nat → Int32)) (c120_F25 : (Nat → Int32)) (c120_F26 : (Nat → Int32)), ((0) ≤ c120_g27.toInt ∧ c120_g27.toInt ≤ 30) → rng (0) 24 c120_F24 → rng (0) 24 c120_F25 → rng (0) 24 c120_F26 → WS c120_F25 c120_F26 c120_g27 → wp (j120 c120_g27 c120_F24 c120_F25 c120_F26) (Q_makeWays g F p0)) ?_ ?_
    · intro c120_g27 c120_F24 c120_F25 c120_F26 hg4 hg5 hg6 hg7 f8
      show wp _ _
      exact ⟨_, rfl, ⟨hg4, hg5, hg6, hg7, (show WS c120_F25 c120_F26 c120_g27 from by assumption)⟩⟩
    intro j120 Jj120
    refine wp_ite (fun c110 => ?_) (fun c110 => ?_)
    · have c110 := congrArg Int32.toInt c110
      exact Jj120 (0 : Int32) (F 24) (F 25) (F 26) hg3 hzF24 hzF25 hzF26 (show WS (F 25) (F 26) (0 : Int32) from by first | assumption | exact WS_zero)
    · have c110 := z_ne c110
      obtain ⟨⟨c117_g27, c117_F24, c117_F25, c117_F26⟩, hc117, hq117⟩ := ok_part 40 (upd g 27 0) (upF F 28 c99_F28) p0 0 0 (MInv_i hzg1 hzg2 hzg3 hzg4 hzg5 hzg6 hzg7 hzg8 hzg9 hzg23 hg3 hzg30 hzg34 hzg36 hzg39 hzg44 hzg47 hzg48 hzg51 hzg56 hzg59 hzg62 hzg65 hzg66 hzg70 hzF11 hzF12 hzF13 hzF15 hzF19 hzF21 hzF24 hzF25 hzF26 hzF33 hzF38 hzF41 hzF43 hzF45 hzF46 hzF50 hzF53 hzF54 hzLQ) (show ((g 23).toInt - (0 : Int32).toInt) < 40 from by (first | omega | (simp only [id_eq] at *; omega))) (show (0 ≤ p0.toInt ∧ p0.toInt ≤ 6) from by (first | omega | (simp only [id_eq] at *; omega))) (show (0 ≤ (0 : Int32).toInt ∧ (0 : Int32).toInt ≤ (g 23).toInt) from by (first | omega | (simp only [id_eq] at *; omega))) (show (0 ≤ (0 : Int32).toInt ∧ (0 : Int32).toInt ≤ (0 : Int32).toInt) from by (first | omega | (simp only [id_eq] at *; omega))) (show psum (F 24) 0 (0 : Int32).toInt.toNat = (0 : Int32).toInt from by rfl) (show WS (F 25) (F 26) (0 : Int32) from by first | assumption | exact WS_zero)
      obtain ⟨hg9, hg10, hg11, hg12, f13, f14⟩ : (((0) ≤ c117_g27.toInt ∧ c117_g27.toInt ≤ 30)) ∧ (rng (0) 24 c117_F24) ∧ (rng (0) 24 c117_F25) ∧ (rng (0) 24 c117_F26) ∧ (WS c117_F25 c117_F26 c117_g27) ∧ ((∀ k : Nat, (k : Int) < (0 : Int32).toInt → c117_F24 k = (F 24) k)) := hq117
      refine wp_b4 hc117 ?_
      clear hc117
      exact Jj120 c117_g27 c117_F24 c117_F25 c117_F26 hg9 hg10 hg11 hg12 (show WS c117_F25 c117_F26 c117_g27 from by first | assumption | exact WS_zero)
  intro k99 Jk99
  have lp17 : ∀ (n17 : Nat) (y17_2 : Int32) (d17_F28 : (Nat → Int32)), (y17_2.toInt + 1).toNat < n17 → ((-1) ≤ y17_2.toInt ∧ y17_2.toInt < (g 23).toInt) → wp (L_makeWays_17 g F p0 k99 n17 y17_2 d17_F28) (Q_makeWays g F p0) := by
    intro n17
    induction n17 with
    | zero => intro y17_2 d17_F28 hm; exact absurd hm (Nat.not_lt_zero _)
    | succ n17 ih17 =>
      intro y17_2 d17_F28 hm17 f15
      show wp (B_makeWays_17 g F p0 k99 (L_makeWays_17 g F p0 k99 n17) y17_2 d17_F28) _
      unfold B_makeWays_17
      refine wp_ite (fun c18 => ?_) (fun c18 => ?_)
      · have c18 := (z_lt _ _).mp c18
        exact Jk99 d17_F28
      · have c18 := z_nlt c18
        refine wp_if ⟨by (first | omega | (simp only [id_eq] at *; omega)), by (first | omega | (simp only [id_eq] at *; omega))⟩ ?_
        refine wp_vl (fun w27 ew27 => ?_)
        clear ew27
        refine wp_jn (fun k93 => ∀ (c93_F28 : (Nat → Int32)), wp (k93 c93_F28) (Q_makeWays g F p0)) ?_ ?_
        · intro c93_F28
          show wp _ _
          have f16 : (y17_2 + (-1)).toInt = y17_2.toInt + (-1) := z_addc (by decide +kernel) (by (first | omega | (simp only [id_eq] at *; omega))) (by (first | omega | (simp only [id_eq] at *; omega)))
          obtain ⟨z17, ez17⟩ : ∃ z : Int32, z = (y17_2 + (-1)) := ⟨_, rfl⟩
          have fz17 : z17.toInt = y17_2.toInt + (-1) := by rw [ez17]; exact f16
          rw [← ez17]
          clear f16 ez17
          exact ih17 z17 c93_F28 (show (z17.toInt + 1).toNat < n17 from by (first | omega | (simp only [id_eq] at *; omega))) (show ((-1) ≤ z17.toInt ∧ z17.toInt < (g 23).toInt) from by (first | omega | (simp only [id_eq] at *; omega)))
        intro k93 Jk93
        have lp30 : ∀ (n30 : Nat) (y30_3 : Int32) (d30_F28 : (Nat → Int32)), (17 - y30_3.toInt).toNat < n30 → (1 ≤ y30_3.toInt ∧ y30_3.toInt ≤ 17) → wp (L_makeWays_30 g F p0 y17_2 k93 n30 y30_3 d30_F28) (Q_makeWays g F p0) := by
          intro n30
          induction n30 with
          | zero => intro y30_3 d30_F28 hm; exact absurd hm (Nat.not_lt_zero _)
          | succ n30 ih30 =>
            intro y30_3 d30_F28 hm30 f18
            show wp (B_makeWays_30 g F p0 y17_2 k93 (L_makeWays_30 g F p0 y17_2 k93 n30) y30_3 d30_F28) _
            unfold B_makeWays_30
            refine wp_ite (fun c33 => ?_) (fun c33 => ?_)
            · have c33 := (z_lt _ _).mp c33
              exact Jk93 d30_F28
            · have c33 := z_nlt c33
              have f19 : (y17_2 + y30_3).toInt = y17_2.toInt + y30_3.toInt := z_add (by (first | omega | (simp only [id_eq] at *; omega))) (by (first | omega | (simp only [id_eq] at *; omega)))
              refine wp_ite (fun c43 => ?_) (fun c43 => ?_)
              · have c43 := (z_lt _ _).mp c43
                exact Jk93 d30_F28
              · have c43 := z_nlt c43
                refine wp_if ⟨by (first | omega | (simp only [id_eq] at *; omega)), by (first | omega | (simp only [id_eq] at *; omega))⟩ ?_
                refine wp_ite (fun c52 => ?_) (fun c52 => ?_)
                · have c52 := congrArg Int32.toInt c52
                  refine wp_if ⟨by (first | omega | (simp only [id_eq] at *; omega)), by (first | omega | (simp only [id_eq] at *; omega))⟩ ?_
                  refine wp_jn (fun j86 => ∀ (t86_0 : Int32), wp (j86 t86_0) (Q_makeWays g F p0)) ?_ ?_
                  · intro t86_0
                    show wp _ _
                    refine wp_if ⟨by (first | omega | (simp only [id_eq] at *; omega)), by (first | omega | (simp only [id_eq] at *; omega))⟩ ?_
                    refine wp_vl (fun w86 ew86 => ?_)
                    clear ew86
                    have f21 : (y30_3 + 1).toInt = y30_3.toInt + (1) := z_addc (by decide +kernel) (by (first | omega | (simp only [id_eq] at *; omega))) (by (first | omega | (simp only [id_eq] at *; omega)))
                    exact ih30 (y30_3 + 1) w86 (show (17 - (y30_3 + 1).toInt).toNat < n30 from by (first | omega | (simp only [id_eq] at *; omega))) (show (1 ≤ (y30_3 + 1).toInt ∧ (y30_3 + 1).toInt ≤ 17) from by (first | omega | (simp only [id_eq] at *; omega)))
                  intro j86 Jj86
                  refine wp_jn (fun j85 => wp (j85 ()) (Q_makeWays g F p0)) ?_ ?_
                  · show wp _ _
                    show wp _ _
                    exact Jj86 (0 : Int32)
                  intro j85 Jj85
                  refine wp_ite (fun c68 => ?_) (fun c68 => ?_)
                  · have c68 := congrArg Int32.toInt c68
                    exact Jj85
                  · have c68 := z_ne c68
                    obtain ⟨r75, hc75, hq75⟩ := ok_isWordPart g (upF F 28 d30_F28) p0 y17_2 y30_3 (MInv_i hzg1 hzg2 hzg3 hzg4 hzg5 hzg6 hzg7 hzg8 hzg9 hzg23 hzg27 hzg30 hzg34 hzg36 hzg39 hzg44 hzg47 hzg48 hzg51 hzg56 hzg59 hzg62 hzg65 hzg66 hzg70 hzF11 hzF12 hzF13 hzF15 hzF19 hzF21 hzF24 hzF25 hzF26 hzF33 hzF38 hzF41 hzF43 hzF45 hzF46 hzF50 hzF53 hzF54 hzLQ) (show (0 ≤ p0.toInt ∧ p0.toInt ≤ 6) from by (first | omega | (simp only [id_eq] at *; omega))) (show (0 ≤ y17_2.toInt ∧ y17_2.toInt + y30_3.toInt ≤ 24 ∧ y30_3.toInt ≤ 16) from by (first | omega | (simp only [id_eq] at *; omega)))
                    have f22 : (0 ≤ r75.toInt ∧ r75.toInt ≤ 1) := hq75
                    refine wp_b1 hc75 ?_
                    clear hc75
                    refine wp_ite (fun c78 => ?_) (fun c78 => ?_)
                    · have c78 := congrArg Int32.toInt c78
                      exact Jj85
                    · have c78 := z_ne c78
                      exact Jj86 (1 : Int32)
                · have c52 := z_ne c52
                  exact Jk93 d30_F28
        exact lp30 NN (1 : Int32) w27 (by have := NN_eq; (first | omega | (simp only [id_eq] at *; omega))) (show (1 ≤ (1 : Int32).toInt ∧ (1 : Int32).toInt ≤ 17) from by (first | omega | (simp only [id_eq] at *; omega)))
  exact lp17 NN x16 w9 (by have := NN_eq; (first | omega | (simp only [id_eq] at *; omega))) (show ((-1) ≤ x16.toInt ∧ x16.toInt < (g 23).toInt) from by (first | omega | (simp only [id_eq] at *; omega)))
abbrev Q_makeForm (g : Nat → Int32) (F : Nat → Nat → Int32) (p0 : Int32) (p1 : Int32) : (Int32 × Int32 × Int32 × (Nat → Int32) × (Nat → Int32) × (Nat → Int32) × (Nat → Int32)) → Prop := (fun t => (((0) ≤ (t.1).toInt ∧ (t.1).toInt ≤ 384)) ∧ (((0) ≤ (t.2.1).toInt ∧ (t.2.1).toInt ≤ 30)) ∧ (((0) ≤ (t.2.2.1).toInt ∧ (t.2.2.1).toInt ≤ 1)) ∧ (rng (0) 24 (t.2.2.2.2.2.2)) ∧ ((t.2.1).toInt ≤ (g 34).toInt + 1))
set_option maxHeartbeats 4000000 in
set_option maxRecDepth 100000 in
theorem ok_makeForm (g : Nat → Int32) (F : Nat → Nat → Int32) (p0 : Int32) (p1 : Int32) (hI : MInv g F) (hp0 : (0 ≤ p0.toInt ∧ p0.toInt ≤ 6)) (hp1 : ((-1) ≤ p1.toInt ∧ p1.toInt < 30)) (hp2 : (p1.toInt ≠ -1 → p1.toInt < (g 27).toInt)) (hp3 : WS (F 25) (F 26) (g 27)) (hp4 : (g 34).toInt ≤ 29) (hp5 : p0.toInt < (g 9).toInt) : wp (f_makeForm g F p0 p1) (Q_makeForm g F p0 p1) := by
  unfold f_makeForm
  refine MInv_e hI (fun (hzg1 : id _) (hzg2 : id _) (hzg3 : id _) (hzg4 : id _) (hzg5 : id _) (hzg6 : id _) (hzg7 : id _) (hzg8 : id _) hzg9 hzg23 hzg27 hzg30 hzg34 hzg36 (hzg39 : id _) (hzg44 : id _) (hzg47 : id _) (hzg48 : id _) (hzg51 : id _) (hzg56 : id _) (hzg59 : id _) (hzg62 : id _) (hzg65 : id _) (hzg66 : id _) (hzg70 : id _) hzF11 hzF12 hzF13 hzF15 hzF19 hzF21 hzF24 hzF25 hzF26 hzF33 hzF38 hzF41 hzF43 hzF45 hzF46 hzF50 hzF53 hzF54 hzLQ => ?_)
  clear hI
  have zkm1 : (-1 : Int32).toInt = -1 := by decide +kernel
  have zk0 : (0 : Int32).toInt = 0 := by decide +kernel
  have zk1 : (1 : Int32).toInt = 1 := by decide +kernel
  have zk24 : (24 : Int32).toInt = 24 := by decide +kernel
  have zk40 : (40 : Int32).toInt = 40 := by decide +kernel
  refine wp_jn (fun j15 => ∀ (t15_0 : Int32), (0 ≤ t15_0.toInt ∧ t15_0.toInt ≤ 24) → (p1.toInt = -1 → t15_0.toInt = 1) → (p1.toInt ≠ -1 → t15_0.toInt = ((F 26) (Int32.toNatClampNeg p1)).toInt) → wp (j15 t15_0) (Q_makeForm g F p0 p1)) ?_ ?_
  · intro t15_0 f1 f2 f3
    show wp _ _
    refine wp_jn (fun k236 => ∀ (x236_5 : Int32) (x236_6 : Int32) (c236_g30 : Int32) (c236_g36 : Int32) (c236_F29 : (Nat → Int32)) (c236_F31 : (Nat → Int32)) (c236_F32 : (Nat → Int32)), ((0) ≤ c236_g30.toInt ∧ c236_g30.toInt ≤ 384) → ((0) ≤ c236_g36.toInt ∧ c236_g36.toInt ≤ 1) → (x236_6.toInt = 0 ∨ x236_6.toInt = 1) → (0 ≤ x236_5.toInt ∧ x236_5.toInt ≤ 9600) → wp (k236 x236_5 x236_6 c236_g30 c236_g36 c236_F29 c236_F31 c236_F32) (Q_makeForm g F p0 p1)) ?_ ?_
    · intro x236_5 x236_6 c236_g30 c236_g36 c236_F29 c236_F31 c236_F32 hg4 hg5 f6 f7
      show wp _ _
      refine wp_jn (fun j253 => wp (j253 ()) (Q_makeForm g F p0 p1)) ?_ ?_
      · show wp _ _
        show wp _ _
        exact ⟨_, rfl, ⟨hg4, hzg34, hg5, hzF33, (show (g 34).toInt ≤ (g 34).toInt + 1 from by (first | omega | (simp only [id_eq] at *; omega)))⟩⟩
      intro j253 Jj253
      refine wp_ite (fun c238 => ?_) (fun c238 => ?_)
      · have c238 := congrArg Int32.toInt c238
        exact Jj253
      · have c238 := z_ne c238
        refine wp_ite (fun c243 => ?_) (fun c243 => ?_)
        · have c243 := congrArg Int32.toInt c243
          exact Jj253
        · have c243 := z_ne c243
          refine wp_ite (fun c250 => ?_) (fun c250 => ?_)
          · have c250 := (z_le _ _).mp c250
            refine wp_if ⟨by (first | omega | (simp only [id_eq] at *; omega)), by (first | omega | (simp only [id_eq] at *; omega))⟩ ?_
            refine wp_vl (fun w264 ew264 => ?_)
            have hF8 : rng (0) 24 w264 := by rw [ew264]; exact rng_upd hzF33 (by (first | omega | (simp only [id_eq] at *; omega))) (by (first | omega | (simp only [id_eq] at *; omega)))
            clear ew264
            have lp268 : ∀ (n268 : Nat) (y268_7 : Int32), (30 - y268_7.toInt).toNat < n268 → (0 ≤ y268_7.toInt ∧ y268_7.toInt ≤ 30) → wp (L_makeForm_268 g x236_5 c236_g30 c236_g36 c236_F29 c236_F31 c236_F32 w264 n268 y268_7) (Q_makeForm g F p0 p1) := by
              intro n268
              induction n268 with
              | zero => intro y268_7 hm; exact absurd hm (Nat.not_lt_zero _)
              | succ n268 ih268 =>
                intro y268_7 hm268 f9
                show wp (B_makeForm_268 g x236_5 c236_g30 c236_g36 c236_F29 c236_F31 c236_F32 w264 (L_makeForm_268 g x236_5 c236_g30 c236_g36 c236_F29 c236_F31 c236_F32 w264 n268) y268_7) _
                unfold B_makeForm_268
                refine wp_ite (fun c274 => ?_) (fun c274 => ?_)
                · have c274 := (z_le _ _).mp c274
                  have f10 : ((g 34) + 1).toInt = (g 34).toInt + 1 := z_addc (by decide +kernel) (by (first | omega | (simp only [id_eq] at *; omega))) (by (first | omega | (simp only [id_eq] at *; omega)))
                  refine wp_vl (fun x326 ex326 => ?_)
                  have f11 : x326.toInt = ((g 34) + 1).toInt := congrArg Int32.toInt ex326
                  clear ex326
                  have hg12 : ((0) ≤ x326.toInt ∧ x326.toInt ≤ 30) := ⟨by (first | omega | (simp only [id_eq] at *; omega)), by (first | omega | (simp only [id_eq] at *; omega))⟩
                  exact ⟨_, rfl, ⟨hg4, hg12, hg5, hF8, (show x326.toInt ≤ (g 34).toInt + 1 from by (first | omega | (simp only [id_eq] at *; omega)))⟩⟩
                · have c274 := z_nle c274
                  have f13 : (24 * y268_7).toInt = 24 * y268_7.toInt := z_muld (by decide +kernel) (by (first | omega | (simp only [id_eq] at *; omega))) (by (first | omega | (simp only [id_eq] at *; omega)))
                  refine wp_if ⟨by (first | omega | (simp only [id_eq] at *; omega)), by (first | omega | (simp only [id_eq] at *; omega))⟩ ?_
                  have f14 := hF8 (Int32.toNatClampNeg y268_7)
                  have f15 : (24 * (g 34)).toInt = 24 * (g 34).toInt := z_muld (by decide +kernel) (by (first | omega | (simp only [id_eq] at *; omega))) (by (first | omega | (simp only [id_eq] at *; omega)))
                  obtain ⟨r306, hc306, hq306⟩ := ok_sameBytes c236_F32 720 (24 * y268_7) (w264 (Int32.toNatClampNeg y268_7)) c236_F32 720 (24 * (g 34)) x236_5 (show (0 ≤ (24 * y268_7).toInt ∧ (24 * y268_7).toInt + (w264 (Int32.toNatClampNeg y268_7)).toInt ≤ 720) from by (first | omega | (simp only [id_eq] at *; omega))) (show 720 ≤ 500000 from by (first | omega | (simp only [id_eq] at *; omega))) (show (0 ≤ (24 * (g 34)).toInt ∧ (24 * (g 34)).toInt + x236_5.toInt ≤ 720) from by (first | omega | (simp only [id_eq] at *; omega))) (show 720 ≤ 500000 from by (first | omega | (simp only [id_eq] at *; omega)))
                  have f16 : (0 ≤ r306.toInt ∧ r306.toInt ≤ 1) := hq306
                  refine wp_b1 hc306 ?_
                  clear hc306
                  refine wp_ite (fun c309 => ?_) (fun c309 => ?_)
                  · have c309 := congrArg Int32.toInt c309
                    have f17 : (y268_7 + 1).toInt = y268_7.toInt + (1) := z_addc (by decide +kernel) (by (first | omega | (simp only [id_eq] at *; omega))) (by (first | omega | (simp only [id_eq] at *; omega)))
                    exact ih268 (y268_7 + 1) (show (30 - (y268_7 + 1).toInt).toNat < n268 from by (first | omega | (simp only [id_eq] at *; omega))) (show (0 ≤ (y268_7 + 1).toInt ∧ (y268_7 + 1).toInt ≤ 30) from by (first | omega | (simp only [id_eq] at *; omega)))
                  · have c309 := z_ne c309
                    exact ⟨_, rfl, ⟨hg4, hzg34, hg5, hF8, (show (g 34).toInt ≤ (g 34).toInt + 1 from by (first | omega | (simp only [id_eq] at *; omega)))⟩⟩
            exact lp268 NN (0 : Int32) (by have := NN_eq; (first | omega | (simp only [id_eq] at *; omega))) (show (0 ≤ (0 : Int32).toInt ∧ (0 : Int32).toInt ≤ 30) from by (first | omega | (simp only [id_eq] at *; omega)))
          · have c250 := z_nle c250
            exact Jj253
    intro k236 Jk236
    have lp28 : ∀ (n28 : Nat) (y28_4 : Int32) (y28_5 : Int32) (y28_6 : Int32) (y28_7 : Int32) (d28_g30 : Int32) (d28_g36 : Int32) (d28_F29 : (Nat → Int32)) (d28_F31 : (Nat → Int32)) (d28_F32 : (Nat → Int32)), (25 - y28_7.toInt).toNat < n28 → ((0) ≤ d28_g30.toInt ∧ d28_g30.toInt ≤ 384) → ((0) ≤ d28_g36.toInt ∧ d28_g36.toInt ≤ 1) → (0 ≤ y28_4.toInt ∧ y28_4.toInt ≤ 24) → (0 ≤ y28_5.toInt ∧ y28_5.toInt ≤ 384 * y28_7.toInt) → (0 ≤ y28_7.toInt ∧ y28_7.toInt ≤ 24) → (y28_6.toInt = 0 ∨ y28_6.toInt = 1) → (p1.toInt = -1 → y28_7.toInt = 0 → y28_4.toInt = 0) → (p1.toInt ≠ -1 → y28_4.toInt = psum (F 25) (24 * p1.toInt.toNat) y28_7.toInt.toNat) → wp (L_makeForm_28 g F p0 p1 t15_0 k236 n28 y28_4 y28_5 y28_6 y28_7 d28_g30 d28_g36 d28_F29 d28_F31 d28_F32) (Q_makeForm g F p0 p1) := by
      intro n28
      induction n28 with
      | zero => intro y28_4 y28_5 y28_6 y28_7 d28_g30 d28_g36 d28_F29 d28_F31 d28_F32 hm; exact absurd hm (Nat.not_lt_zero _)
      | succ n28 ih28 =>
        intro y28_4 y28_5 y28_6 y28_7 d28_g30 d28_g36 d28_F29 d28_F31 d28_F32 hm28 hg18 hg19 f20 f21 f22 f23 f24 f25
        show wp (B_makeForm_28 g F p0 p1 t15_0 k236 (L_makeForm_28 g F p0 p1 t15_0 k236 n28) y28_4 y28_5 y28_6 y28_7 d28_g30 d28_g36 d28_F29 d28_F31 d28_F32) _
        unfold B_makeForm_28
        refine wp_ite (fun c31 => ?_) (fun c31 => ?_)
        · have c31 := (z_le _ _).mp c31
          exact Jk236 y28_5 y28_6 d28_g30 d28_g36 d28_F29 d28_F31 d28_F32 hg18 hg19 (show (y28_6.toInt = 0 ∨ y28_6.toInt = 1) from by (first | omega | (simp only [id_eq] at *; omega))) (show (0 ≤ y28_5.toInt ∧ y28_5.toInt ≤ 9600) from by (first | omega | (simp only [id_eq] at *; omega)))
        · have c31 := z_nle c31
          refine wp_ite (fun c36 => ?_) (fun c36 => ?_)
          · have c36 := congrArg Int32.toInt c36
            exact Jk236 y28_5 y28_6 d28_g30 d28_g36 d28_F29 d28_F31 d28_F32 hg18 hg19 (show (y28_6.toInt = 0 ∨ y28_6.toInt = 1) from by (first | omega | (simp only [id_eq] at *; omega))) (show (0 ≤ y28_5.toInt ∧ y28_5.toInt ≤ 9600) from by (first | omega | (simp only [id_eq] at *; omega)))
          · have c36 := z_ne c36
            refine wp_jn (fun j63 => ∀ (t63_0 : Int32), (0 ≤ t63_0.toInt ∧ t63_0.toInt ≤ 24) → y28_4.toInt + t63_0.toInt ≤ 24 → (p1.toInt ≠ -1 → y28_4.toInt + t63_0.toInt = psum (F 25) (24 * p1.toInt.toNat) (y28_7.toInt.toNat + 1)) → wp (j63 t63_0) (Q_makeForm g F p0 p1)) ?_ ?_
            · intro t63_0 f26 f27 f28
              show wp _ _
              refine wp_jn (fun k98 => ∀ (c98_F29 : (Nat → Int32)), wp (k98 c98_F29) (Q_makeForm g F p0 p1)) ?_ ?_
              · intro c98_F29
                show wp _ _
                have hg29 : ((0) ≤ t63_0.toInt ∧ t63_0.toInt ≤ 384) := ⟨by (first | omega | (simp only [id_eq] at *; omega)), by (first | omega | (simp only [id_eq] at *; omega))⟩
                have f30 : (y28_4 + t63_0).toInt = y28_4.toInt + t63_0.toInt := z_add (by (first | omega | (simp only [id_eq] at *; omega))) (by (first | omega | (simp only [id_eq] at *; omega)))
                refine wp_vl (fun x109 ex109 => ?_)
                have f31 : x109.toInt = (y28_4 + t63_0).toInt := congrArg Int32.toInt ex109
                clear ex109
                have f32 : (40 * p0).toInt = 40 * p0.toInt := z_muld (by decide +kernel) (by (first | omega | (simp only [id_eq] at *; omega))) (by (first | omega | (simp only [id_eq] at *; omega)))
                refine wp_vl (fun x115 ex115 => ?_)
                have f33 : x115.toInt = (40 * p0).toInt := congrArg Int32.toInt ex115
                clear ex115
                refine wp_jn (fun k166 => ∀ (x166_6 : Int32) (c166_g30 : Int32) (c166_g36 : Int32) (c166_F29 : (Nat → Int32)) (c166_F31 : (Nat → Int32)), ((0) ≤ c166_g30.toInt ∧ c166_g30.toInt ≤ 384) → ((0) ≤ c166_g36.toInt ∧ c166_g36.toInt ≤ 1) → (x166_6.toInt = 0 ∨ x166_6.toInt = 1) → (x166_6.toInt ≠ 0 → c166_g30.toInt ≤ 24) → wp (k166 x166_6 c166_g30 c166_g36 c166_F29 c166_F31) (Q_makeForm g F p0 p1)) ?_ ?_
                · intro x166_6 c166_g30 c166_g36 c166_F29 c166_F31 hg34 hg35 f36 f37
                  show wp _ _
                  refine wp_jn (fun k221 => ∀ (c221_F32 : (Nat → Int32)), wp (k221 c221_F32) (Q_makeForm g F p0 p1)) ?_ ?_
                  · intro c221_F32
                    show wp _ _
                    have f38 : (y28_5 + c166_g30).toInt = y28_5.toInt + c166_g30.toInt := z_add (by (first | omega | (simp only [id_eq] at *; omega))) (by (first | omega | (simp only [id_eq] at *; omega)))
                    refine wp_vl (fun x228 ex228 => ?_)
                    have f39 : x228.toInt = (y28_5 + c166_g30).toInt := congrArg Int32.toInt ex228
                    clear ex228
                    have f40 : (y28_7 + 1).toInt = y28_7.toInt + (1) := z_addc (by decide +kernel) (by (first | omega | (simp only [id_eq] at *; omega))) (by (first | omega | (simp only [id_eq] at *; omega)))
                    exact ih28 x109 x228 x166_6 (y28_7 + 1) c166_g30 c166_g36 c166_F29 c166_F31 c221_F32 (show (25 - (y28_7 + 1).toInt).toNat < n28 from by (first | omega | (simp only [id_eq] at *; omega))) hg34 hg35 (show (0 ≤ x109.toInt ∧ x109.toInt ≤ 24) from by first | (first | omega | (simp only [id_eq] at *; omega)) | (intro h9; rw [show (y28_7 + 1).toInt.toNat = y28_7.toInt.toNat + 1 by (first | omega | (simp only [id_eq] at *; omega))]; (first | omega | (simp only [id_eq] at *; omega)))) (show (0 ≤ x228.toInt ∧ x228.toInt ≤ 384 * (y28_7 + 1).toInt) from by first | (first | omega | (simp only [id_eq] at *; omega)) | (intro h9; rw [show (y28_7 + 1).toInt.toNat = y28_7.toInt.toNat + 1 by (first | omega | (simp only [id_eq] at *; omega))]; (first | omega | (simp only [id_eq] at *; omega)))) (show (0 ≤ (y28_7 + 1).toInt ∧ (y28_7 + 1).toInt ≤ 24) from by first | (first | omega | (simp only [id_eq] at *; omega)) | (intro h9; rw [show (y28_7 + 1).toInt.toNat = y28_7.toInt.toNat + 1 by (first | omega | (simp only [id_eq] at *; omega))]; (first | omega | (simp only [id_eq] at *; omega)))) (show (x166_6.toInt = 0 ∨ x166_6.toInt = 1) from by first | (first | omega | (simp only [id_eq] at *; omega)) | (intro h9; rw [show (y28_7 + 1).toInt.toNat = y28_7.toInt.toNat + 1 by (first | omega | (simp only [id_eq] at *; omega))]; (first | omega | (simp only [id_eq] at *; omega)))) (show (p1.toInt = -1 → (y28_7 + 1).toInt = 0 → x109.toInt = 0) from by first | (first | omega | (simp only [id_eq] at *; omega)) | (intro h9; rw [show (y28_7 + 1).toInt.toNat = y28_7.toInt.toNat + 1 by (first | omega | (simp only [id_eq] at *; omega))]; (first | omega | (simp only [id_eq] at *; omega)))) (show (p1.toInt ≠ -1 → x109.toInt = psum (F 25) (24 * p1.toInt.toNat) (y28_7 + 1).toInt.toNat) from by first | (first | omega | (simp only [id_eq] at *; omega)) | (intro h9; rw [show (y28_7 + 1).toInt.toNat = y28_7.toInt.toNat + 1 by (first | omega | (simp only [id_eq] at *; omega))]; (first | omega | (simp only [id_eq] at *; omega))))
                  intro k221 Jk221
                  have lp169 : ∀ (n169 : Nat) (y169_9 : Int32) (d169_F32 : (Nat → Int32)), (24 - y169_9.toInt).toNat < n169 → 0 ≤ y169_9.toInt → wp (L_makeForm_169 g y28_5 c166_g30 c166_F29 k221 n169 y169_9 d169_F32) (Q_makeForm g F p0 p1) := by
                    intro n169
                    induction n169 with
                    | zero => intro y169_9 d169_F32 hm; exact absurd hm (Nat.not_lt_zero _)
                    | succ n169 ih169 =>
                      intro y169_9 d169_F32 hm169 f41
                      show wp (B_makeForm_169 g y28_5 c166_g30 c166_F29 k221 (L_makeForm_169 g y28_5 c166_g30 c166_F29 k221 n169) y169_9 d169_F32) _
                      unfold B_makeForm_169
                      refine wp_ite (fun c175 => ?_) (fun c175 => ?_)
                      · have c175 := (z_le _ _).mp c175
                        exact Jk221 d169_F32
                      · have c175 := z_nle c175
                        have f42 : (y28_5 + c166_g30).toInt = y28_5.toInt + c166_g30.toInt := z_add (by (first | omega | (simp only [id_eq] at *; omega))) (by (first | omega | (simp only [id_eq] at *; omega)))
                        refine wp_ite (fun c187 => ?_) (fun c187 => ?_)
                        · have c187 := (z_lt _ _).mp c187
                          exact Jk221 d169_F32
                        · have c187 := z_nlt c187
                          have f43 : (24 * (g 34)).toInt = 24 * (g 34).toInt := z_muld (by decide +kernel) (by (first | omega | (simp only [id_eq] at *; omega))) (by (first | omega | (simp only [id_eq] at *; omega)))
                          have f44 : ((24 * (g 34)) + y28_5).toInt = (24 * (g 34)).toInt + y28_5.toInt := z_add (by (first | omega | (simp only [id_eq] at *; omega))) (by (first | omega | (simp only [id_eq] at *; omega)))
                          have f45 : (((24 * (g 34)) + y28_5) + y169_9).toInt = ((24 * (g 34)) + y28_5).toInt + y169_9.toInt := z_add (by (first | omega | (simp only [id_eq] at *; omega))) (by (first | omega | (simp only [id_eq] at *; omega)))
                          refine wp_if ⟨by (first | omega | (simp only [id_eq] at *; omega)), by (first | omega | (simp only [id_eq] at *; omega))⟩ ?_
                          refine wp_if ⟨by (first | omega | (simp only [id_eq] at *; omega)), by (first | omega | (simp only [id_eq] at *; omega))⟩ ?_
                          refine wp_vl (fun w214 ew214 => ?_)
                          clear ew214
                          have f46 : (y169_9 + 1).toInt = y169_9.toInt + (1) := z_addc (by decide +kernel) (by (first | omega | (simp only [id_eq] at *; omega))) (by (first | omega | (simp only [id_eq] at *; omega)))
                          exact ih169 (y169_9 + 1) w214 (show (24 - (y169_9 + 1).toInt).toNat < n169 from by (first | omega | (simp only [id_eq] at *; omega))) (show 0 ≤ (y169_9 + 1).toInt from by (first | omega | (simp only [id_eq] at *; omega)))
                  exact lp169 NN (0 : Int32) d28_F32 (by have := NN_eq; (first | omega | (simp only [id_eq] at *; omega))) (show 0 ≤ (0 : Int32).toInt from by (first | omega | (simp only [id_eq] at *; omega)))
                intro k166 Jk166
                have lp117 : ∀ (n117 : Nat) (y117_6 : Int32) (y117_9 : Int32) (d117_g30 : Int32) (d117_g36 : Int32) (d117_F29 : (Nat → Int32)) (d117_F31 : (Nat → Int32)), (40 * p0.toInt + 40 - y117_9.toInt).toNat < n117 → ((0) ≤ d117_g30.toInt ∧ d117_g30.toInt ≤ 384) → ((0) ≤ d117_g36.toInt ∧ d117_g36.toInt ≤ 1) → (40 * p0.toInt ≤ y117_9.toInt ∧ y117_9.toInt ≤ 40 * p0.toInt + 40) → (y117_6.toInt = 0 ∨ y117_6.toInt = 1) → (y117_6.toInt ≠ 0 → d117_g30.toInt ≤ 24) → wp (L_makeForm_117 g F p0 d28_F32 k166 n117 y117_6 y117_9 d117_g30 d117_g36 d117_F29 d117_F31) (Q_makeForm g F p0 p1) := by
                  intro n117
                  induction n117 with
                  | zero => intro y117_6 y117_9 d117_g30 d117_g36 d117_F29 d117_F31 hm; exact absurd hm (Nat.not_lt_zero _)
                  | succ n117 ih117 =>
                    intro y117_6 y117_9 d117_g30 d117_g36 d117_F29 d117_F31 hm117 hg47 hg48 f49 f50 f51
                    show wp (B_makeForm_117 g F p0 d28_F32 k166 (L_makeForm_117 g F p0 d28_F32 k166 n117) y117_6 y117_9 d117_g30 d117_g36 d117_F29 d117_F31) _
                    unfold B_makeForm_117
                    refine wp_if ⟨by (first | omega | (simp only [id_eq] at *; omega)), by (first | omega | (simp only [id_eq] at *; omega))⟩ ?_
                    have f53 := hzF11 (Int32.toNatClampNeg p0)
                    have f54 : ((40 * p0) + ((F 11) (Int32.toNatClampNeg p0))).toInt = (40 * p0).toInt + ((F 11) (Int32.toNatClampNeg p0)).toInt := z_add (by (first | omega | (simp only [id_eq] at *; omega))) (by (first | omega | (simp only [id_eq] at *; omega)))
                    refine wp_ite (fun c130 => ?_) (fun c130 => ?_)
                    · have c130 := (z_le _ _).mp c130
                      exact Jk166 y117_6 d117_g30 d117_g36 d117_F29 d117_F31 hg47 hg48 (show (y117_6.toInt = 0 ∨ y117_6.toInt = 1) from by (first | omega | (simp only [id_eq] at *; omega))) (show (y117_6.toInt ≠ 0 → d117_g30.toInt ≤ 24) from by (first | omega | (simp only [id_eq] at *; omega)))
                    · have c130 := z_nle c130
                      refine wp_ite (fun c135 => ?_) (fun c135 => ?_)
                      · have c135 := congrArg Int32.toInt c135
                        exact Jk166 y117_6 d117_g30 d117_g36 d117_F29 d117_F31 hg47 hg48 (show (y117_6.toInt = 0 ∨ y117_6.toInt = 1) from by (first | omega | (simp only [id_eq] at *; omega))) (show (y117_6.toInt ≠ 0 → d117_g30.toInt ≤ 24) from by (first | omega | (simp only [id_eq] at *; omega)))
                      · have c135 := z_ne c135
                        obtain ⟨⟨c141_g30, c141_g36, c141_F29, c141_F31⟩, hc141, hq141⟩ := ok_lawThrough (upd (upd g 30 d117_g30) 36 d117_g36) (upF (upF (upF F 29 d117_F29) 31 d117_F31) 32 d28_F32) y117_9 (MInv_i hzg1 hzg2 hzg3 hzg4 hzg5 hzg6 hzg7 hzg8 hzg9 hzg23 hzg27 hg47 hzg34 hg48 hzg39 hzg44 hzg47 hzg48 hzg51 hzg56 hzg59 hzg62 hzg65 hzg66 hzg70 hzF11 hzF12 hzF13 hzF15 hzF19 hzF21 hzF24 hzF25 hzF26 hzF33 hzF38 hzF41 hzF43 hzF45 hzF46 hzF50 hzF53 hzF54 hzLQ) (show (0 ≤ y117_9.toInt ∧ y117_9.toInt < 280) from by (first | omega | (simp only [id_eq] at *; omega))) (show d117_g30.toInt ≤ 24 from by (first | omega | (simp only [id_eq] at *; omega))) (show 1 ≤ ((F 15) (Int32.toNatClampNeg (4 * y117_9))).toInt from by exact lq_at hzLQ (r := p0) (by (first | omega | (simp only [id_eq] at *; omega))) (by (first | omega | (simp only [id_eq] at *; omega))) (by (first | omega | (simp only [id_eq] at *; omega))) (by (first | omega | (simp only [id_eq] at *; omega))) (by (first | omega | (simp only [id_eq] at *; omega))))
                        obtain ⟨hg55, hg56⟩ : (((0) ≤ c141_g30.toInt ∧ c141_g30.toInt ≤ 384)) ∧ (((0) ≤ c141_g36.toInt ∧ c141_g36.toInt ≤ 1)) := hq141
                        refine wp_b4 hc141 ?_
                        clear hc141
                        refine wp_jn (fun j158 => ∀ (t158_0 : Int32), (0 ≤ t158_0.toInt ∧ t158_0.toInt ≤ 1) → (t158_0.toInt ≠ 0 → c141_g30.toInt ≤ 24) → wp (j158 t158_0) (Q_makeForm g F p0 p1)) ?_ ?_
                        · intro t158_0 f57 f58
                          show wp _ _
                          have f59 : (y117_9 + 1).toInt = y117_9.toInt + (1) := z_addc (by decide +kernel) (by (first | omega | (simp only [id_eq] at *; omega))) (by (first | omega | (simp only [id_eq] at *; omega)))
                          exact ih117 t158_0 (y117_9 + 1) c141_g30 c141_g36 c141_F29 c141_F31 (show (40 * p0.toInt + 40 - (y117_9 + 1).toInt).toNat < n117 from by (first | omega | (simp only [id_eq] at *; omega))) hg55 hg56 (show (40 * p0.toInt ≤ (y117_9 + 1).toInt ∧ (y117_9 + 1).toInt ≤ 40 * p0.toInt + 40) from by (first | omega | (simp only [id_eq] at *; omega))) (show (t158_0.toInt = 0 ∨ t158_0.toInt = 1) from by (first | omega | (simp only [id_eq] at *; omega))) (show (t158_0.toInt ≠ 0 → c141_g30.toInt ≤ 24) from by (first | omega | (simp only [id_eq] at *; omega)))
                        intro j158 Jj158
                        refine wp_ite (fun c150 => ?_) (fun c150 => ?_)
                        · have c150 := (z_lt _ _).mp c150
                          exact Jj158 (0 : Int32) (show (0 ≤ (0 : Int32).toInt ∧ (0 : Int32).toInt ≤ 1) from by (first | omega | (simp only [id_eq] at *; omega))) (show ((0 : Int32).toInt ≠ 0 → c141_g30.toInt ≤ 24) from by (first | omega | (simp only [id_eq] at *; omega)))
                        · have c150 := z_nlt c150
                          exact Jj158 (1 : Int32) (show (0 ≤ (1 : Int32).toInt ∧ (1 : Int32).toInt ≤ 1) from by (first | omega | (simp only [id_eq] at *; omega))) (show ((1 : Int32).toInt ≠ 0 → c141_g30.toInt ≤ 24) from by (first | omega | (simp only [id_eq] at *; omega)))
                exact lp117 NN y28_6 x115 t63_0 d28_g36 c98_F29 d28_F31 (by have := NN_eq; (first | omega | (simp only [id_eq] at *; omega))) hg29 hg19 (show (40 * p0.toInt ≤ x115.toInt ∧ x115.toInt ≤ 40 * p0.toInt + 40) from by (first | omega | (simp only [id_eq] at *; omega))) (show (y28_6.toInt = 0 ∨ y28_6.toInt = 1) from by (first | omega | (simp only [id_eq] at *; omega))) (show (y28_6.toInt ≠ 0 → t63_0.toInt ≤ 24) from by (first | omega | (simp only [id_eq] at *; omega)))
              intro k98 Jk98
              have lp68 : ∀ (n68 : Nat) (y68_9 : Int32) (d68_F29 : (Nat → Int32)), (t63_0.toInt - y68_9.toInt).toNat < n68 → 0 ≤ y68_9.toInt → wp (L_makeForm_68 F y28_4 t63_0 k98 n68 y68_9 d68_F29) (Q_makeForm g F p0 p1) := by
                intro n68
                induction n68 with
                | zero => intro y68_9 d68_F29 hm; exact absurd hm (Nat.not_lt_zero _)
                | succ n68 ih68 =>
                  intro y68_9 d68_F29 hm68 f60
                  show wp (B_makeForm_68 F y28_4 t63_0 k98 (L_makeForm_68 F y28_4 t63_0 k98 n68) y68_9 d68_F29) _
                  unfold B_makeForm_68
                  refine wp_ite (fun c72 => ?_) (fun c72 => ?_)
                  · have c72 := (z_le _ _).mp c72
                    exact Jk98 d68_F29
                  · have c72 := z_nle c72
                    have f61 : (y28_4 + y68_9).toInt = y28_4.toInt + y68_9.toInt := z_add (by (first | omega | (simp only [id_eq] at *; omega))) (by (first | omega | (simp only [id_eq] at *; omega)))
                    refine wp_if ⟨by (first | omega | (simp only [id_eq] at *; omega)), by (first | omega | (simp only [id_eq] at *; omega))⟩ ?_
                    refine wp_if ⟨by (first | omega | (simp only [id_eq] at *; omega)), by (first | omega | (simp only [id_eq] at *; omega))⟩ ?_
                    refine wp_vl (fun w91 ew91 => ?_)
                    clear ew91
                    have f62 : (y68_9 + 1).toInt = y68_9.toInt + (1) := z_addc (by decide +kernel) (by (first | omega | (simp only [id_eq] at *; omega))) (by (first | omega | (simp only [id_eq] at *; omega)))
                    exact ih68 (y68_9 + 1) w91 (show (t63_0.toInt - (y68_9 + 1).toInt).toNat < n68 from by (first | omega | (simp only [id_eq] at *; omega))) (show 0 ≤ (y68_9 + 1).toInt from by (first | omega | (simp only [id_eq] at *; omega)))
              exact lp68 NN (0 : Int32) d28_F29 (by have := NN_eq; (first | omega | (simp only [id_eq] at *; omega))) (show 0 ≤ (0 : Int32).toInt from by (first | omega | (simp only [id_eq] at *; omega)))
            intro j63 Jj63
            refine wp_ite (fun c41 => ?_) (fun c41 => ?_)
            · have c41 := congrArg Int32.toInt c41
              exact Jj63 (g 23) (show (0 ≤ (g 23).toInt ∧ (g 23).toInt ≤ 24) from by (first | omega | (simp only [id_eq] at *; omega))) (show y28_4.toInt + (g 23).toInt ≤ 24 from by (first | omega | (simp only [id_eq] at *; omega))) (show (p1.toInt ≠ -1 → y28_4.toInt + (g 23).toInt = psum (F 25) (24 * p1.toInt.toNat) (y28_7.toInt.toNat + 1)) from by (first | omega | (simp only [id_eq] at *; omega)))
            · have c41 := z_ne c41
              have f63 : (24 * p1).toInt = 24 * p1.toInt := z_muld (by decide +kernel) (by (first | omega | (simp only [id_eq] at *; omega))) (by (first | omega | (simp only [id_eq] at *; omega)))
              have f64 : ((24 * p1) + y28_7).toInt = (24 * p1).toInt + y28_7.toInt := z_add (by (first | omega | (simp only [id_eq] at *; omega))) (by (first | omega | (simp only [id_eq] at *; omega)))
              refine wp_if ⟨by (first | omega | (simp only [id_eq] at *; omega)), by (first | omega | (simp only [id_eq] at *; omega))⟩ ?_
              have f65 := hzF25 (Int32.toNatClampNeg ((24 * p1) + y28_7))
              have hws := ws_step (P := p1) (k := y28_7) (ix := ((24 * p1) + y28_7)) hzF25 hp3 (by (first | omega | (simp only [id_eq] at *; omega))) (by (first | omega | (simp only [id_eq] at *; omega))) (by (first | omega | (simp only [id_eq] at *; omega))) (by (first | omega | (simp only [id_eq] at *; omega))) (by (first | omega | (simp only [id_eq] at *; omega)))
              exact Jj63 ((F 25) (Int32.toNatClampNeg ((24 * p1) + y28_7))) (show (0 ≤ ((F 25) (Int32.toNatClampNeg ((24 * p1) + y28_7))).toInt ∧ ((F 25) (Int32.toNatClampNeg ((24 * p1) + y28_7))).toInt ≤ 24) from by (first | omega | (simp only [id_eq] at *; omega))) (show y28_4.toInt + ((F 25) (Int32.toNatClampNeg ((24 * p1) + y28_7))).toInt ≤ 24 from by (first | omega | (simp only [id_eq] at *; omega))) (show (p1.toInt ≠ -1 → y28_4.toInt + ((F 25) (Int32.toNatClampNeg ((24 * p1) + y28_7))).toInt = psum (F 25) (24 * p1.toInt.toNat) (y28_7.toInt.toNat + 1)) from by (first | omega | (simp only [id_eq] at *; omega)))
    exact lp28 NN (0 : Int32) (0 : Int32) (1 : Int32) (0 : Int32) (g 30) (g 36) (F 29) (F 31) (F 32) (by have := NN_eq; (first | omega | (simp only [id_eq] at *; omega))) hzg30 hzg36 (show (0 ≤ (0 : Int32).toInt ∧ (0 : Int32).toInt ≤ 24) from by first | (first | omega | (simp only [id_eq] at *; omega)) | exact (fun _ => rfl) | (intro _; exact rfl)) (show (0 ≤ (0 : Int32).toInt ∧ (0 : Int32).toInt ≤ 384 * (0 : Int32).toInt) from by first | (first | omega | (simp only [id_eq] at *; omega)) | exact (fun _ => rfl) | (intro _; exact rfl)) (show (0 ≤ (0 : Int32).toInt ∧ (0 : Int32).toInt ≤ 24) from by first | (first | omega | (simp only [id_eq] at *; omega)) | exact (fun _ => rfl) | (intro _; exact rfl)) (show ((1 : Int32).toInt = 0 ∨ (1 : Int32).toInt = 1) from by first | (first | omega | (simp only [id_eq] at *; omega)) | exact (fun _ => rfl) | (intro _; exact rfl)) (show (p1.toInt = -1 → (0 : Int32).toInt = 0 → (0 : Int32).toInt = 0) from by first | (first | omega | (simp only [id_eq] at *; omega)) | exact (fun _ => rfl) | (intro _; exact rfl)) (show (p1.toInt ≠ -1 → (0 : Int32).toInt = psum (F 25) (24 * p1.toInt.toNat) (0 : Int32).toInt.toNat) from by first | (first | omega | (simp only [id_eq] at *; omega)) | exact (fun _ => rfl) | (intro _; exact rfl))
  intro j15 Jj15
  refine wp_ite (fun c2 => ?_) (fun c2 => ?_)
  · have c2 := congrArg Int32.toInt c2
    exact Jj15 (1 : Int32) (show (0 ≤ (1 : Int32).toInt ∧ (1 : Int32).toInt ≤ 24) from by (first | omega | (simp only [id_eq] at *; omega))) (show (p1.toInt = -1 → (1 : Int32).toInt = 1) from by (first | omega | (simp only [id_eq] at *; omega))) (show (p1.toInt ≠ -1 → (1 : Int32).toInt = ((F 26) (Int32.toNatClampNeg p1)).toInt) from by (first | omega | (simp only [id_eq] at *; omega)))
  · have c2 := z_ne c2
    refine wp_if ⟨by (first | omega | (simp only [id_eq] at *; omega)), by (first | omega | (simp only [id_eq] at *; omega))⟩ ?_
    have f66 := hzF26 (Int32.toNatClampNeg p1)
    exact Jj15 ((F 26) (Int32.toNatClampNeg p1)) (show (0 ≤ ((F 26) (Int32.toNatClampNeg p1)).toInt ∧ ((F 26) (Int32.toNatClampNeg p1)).toInt ≤ 24) from by (first | omega | (simp only [id_eq] at *; omega))) (show (p1.toInt = -1 → ((F 26) (Int32.toNatClampNeg p1)).toInt = 1) from by (first | omega | (simp only [id_eq] at *; omega))) (show (p1.toInt ≠ -1 → ((F 26) (Int32.toNatClampNeg p1)).toInt = ((F 26) (Int32.toNatClampNeg p1)).toInt) from by (first | omega | (simp only [id_eq] at *; omega)))
abbrev Q_turnBy (g : Nat → Int32) (F : Nat → Nat → Int32) (p0 : Int32) : (Int32 × Int32 × Int32 × Int32 × (Nat → Int32) × (Nat → Int32) × (Nat → Int32) × (Nat → Int32) × (Nat → Int32) × (Nat → Int32) × (Nat → Int32) × (Nat → Int32)) → Prop := (fun t => (((0) ≤ (t.1).toInt ∧ (t.1).toInt ≤ 30)) ∧ (((0) ≤ (t.2.1).toInt ∧ (t.2.1).toInt ≤ 384)) ∧ (((0) ≤ (t.2.2.1).toInt ∧ (t.2.2.1).toInt ≤ 30)) ∧ (((0) ≤ (t.2.2.2.1).toInt ∧ (t.2.2.2.1).toInt ≤ 1)) ∧ (rng (0) 24 (t.2.2.2.2.1)) ∧ (rng (0) 24 (t.2.2.2.2.2.1)) ∧ (rng (0) 24 (t.2.2.2.2.2.2.1)) ∧ (rng (0) 24 (t.2.2.2.2.2.2.2.2.2.2.2)))
set_option maxHeartbeats 4000000 in
set_option maxRecDepth 100000 in
theorem ok_turnBy (g : Nat → Int32) (F : Nat → Nat → Int32) (p0 : Int32) (hI : MInv g F) (hp0 : (0 ≤ p0.toInt ∧ p0.toInt < (g 9).toInt)) : wp (f_turnBy g F p0) (Q_turnBy g F p0) := by
  unfold f_turnBy
  refine MInv_e hI (fun (hzg1 : id _) (hzg2 : id _) (hzg3 : id _) (hzg4 : id _) (hzg5 : id _) (hzg6 : id _) (hzg7 : id _) (hzg8 : id _) hzg9 hzg23 hzg27 hzg30 (hzg34 : id _) hzg36 (hzg39 : id _) (hzg44 : id _) (hzg47 : id _) (hzg48 : id _) (hzg51 : id _) (hzg56 : id _) (hzg59 : id _) (hzg62 : id _) (hzg65 : id _) (hzg66 : id _) (hzg70 : id _) hzF11 hzF12 hzF13 hzF15 hzF19 hzF21 hzF24 hzF25 hzF26 hzF33 hzF38 hzF41 hzF43 hzF45 hzF46 hzF50 hzF53 hzF54 hzLQ => ?_)
  clear hI
  have zkm1 : (-1 : Int32).toInt = -1 := by decide +kernel
  have zk0 : (0 : Int32).toInt = 0 := by decide +kernel
  have zk1 : (1 : Int32).toInt = 1 := by decide +kernel
  have zk2 : (2 : Int32).toInt = 2 := by decide +kernel
  have zk16 : (16 : Int32).toInt = 16 := by decide +kernel
  have hg1 : ((0) ≤ (0 : Int32).toInt ∧ (0 : Int32).toInt ≤ 30) := ⟨by (first | omega | (simp only [id_eq] at *; omega)), by (first | omega | (simp only [id_eq] at *; omega))⟩
  obtain ⟨r7, hc7, hq7⟩ := ok_listedAs (upd g 34 0) F p0 (MInv_i hzg1 hzg2 hzg3 hzg4 hzg5 hzg6 hzg7 hzg8 hzg9 hzg23 hzg27 hzg30 hg1 hzg36 hzg39 hzg44 hzg47 hzg48 hzg51 hzg56 hzg59 hzg62 hzg65 hzg66 hzg70 hzF11 hzF12 hzF13 hzF15 hzF19 hzF21 hzF24 hzF25 hzF26 hzF33 hzF38 hzF41 hzF43 hzF45 hzF46 hzF50 hzF53 hzF54 hzLQ) (show (0 ≤ p0.toInt ∧ p0.toInt ≤ 6) from by (first | omega | (simp only [id_eq] at *; omega)))
  have f2 : (r7.toInt = -1 ∨ (40 * p0.toInt ≤ r7.toInt ∧ r7.toInt < 40 * p0.toInt + 40)) := hq7
  refine wp_b1 hc7 ?_
  clear hc7
  refine wp_ite (fun c13 => ?_) (fun c13 => ?_)
  · have c13 := congrArg Int32.toInt c13
    obtain ⟨⟨c18_g27, c18_F24, c18_F25, c18_F26, c18_F28⟩, hc18, hq18⟩ := ok_makeWays (upd g 34 0) F p0 (MInv_i hzg1 hzg2 hzg3 hzg4 hzg5 hzg6 hzg7 hzg8 hzg9 hzg23 hzg27 hzg30 hg1 hzg36 hzg39 hzg44 hzg47 hzg48 hzg51 hzg56 hzg59 hzg62 hzg65 hzg66 hzg70 hzF11 hzF12 hzF13 hzF15 hzF19 hzF21 hzF24 hzF25 hzF26 hzF33 hzF38 hzF41 hzF43 hzF45 hzF46 hzF50 hzF53 hzF54 hzLQ) (show (0 ≤ p0.toInt ∧ p0.toInt ≤ 6) from by (first | omega | (simp only [id_eq] at *; omega)))
    obtain ⟨hg3, hg4, hg5, hg6, f7⟩ : (((0) ≤ c18_g27.toInt ∧ c18_g27.toInt ≤ 30)) ∧ (rng (0) 24 c18_F24) ∧ (rng (0) 24 c18_F25) ∧ (rng (0) 24 c18_F26) ∧ (WS c18_F25 c18_F26 c18_g27) := hq18
    refine wp_b5 hc18 ?_
    clear hc18
    refine wp_jn (fun j34 => ∀ (c34_g30 : Int32) (c34_g34 : Int32) (c34_g36 : Int32) (c34_F29 : (Nat → Int32)) (c34_F31 : (Nat → Int32)) (c34_F32 : (Nat → Int32)) (c34_F33 : (Nat → Int32)), ((0) ≤ c34_g30.toInt ∧ c34_g30.toInt ≤ 384) → ((0) ≤ c34_g34.toInt ∧ c34_g34.toInt ≤ 30) → ((0) ≤ c34_g36.toInt ∧ c34_g36.toInt ≤ 1) → rng (0) 24 c34_F33 → c34_g34.toInt ≤ 1 → (c18_g27.toInt ≠ 0 → c34_g34.toInt = 0) → wp (j34 c34_g30 c34_g34 c34_g36 c34_F29 c34_F31 c34_F32 c34_F33) (Q_turnBy g F p0)) ?_ ?_
    · intro c34_g30 c34_g34 c34_g36 c34_F29 c34_F31 c34_F32 c34_F33 hg8 hg9 hg10 hg11 f12 f13
      show wp _ _
      have lp36 : ∀ (n36 : Nat) (y36_3 : Int32) (d36_g30 : Int32) (d36_g34 : Int32) (d36_g36 : Int32) (d36_F29 : (Nat → Int32)) (d36_F31 : (Nat → Int32)) (d36_F32 : (Nat → Int32)) (d36_F33 : (Nat → Int32)), (30 - y36_3.toInt).toNat < n36 → ((0) ≤ d36_g30.toInt ∧ d36_g30.toInt ≤ 384) → ((0) ≤ d36_g34.toInt ∧ d36_g34.toInt ≤ 30) → ((0) ≤ d36_g36.toInt ∧ d36_g36.toInt ≤ 1) → rng (0) 24 d36_F33 → (0 ≤ y36_3.toInt ∧ y36_3.toInt ≤ 30) → (y36_3.toInt < c18_g27.toInt → d36_g34.toInt ≤ y36_3.toInt) → wp (L_turnBy_36 g F p0 c18_g27 c18_F24 c18_F25 c18_F26 c18_F28 n36 y36_3 d36_g30 d36_g34 d36_g36 d36_F29 d36_F31 d36_F32 d36_F33) (Q_turnBy g F p0) := by
        intro n36
        induction n36 with
        | zero => intro y36_3 d36_g30 d36_g34 d36_g36 d36_F29 d36_F31 d36_F32 d36_F33 hm; exact absurd hm (Nat.not_lt_zero _)
        | succ n36 ih36 =>
          intro y36_3 d36_g30 d36_g34 d36_g36 d36_F29 d36_F31 d36_F32 d36_F33 hm36 hg14 hg15 hg16 hg17 f18 f19
          show wp (B_turnBy_36 g F p0 c18_g27 c18_F24 c18_F25 c18_F26 c18_F28 (L_turnBy_36 g F p0 c18_g27 c18_F24 c18_F25 c18_F26 c18_F28 n36) y36_3 d36_g30 d36_g34 d36_g36 d36_F29 d36_F31 d36_F32 d36_F33) _
          unfold B_turnBy_36
          refine wp_ite (fun c41 => ?_) (fun c41 => ?_)
          · have c41 := (z_le _ _).mp c41
            exact ⟨_, rfl, ⟨hg3, hg14, hg15, hg16, hg4, hg5, hg6, hg17⟩⟩
          · have c41 := z_nle c41
            obtain ⟨⟨c47_g30, c47_g34, c47_g36, c47_F29, c47_F31, c47_F32, c47_F33⟩, hc47, hq47⟩ := ok_makeForm (upd (upd (upd (upd g 27 c18_g27) 30 d36_g30) 34 d36_g34) 36 d36_g36) (upF (upF (upF (upF (upF (upF (upF (upF F 24 c18_F24) 25 c18_F25) 26 c18_F26) 28 c18_F28) 29 d36_F29) 31 d36_F31) 32 d36_F32) 33 d36_F33) p0 y36_3 (MInv_i hzg1 hzg2 hzg3 hzg4 hzg5 hzg6 hzg7 hzg8 hzg9 hzg23 hg3 hg14 hg15 hg16 hzg39 hzg44 hzg47 hzg48 hzg51 hzg56 hzg59 hzg62 hzg65 hzg66 hzg70 hzF11 hzF12 hzF13 hzF15 hzF19 hzF21 hg4 hg5 hg6 hg17 hzF38 hzF41 hzF43 hzF45 hzF46 hzF50 hzF53 hzF54 hzLQ) (show (0 ≤ p0.toInt ∧ p0.toInt ≤ 6) from by (first | omega | (simp only [id_eq] at *; omega))) (show ((-1) ≤ y36_3.toInt ∧ y36_3.toInt < 30) from by (first | omega | (simp only [id_eq] at *; omega))) (show (y36_3.toInt ≠ -1 → y36_3.toInt < c18_g27.toInt) from by (first | omega | (simp only [id_eq] at *; omega))) (show WS c18_F25 c18_F26 c18_g27 from by assumption) (show d36_g34.toInt ≤ 29 from by (first | omega | (simp only [id_eq] at *; omega))) (show p0.toInt < (g 9).toInt from by (first | omega | (simp only [id_eq] at *; omega)))
            obtain ⟨hg20, hg21, hg22, hg23, f24⟩ : (((0) ≤ c47_g30.toInt ∧ c47_g30.toInt ≤ 384)) ∧ (((0) ≤ c47_g34.toInt ∧ c47_g34.toInt ≤ 30)) ∧ (((0) ≤ c47_g36.toInt ∧ c47_g36.toInt ≤ 1)) ∧ (rng (0) 24 c47_F33) ∧ (c47_g34.toInt ≤ d36_g34.toInt + 1) := hq47
            refine wp_b7 hc47 ?_
            clear hc47
            have f25 : (y36_3 + 1).toInt = y36_3.toInt + (1) := z_addc (by decide +kernel) (by (first | omega | (simp only [id_eq] at *; omega))) (by (first | omega | (simp only [id_eq] at *; omega)))
            exact ih36 (y36_3 + 1) c47_g30 c47_g34 c47_g36 c47_F29 c47_F31 c47_F32 c47_F33 (show (30 - (y36_3 + 1).toInt).toNat < n36 from by (first | omega | (simp only [id_eq] at *; omega))) hg20 hg21 hg22 hg23 (show (0 ≤ (y36_3 + 1).toInt ∧ (y36_3 + 1).toInt ≤ 30) from by (first | omega | (simp only [id_eq] at *; omega))) (show ((y36_3 + 1).toInt < c18_g27.toInt → c47_g34.toInt ≤ (y36_3 + 1).toInt) from by (first | omega | (simp only [id_eq] at *; omega)))
      exact lp36 NN (0 : Int32) c34_g30 c34_g34 c34_g36 c34_F29 c34_F31 c34_F32 c34_F33 (by have := NN_eq; (first | omega | (simp only [id_eq] at *; omega))) hg8 hg9 hg10 hg11 (show (0 ≤ (0 : Int32).toInt ∧ (0 : Int32).toInt ≤ 30) from by (first | omega | (simp only [id_eq] at *; omega))) (show ((0 : Int32).toInt < c18_g27.toInt → c34_g34.toInt ≤ (0 : Int32).toInt) from by (first | omega | (simp only [id_eq] at *; omega)))
    intro j34 Jj34
    refine wp_ite (fun c25 => ?_) (fun c25 => ?_)
    · have c25 := congrArg Int32.toInt c25
      obtain ⟨⟨c31_g30, c31_g34, c31_g36, c31_F29, c31_F31, c31_F32, c31_F33⟩, hc31, hq31⟩ := ok_makeForm (upd (upd g 27 c18_g27) 34 0) (upF (upF (upF (upF F 24 c18_F24) 25 c18_F25) 26 c18_F26) 28 c18_F28) p0 (-1) (MInv_i hzg1 hzg2 hzg3 hzg4 hzg5 hzg6 hzg7 hzg8 hzg9 hzg23 hg3 hzg30 hg1 hzg36 hzg39 hzg44 hzg47 hzg48 hzg51 hzg56 hzg59 hzg62 hzg65 hzg66 hzg70 hzF11 hzF12 hzF13 hzF15 hzF19 hzF21 hg4 hg5 hg6 hzF33 hzF38 hzF41 hzF43 hzF45 hzF46 hzF50 hzF53 hzF54 hzLQ) (show (0 ≤ p0.toInt ∧ p0.toInt ≤ 6) from by (first | omega | (simp only [id_eq] at *; omega))) (show ((-1) ≤ (-1 : Int32).toInt ∧ (-1 : Int32).toInt < 30) from by (first | omega | (simp only [id_eq] at *; omega))) (show ((-1 : Int32).toInt ≠ -1 → (-1 : Int32).toInt < c18_g27.toInt) from by (first | omega | (simp only [id_eq] at *; omega))) (show WS c18_F25 c18_F26 c18_g27 from by assumption) (show (0 : Int32).toInt ≤ 29 from by (first | omega | (simp only [id_eq] at *; omega))) (show p0.toInt < (g 9).toInt from by (first | omega | (simp only [id_eq] at *; omega)))
      obtain ⟨hg26, hg27, hg28, hg29, f30⟩ : (((0) ≤ c31_g30.toInt ∧ c31_g30.toInt ≤ 384)) ∧ (((0) ≤ c31_g34.toInt ∧ c31_g34.toInt ≤ 30)) ∧ (((0) ≤ c31_g36.toInt ∧ c31_g36.toInt ≤ 1)) ∧ (rng (0) 24 c31_F33) ∧ (c31_g34.toInt ≤ (0 : Int32).toInt + 1) := hq31
      refine wp_b7 hc31 ?_
      clear hc31
      exact Jj34 c31_g30 c31_g34 c31_g36 c31_F29 c31_F31 c31_F32 c31_F33 hg26 hg27 hg28 hg29 (show c31_g34.toInt ≤ 1 from by (first | omega | (simp only [id_eq] at *; omega))) (show (c18_g27.toInt ≠ 0 → c31_g34.toInt = 0) from by (first | omega | (simp only [id_eq] at *; omega)))
    · have c25 := z_ne c25
      exact Jj34 (g 30) (0 : Int32) (g 36) (F 29) (F 31) (F 32) (F 33) hzg30 hg1 hzg36 hzF33 (show (0 : Int32).toInt ≤ 1 from by (first | omega | (simp only [id_eq] at *; omega))) (show (c18_g27.toInt ≠ 0 → (0 : Int32).toInt = 0) from by (first | omega | (simp only [id_eq] at *; omega)))
  · have c13 := z_ne c13
    have f31 : (2 * r7).toInt = 2 * r7.toInt := z_muld (by decide +kernel) (by (first | omega | (simp only [id_eq] at *; omega))) (by (first | omega | (simp only [id_eq] at *; omega)))
    have f32 : ((2 * r7) + 1).toInt = (2 * r7).toInt + 1 := z_addc (by decide +kernel) (by (first | omega | (simp only [id_eq] at *; omega))) (by (first | omega | (simp only [id_eq] at *; omega)))
    refine wp_if ⟨by (first | omega | (simp only [id_eq] at *; omega)), by (first | omega | (simp only [id_eq] at *; omega))⟩ ?_
    have f33 := hzF21 (Int32.toNatClampNeg ((2 * r7) + 1))
    refine wp_jn (fun j76 => ∀ (t76_0 : Int32), (0 ≤ t76_0.toInt ∧ t76_0.toInt ≤ 1) → (t76_0.toInt = 0 → ((F 21) (Int32.toNatClampNeg ((2 * r7) + 1))).toInt ≠ -1) → wp (j76 t76_0) (Q_turnBy g F p0)) ?_ ?_
    · intro t76_0 f34 f35
      show wp _ _
      refine wp_jn (fun j98 => ∀ (t98_0 : Int32), (0 ≤ t98_0.toInt ∧ t98_0.toInt ≤ 24) → (t76_0.toInt = 0 → t98_0.toInt ≤ 16) → wp (j98 t98_0) (Q_turnBy g F p0)) ?_ ?_
      · intro t98_0 f36 f37
        show wp _ _
        refine wp_jn (fun k153 => ∀ (c153_F32 : (Nat → Int32)), wp (k153 c153_F32) (Q_turnBy g F p0)) ?_ ?_
        · intro c153_F32
          show wp _ _
          refine wp_if ⟨by (first | omega | (simp only [id_eq] at *; omega)), by (first | omega | (simp only [id_eq] at *; omega))⟩ ?_
          refine wp_vl (fun w160 ew160 => ?_)
          have hF38 : rng (0) 24 w160 := by rw [ew160]; exact rng_upd hzF33 (by (first | omega | (simp only [id_eq] at *; omega))) (by (first | omega | (simp only [id_eq] at *; omega)))
          clear ew160
          refine wp_jn (fun j172 => ∀ (t172_0 : Int32), (0 ≤ t172_0.toInt ∧ t172_0.toInt ≤ 1) → wp (j172 t172_0) (Q_turnBy g F p0)) ?_ ?_
          · intro t172_0 f39
            show wp _ _
            have hg40 : ((0) ≤ t172_0.toInt ∧ t172_0.toInt ≤ 30) := ⟨by (first | omega | (simp only [id_eq] at *; omega)), by (first | omega | (simp only [id_eq] at *; omega))⟩
            exact ⟨_, rfl, ⟨hzg27, hzg30, hg40, hzg36, hzF24, hzF25, hzF26, hF38⟩⟩
          intro j172 Jj172
          refine wp_ite (fun c164 => ?_) (fun c164 => ?_)
          · have c164 := congrArg Int32.toInt c164
            exact Jj172 (0 : Int32) (show (0 ≤ (0 : Int32).toInt ∧ (0 : Int32).toInt ≤ 1) from by (first | omega | (simp only [id_eq] at *; omega)))
          · have c164 := z_ne c164
            exact Jj172 (1 : Int32) (show (0 ≤ (1 : Int32).toInt ∧ (1 : Int32).toInt ≤ 1) from by (first | omega | (simp only [id_eq] at *; omega)))
        intro k153 Jk153
        have lp103 : ∀ (n103 : Nat) (y103_5 : Int32) (d103_F32 : (Nat → Int32)), (t98_0.toInt - y103_5.toInt).toNat < n103 → 0 ≤ y103_5.toInt → wp (L_turnBy_103 F r7 t76_0 t98_0 k153 n103 y103_5 d103_F32) (Q_turnBy g F p0) := by
          intro n103
          induction n103 with
          | zero => intro y103_5 d103_F32 hm; exact absurd hm (Nat.not_lt_zero _)
          | succ n103 ih103 =>
            intro y103_5 d103_F32 hm103 f41
            show wp (B_turnBy_103 F r7 t76_0 t98_0 k153 (L_turnBy_103 F r7 t76_0 t98_0 k153 n103) y103_5 d103_F32) _
            unfold B_turnBy_103
            refine wp_ite (fun c107 => ?_) (fun c107 => ?_)
            · have c107 := (z_le _ _).mp c107
              exact Jk153 d103_F32
            · have c107 := z_nle c107
              refine wp_jn (fun j146 => ∀ (t146_0 : Int32), wp (j146 t146_0) (Q_turnBy g F p0)) ?_ ?_
              · intro t146_0
                show wp _ _
                refine wp_if ⟨by (first | omega | (simp only [id_eq] at *; omega)), by (first | omega | (simp only [id_eq] at *; omega))⟩ ?_
                refine wp_vl (fun w146 ew146 => ?_)
                clear ew146
                have f42 : (y103_5 + 1).toInt = y103_5.toInt + (1) := z_addc (by decide +kernel) (by (first | omega | (simp only [id_eq] at *; omega))) (by (first | omega | (simp only [id_eq] at *; omega)))
                exact ih103 (y103_5 + 1) w146 (show (t98_0.toInt - (y103_5 + 1).toInt).toNat < n103 from by (first | omega | (simp only [id_eq] at *; omega))) (show 0 ≤ (y103_5 + 1).toInt from by (first | omega | (simp only [id_eq] at *; omega)))
              intro j146 Jj146
              refine wp_ite (fun c117 => ?_) (fun c117 => ?_)
              · have c117 := congrArg Int32.toInt c117
                have f45 : (16 * ((2 * r7) + 1)).toInt = 16 * ((2 * r7) + 1).toInt := z_muld (by decide +kernel) (by (first | omega | (simp only [id_eq] at *; omega))) (by (first | omega | (simp only [id_eq] at *; omega)))
                have f46 : ((16 * ((2 * r7) + 1)) + y103_5).toInt = (16 * ((2 * r7) + 1)).toInt + y103_5.toInt := z_add (by (first | omega | (simp only [id_eq] at *; omega))) (by (first | omega | (simp only [id_eq] at *; omega)))
                refine wp_if ⟨by (first | omega | (simp only [id_eq] at *; omega)), by (first | omega | (simp only [id_eq] at *; omega))⟩ ?_
                exact Jj146 ((F 20) (Int32.toNatClampNeg ((16 * ((2 * r7) + 1)) + y103_5)))
              · have c117 := z_ne c117
                refine wp_if ⟨by (first | omega | (simp only [id_eq] at *; omega)), by (first | omega | (simp only [id_eq] at *; omega))⟩ ?_
                exact Jj146 ((F 22) (Int32.toNatClampNeg y103_5))
        exact lp103 NN (0 : Int32) (F 32) (by have := NN_eq; (first | omega | (simp only [id_eq] at *; omega))) (show 0 ≤ (0 : Int32).toInt from by (first | omega | (simp only [id_eq] at *; omega)))
      intro j98 Jj98
      refine wp_ite (fun c78 => ?_) (fun c78 => ?_)
      · have c78 := congrArg Int32.toInt c78
        refine wp_if ⟨by (first | omega | (simp only [id_eq] at *; omega)), by (first | omega | (simp only [id_eq] at *; omega))⟩ ?_
        exact Jj98 ((F 21) (Int32.toNatClampNeg ((2 * r7) + 1))) (show (0 ≤ ((F 21) (Int32.toNatClampNeg ((2 * r7) + 1))).toInt ∧ ((F 21) (Int32.toNatClampNeg ((2 * r7) + 1))).toInt ≤ 24) from by (first | omega | (simp only [id_eq] at *; omega))) (show (t76_0.toInt = 0 → ((F 21) (Int32.toNatClampNeg ((2 * r7) + 1))).toInt ≤ 16) from by (first | omega | (simp only [id_eq] at *; omega)))
      · have c78 := z_ne c78
        exact Jj98 (g 23) (show (0 ≤ (g 23).toInt ∧ (g 23).toInt ≤ 24) from by (first | omega | (simp only [id_eq] at *; omega))) (show (t76_0.toInt = 0 → (g 23).toInt ≤ 16) from by (first | omega | (simp only [id_eq] at *; omega)))
    intro j76 Jj76
    refine wp_ite (fun c68 => ?_) (fun c68 => ?_)
    · have c68 := congrArg Int32.toInt c68
      exact Jj76 (1 : Int32) (show (0 ≤ (1 : Int32).toInt ∧ (1 : Int32).toInt ≤ 1) from by (first | omega | (simp only [id_eq] at *; omega))) (show ((1 : Int32).toInt = 0 → ((F 21) (Int32.toNatClampNeg ((2 * r7) + 1))).toInt ≠ -1) from by (first | omega | (simp only [id_eq] at *; omega)))
    · have c68 := z_ne c68
      exact Jj76 (0 : Int32) (show (0 ≤ (0 : Int32).toInt ∧ (0 : Int32).toInt ≤ 1) from by (first | omega | (simp only [id_eq] at *; omega))) (show ((0 : Int32).toInt = 0 → ((F 21) (Int32.toNatClampNeg ((2 * r7) + 1))).toInt ≠ -1) from by (first | omega | (simp only [id_eq] at *; omega)))
