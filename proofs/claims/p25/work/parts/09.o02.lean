abbrev Q_take (g : Nat → Int32) (F : Nat → Nat → Int32) (A0 : (Nat → Int32)) (n0 : Nat) (A1 : (Nat → Int32)) (n1 : Nat) (p2 : Int32) (p3 : Int32) : (Int32 × Int32 × Int32 × (Nat → Int32) × (Nat → Int32)) → Prop := (fun t => (((0) ≤ (t.2.1).toInt ∧ (t.2.1).toInt ≤ 4)) ∧ (((-1) ≤ (t.2.2.1).toInt ∧ (t.2.2.1).toInt ≤ 2001)) ∧ (rng (-1) 16 (t.2.2.2.2)) ∧ (((t.1).toInt = 1 → (g 3).toInt = 2)) ∧ ((∀ k : Nat, (k : Int) ≠ p2.toInt → (t.2.2.2.2) k = A1 k)) ∧ (((t.1).toInt = 1 → p3.toInt ≠ 0 → 1 ≤ ((t.2.2.2.2) (Int32.toNatClampNeg p2)).toInt)) ∧ ((0 ≤ (t.1).toInt ∧ (t.1).toInt ≤ 1)))
set_option maxHeartbeats 4000000 in
set_option maxRecDepth 100000 in
theorem ok_take (g : Nat → Int32) (F : Nat → Nat → Int32) (A0 : (Nat → Int32)) (n0 : Nat) (A1 : (Nat → Int32)) (n1 : Nat) (p2 : Int32) (p3 : Int32) (hI : MInv g F) (hzA1 : rng (-1) 16 A1) (hp0 : (0 ≤ p2.toInt ∧ p2.toInt < n1)) (hp1 : 16 * n1 ≤ n0) (hp2 : n0 ≤ 500000) (hp3 : ((g 3).toInt = 2 → (g 5).toInt + 2 ≤ (g 6).toInt ∧ (g 6).toInt ≤ (g 5).toInt + 18 ∧ (g 6).toInt ≤ 2000)) : wp (f_take g F A0 n0 A1 n1 p2 p3) (Q_take g F A0 n0 A1 n1 p2 p3) := by
  unfold f_take
  refine MInv_e hI (fun (hzg1 : id _) (hzg2 : id _) hzg3 (hzg4 : id _) hzg5 hzg6 hzg7 hzg8 (hzg9 : id _) (hzg23 : id _) (hzg27 : id _) (hzg30 : id _) (hzg34 : id _) (hzg36 : id _) (hzg39 : id _) (hzg44 : id _) (hzg47 : id _) (hzg48 : id _) (hzg51 : id _) (hzg56 : id _) (hzg59 : id _) (hzg62 : id _) (hzg65 : id _) (hzg66 : id _) (hzg70 : id _) hzF11 hzF12 hzF13 hzF15 hzF19 hzF21 hzF24 hzF25 hzF26 hzF33 hzF38 hzF41 hzF43 hzF45 hzF46 hzF50 hzF53 hzF54 hzLQ => ?_)
  clear hI
  have zk0 : (0 : Int32).toInt = 0 := by decide +kernel
  have zk1 : (1 : Int32).toInt = 1 := by decide +kernel
  have zk2 : (2 : Int32).toInt = 2 := by decide +kernel
  have zk16 : (16 : Int32).toInt = 16 := by decide +kernel
  refine wp_ite (fun c5 => ?_) (fun c5 => ?_)
  · have c5 := congrArg Int32.toInt c5
    have f1 : ((g 6) - (g 5)).toInt = (g 6).toInt - (g 5).toInt := z_sub (by (first | omega | (simp only [id_eq] at *; omega))) (by (first | omega | (simp only [id_eq] at *; omega)))
    have f2 : (((g 6) - (g 5)) - 2).toInt = ((g 6) - (g 5)).toInt - 2 := z_subc (by decide +kernel) (by (first | omega | (simp only [id_eq] at *; omega))) (by (first | omega | (simp only [id_eq] at *; omega)))
    refine wp_vl (fun x25 ex25 => ?_)
    have f3 : x25.toInt = (((g 6) - (g 5)) - 2).toInt := congrArg Int32.toInt ex25
    clear ex25
    refine wp_jn (fun j43 => (p3.toInt = 0 ∨ x25.toInt ≠ 0) → wp (j43 ()) (Q_take g F A0 n0 A1 n1 p2 p3)) ?_ ?_
    · intro f4
      show wp _ _
      have lp46 : ∀ (n46 : Nat) (y46_6 : Int32) (d46_A0 : (Nat → Int32)), (16 - y46_6.toInt).toNat < n46 → 0 ≤ y46_6.toInt → wp (L_take_46 g F n0 A1 n1 p2 x25 n46 y46_6 d46_A0) (Q_take g F A0 n0 A1 n1 p2 p3) := by
        intro n46
        induction n46 with
        | zero => intro y46_6 d46_A0 hm; exact absurd hm (Nat.not_lt_zero _)
        | succ n46 ih46 =>
          intro y46_6 d46_A0 hm46 f5
          show wp (B_take_46 g F n0 A1 n1 p2 x25 (L_take_46 g F n0 A1 n1 p2 x25 n46) y46_6 d46_A0) _
          unfold B_take_46
          refine wp_ite (fun c50 => ?_) (fun c50 => ?_)
          · have c50 := (z_le _ _).mp c50
            refine wp_if ⟨by (first | omega | (simp only [id_eq] at *; omega)), by (first | omega | (simp only [id_eq] at *; omega))⟩ ?_
            refine wp_vl (fun w86 ew86 => ?_)
            have hF6 : rng (-1) 16 w86 := by rw [ew86]; exact rng_upd hzA1 (by (first | omega | (simp only [id_eq] at *; omega))) (by (first | omega | (simp only [id_eq] at *; omega)))
            exact ⟨_, rfl, ⟨hzg7, hzg8, hF6, (show ((1 : Int32).toInt = 1 → (g 3).toInt = 2) from by (first | omega | (simp only [id_eq] at *; omega))), (show (∀ k : Nat, (k : Int) ≠ p2.toInt → w86 k = A1 k) from by first | exact (fun k hk => rfl) | exact upd_ne (by assumption) (by (first | omega | (simp only [id_eq] at *; omega)))), (show ((1 : Int32).toInt = 1 → p3.toInt ≠ 0 → 1 ≤ (w86 (Int32.toNatClampNeg p2)).toInt) from by first | (intro h1; (first | omega | (simp only [id_eq] at *; omega))) | (intro _ h3; rw [ew86, pk_us]; (first | omega | (simp only [id_eq] at *; omega)))), (show (0 ≤ (1 : Int32).toInt ∧ (1 : Int32).toInt ≤ 1) from by (first | omega | (simp only [id_eq] at *; omega)))⟩⟩
          · have c50 := z_nle c50
            have f7 : (16 * p2).toInt = 16 * p2.toInt := z_muld (by decide +kernel) (by (first | omega | (simp only [id_eq] at *; omega))) (by (first | omega | (simp only [id_eq] at *; omega)))
            have f8 : ((16 * p2) + y46_6).toInt = (16 * p2).toInt + y46_6.toInt := z_add (by (first | omega | (simp only [id_eq] at *; omega))) (by (first | omega | (simp only [id_eq] at *; omega)))
            have f9 : ((g 5) + 1).toInt = (g 5).toInt + 1 := z_addc (by decide +kernel) (by (first | omega | (simp only [id_eq] at *; omega))) (by (first | omega | (simp only [id_eq] at *; omega)))
            have f10 : (((g 5) + 1) + y46_6).toInt = ((g 5) + 1).toInt + y46_6.toInt := z_add (by (first | omega | (simp only [id_eq] at *; omega))) (by (first | omega | (simp only [id_eq] at *; omega)))
            refine wp_if ⟨by (first | omega | (simp only [id_eq] at *; omega)), by (first | omega | (simp only [id_eq] at *; omega))⟩ ?_
            refine wp_if ⟨by (first | omega | (simp only [id_eq] at *; omega)), by (first | omega | (simp only [id_eq] at *; omega))⟩ ?_
            refine wp_vl (fun w75 ew75 => ?_)
            clear ew75
            have f11 : (y46_6 + 1).toInt = y46_6.toInt + (1) := z_addc (by decide +kernel) (by (first | omega | (simp only [id_eq] at *; omega))) (by (first | omega | (simp only [id_eq] at *; omega)))
            exact ih46 (y46_6 + 1) w75 (show (16 - (y46_6 + 1).toInt).toNat < n46 from by (first | omega | (simp only [id_eq] at *; omega))) (show 0 ≤ (y46_6 + 1).toInt from by (first | omega | (simp only [id_eq] at *; omega)))
      exact lp46 NN (0 : Int32) A0 (by have := NN_eq; (first | omega | (simp only [id_eq] at *; omega))) (show 0 ≤ (0 : Int32).toInt from by (first | omega | (simp only [id_eq] at *; omega)))
    intro j43 Jj43
    refine wp_ite (fun c29 => ?_) (fun c29 => ?_)
    · have c29 := congrArg Int32.toInt c29
      exact Jj43 (show (p3.toInt = 0 ∨ x25.toInt ≠ 0) from by (first | omega | (simp only [id_eq] at *; omega)))
    · have c29 := z_ne c29
      refine wp_ite (fun c34 => ?_) (fun c34 => ?_)
      · have c34 := congrArg Int32.toInt c34
        obtain ⟨⟨r39, c39_g7, c39_g8⟩, hc39, hq39⟩ := ok_wrong g F 2 (MInv_i hzg1 hzg2 hzg3 hzg4 hzg5 hzg6 hzg7 hzg8 hzg9 hzg23 hzg27 hzg30 hzg34 hzg36 hzg39 hzg44 hzg47 hzg48 hzg51 hzg56 hzg59 hzg62 hzg65 hzg66 hzg70 hzF11 hzF12 hzF13 hzF15 hzF19 hzF21 hzF24 hzF25 hzF26 hzF33 hzF38 hzF41 hzF43 hzF45 hzF46 hzF50 hzF53 hzF54 hzLQ) (show 0 ≤ (2 : Int32).toInt ∧ (2 : Int32).toInt ≤ 4 from by (first | omega | (simp only [id_eq] at *; omega)))
        obtain ⟨hg12, hg13, f14, f15⟩ : (((0) ≤ c39_g7.toInt ∧ c39_g7.toInt ≤ 4)) ∧ (((-1) ≤ c39_g8.toInt ∧ c39_g8.toInt ≤ 2001)) ∧ (r39.toInt = 0) ∧ ((0 ≤ r39.toInt ∧ r39.toInt ≤ 1)) := hq39
        refine wp_b3 hc39 ?_
        clear hc39
        refine wp_if ⟨by (first | omega | (simp only [id_eq] at *; omega)), by (first | omega | (simp only [id_eq] at *; omega))⟩ ?_
        exact ⟨_, rfl, ⟨hg12, hg13, hzA1, (show (r39.toInt = 1 → (g 3).toInt = 2) from by (first | omega | (simp only [id_eq] at *; omega))), (show (∀ k : Nat, (k : Int) ≠ p2.toInt → A1 k = A1 k) from by first | exact (fun k hk => rfl) | exact upd_ne (by assumption) (by (first | omega | (simp only [id_eq] at *; omega)))), (show (r39.toInt = 1 → p3.toInt ≠ 0 → 1 ≤ (A1 (Int32.toNatClampNeg p2)).toInt) from by first | (intro h1; (first | omega | (simp only [id_eq] at *; omega))) | (intro _ h3; rw [ew86, pk_us]; (first | omega | (simp only [id_eq] at *; omega)))), (show (0 ≤ r39.toInt ∧ r39.toInt ≤ 1) from by (first | omega | (simp only [id_eq] at *; omega)))⟩⟩
      · have c34 := z_ne c34
        exact Jj43 (show (p3.toInt = 0 ∨ x25.toInt ≠ 0) from by (first | omega | (simp only [id_eq] at *; omega)))
  · have c5 := z_ne c5
    obtain ⟨⟨r10, c10_g7, c10_g8⟩, hc10, hq10⟩ := ok_wrong g F 1 (MInv_i hzg1 hzg2 hzg3 hzg4 hzg5 hzg6 hzg7 hzg8 hzg9 hzg23 hzg27 hzg30 hzg34 hzg36 hzg39 hzg44 hzg47 hzg48 hzg51 hzg56 hzg59 hzg62 hzg65 hzg66 hzg70 hzF11 hzF12 hzF13 hzF15 hzF19 hzF21 hzF24 hzF25 hzF26 hzF33 hzF38 hzF41 hzF43 hzF45 hzF46 hzF50 hzF53 hzF54 hzLQ) (show 0 ≤ (1 : Int32).toInt ∧ (1 : Int32).toInt ≤ 4 from by (first | omega | (simp only [id_eq] at *; omega)))
    obtain ⟨hg16, hg17, f18, f19⟩ : (((0) ≤ c10_g7.toInt ∧ c10_g7.toInt ≤ 4)) ∧ (((-1) ≤ c10_g8.toInt ∧ c10_g8.toInt ≤ 2001)) ∧ (r10.toInt = 0) ∧ ((0 ≤ r10.toInt ∧ r10.toInt ≤ 1)) := hq10
    refine wp_b3 hc10 ?_
    clear hc10
    refine wp_if ⟨by (first | omega | (simp only [id_eq] at *; omega)), by (first | omega | (simp only [id_eq] at *; omega))⟩ ?_
    exact ⟨_, rfl, ⟨hg16, hg17, hzA1, (show (r10.toInt = 1 → (g 3).toInt = 2) from by (first | omega | (simp only [id_eq] at *; omega))), (show (∀ k : Nat, (k : Int) ≠ p2.toInt → A1 k = A1 k) from by first | exact (fun k hk => rfl) | exact upd_ne (by assumption) (by (first | omega | (simp only [id_eq] at *; omega)))), (show (r10.toInt = 1 → p3.toInt ≠ 0 → 1 ≤ (A1 (Int32.toNatClampNeg p2)).toInt) from by first | (intro h1; (first | omega | (simp only [id_eq] at *; omega))) | (intro _ h3; rw [ew86, pk_us]; (first | omega | (simp only [id_eq] at *; omega)))), (show (0 ≤ r10.toInt ∧ r10.toInt ≤ 1) from by (first | omega | (simp only [id_eq] at *; omega)))⟩⟩
abbrev Q_same (A0 : (Nat → Int32)) (n0 : Nat) (A1 : (Nat → Int32)) (n1 : Nat) (p2 : Int32) (p3 : Int32) : (Int32) → Prop := (fun t => ((0 ≤ t.toInt ∧ t.toInt ≤ 1)))
set_option maxHeartbeats 4000000 in
set_option maxRecDepth 100000 in
theorem ok_same (A0 : (Nat → Int32)) (n0 : Nat) (A1 : (Nat → Int32)) (n1 : Nat) (p2 : Int32) (p3 : Int32) (hzA1 : rng (-1) 16 A1) (hp0 : (0 ≤ p2.toInt ∧ p2.toInt < n1)) (hp1 : 16 * n1 ≤ n0) (hp2 : n0 ≤ 500000) (hp3 : (0 ≤ p3.toInt ∧ p3.toInt < n1)) : wp (f_same A0 n0 A1 n1 p2 p3) (Q_same A0 n0 A1 n1 p2 p3) := by
  unfold f_same
  have zk0 : (0 : Int32).toInt = 0 := by decide +kernel
  have zk1 : (1 : Int32).toInt = 1 := by decide +kernel
  have zk16 : (16 : Int32).toInt = 16 := by decide +kernel
  refine wp_if ⟨by (first | omega | (simp only [id_eq] at *; omega)), by (first | omega | (simp only [id_eq] at *; omega))⟩ ?_
  have f1 := hzA1 (Int32.toNatClampNeg p2)
  refine wp_if ⟨by (first | omega | (simp only [id_eq] at *; omega)), by (first | omega | (simp only [id_eq] at *; omega))⟩ ?_
  have f2 := hzA1 (Int32.toNatClampNeg p3)
  refine wp_ite (fun c6 => ?_) (fun c6 => ?_)
  · have c6 := congrArg Int32.toInt c6
    have lp14 : ∀ (n14 : Nat) (y14_4 : Int32), (16 - y14_4.toInt).toNat < n14 → 0 ≤ y14_4.toInt → wp (L_same_14 A0 n0 A1 n1 p2 p3 n14 y14_4) (Q_same A0 n0 A1 n1 p2 p3) := by
      intro n14
      induction n14 with
      | zero => intro y14_4 hm; exact absurd hm (Nat.not_lt_zero _)
      | succ n14 ih14 =>
        intro y14_4 hm14 f3
        show wp (B_same_14 A0 n0 A1 n1 p2 p3 (L_same_14 A0 n0 A1 n1 p2 p3 n14) y14_4) _
        unfold B_same_14
        refine wp_if ⟨by (first | omega | (simp only [id_eq] at *; omega)), by (first | omega | (simp only [id_eq] at *; omega))⟩ ?_
        refine wp_ite (fun c19 => ?_) (fun c19 => ?_)
        · have c19 := (z_le _ _).mp c19
          exact ⟨_, rfl, (show (0 ≤ (1 : Int32).toInt ∧ (1 : Int32).toInt ≤ 1) from by (first | omega | (simp only [id_eq] at *; omega)))⟩
        · have c19 := z_nle c19
          have f5 : (16 * p2).toInt = 16 * p2.toInt := z_muld (by decide +kernel) (by (first | omega | (simp only [id_eq] at *; omega))) (by (first | omega | (simp only [id_eq] at *; omega)))
          have f6 : ((16 * p2) + y14_4).toInt = (16 * p2).toInt + y14_4.toInt := z_add (by (first | omega | (simp only [id_eq] at *; omega))) (by (first | omega | (simp only [id_eq] at *; omega)))
          refine wp_if ⟨by (first | omega | (simp only [id_eq] at *; omega)), by (first | omega | (simp only [id_eq] at *; omega))⟩ ?_
          have f7 : (16 * p3).toInt = 16 * p3.toInt := z_muld (by decide +kernel) (by (first | omega | (simp only [id_eq] at *; omega))) (by (first | omega | (simp only [id_eq] at *; omega)))
          have f8 : ((16 * p3) + y14_4).toInt = (16 * p3).toInt + y14_4.toInt := z_add (by (first | omega | (simp only [id_eq] at *; omega))) (by (first | omega | (simp only [id_eq] at *; omega)))
          refine wp_if ⟨by (first | omega | (simp only [id_eq] at *; omega)), by (first | omega | (simp only [id_eq] at *; omega))⟩ ?_
          refine wp_ite (fun c40 => ?_) (fun c40 => ?_)
          · have c40 := congrArg Int32.toInt c40
            have f9 : (y14_4 + 1).toInt = y14_4.toInt + (1) := z_addc (by decide +kernel) (by (first | omega | (simp only [id_eq] at *; omega))) (by (first | omega | (simp only [id_eq] at *; omega)))
            exact ih14 (y14_4 + 1) (show (16 - (y14_4 + 1).toInt).toNat < n14 from by (first | omega | (simp only [id_eq] at *; omega))) (show 0 ≤ (y14_4 + 1).toInt from by (first | omega | (simp only [id_eq] at *; omega)))
          · have c40 := z_ne c40
            exact ⟨_, rfl, (show (0 ≤ (0 : Int32).toInt ∧ (0 : Int32).toInt ≤ 1) from by (first | omega | (simp only [id_eq] at *; omega)))⟩
    exact lp14 NN (0 : Int32) (by have := NN_eq; (first | omega | (simp only [id_eq] at *; omega))) (show 0 ≤ (0 : Int32).toInt from by (first | omega | (simp only [id_eq] at *; omega)))
  · have c6 := z_ne c6
    exact ⟨_, rfl, (show (0 ≤ (0 : Int32).toInt ∧ (0 : Int32).toInt ≤ 1) from by (first | omega | (simp only [id_eq] at *; omega)))⟩
abbrev Q_copy (A0 : (Nat → Int32)) (n0 : Nat) (A1 : (Nat → Int32)) (n1 : Nat) (p2 : Int32) (p3 : Int32) : ((Nat → Int32) × (Nat → Int32)) → Prop := (fun t => (rng (-1) 16 (t.2)) ∧ ((t.2) = upd A1 (Int32.toNatClampNeg p3) (A1 (Int32.toNatClampNeg p2))))
set_option maxHeartbeats 4000000 in
set_option maxRecDepth 100000 in
theorem ok_copy (A0 : (Nat → Int32)) (n0 : Nat) (A1 : (Nat → Int32)) (n1 : Nat) (p2 : Int32) (p3 : Int32) (hzA1 : rng (-1) 16 A1) (hp0 : (0 ≤ p2.toInt ∧ p2.toInt < n1)) (hp1 : 16 * n1 ≤ n0) (hp2 : n0 ≤ 500000) (hp3 : (0 ≤ p3.toInt ∧ p3.toInt < n1)) : wp (f_copy A0 n0 A1 n1 p2 p3) (Q_copy A0 n0 A1 n1 p2 p3) := by
  unfold f_copy
  have zk0 : (0 : Int32).toInt = 0 := by decide +kernel
  have zk16 : (16 : Int32).toInt = 16 := by decide +kernel
  refine wp_if ⟨by (first | omega | (simp only [id_eq] at *; omega)), by (first | omega | (simp only [id_eq] at *; omega))⟩ ?_
  have f1 := hzA1 (Int32.toNatClampNeg p2)
  refine wp_if ⟨by (first | omega | (simp only [id_eq] at *; omega)), by (first | omega | (simp only [id_eq] at *; omega))⟩ ?_
  refine wp_vl (fun w5 ew5 => ?_)
  have hF2 : rng (-1) 16 w5 := by rw [ew5]; exact rng_upd hzA1 (by (first | omega | (simp only [id_eq] at *; omega))) (by (first | omega | (simp only [id_eq] at *; omega)))
  have lp9 : ∀ (n9 : Nat) (y9_4 : Int32) (d9_A0 : (Nat → Int32)), (16 - y9_4.toInt).toNat < n9 → 0 ≤ y9_4.toInt → wp (L_copy_9 n0 n1 p2 p3 w5 n9 y9_4 d9_A0) (Q_copy A0 n0 A1 n1 p2 p3) := by
    intro n9
    induction n9 with
    | zero => intro y9_4 d9_A0 hm; exact absurd hm (Nat.not_lt_zero _)
    | succ n9 ih9 =>
      intro y9_4 d9_A0 hm9 f3
      show wp (B_copy_9 n0 n1 p2 p3 w5 (L_copy_9 n0 n1 p2 p3 w5 n9) y9_4 d9_A0) _
      unfold B_copy_9
      refine wp_if ⟨by (first | omega | (simp only [id_eq] at *; omega)), by (first | omega | (simp only [id_eq] at *; omega))⟩ ?_
      have f4 := hF2 (Int32.toNatClampNeg p2)
      refine wp_ite (fun c14 => ?_) (fun c14 => ?_)
      · have c14 := (z_le _ _).mp c14
        exact ⟨_, rfl, ⟨hF2, (show w5 = upd A1 (Int32.toNatClampNeg p3) (A1 (Int32.toNatClampNeg p2)) from by exact ew5)⟩⟩
      · have c14 := z_nle c14
        have f5 : (16 * p3).toInt = 16 * p3.toInt := z_muld (by decide +kernel) (by (first | omega | (simp only [id_eq] at *; omega))) (by (first | omega | (simp only [id_eq] at *; omega)))
        have f6 : ((16 * p3) + y9_4).toInt = (16 * p3).toInt + y9_4.toInt := z_add (by (first | omega | (simp only [id_eq] at *; omega))) (by (first | omega | (simp only [id_eq] at *; omega)))
        have f7 : (16 * p2).toInt = 16 * p2.toInt := z_muld (by decide +kernel) (by (first | omega | (simp only [id_eq] at *; omega))) (by (first | omega | (simp only [id_eq] at *; omega)))
        have f8 : ((16 * p2) + y9_4).toInt = (16 * p2).toInt + y9_4.toInt := z_add (by (first | omega | (simp only [id_eq] at *; omega))) (by (first | omega | (simp only [id_eq] at *; omega)))
        refine wp_if ⟨by (first | omega | (simp only [id_eq] at *; omega)), by (first | omega | (simp only [id_eq] at *; omega))⟩ ?_
        refine wp_if ⟨by (first | omega | (simp only [id_eq] at *; omega)), by (first | omega | (simp only [id_eq] at *; omega))⟩ ?_
        refine wp_vl (fun w34 ew34 => ?_)
        clear ew34
        have f9 : (y9_4 + 1).toInt = y9_4.toInt + (1) := z_addc (by decide +kernel) (by (first | omega | (simp only [id_eq] at *; omega))) (by (first | omega | (simp only [id_eq] at *; omega)))
        exact ih9 (y9_4 + 1) w34 (show (16 - (y9_4 + 1).toInt).toNat < n9 from by (first | omega | (simp only [id_eq] at *; omega))) (show 0 ≤ (y9_4 + 1).toInt from by (first | omega | (simp only [id_eq] at *; omega)))
  exact lp9 NN (0 : Int32) A0 (by have := NN_eq; (first | omega | (simp only [id_eq] at *; omega))) (show 0 ≤ (0 : Int32).toInt from by (first | omega | (simp only [id_eq] at *; omega)))
abbrev Q_keyAt (g : Nat → Int32) (F : Nat → Nat → Int32) (p0 : Int32) (p1 : Int32) : (Int32) → Prop := (fun t => (((-1) ≤ t.toInt ∧ t.toInt ≤ 8)))
set_option maxHeartbeats 4000000 in
set_option maxRecDepth 100000 in
theorem ok_keyAt (g : Nat → Int32) (F : Nat → Nat → Int32) (p0 : Int32) (p1 : Int32) (hI : MInv g F) (hp0 : (0 ≤ p0.toInt ∧ p0.toInt ≤ 2001)) (hp1 : (0 ≤ p1.toInt ∧ p1.toInt ≤ 2001)) : wp (f_keyAt g F p0 p1) (Q_keyAt g F p0 p1) := by
  unfold f_keyAt
  refine MInv_e hI (fun (hzg1 : id _) hzg2 (hzg3 : id _) (hzg4 : id _) (hzg5 : id _) (hzg6 : id _) (hzg7 : id _) (hzg8 : id _) (hzg9 : id _) (hzg23 : id _) (hzg27 : id _) (hzg30 : id _) (hzg34 : id _) (hzg36 : id _) (hzg39 : id _) (hzg44 : id _) (hzg47 : id _) (hzg48 : id _) (hzg51 : id _) (hzg56 : id _) (hzg59 : id _) (hzg62 : id _) (hzg65 : id _) (hzg66 : id _) (hzg70 : id _) hzF11 hzF12 hzF13 hzF15 hzF19 hzF21 hzF24 hzF25 hzF26 hzF33 hzF38 hzF41 hzF43 hzF45 hzF46 hzF50 hzF53 hzF54 hzLQ => ?_)
  clear hI
  have zkm1 : (-1 : Int32).toInt = -1 := by decide +kernel
  have zk0 : (0 : Int32).toInt = 0 := by decide +kernel
  have zk1 : (1 : Int32).toInt = 1 := by decide +kernel
  have zk32 : (32 : Int32).toInt = 32 := by decide +kernel
  have lp8 : ∀ (n8 : Nat) (y8_3 : Int32) (y8_4 : Int32) (y8_5 : Int32), (45 - y8_5.toInt).toNat < n8 → (0 ≤ y8_4.toInt ∧ y8_4.toInt ≤ y8_5.toInt ∧ y8_5.toInt ≤ 45) → y8_3.toInt = wcn (Int32.toNatClampNeg y8_5) → wp (L_keyAt_8 g F p0 p1 n8 y8_3 y8_4 y8_5) (Q_keyAt g F p0 p1) := by
    intro n8
    induction n8 with
    | zero => intro y8_3 y8_4 y8_5 hm; exact absurd hm (Nat.not_lt_zero _)
    | succ n8 ih8 =>
      intro y8_3 y8_4 y8_5 hm8 f1 f2
      show wp (B_keyAt_8 g F p0 p1 (L_keyAt_8 g F p0 p1 n8) y8_3 y8_4 y8_5) _
      unfold B_keyAt_8
      have hkw : (kwl 9).toInt = 45 := by decide +kernel
      refine wp_ite (fun c15 => ?_) (fun c15 => ?_)
      · have c15 := (z_le _ _).mp c15
        exact ⟨_, rfl, (show ((-1) ≤ (-1 : Int32).toInt ∧ (-1 : Int32).toInt ≤ 8) from by (first | omega | (simp only [id_eq] at *; omega)))⟩
      · have c15 := z_nle c15
        refine wp_if (show inb y8_5 45 from ⟨by (first | omega | (simp only [id_eq] at *; omega)), by (first | omega | (simp only [id_eq] at *; omega))⟩) ?_
        have hwc := wc_all (Int32.toNatClampNeg y8_5) (by have := clampI (x := y8_5) (by (first | omega | (simp only [id_eq] at *; omega))); (first | omega | (simp only [id_eq] at *; omega)))
        have hn1 := nat_succ (x := y8_5) (by (first | omega | (simp only [id_eq] at *; omega))) (by (first | omega | (simp only [id_eq] at *; omega)))
        have hwp := wcn_nn (Int32.toNatClampNeg y8_5)
        refine wp_jn (fun j113 => ∀ (x113_3 : Int32) (x113_4 : Int32), (0 ≤ x113_4.toInt ∧ x113_4.toInt ≤ y8_5.toInt + 1) → x113_3.toInt = wcn (Int32.toNatClampNeg y8_5 + 1) → wp (j113 x113_3 x113_4) (Q_keyAt g F p0 p1)) ?_ ?_
        · intro x113_3 x113_4 f3 f4
          show wp _ _
          have f5 : (y8_5 + 1).toInt = y8_5.toInt + (1) := z_addc (by decide +kernel) (by (first | omega | (simp only [id_eq] at *; omega))) (by (first | omega | (simp only [id_eq] at *; omega)))
          exact ih8 x113_3 x113_4 (y8_5 + 1) (show (45 - (y8_5 + 1).toInt).toNat < n8 from by (first | omega | (simp only [id_eq] at *; omega))) (show (0 ≤ x113_4.toInt ∧ x113_4.toInt ≤ (y8_5 + 1).toInt ∧ (y8_5 + 1).toInt ≤ 45) from by first | (first | omega | (simp only [id_eq] at *; omega)) | (rw [hn1]; (first | omega | (simp only [id_eq] at *; omega)))) (show x113_3.toInt = wcn (Int32.toNatClampNeg (y8_5 + 1)) from by first | (first | omega | (simp only [id_eq] at *; omega)) | (rw [hn1]; (first | omega | (simp only [id_eq] at *; omega))))
        intro j113 Jj113
        refine wp_ite (fun c27 => ?_) (fun c27 => ?_)
        · have c27 := congrArg Int32.toInt c27
          have f6 : (y8_5 - y8_4).toInt = y8_5.toInt - y8_4.toInt := z_sub (by (first | omega | (simp only [id_eq] at *; omega))) (by (first | omega | (simp only [id_eq] at *; omega)))
          refine wp_jn (fun j47 => ∀ (t47_0 : Int32), (0 ≤ t47_0.toInt ∧ t47_0.toInt ≤ 1) → (t47_0.toInt ≠ 0 → y8_5.toInt - y8_4.toInt = p1.toInt) → wp (j47 t47_0) (Q_keyAt g F p0 p1)) ?_ ?_
          · intro t47_0 f7 f8
            show wp _ _
            refine wp_jn (fun k97 => ∀ (x97_6 : Int32), wp (k97 x97_6) (Q_keyAt g F p0 p1)) ?_ ?_
            · intro x97_6
              show wp _ _
              refine wp_ite (fun c99 => ?_) (fun c99 => ?_)
              · have c99 := congrArg Int32.toInt c99
                have f9 : (y8_3 + 1).toInt = y8_3.toInt + (1) := z_addc (by decide +kernel) (by (first | omega | (simp only [id_eq] at *; omega))) (by (first | omega | (simp only [id_eq] at *; omega)))
                have f10 : (y8_5 + 1).toInt = y8_5.toInt + 1 := z_addc (by decide +kernel) (by (first | omega | (simp only [id_eq] at *; omega))) (by (first | omega | (simp only [id_eq] at *; omega)))
                refine wp_vl (fun x111 ex111 => ?_)
                have f11 : x111.toInt = (y8_5 + 1).toInt := congrArg Int32.toInt ex111
                clear ex111
                exact Jj113 (y8_3 + 1) x111 (show (0 ≤ x111.toInt ∧ x111.toInt ≤ y8_5.toInt + 1) from by (first | omega | (simp only [id_eq] at *; omega))) (show (y8_3 + 1).toInt = wcn (Int32.toNatClampNeg y8_5 + 1) from by (first | omega | (simp only [id_eq] at *; omega)))
              · have c99 := z_ne c99
                exact ⟨_, rfl, (show ((-1) ≤ y8_3.toInt ∧ y8_3.toInt ≤ 8) from by (first | omega | (simp only [id_eq] at *; omega)))⟩
            intro k97 Jk97
            have lp52 : ∀ (n52 : Nat) (y52_6 : Int32) (y52_7 : Int32), (2001 - y52_7.toInt).toNat < n52 → 0 ≤ y52_7.toInt → (y52_6.toInt ≠ 0 → y8_5.toInt - y8_4.toInt = p1.toInt) → wp (L_keyAt_52 g F p0 p1 y8_4 k97 n52 y52_6 y52_7) (Q_keyAt g F p0 p1) := by
              intro n52
              induction n52 with
              | zero => intro y52_6 y52_7 hm; exact absurd hm (Nat.not_lt_zero _)
              | succ n52 ih52 =>
                intro y52_6 y52_7 hm52 f12 f13
                show wp (B_keyAt_52 g F p0 p1 y8_4 k97 (L_keyAt_52 g F p0 p1 y8_4 k97 n52) y52_6 y52_7) _
                unfold B_keyAt_52
                refine wp_ite (fun c55 => ?_) (fun c55 => ?_)
                · have c55 := (z_le _ _).mp c55
                  exact Jk97 y52_6
                · have c55 := z_nle c55
                  refine wp_ite (fun c60 => ?_) (fun c60 => ?_)
                  · have c60 := congrArg Int32.toInt c60
                    exact Jk97 y52_6
                  · have c60 := z_ne c60
                    have f14 : (y8_4 + y52_7).toInt = y8_4.toInt + y52_7.toInt := z_add (by (first | omega | (simp only [id_eq] at *; omega))) (by (first | omega | (simp only [id_eq] at *; omega)))
                    refine wp_if (show inb (y8_4 + y52_7) 45 from ⟨by (first | omega | (simp only [id_eq] at *; omega)), by (first | omega | (simp only [id_eq] at *; omega))⟩) ?_
                    have f15 : (p0 + y52_7).toInt = p0.toInt + y52_7.toInt := z_add (by (first | omega | (simp only [id_eq] at *; omega))) (by (first | omega | (simp only [id_eq] at *; omega)))
                    obtain ⟨r78, hc78, hq78⟩ := ok_see g F (p0 + y52_7) (MInv_i hzg1 hzg2 hzg3 hzg4 hzg5 hzg6 hzg7 hzg8 hzg9 hzg23 hzg27 hzg30 hzg34 hzg36 hzg39 hzg44 hzg47 hzg48 hzg51 hzg56 hzg59 hzg62 hzg65 hzg66 hzg70 hzF11 hzF12 hzF13 hzF15 hzF19 hzF21 hzF24 hzF25 hzF26 hzF33 hzF38 hzF41 hzF43 hzF45 hzF46 hzF50 hzF53 hzF54 hzLQ) (show 0 ≤ (p0 + y52_7).toInt from by (first | omega | (simp only [id_eq] at *; omega)))
                    obtain ⟨f16, f17, f18⟩ : (((-1) ≤ r78.toInt ∧ r78.toInt ≤ 255)) ∧ (id ((g 2).toInt ≤ (p0 + y52_7).toInt → r78.toInt = -1)) ∧ (id ((p0 + y52_7).toInt < (g 2).toInt → 0 ≤ r78.toInt)) := hq78
                    refine wp_b1 hc78 ?_
                    clear hc78
                    refine wp_jn (fun j89 => ∀ (t89_0 : Int32), wp (j89 t89_0) (Q_keyAt g F p0 p1)) ?_ ?_
                    · intro t89_0
                      show wp _ _
                      have f19 : (y52_7 + 1).toInt = y52_7.toInt + (1) := z_addc (by decide +kernel) (by (first | omega | (simp only [id_eq] at *; omega))) (by (first | omega | (simp only [id_eq] at *; omega)))
                      exact ih52 t89_0 (y52_7 + 1) (show (2001 - (y52_7 + 1).toInt).toNat < n52 from by (first | omega | (simp only [id_eq] at *; omega))) (show 0 ≤ (y52_7 + 1).toInt from by (first | omega | (simp only [id_eq] at *; omega))) (show (t89_0.toInt ≠ 0 → y8_5.toInt - y8_4.toInt = p1.toInt) from by (first | omega | (simp only [id_eq] at *; omega)))
                    intro j89 Jj89
                    refine wp_ite (fun c81 => ?_) (fun c81 => ?_)
                    · have c81 := congrArg Int32.toInt c81
                      exact Jj89 (1 : Int32)
                    · have c81 := z_ne c81
                      exact Jj89 (0 : Int32)
            exact lp52 NN t47_0 (0 : Int32) (by have := NN_eq; (first | omega | (simp only [id_eq] at *; omega))) (show 0 ≤ (0 : Int32).toInt from by (first | omega | (simp only [id_eq] at *; omega))) (show (t47_0.toInt ≠ 0 → y8_5.toInt - y8_4.toInt = p1.toInt) from by (first | omega | (simp only [id_eq] at *; omega)))
          intro j47 Jj47
          refine wp_ite (fun c39 => ?_) (fun c39 => ?_)
          · have c39 := congrArg Int32.toInt c39
            exact Jj47 (1 : Int32) (show (0 ≤ (1 : Int32).toInt ∧ (1 : Int32).toInt ≤ 1) from by (first | omega | (simp only [id_eq] at *; omega))) (show ((1 : Int32).toInt ≠ 0 → y8_5.toInt - y8_4.toInt = p1.toInt) from by (first | omega | (simp only [id_eq] at *; omega)))
          · have c39 := z_ne c39
            exact Jj47 (0 : Int32) (show (0 ≤ (0 : Int32).toInt ∧ (0 : Int32).toInt ≤ 1) from by (first | omega | (simp only [id_eq] at *; omega))) (show ((0 : Int32).toInt ≠ 0 → y8_5.toInt - y8_4.toInt = p1.toInt) from by (first | omega | (simp only [id_eq] at *; omega)))
        · have c27 := z_ne c27
          exact Jj113 y8_3 y8_4 (show (0 ≤ y8_4.toInt ∧ y8_4.toInt ≤ y8_5.toInt + 1) from by (first | omega | (simp only [id_eq] at *; omega))) (show y8_3.toInt = wcn (Int32.toNatClampNeg y8_5 + 1) from by (first | omega | (simp only [id_eq] at *; omega)))
  exact lp8 NN (0 : Int32) (0 : Int32) (0 : Int32) (by have := NN_eq; (first | omega | (simp only [id_eq] at *; omega))) (show (0 ≤ (0 : Int32).toInt ∧ (0 : Int32).toInt ≤ (0 : Int32).toInt ∧ (0 : Int32).toInt ≤ 45) from by first | (first | omega | (simp only [id_eq] at *; omega)) | decide +kernel) (show (0 : Int32).toInt = wcn (Int32.toNatClampNeg (0 : Int32)) from by first | (first | omega | (simp only [id_eq] at *; omega)) | decide +kernel)
abbrev Q_scan (g : Nat → Int32) (F : Nat → Nat → Int32) : (Int32 × Int32 × Int32 × Int32) → Prop := (fun t => (((0) ≤ (t.1).toInt ∧ (t.1).toInt ≤ 4)) ∧ (((-1) ≤ (t.2.1).toInt ∧ (t.2.1).toInt ≤ 8)) ∧ (((0) ≤ (t.2.2.1).toInt ∧ (t.2.2.1).toInt ≤ 2001)) ∧ (((0) ≤ (t.2.2.2).toInt ∧ (t.2.2.2).toInt ≤ 2001)) ∧ (((t.1).toInt = 2 → (t.2.2.1).toInt + 2 ≤ (t.2.2.2).toInt ∧ (t.2.2.2).toInt ≤ (t.2.2.1).toInt + 18 ∧ (t.2.2.2).toInt ≤ 2000)) ∧ (((t.1).toInt ≠ 4 → (g 6).toInt < (t.2.2.2).toInt)) ∧ ((g 6).toInt ≤ (t.2.2.2).toInt))
set_option maxHeartbeats 4000000 in
set_option maxRecDepth 100000 in
theorem ok_scan (g : Nat → Int32) (F : Nat → Nat → Int32) (hI : MInv g F) : wp (f_scan g F) (Q_scan g F) := by
  unfold f_scan
  refine MInv_e hI (fun (hzg1 : id _) hzg2 (hzg3 : id _) hzg4 (hzg5 : id _) hzg6 (hzg7 : id _) (hzg8 : id _) (hzg9 : id _) (hzg23 : id _) (hzg27 : id _) (hzg30 : id _) (hzg34 : id _) (hzg36 : id _) (hzg39 : id _) (hzg44 : id _) (hzg47 : id _) (hzg48 : id _) (hzg51 : id _) (hzg56 : id _) (hzg59 : id _) (hzg62 : id _) (hzg65 : id _) (hzg66 : id _) (hzg70 : id _) hzF11 hzF12 hzF13 hzF15 hzF19 hzF21 hzF24 hzF25 hzF26 hzF33 hzF38 hzF41 hzF43 hzF45 hzF46 hzF50 hzF53 hzF54 hzLQ => ?_)
  clear hI
  have zkm1 : (-1 : Int32).toInt = -1 := by decide +kernel
  have zk0 : (0 : Int32).toInt = 0 := by decide +kernel
  have zk1 : (1 : Int32).toInt = 1 := by decide +kernel
  have zk2 : (2 : Int32).toInt = 2 := by decide +kernel
  have zk3 : (3 : Int32).toInt = 3 := by decide +kernel
  have zk4 : (4 : Int32).toInt = 4 := by decide +kernel
  have zk10 : (10 : Int32).toInt = 10 := by decide +kernel
  have zk16 : (16 : Int32).toInt = 16 := by decide +kernel
  have zk32 : (32 : Int32).toInt = 32 := by decide +kernel
  have zk39 : (39 : Int32).toInt = 39 := by decide +kernel
  have zk59 : (59 : Int32).toInt = 59 := by decide +kernel
  refine wp_jn (fun k31 => ∀ (x31_1 : Int32), ((g 6).toInt ≤ x31_1.toInt ∧ x31_1.toInt ≤ 2001) → wp (k31 x31_1) (Q_scan g F)) ?_ ?_
  · intro x31_1 f1
    show wp _ _
    have hg2 : ((0) ≤ x31_1.toInt ∧ x31_1.toInt ≤ 2001) := ⟨by (first | omega | (simp only [id_eq] at *; omega)), by (first | omega | (simp only [id_eq] at *; omega))⟩
    obtain ⟨r38, hc38, hq38⟩ := ok_see (upd g 5 x31_1) F x31_1 (MInv_i hzg1 hzg2 hzg3 hzg4 hg2 hzg6 hzg7 hzg8 hzg9 hzg23 hzg27 hzg30 hzg34 hzg36 hzg39 hzg44 hzg47 hzg48 hzg51 hzg56 hzg59 hzg62 hzg65 hzg66 hzg70 hzF11 hzF12 hzF13 hzF15 hzF19 hzF21 hzF24 hzF25 hzF26 hzF33 hzF38 hzF41 hzF43 hzF45 hzF46 hzF50 hzF53 hzF54 hzLQ) (show 0 ≤ x31_1.toInt from by (first | omega | (simp only [id_eq] at *; omega)))
    obtain ⟨f3, f4, f5⟩ : (((-1) ≤ r38.toInt ∧ r38.toInt ≤ 255)) ∧ (id ((g 2).toInt ≤ x31_1.toInt → r38.toInt = -1)) ∧ (id (x31_1.toInt < (g 2).toInt → 0 ≤ r38.toInt)) := hq38
    refine wp_b1 hc38 ?_
    clear hc38
    have f6 : (x31_1 + 1).toInt = x31_1.toInt + 1 := z_addc (by decide +kernel) (by (first | omega | (simp only [id_eq] at *; omega))) (by (first | omega | (simp only [id_eq] at *; omega)))
    refine wp_vl (fun x45 ex45 => ?_)
    have f7 : x45.toInt = (x31_1 + 1).toInt := congrArg Int32.toInt ex45
    clear ex45
    refine wp_jn (fun j190 => ∀ (x190_3 : Int32) (c190_g3 : Int32) (c190_g4 : Int32), ((0) ≤ c190_g3.toInt ∧ c190_g3.toInt ≤ 4) → ((-1) ≤ c190_g4.toInt ∧ c190_g4.toInt ≤ 8) → (c190_g3.toInt = 2 → x31_1.toInt + 2 ≤ x190_3.toInt ∧ x190_3.toInt ≤ x31_1.toInt + 18 ∧ x190_3.toInt ≤ 2000) → (c190_g3.toInt ≠ 4 → (g 6).toInt < x190_3.toInt) → (x190_3.toInt ≤ 2001 ∧ 0 ≤ x190_3.toInt) → (g 6).toInt ≤ x190_3.toInt → wp (j190 x190_3 c190_g3 c190_g4) (Q_scan g F)) ?_ ?_
    · intro x190_3 c190_g3 c190_g4 hg8 hg9 f10 f11 f12 f13
      show wp _ _
      have hg14 : ((0) ≤ x190_3.toInt ∧ x190_3.toInt ≤ 2001) := ⟨by (first | omega | (simp only [id_eq] at *; omega)), by (first | omega | (simp only [id_eq] at *; omega))⟩
      exact ⟨_, rfl, ⟨hg8, hg9, hg2, hg14, (show (c190_g3.toInt = 2 → x31_1.toInt + 2 ≤ x190_3.toInt ∧ x190_3.toInt ≤ x31_1.toInt + 18 ∧ x190_3.toInt ≤ 2000) from by (first | omega | (simp only [id_eq] at *; omega))), (show (c190_g3.toInt ≠ 4 → (g 6).toInt < x190_3.toInt) from by (first | omega | (simp only [id_eq] at *; omega))), (show (g 6).toInt ≤ x190_3.toInt from by (first | omega | (simp only [id_eq] at *; omega)))⟩⟩
    intro j190 Jj190
    refine wp_ite (fun c48 => ?_) (fun c48 => ?_)
    · have c48 := congrArg Int32.toInt c48
      have hg15 : ((0) ≤ (4 : Int32).toInt ∧ (4 : Int32).toInt ≤ 4) := ⟨by (first | omega | (simp only [id_eq] at *; omega)), by (first | omega | (simp only [id_eq] at *; omega))⟩
      exact Jj190 x31_1 (4 : Int32) (g 4) hg15 hzg4 (show ((4 : Int32).toInt = 2 → x31_1.toInt + 2 ≤ x31_1.toInt ∧ x31_1.toInt ≤ x31_1.toInt + 18 ∧ x31_1.toInt ≤ 2000) from by (first | omega | (simp only [id_eq] at *; omega))) (show ((4 : Int32).toInt ≠ 4 → (g 6).toInt < x31_1.toInt) from by (first | omega | (simp only [id_eq] at *; omega))) (show (x31_1.toInt ≤ 2001 ∧ 0 ≤ x31_1.toInt) from by (first | omega | (simp only [id_eq] at *; omega))) (show (g 6).toInt ≤ x31_1.toInt from by (first | omega | (simp only [id_eq] at *; omega)))
    · have c48 := z_ne c48
      obtain ⟨r62, hc62, hq62⟩ := ok_isSmall r38 
      obtain ⟨f16, f17, f18⟩ : (id (r62.toInt = 1 → 97 ≤ r38.toInt ∧ r38.toInt ≤ 122)) ∧ (id (r62.toInt = 0 → r38.toInt < 97 ∨ 122 < r38.toInt)) ∧ ((0 ≤ r62.toInt ∧ r62.toInt ≤ 1)) := hq62
      refine wp_b1 hc62 ?_
      clear hc62
      refine wp_ite (fun c65 => ?_) (fun c65 => ?_)
      · have c65 := congrArg Int32.toInt c65
        refine wp_ite (fun c120 => ?_) (fun c120 => ?_)
        · have c120 := congrArg Int32.toInt c120
          refine wp_jn (fun k140 => ∀ (x140_3 : Int32), (x31_1.toInt + 1 ≤ x140_3.toInt ∧ x140_3.toInt ≤ (g 2).toInt) → wp (k140 x140_3) (Q_scan g F)) ?_ ?_
          · intro x140_3 f19
            show wp _ _
            obtain ⟨r143, hc143, hq143⟩ := ok_see (upd g 5 x31_1) F x140_3 (MInv_i hzg1 hzg2 hzg3 hzg4 hg2 hzg6 hzg7 hzg8 hzg9 hzg23 hzg27 hzg30 hzg34 hzg36 hzg39 hzg44 hzg47 hzg48 hzg51 hzg56 hzg59 hzg62 hzg65 hzg66 hzg70 hzF11 hzF12 hzF13 hzF15 hzF19 hzF21 hzF24 hzF25 hzF26 hzF33 hzF38 hzF41 hzF43 hzF45 hzF46 hzF50 hzF53 hzF54 hzLQ) (show 0 ≤ x140_3.toInt from by (first | omega | (simp only [id_eq] at *; omega)))
            obtain ⟨f20, f21, f22⟩ : (((-1) ≤ r143.toInt ∧ r143.toInt ≤ 255)) ∧ (id ((g 2).toInt ≤ x140_3.toInt → r143.toInt = -1)) ∧ (id (x140_3.toInt < (g 2).toInt → 0 ≤ r143.toInt)) := hq143
            refine wp_b1 hc143 ?_
            clear hc143
            refine wp_jn (fun j166 => ∀ (t166_0 : Int32), (t166_0.toInt = 2 → x140_3.toInt < (g 2).toInt ∧ x140_3.toInt ≤ x31_1.toInt + 17) → (t166_0.toInt = 0 ∨ t166_0.toInt = 2) → wp (j166 t166_0) (Q_scan g F)) ?_ ?_
            · intro t166_0 f23 f24
              show wp _ _
              have hg25 : ((0) ≤ t166_0.toInt ∧ t166_0.toInt ≤ 4) := ⟨by (first | omega | (simp only [id_eq] at *; omega)), by (first | omega | (simp only [id_eq] at *; omega))⟩
              have f26 : (x140_3 + 1).toInt = x140_3.toInt + (1) := z_addc (by decide +kernel) (by (first | omega | (simp only [id_eq] at *; omega))) (by (first | omega | (simp only [id_eq] at *; omega)))
              exact Jj190 (x140_3 + 1) t166_0 (g 4) hg25 hzg4 (show (t166_0.toInt = 2 → x31_1.toInt + 2 ≤ (x140_3 + 1).toInt ∧ (x140_3 + 1).toInt ≤ x31_1.toInt + 18 ∧ (x140_3 + 1).toInt ≤ 2000) from by (first | omega | (simp only [id_eq] at *; omega))) (show (t166_0.toInt ≠ 4 → (g 6).toInt < (x140_3 + 1).toInt) from by (first | omega | (simp only [id_eq] at *; omega))) (show ((x140_3 + 1).toInt ≤ 2001 ∧ 0 ≤ (x140_3 + 1).toInt) from by (first | omega | (simp only [id_eq] at *; omega))) (show (g 6).toInt ≤ (x140_3 + 1).toInt from by (first | omega | (simp only [id_eq] at *; omega)))
            intro j166 Jj166
            refine wp_jn (fun j165 => wp (j165 ()) (Q_scan g F)) ?_ ?_
            · show wp _ _
              show wp _ _
              exact Jj166 (0 : Int32) (show ((0 : Int32).toInt = 2 → x140_3.toInt < (g 2).toInt ∧ x140_3.toInt ≤ x31_1.toInt + 17) from by (first | omega | (simp only [id_eq] at *; omega))) (show ((0 : Int32).toInt = 0 ∨ (0 : Int32).toInt = 2) from by (first | omega | (simp only [id_eq] at *; omega)))
            intro j165 Jj165
            refine wp_ite (fun c148 => ?_) (fun c148 => ?_)
            · have c148 := congrArg Int32.toInt c148
              have f27 : (x140_3 - x31_1).toInt = x140_3.toInt - x31_1.toInt := z_sub (by (first | omega | (simp only [id_eq] at *; omega))) (by (first | omega | (simp only [id_eq] at *; omega)))
              have f28 : ((x140_3 - x31_1) - 1).toInt = (x140_3 - x31_1).toInt - 1 := z_subc (by decide +kernel) (by (first | omega | (simp only [id_eq] at *; omega))) (by (first | omega | (simp only [id_eq] at *; omega)))
              refine wp_ite (fun c158 => ?_) (fun c158 => ?_)
              · have c158 := (z_lt _ _).mp c158
                exact Jj165
              · have c158 := z_nlt c158
                exact Jj166 (2 : Int32) (show ((2 : Int32).toInt = 2 → x140_3.toInt < (g 2).toInt ∧ x140_3.toInt ≤ x31_1.toInt + 17) from by (first | omega | (simp only [id_eq] at *; omega))) (show ((2 : Int32).toInt = 0 ∨ (2 : Int32).toInt = 2) from by (first | omega | (simp only [id_eq] at *; omega)))
            · have c148 := z_ne c148
              exact Jj165
          intro k140 Jk140
          have lp123 : ∀ (n123 : Nat) (y123_3 : Int32), (2001 - y123_3.toInt).toNat < n123 → (x31_1.toInt + 1 ≤ y123_3.toInt ∧ y123_3.toInt ≤ (g 2).toInt) → wp (L_scan_123 g F x31_1 k140 n123 y123_3) (Q_scan g F) := by
            intro n123
            induction n123 with
            | zero => intro y123_3 hm; exact absurd hm (Nat.not_lt_zero _)
            | succ n123 ih123 =>
              intro y123_3 hm123 f29
              show wp (B_scan_123 g F x31_1 k140 (L_scan_123 g F x31_1 k140 n123) y123_3) _
              unfold B_scan_123
              obtain ⟨r125, hc125, hq125⟩ := ok_see (upd g 5 x31_1) F y123_3 (MInv_i hzg1 hzg2 hzg3 hzg4 hg2 hzg6 hzg7 hzg8 hzg9 hzg23 hzg27 hzg30 hzg34 hzg36 hzg39 hzg44 hzg47 hzg48 hzg51 hzg56 hzg59 hzg62 hzg65 hzg66 hzg70 hzF11 hzF12 hzF13 hzF15 hzF19 hzF21 hzF24 hzF25 hzF26 hzF33 hzF38 hzF41 hzF43 hzF45 hzF46 hzF50 hzF53 hzF54 hzLQ) (show 0 ≤ y123_3.toInt from by (first | omega | (simp only [id_eq] at *; omega)))
              obtain ⟨f30, f31, f32⟩ : (((-1) ≤ r125.toInt ∧ r125.toInt ≤ 255)) ∧ (id ((g 2).toInt ≤ y123_3.toInt → r125.toInt = -1)) ∧ (id (y123_3.toInt < (g 2).toInt → 0 ≤ r125.toInt)) := hq125
              refine wp_b1 hc125 ?_
              clear hc125
              obtain ⟨r128, hc128, hq128⟩ := ok_isSmall r125 
              obtain ⟨f33, f34, f35⟩ : (id (r128.toInt = 1 → 97 ≤ r125.toInt ∧ r125.toInt ≤ 122)) ∧ (id (r128.toInt = 0 → r125.toInt < 97 ∨ 122 < r125.toInt)) ∧ ((0 ≤ r128.toInt ∧ r128.toInt ≤ 1)) := hq128
              refine wp_b1 hc128 ?_
              clear hc128
              refine wp_ite (fun c131 => ?_) (fun c131 => ?_)
              · have c131 := congrArg Int32.toInt c131
                exact Jk140 y123_3 (show (x31_1.toInt + 1 ≤ y123_3.toInt ∧ y123_3.toInt ≤ (g 2).toInt) from by (first | omega | (simp only [id_eq] at *; omega)))
              · have c131 := z_ne c131
                have f36 : (y123_3 + 1).toInt = y123_3.toInt + (1) := z_addc (by decide +kernel) (by (first | omega | (simp only [id_eq] at *; omega))) (by (first | omega | (simp only [id_eq] at *; omega)))
                exact ih123 (y123_3 + 1) (show (2001 - (y123_3 + 1).toInt).toNat < n123 from by (first | omega | (simp only [id_eq] at *; omega))) (show (x31_1.toInt + 1 ≤ (y123_3 + 1).toInt ∧ (y123_3 + 1).toInt ≤ (g 2).toInt) from by (first | omega | (simp only [id_eq] at *; omega)))
          exact lp123 NN x45 (by have := NN_eq; (first | omega | (simp only [id_eq] at *; omega))) (show (x31_1.toInt + 1 ≤ x45.toInt ∧ x45.toInt ≤ (g 2).toInt) from by (first | omega | (simp only [id_eq] at *; omega)))
        · have c120 := z_ne c120
          refine wp_jn (fun j187 => ∀ (t187_0 : Int32), (t187_0.toInt = 3 ∨ t187_0.toInt = 0) → wp (j187 t187_0) (Q_scan g F)) ?_ ?_
          · intro t187_0 f37
            show wp _ _
            have hg38 : ((0) ≤ t187_0.toInt ∧ t187_0.toInt ≤ 4) := ⟨by (first | omega | (simp only [id_eq] at *; omega)), by (first | omega | (simp only [id_eq] at *; omega))⟩
            exact Jj190 x45 t187_0 (g 4) hg38 hzg4 (show (t187_0.toInt = 2 → x31_1.toInt + 2 ≤ x45.toInt ∧ x45.toInt ≤ x31_1.toInt + 18 ∧ x45.toInt ≤ 2000) from by (first | omega | (simp only [id_eq] at *; omega))) (show (t187_0.toInt ≠ 4 → (g 6).toInt < x45.toInt) from by (first | omega | (simp only [id_eq] at *; omega))) (show (x45.toInt ≤ 2001 ∧ 0 ≤ x45.toInt) from by (first | omega | (simp only [id_eq] at *; omega))) (show (g 6).toInt ≤ x45.toInt from by (first | omega | (simp only [id_eq] at *; omega)))
          intro j187 Jj187
          refine wp_ite (fun c179 => ?_) (fun c179 => ?_)
          · have c179 := congrArg Int32.toInt c179
            exact Jj187 (3 : Int32) (show ((3 : Int32).toInt = 3 ∨ (3 : Int32).toInt = 0) from by (first | omega | (simp only [id_eq] at *; omega)))
          · have c179 := z_ne c179
            exact Jj187 (0 : Int32) (show ((0 : Int32).toInt = 3 ∨ (0 : Int32).toInt = 0) from by (first | omega | (simp only [id_eq] at *; omega)))
      · have c65 := z_ne c65
        refine wp_jn (fun k85 => ∀ (x85_3 : Int32), (x31_1.toInt + 1 ≤ x85_3.toInt ∧ x85_3.toInt ≤ (g 2).toInt) → wp (k85 x85_3) (Q_scan g F)) ?_ ?_
        · intro x85_3 f39
          show wp _ _
          have f40 : (x85_3 - x31_1).toInt = x85_3.toInt - x31_1.toInt := z_sub (by (first | omega | (simp only [id_eq] at *; omega))) (by (first | omega | (simp only [id_eq] at *; omega)))
          obtain ⟨r91, hc91, hq91⟩ := ok_keyAt (upd g 5 x31_1) F x31_1 (x85_3 - x31_1) (MInv_i hzg1 hzg2 hzg3 hzg4 hg2 hzg6 hzg7 hzg8 hzg9 hzg23 hzg27 hzg30 hzg34 hzg36 hzg39 hzg44 hzg47 hzg48 hzg51 hzg56 hzg59 hzg62 hzg65 hzg66 hzg70 hzF11 hzF12 hzF13 hzF15 hzF19 hzF21 hzF24 hzF25 hzF26 hzF33 hzF38 hzF41 hzF43 hzF45 hzF46 hzF50 hzF53 hzF54 hzLQ) (show (0 ≤ x31_1.toInt ∧ x31_1.toInt ≤ 2001) from by (first | omega | (simp only [id_eq] at *; omega))) (show (0 ≤ (x85_3 - x31_1).toInt ∧ (x85_3 - x31_1).toInt ≤ 2001) from by (first | omega | (simp only [id_eq] at *; omega)))
          have f41 : ((-1) ≤ r91.toInt ∧ r91.toInt ≤ 8) := hq91
          refine wp_b1 hc91 ?_
          clear hc91
          have hg42 : ((-1) ≤ r91.toInt ∧ r91.toInt ≤ 8) := ⟨by (first | omega | (simp only [id_eq] at *; omega)), by (first | omega | (simp only [id_eq] at *; omega))⟩
          refine wp_jn (fun j111 => ∀ (t111_0 : Int32), (t111_0.toInt = 0 ∨ t111_0.toInt = 1) → wp (j111 t111_0) (Q_scan g F)) ?_ ?_
          · intro t111_0 f43
            show wp _ _
            have hg44 : ((0) ≤ t111_0.toInt ∧ t111_0.toInt ≤ 4) := ⟨by (first | omega | (simp only [id_eq] at *; omega)), by (first | omega | (simp only [id_eq] at *; omega))⟩
            exact Jj190 x85_3 t111_0 r91 hg44 hg42 (show (t111_0.toInt = 2 → x31_1.toInt + 2 ≤ x85_3.toInt ∧ x85_3.toInt ≤ x31_1.toInt + 18 ∧ x85_3.toInt ≤ 2000) from by (first | omega | (simp only [id_eq] at *; omega))) (show (t111_0.toInt ≠ 4 → (g 6).toInt < x85_3.toInt) from by (first | omega | (simp only [id_eq] at *; omega))) (show (x85_3.toInt ≤ 2001 ∧ 0 ≤ x85_3.toInt) from by (first | omega | (simp only [id_eq] at *; omega))) (show (g 6).toInt ≤ x85_3.toInt from by (first | omega | (simp only [id_eq] at *; omega)))
          intro j111 Jj111
          refine wp_ite (fun c103 => ?_) (fun c103 => ?_)
          · have c103 := congrArg Int32.toInt c103
            exact Jj111 (0 : Int32) (show ((0 : Int32).toInt = 0 ∨ (0 : Int32).toInt = 1) from by (first | omega | (simp only [id_eq] at *; omega)))
          · have c103 := z_ne c103
            exact Jj111 (1 : Int32) (show ((1 : Int32).toInt = 0 ∨ (1 : Int32).toInt = 1) from by (first | omega | (simp only [id_eq] at *; omega)))
        intro k85 Jk85
        have lp68 : ∀ (n68 : Nat) (y68_3 : Int32), (2001 - y68_3.toInt).toNat < n68 → (x31_1.toInt + 1 ≤ y68_3.toInt ∧ y68_3.toInt ≤ (g 2).toInt) → wp (L_scan_68 g F x31_1 k85 n68 y68_3) (Q_scan g F) := by
          intro n68
          induction n68 with
          | zero => intro y68_3 hm; exact absurd hm (Nat.not_lt_zero _)
          | succ n68 ih68 =>
            intro y68_3 hm68 f45
            show wp (B_scan_68 g F x31_1 k85 (L_scan_68 g F x31_1 k85 n68) y68_3) _
            unfold B_scan_68
            obtain ⟨r70, hc70, hq70⟩ := ok_see (upd g 5 x31_1) F y68_3 (MInv_i hzg1 hzg2 hzg3 hzg4 hg2 hzg6 hzg7 hzg8 hzg9 hzg23 hzg27 hzg30 hzg34 hzg36 hzg39 hzg44 hzg47 hzg48 hzg51 hzg56 hzg59 hzg62 hzg65 hzg66 hzg70 hzF11 hzF12 hzF13 hzF15 hzF19 hzF21 hzF24 hzF25 hzF26 hzF33 hzF38 hzF41 hzF43 hzF45 hzF46 hzF50 hzF53 hzF54 hzLQ) (show 0 ≤ y68_3.toInt from by (first | omega | (simp only [id_eq] at *; omega)))
            obtain ⟨f46, f47, f48⟩ : (((-1) ≤ r70.toInt ∧ r70.toInt ≤ 255)) ∧ (id ((g 2).toInt ≤ y68_3.toInt → r70.toInt = -1)) ∧ (id (y68_3.toInt < (g 2).toInt → 0 ≤ r70.toInt)) := hq70
            refine wp_b1 hc70 ?_
            clear hc70
            obtain ⟨r73, hc73, hq73⟩ := ok_isSmall r70 
            obtain ⟨f49, f50, f51⟩ : (id (r73.toInt = 1 → 97 ≤ r70.toInt ∧ r70.toInt ≤ 122)) ∧ (id (r73.toInt = 0 → r70.toInt < 97 ∨ 122 < r70.toInt)) ∧ ((0 ≤ r73.toInt ∧ r73.toInt ≤ 1)) := hq73
            refine wp_b1 hc73 ?_
            clear hc73
            refine wp_ite (fun c76 => ?_) (fun c76 => ?_)
            · have c76 := congrArg Int32.toInt c76
              exact Jk85 y68_3 (show (x31_1.toInt + 1 ≤ y68_3.toInt ∧ y68_3.toInt ≤ (g 2).toInt) from by (first | omega | (simp only [id_eq] at *; omega)))
            · have c76 := z_ne c76
              have f52 : (y68_3 + 1).toInt = y68_3.toInt + (1) := z_addc (by decide +kernel) (by (first | omega | (simp only [id_eq] at *; omega))) (by (first | omega | (simp only [id_eq] at *; omega)))
              exact ih68 (y68_3 + 1) (show (2001 - (y68_3 + 1).toInt).toNat < n68 from by (first | omega | (simp only [id_eq] at *; omega))) (show (x31_1.toInt + 1 ≤ (y68_3 + 1).toInt ∧ (y68_3 + 1).toInt ≤ (g 2).toInt) from by (first | omega | (simp only [id_eq] at *; omega)))
        exact lp68 NN x45 (by have := NN_eq; (first | omega | (simp only [id_eq] at *; omega))) (show (x31_1.toInt + 1 ≤ x45.toInt ∧ x45.toInt ≤ (g 2).toInt) from by (first | omega | (simp only [id_eq] at *; omega)))
  intro k31 Jk31
  have lp5 : ∀ (n5 : Nat) (y5_1 : Int32), (2001 - y5_1.toInt).toNat < n5 → ((g 6).toInt ≤ y5_1.toInt ∧ y5_1.toInt ≤ 2001) → wp (L_scan_5 g F k31 n5 y5_1) (Q_scan g F) := by
    intro n5
    induction n5 with
    | zero => intro y5_1 hm; exact absurd hm (Nat.not_lt_zero _)
    | succ n5 ih5 =>
      intro y5_1 hm5 f53
      show wp (B_scan_5 g F k31 (L_scan_5 g F k31 n5) y5_1) _
      unfold B_scan_5
      obtain ⟨r7, hc7, hq7⟩ := ok_see g F y5_1 (MInv_i hzg1 hzg2 hzg3 hzg4 hzg5 hzg6 hzg7 hzg8 hzg9 hzg23 hzg27 hzg30 hzg34 hzg36 hzg39 hzg44 hzg47 hzg48 hzg51 hzg56 hzg59 hzg62 hzg65 hzg66 hzg70 hzF11 hzF12 hzF13 hzF15 hzF19 hzF21 hzF24 hzF25 hzF26 hzF33 hzF38 hzF41 hzF43 hzF45 hzF46 hzF50 hzF53 hzF54 hzLQ) (show 0 ≤ y5_1.toInt from by (first | omega | (simp only [id_eq] at *; omega)))
      obtain ⟨f54, f55, f56⟩ : (((-1) ≤ r7.toInt ∧ r7.toInt ≤ 255)) ∧ (id ((g 2).toInt ≤ y5_1.toInt → r7.toInt = -1)) ∧ (id (y5_1.toInt < (g 2).toInt → 0 ≤ r7.toInt)) := hq7
      refine wp_b1 hc7 ?_
      clear hc7
      refine wp_jn (fun j25 => y5_1.toInt < (g 2).toInt → wp (j25 ()) (Q_scan g F)) ?_ ?_
      · intro f57
        show wp _ _
        have f58 : (y5_1 + 1).toInt = y5_1.toInt + (1) := z_addc (by decide +kernel) (by (first | omega | (simp only [id_eq] at *; omega))) (by (first | omega | (simp only [id_eq] at *; omega)))
        exact ih5 (y5_1 + 1) (show (2001 - (y5_1 + 1).toInt).toNat < n5 from by (first | omega | (simp only [id_eq] at *; omega))) (show ((g 6).toInt ≤ (y5_1 + 1).toInt ∧ (y5_1 + 1).toInt ≤ 2001) from by (first | omega | (simp only [id_eq] at *; omega)))
      intro j25 Jj25
      refine wp_ite (fun c12 => ?_) (fun c12 => ?_)
      · have c12 := congrArg Int32.toInt c12
        exact Jj25 (show y5_1.toInt < (g 2).toInt from by (first | omega | (simp only [id_eq] at *; omega)))
      · have c12 := z_ne c12
        obtain ⟨r17, hc17, hq17⟩ := ok_see g F y5_1 (MInv_i hzg1 hzg2 hzg3 hzg4 hzg5 hzg6 hzg7 hzg8 hzg9 hzg23 hzg27 hzg30 hzg34 hzg36 hzg39 hzg44 hzg47 hzg48 hzg51 hzg56 hzg59 hzg62 hzg65 hzg66 hzg70 hzF11 hzF12 hzF13 hzF15 hzF19 hzF21 hzF24 hzF25 hzF26 hzF33 hzF38 hzF41 hzF43 hzF45 hzF46 hzF50 hzF53 hzF54 hzLQ) (show 0 ≤ y5_1.toInt from by (first | omega | (simp only [id_eq] at *; omega)))
        obtain ⟨f59, f60, f61⟩ : (((-1) ≤ r17.toInt ∧ r17.toInt ≤ 255)) ∧ (id ((g 2).toInt ≤ y5_1.toInt → r17.toInt = -1)) ∧ (id (y5_1.toInt < (g 2).toInt → 0 ≤ r17.toInt)) := hq17
        refine wp_b1 hc17 ?_
        clear hc17
        refine wp_ite (fun c22 => ?_) (fun c22 => ?_)
        · have c22 := congrArg Int32.toInt c22
          exact Jj25 (show y5_1.toInt < (g 2).toInt from by (first | omega | (simp only [id_eq] at *; omega)))
        · have c22 := z_ne c22
          exact Jk31 y5_1 (show ((g 6).toInt ≤ y5_1.toInt ∧ y5_1.toInt ≤ 2001) from by (first | omega | (simp only [id_eq] at *; omega)))
  exact lp5 NN (g 6) (by have := NN_eq; (first | omega | (simp only [id_eq] at *; omega))) (show ((g 6).toInt ≤ (g 6).toInt ∧ (g 6).toInt ≤ 2001) from by (first | omega | (simp only [id_eq] at *; omega)))
abbrev Q_lawThrough (g : Nat → Int32) (F : Nat → Nat → Int32) (p0 : Int32) : (Int32 × Int32 × (Nat → Int32) × (Nat → Int32)) → Prop := (fun t => (((0) ≤ (t.1).toInt ∧ (t.1).toInt ≤ 384)) ∧ (((0) ≤ (t.2.1).toInt ∧ (t.2.1).toInt ≤ 1)))
set_option maxHeartbeats 4000000 in
set_option maxRecDepth 100000 in
theorem ok_lawThrough (g : Nat → Int32) (F : Nat → Nat → Int32) (p0 : Int32) (hI : MInv g F) (hp0 : (0 ≤ p0.toInt ∧ p0.toInt < 280)) (hp1 : (g 30).toInt ≤ 24) (hp2 : 1 ≤ ((F 15) (Int32.toNatClampNeg (4 * p0))).toInt) : wp (f_lawThrough g F p0) (Q_lawThrough g F p0) := by
  unfold f_lawThrough
  refine MInv_e hI (fun (hzg1 : id _) (hzg2 : id _) (hzg3 : id _) (hzg4 : id _) (hzg5 : id _) (hzg6 : id _) (hzg7 : id _) (hzg8 : id _) (hzg9 : id _) (hzg23 : id _) (hzg27 : id _) hzg30 (hzg34 : id _) hzg36 (hzg39 : id _) (hzg44 : id _) (hzg47 : id _) (hzg48 : id _) (hzg51 : id _) (hzg56 : id _) (hzg59 : id _) (hzg62 : id _) (hzg65 : id _) (hzg66 : id _) (hzg70 : id _) hzF11 hzF12 hzF13 hzF15 hzF19 hzF21 hzF24 hzF25 hzF26 hzF33 hzF38 hzF41 hzF43 hzF45 hzF46 hzF50 hzF53 hzF54 hzLQ => ?_)
  clear hI
  have zkm1 : (-1 : Int32).toInt = -1 := by decide +kernel
  have zk0 : (0 : Int32).toInt = 0 := by decide +kernel
  have zk1 : (1 : Int32).toInt = 1 := by decide +kernel
  have zk2 : (2 : Int32).toInt = 2 := by decide +kernel
  have zk3 : (3 : Int32).toInt = 3 := by decide +kernel
  have zk4 : (4 : Int32).toInt = 4 := by decide +kernel
  have zk16 : (16 : Int32).toInt = 16 := by decide +kernel
  have f1 : (4 * p0).toInt = 4 * p0.toInt := z_muld (by decide +kernel) (by (first | omega | (simp only [id_eq] at *; omega))) (by (first | omega | (simp only [id_eq] at *; omega)))
  refine wp_if ⟨by (first | omega | (simp only [id_eq] at *; omega)), by (first | omega | (simp only [id_eq] at *; omega))⟩ ?_
  have f2 := hzF15 (Int32.toNatClampNeg (4 * p0))
  refine wp_vl (fun x12 ex12 => ?_)
  have f3 : x12.toInt = ((F 15) (Int32.toNatClampNeg (4 * p0))).toInt := congrArg Int32.toInt ex12
  clear ex12
  refine wp_jn (fun k279 => ∀ (x279_2 : Int32) (x279_5 : Int32) (c279_F31 : (Nat → Int32)), (0 ≤ x279_2.toInt ∧ x279_2.toInt ≤ 384) → wp (k279 x279_2 x279_5 c279_F31) (Q_lawThrough g F p0)) ?_ ?_
  · intro x279_2 x279_5 c279_F31 f4
    show wp _ _
    refine wp_jn (fun k308 => ∀ (c308_F29 : (Nat → Int32)), wp (k308 c308_F29) (Q_lawThrough g F p0)) ?_ ?_
    · intro c308_F29
      show wp _ _
      have hg5 : ((0) ≤ x279_2.toInt ∧ x279_2.toInt ≤ 384) := ⟨by (first | omega | (simp only [id_eq] at *; omega)), by (first | omega | (simp only [id_eq] at *; omega))⟩
      refine wp_jn (fun j339 => ∀ (t339_0 : Int32), (0 ≤ t339_0.toInt ∧ t339_0.toInt ≤ 1) → wp (j339 t339_0) (Q_lawThrough g F p0)) ?_ ?_
      · intro t339_0 f6
        show wp _ _
        refine wp_if ⟨by (first | omega | (simp only [id_eq] at *; omega)), by (first | omega | (simp only [id_eq] at *; omega))⟩ ?_
        have hg7 : ((0) ≤ t339_0.toInt ∧ t339_0.toInt ≤ 1) := ⟨by (first | omega | (simp only [id_eq] at *; omega)), by (first | omega | (simp only [id_eq] at *; omega))⟩
        exact ⟨_, rfl, ⟨hg5, hg7⟩⟩
      intro j339 Jj339
      refine wp_jn (fun j334 => wp (j334 ()) (Q_lawThrough g F p0)) ?_ ?_
      · show wp _ _
        show wp _ _
        exact Jj339 (1 : Int32) (show (0 ≤ (1 : Int32).toInt ∧ (1 : Int32).toInt ≤ 1) from by (first | omega | (simp only [id_eq] at *; omega)))
      intro j334 Jj334
      refine wp_ite (fun c318 => ?_) (fun c318 => ?_)
      · have c318 := congrArg Int32.toInt c318
        refine wp_jn (fun j338 => wp (j338 ()) (Q_lawThrough g F p0)) ?_ ?_
        · show wp _ _
          show wp _ _
          exact Jj339 (0 : Int32) (show (0 ≤ (0 : Int32).toInt ∧ (0 : Int32).toInt ≤ 1) from by (first | omega | (simp only [id_eq] at *; omega)))
        intro j338 Jj338
        refine wp_ite (fun c323 => ?_) (fun c323 => ?_)
        · have c323 := congrArg Int32.toInt c323
          exact Jj338
        · have c323 := z_ne c323
          refine wp_ite (fun c331 => ?_) (fun c331 => ?_)
          · have c331 := congrArg Int32.toInt c331
            exact Jj334
          · have c331 := z_ne c331
            exact Jj338
      · have c318 := z_ne c318
        exact Jj334
    intro k308 Jk308
    have lp282 : ∀ (n282 : Nat) (y282_6 : Int32) (d282_F29 : (Nat → Int32)), (x279_2.toInt - y282_6.toInt).toNat < n282 → 0 ≤ y282_6.toInt → wp (L_lawThrough_282 x279_2 c279_F31 k308 n282 y282_6 d282_F29) (Q_lawThrough g F p0) := by
      intro n282
      induction n282 with
      | zero => intro y282_6 d282_F29 hm; exact absurd hm (Nat.not_lt_zero _)
      | succ n282 ih282 =>
        intro y282_6 d282_F29 hm282 f8
        show wp (B_lawThrough_282 x279_2 c279_F31 k308 (L_lawThrough_282 x279_2 c279_F31 k308 n282) y282_6 d282_F29) _
        unfold B_lawThrough_282
        refine wp_ite (fun c285 => ?_) (fun c285 => ?_)
        · have c285 := (z_le _ _).mp c285
          exact Jk308 d282_F29
        · have c285 := z_nle c285
          refine wp_if ⟨by (first | omega | (simp only [id_eq] at *; omega)), by (first | omega | (simp only [id_eq] at *; omega))⟩ ?_
          refine wp_if ⟨by (first | omega | (simp only [id_eq] at *; omega)), by (first | omega | (simp only [id_eq] at *; omega))⟩ ?_
          refine wp_vl (fun w301 ew301 => ?_)
          clear ew301
          have f9 : (y282_6 + 1).toInt = y282_6.toInt + (1) := z_addc (by decide +kernel) (by (first | omega | (simp only [id_eq] at *; omega))) (by (first | omega | (simp only [id_eq] at *; omega)))
          exact ih282 (y282_6 + 1) w301 (show (x279_2.toInt - (y282_6 + 1).toInt).toNat < n282 from by (first | omega | (simp only [id_eq] at *; omega))) (show 0 ≤ (y282_6 + 1).toInt from by (first | omega | (simp only [id_eq] at *; omega)))
    exact lp282 NN (0 : Int32) (F 29) (by have := NN_eq; (first | omega | (simp only [id_eq] at *; omega))) (show 0 ≤ (0 : Int32).toInt from by (first | omega | (simp only [id_eq] at *; omega)))
  intro k279 Jk279
  have lp17 : ∀ (n17 : Nat) (y17_2 : Int32) (y17_3 : Int32) (y17_5 : Int32) (d17_F31 : (Nat → Int32)), ((g 30).toInt - y17_3.toInt).toNat < n17 → (0 ≤ y17_3.toInt ∧ y17_3.toInt ≤ (g 30).toInt) → (0 ≤ y17_2.toInt ∧ y17_2.toInt ≤ 16 * y17_3.toInt) → wp (L_lawThrough_17 g F p0 x12 k279 n17 y17_2 y17_3 y17_5 d17_F31) (Q_lawThrough g F p0) := by
    intro n17
    induction n17 with
    | zero => intro y17_2 y17_3 y17_5 d17_F31 hm; exact absurd hm (Nat.not_lt_zero _)
    | succ n17 ih17 =>
      intro y17_2 y17_3 y17_5 d17_F31 hm17 f10 f11
      show wp (B_lawThrough_17 g F p0 x12 k279 (L_lawThrough_17 g F p0 x12 k279 n17) y17_2 y17_3 y17_5 d17_F31) _
      unfold B_lawThrough_17
      refine wp_ite (fun c22 => ?_) (fun c22 => ?_)
      · have c22 := (z_le _ _).mp c22
        exact Jk279 y17_2 y17_5 d17_F31 (show (0 ≤ y17_2.toInt ∧ y17_2.toInt ≤ 384) from by (first | omega | (simp only [id_eq] at *; omega)))
      · have c22 := z_nle c22
        obtain ⟨r38, hc38, hq38⟩ := ok_stands g (upF F 31 d17_F31) (4 * p0) (F 29) 400 y17_3 (g 30) (MInv_i hzg1 hzg2 hzg3 hzg4 hzg5 hzg6 hzg7 hzg8 hzg9 hzg23 hzg27 hzg30 hzg34 hzg36 hzg39 hzg44 hzg47 hzg48 hzg51 hzg56 hzg59 hzg62 hzg65 hzg66 hzg70 hzF11 hzF12 hzF13 hzF15 hzF19 hzF21 hzF24 hzF25 hzF26 hzF33 hzF38 hzF41 hzF43 hzF45 hzF46 hzF50 hzF53 hzF54 hzLQ) (show (0 ≤ (4 * p0).toInt ∧ (4 * p0).toInt < 1120) from by (first | omega | (simp only [id_eq] at *; omega))) (show (g 30).toInt ≤ 400 from by (first | omega | (simp only [id_eq] at *; omega))) (show 400 ≤ 400 from by (first | omega | (simp only [id_eq] at *; omega))) (show y17_3.toInt ≤ 400 from by (first | omega | (simp only [id_eq] at *; omega)))
        obtain ⟨f13, f14⟩ : (id (r38.toInt = 1 → 0 ≤ y17_3.toInt ∧ y17_3.toInt + ((F 15) (Int32.toNatClampNeg (4 * p0))).toInt ≤ (g 30).toInt)) ∧ ((0 ≤ r38.toInt ∧ r38.toInt ≤ 1)) := hq38
        refine wp_b1 hc38 ?_
        clear hc38
        refine wp_jn (fun j86 => ∀ (t86_0 : Int32), (t86_0.toInt ≠ 0 → y17_3.toInt + x12.toInt ≤ (g 30).toInt) → wp (j86 t86_0) (Q_lawThrough g F p0)) ?_ ?_
        · intro t86_0 f15
          show wp _ _
          refine wp_jn (fun j141 => ∀ (t141_0 : Int32), (t141_0.toInt ≠ 0 → y17_3.toInt + x12.toInt ≤ (g 30).toInt) → wp (j141 t141_0) (Q_lawThrough g F p0)) ?_ ?_
          · intro t141_0 f16
            show wp _ _
            refine wp_jn (fun j191 => ∀ (t191_0 : Int32), (t191_0.toInt ≠ 0 → y17_3.toInt + x12.toInt ≤ (g 30).toInt) → wp (j191 t191_0) (Q_lawThrough g F p0)) ?_ ?_
            · intro t191_0 f17
              show wp _ _
              refine wp_ite (fun c195 => ?_) (fun c195 => ?_)
              · have c195 := congrArg Int32.toInt c195
                refine wp_if ⟨by (first | omega | (simp only [id_eq] at *; omega)), by (first | omega | (simp only [id_eq] at *; omega))⟩ ?_
                refine wp_if ⟨by (first | omega | (simp only [id_eq] at *; omega)), by (first | omega | (simp only [id_eq] at *; omega))⟩ ?_
                refine wp_vl (fun w209 ew209 => ?_)
                clear ew209
                have f18 : (y17_2 + 1).toInt = y17_2.toInt + (1) := z_addc (by decide +kernel) (by (first | omega | (simp only [id_eq] at *; omega))) (by (first | omega | (simp only [id_eq] at *; omega)))
                have f19 : (y17_3 + 1).toInt = y17_3.toInt + (1) := z_addc (by decide +kernel) (by (first | omega | (simp only [id_eq] at *; omega))) (by (first | omega | (simp only [id_eq] at *; omega)))
                exact ih17 (y17_2 + 1) (y17_3 + 1) y17_5 w209 (show ((g 30).toInt - (y17_3 + 1).toInt).toNat < n17 from by (first | omega | (simp only [id_eq] at *; omega))) (show (0 ≤ (y17_3 + 1).toInt ∧ (y17_3 + 1).toInt ≤ (g 30).toInt) from by (first | omega | (simp only [id_eq] at *; omega))) (show (0 ≤ (y17_2 + 1).toInt ∧ (y17_2 + 1).toInt ≤ 16 * (y17_3 + 1).toInt) from by (first | omega | (simp only [id_eq] at *; omega)))
              · have c195 := z_ne c195
                refine wp_jn (fun k271 => ∀ (x271_2 : Int32) (c271_F31 : (Nat → Int32)), (0 ≤ x271_2.toInt ∧ x271_2.toInt ≤ 16 * y17_3.toInt + 16) → wp (k271 x271_2 c271_F31) (Q_lawThrough g F p0)) ?_ ?_
                · intro x271_2 c271_F31 f20
                  show wp _ _
                  have f21 : (y17_3 + x12).toInt = y17_3.toInt + x12.toInt := z_add (by (first | omega | (simp only [id_eq] at *; omega))) (by (first | omega | (simp only [id_eq] at *; omega)))
                  refine wp_vl (fun x275 ex275 => ?_)
                  have f22 : x275.toInt = (y17_3 + x12).toInt := congrArg Int32.toInt ex275
                  clear ex275
                  exact ih17 x271_2 x275 (1 : Int32) c271_F31 (show ((g 30).toInt - x275.toInt).toNat < n17 from by (first | omega | (simp only [id_eq] at *; omega))) (show (0 ≤ x275.toInt ∧ x275.toInt ≤ (g 30).toInt) from by (first | omega | (simp only [id_eq] at *; omega))) (show (0 ≤ x271_2.toInt ∧ x271_2.toInt ≤ 16 * x275.toInt) from by (first | omega | (simp only [id_eq] at *; omega)))
                intro k271 Jk271
                have lp225 : ∀ (n225 : Nat) (y225_2 : Int32) (y225_7 : Int32) (d225_F31 : (Nat → Int32)), (16 - y225_7.toInt).toNat < n225 → (0 ≤ y225_7.toInt ∧ y225_7.toInt ≤ 16) → y225_2.toInt = y17_2.toInt + y225_7.toInt → wp (L_lawThrough_225 F p0 k271 n225 y225_2 y225_7 d225_F31) (Q_lawThrough g F p0) := by
                  intro n225
                  induction n225 with
                  | zero => intro y225_2 y225_7 d225_F31 hm; exact absurd hm (Nat.not_lt_zero _)
                  | succ n225 ih225 =>
                    intro y225_2 y225_7 d225_F31 hm225 f23 f24
                    show wp (B_lawThrough_225 F p0 k271 (L_lawThrough_225 F p0 k271 n225) y225_2 y225_7 d225_F31) _
                    unfold B_lawThrough_225
                    have f26 : ((4 * p0) + 1).toInt = (4 * p0).toInt + 1 := z_addc (by decide +kernel) (by (first | omega | (simp only [id_eq] at *; omega))) (by (first | omega | (simp only [id_eq] at *; omega)))
                    refine wp_if ⟨by (first | omega | (simp only [id_eq] at *; omega)), by (first | omega | (simp only [id_eq] at *; omega))⟩ ?_
                    have f27 := hzF15 (Int32.toNatClampNeg ((4 * p0) + 1))
                    refine wp_ite (fun c237 => ?_) (fun c237 => ?_)
                    · have c237 := (z_le _ _).mp c237
                      exact Jk271 y225_2 d225_F31 (show (0 ≤ y225_2.toInt ∧ y225_2.toInt ≤ 16 * y17_3.toInt + 16) from by (first | omega | (simp only [id_eq] at *; omega)))
                    · have c237 := z_nle c237
                      have f30 : (16 * ((4 * p0) + 1)).toInt = 16 * ((4 * p0) + 1).toInt := z_muld (by decide +kernel) (by (first | omega | (simp only [id_eq] at *; omega))) (by (first | omega | (simp only [id_eq] at *; omega)))
                      have f31 : ((16 * ((4 * p0) + 1)) + y225_7).toInt = (16 * ((4 * p0) + 1)).toInt + y225_7.toInt := z_add (by (first | omega | (simp only [id_eq] at *; omega))) (by (first | omega | (simp only [id_eq] at *; omega)))
                      refine wp_if ⟨by (first | omega | (simp only [id_eq] at *; omega)), by (first | omega | (simp only [id_eq] at *; omega))⟩ ?_
                      refine wp_if ⟨by (first | omega | (simp only [id_eq] at *; omega)), by (first | omega | (simp only [id_eq] at *; omega))⟩ ?_
                      refine wp_vl (fun w261 ew261 => ?_)
                      clear ew261
                      have f32 : (y225_2 + 1).toInt = y225_2.toInt + (1) := z_addc (by decide +kernel) (by (first | omega | (simp only [id_eq] at *; omega))) (by (first | omega | (simp only [id_eq] at *; omega)))
                      have f33 : (y225_7 + 1).toInt = y225_7.toInt + (1) := z_addc (by decide +kernel) (by (first | omega | (simp only [id_eq] at *; omega))) (by (first | omega | (simp only [id_eq] at *; omega)))
                      exact ih225 (y225_2 + 1) (y225_7 + 1) w261 (show (16 - (y225_7 + 1).toInt).toNat < n225 from by (first | omega | (simp only [id_eq] at *; omega))) (show (0 ≤ (y225_7 + 1).toInt ∧ (y225_7 + 1).toInt ≤ 16) from by (first | omega | (simp only [id_eq] at *; omega))) (show (y225_2 + 1).toInt = y17_2.toInt + (y225_7 + 1).toInt from by (first | omega | (simp only [id_eq] at *; omega)))
                exact lp225 NN y17_2 (0 : Int32) d17_F31 (by have := NN_eq; (first | omega | (simp only [id_eq] at *; omega))) (show (0 ≤ (0 : Int32).toInt ∧ (0 : Int32).toInt ≤ 16) from by (first | omega | (simp only [id_eq] at *; omega))) (show y17_2.toInt = y17_2.toInt + (0 : Int32).toInt from by (first | omega | (simp only [id_eq] at *; omega)))
            intro j191 Jj191
            refine wp_jn (fun j190 => wp (j190 ()) (Q_lawThrough g F p0)) ?_ ?_
            · show wp _ _
              show wp _ _
              exact Jj191 (0 : Int32) (show ((0 : Int32).toInt ≠ 0 → y17_3.toInt + x12.toInt ≤ (g 30).toInt) from by (first | omega | (simp only [id_eq] at *; omega)))
            intro j190 Jj190
            refine wp_ite (fun c145 => ?_) (fun c145 => ?_)
            · have c145 := congrArg Int32.toInt c145
              exact Jj190
            · have c145 := z_ne c145
              have f35 : ((4 * p0) + 3).toInt = (4 * p0).toInt + 3 := z_addc (by decide +kernel) (by (first | omega | (simp only [id_eq] at *; omega))) (by (first | omega | (simp only [id_eq] at *; omega)))
              refine wp_if ⟨by (first | omega | (simp only [id_eq] at *; omega)), by (first | omega | (simp only [id_eq] at *; omega))⟩ ?_
              have f36 := hzF15 (Int32.toNatClampNeg ((4 * p0) + 3))
              refine wp_jn (fun j186 => y17_3.toInt + x12.toInt ≤ (g 30).toInt → wp (j186 ()) (Q_lawThrough g F p0)) ?_ ?_
              · intro f37
                show wp _ _
                exact Jj191 (1 : Int32) (show ((1 : Int32).toInt ≠ 0 → y17_3.toInt + x12.toInt ≤ (g 30).toInt) from by (first | omega | (simp only [id_eq] at *; omega)))
              intro j186 Jj186
              refine wp_ite (fun c159 => ?_) (fun c159 => ?_)
              · have c159 := congrArg Int32.toInt c159
                exact Jj186 (show y17_3.toInt + x12.toInt ≤ (g 30).toInt from by (first | omega | (simp only [id_eq] at *; omega)))
              · have c159 := z_ne c159
                have f40 : (y17_3 + x12).toInt = y17_3.toInt + x12.toInt := z_add (by (first | omega | (simp only [id_eq] at *; omega))) (by (first | omega | (simp only [id_eq] at *; omega)))
                obtain ⟨r180, hc180, hq180⟩ := ok_stands g (upF F 31 d17_F31) ((4 * p0) + 3) (F 29) 400 (y17_3 + x12) (g 30) (MInv_i hzg1 hzg2 hzg3 hzg4 hzg5 hzg6 hzg7 hzg8 hzg9 hzg23 hzg27 hzg30 hzg34 hzg36 hzg39 hzg44 hzg47 hzg48 hzg51 hzg56 hzg59 hzg62 hzg65 hzg66 hzg70 hzF11 hzF12 hzF13 hzF15 hzF19 hzF21 hzF24 hzF25 hzF26 hzF33 hzF38 hzF41 hzF43 hzF45 hzF46 hzF50 hzF53 hzF54 hzLQ) (show (0 ≤ ((4 * p0) + 3).toInt ∧ ((4 * p0) + 3).toInt < 1120) from by (first | omega | (simp only [id_eq] at *; omega))) (show (g 30).toInt ≤ 400 from by (first | omega | (simp only [id_eq] at *; omega))) (show 400 ≤ 400 from by (first | omega | (simp only [id_eq] at *; omega))) (show (y17_3 + x12).toInt ≤ 400 from by (first | omega | (simp only [id_eq] at *; omega)))
                obtain ⟨f41, f42⟩ : (id (r180.toInt = 1 → 0 ≤ (y17_3 + x12).toInt ∧ (y17_3 + x12).toInt + ((F 15) (Int32.toNatClampNeg ((4 * p0) + 3))).toInt ≤ (g 30).toInt)) ∧ ((0 ≤ r180.toInt ∧ r180.toInt ≤ 1)) := hq180
                refine wp_b1 hc180 ?_
                clear hc180
                refine wp_ite (fun c183 => ?_) (fun c183 => ?_)
                · have c183 := congrArg Int32.toInt c183
                  exact Jj190
                · have c183 := z_ne c183
                  exact Jj186 (show y17_3.toInt + x12.toInt ≤ (g 30).toInt from by (first | omega | (simp only [id_eq] at *; omega)))
          intro j141 Jj141
          refine wp_jn (fun j140 => wp (j140 ()) (Q_lawThrough g F p0)) ?_ ?_
          · show wp _ _
            show wp _ _
            exact Jj141 (0 : Int32) (show ((0 : Int32).toInt ≠ 0 → y17_3.toInt + x12.toInt ≤ (g 30).toInt) from by (first | omega | (simp only [id_eq] at *; omega)))
          intro j140 Jj140
          refine wp_ite (fun c90 => ?_) (fun c90 => ?_)
          · have c90 := congrArg Int32.toInt c90
            exact Jj140
          · have c90 := z_ne c90
            have f44 : ((4 * p0) + 2).toInt = (4 * p0).toInt + 2 := z_addc (by decide +kernel) (by (first | omega | (simp only [id_eq] at *; omega))) (by (first | omega | (simp only [id_eq] at *; omega)))
            refine wp_if ⟨by (first | omega | (simp only [id_eq] at *; omega)), by (first | omega | (simp only [id_eq] at *; omega))⟩ ?_
            have f45 := hzF15 (Int32.toNatClampNeg ((4 * p0) + 2))
            refine wp_jn (fun j136 => y17_3.toInt + x12.toInt ≤ (g 30).toInt → wp (j136 ()) (Q_lawThrough g F p0)) ?_ ?_
            · intro f46
              show wp _ _
              exact Jj141 (1 : Int32) (show ((1 : Int32).toInt ≠ 0 → y17_3.toInt + x12.toInt ≤ (g 30).toInt) from by (first | omega | (simp only [id_eq] at *; omega)))
            intro j136 Jj136
            refine wp_ite (fun c104 => ?_) (fun c104 => ?_)
            · have c104 := congrArg Int32.toInt c104
              exact Jj136 (show y17_3.toInt + x12.toInt ≤ (g 30).toInt from by (first | omega | (simp only [id_eq] at *; omega)))
            · have c104 := z_ne c104
              refine wp_if ⟨by (first | omega | (simp only [id_eq] at *; omega)), by (first | omega | (simp only [id_eq] at *; omega))⟩ ?_
              have f52 : (y17_2 - ((F 15) (Int32.toNatClampNeg ((4 * p0) + 2)))).toInt = y17_2.toInt - ((F 15) (Int32.toNatClampNeg ((4 * p0) + 2))).toInt := z_sub (by (first | omega | (simp only [id_eq] at *; omega))) (by (first | omega | (simp only [id_eq] at *; omega)))
              obtain ⟨r130, hc130, hq130⟩ := ok_stands g (upF F 31 d17_F31) ((4 * p0) + 2) d17_F31 400 (y17_2 - ((F 15) (Int32.toNatClampNeg ((4 * p0) + 2)))) y17_2 (MInv_i hzg1 hzg2 hzg3 hzg4 hzg5 hzg6 hzg7 hzg8 hzg9 hzg23 hzg27 hzg30 hzg34 hzg36 hzg39 hzg44 hzg47 hzg48 hzg51 hzg56 hzg59 hzg62 hzg65 hzg66 hzg70 hzF11 hzF12 hzF13 hzF15 hzF19 hzF21 hzF24 hzF25 hzF26 hzF33 hzF38 hzF41 hzF43 hzF45 hzF46 hzF50 hzF53 hzF54 hzLQ) (show (0 ≤ ((4 * p0) + 2).toInt ∧ ((4 * p0) + 2).toInt < 1120) from by (first | omega | (simp only [id_eq] at *; omega))) (show y17_2.toInt ≤ 400 from by (first | omega | (simp only [id_eq] at *; omega))) (show 400 ≤ 400 from by (first | omega | (simp only [id_eq] at *; omega))) (show (y17_2 - ((F 15) (Int32.toNatClampNeg ((4 * p0) + 2)))).toInt ≤ 400 from by (first | omega | (simp only [id_eq] at *; omega)))
              obtain ⟨f53, f54⟩ : (id (r130.toInt = 1 → 0 ≤ (y17_2 - ((F 15) (Int32.toNatClampNeg ((4 * p0) + 2)))).toInt ∧ (y17_2 - ((F 15) (Int32.toNatClampNeg ((4 * p0) + 2)))).toInt + ((F 15) (Int32.toNatClampNeg ((4 * p0) + 2))).toInt ≤ y17_2.toInt)) ∧ ((0 ≤ r130.toInt ∧ r130.toInt ≤ 1)) := hq130
              refine wp_b1 hc130 ?_
              clear hc130
              refine wp_ite (fun c133 => ?_) (fun c133 => ?_)
              · have c133 := congrArg Int32.toInt c133
                exact Jj140
              · have c133 := z_ne c133
                exact Jj136 (show y17_3.toInt + x12.toInt ≤ (g 30).toInt from by (first | omega | (simp only [id_eq] at *; omega)))
        intro j86 Jj86
        refine wp_jn (fun j85 => wp (j85 ()) (Q_lawThrough g F p0)) ?_ ?_
        · show wp _ _
          show wp _ _
          exact Jj86 (0 : Int32) (show ((0 : Int32).toInt ≠ 0 → y17_3.toInt + x12.toInt ≤ (g 30).toInt) from by (first | omega | (simp only [id_eq] at *; omega)))
        intro j85 Jj85
        refine wp_ite (fun c45 => ?_) (fun c45 => ?_)
        · have c45 := congrArg Int32.toInt c45
          exact Jj85
        · have c45 := z_ne c45
          refine wp_if ⟨by (first | omega | (simp only [id_eq] at *; omega)), by (first | omega | (simp only [id_eq] at *; omega))⟩ ?_
          refine wp_jn (fun j61 => y17_3.toInt + x12.toInt ≤ (g 30).toInt → wp (j61 ()) (Q_lawThrough g F p0)) ?_ ?_
          · intro f55
            show wp _ _
            refine wp_if ⟨by (first | omega | (simp only [id_eq] at *; omega)), by (first | omega | (simp only [id_eq] at *; omega))⟩ ?_
            refine wp_jn (fun j81 => y17_3.toInt + x12.toInt ≤ (g 30).toInt → wp (j81 ()) (Q_lawThrough g F p0)) ?_ ?_
            · intro f56
              show wp _ _
              exact Jj86 (1 : Int32) (show ((1 : Int32).toInt ≠ 0 → y17_3.toInt + x12.toInt ≤ (g 30).toInt) from by (first | omega | (simp only [id_eq] at *; omega)))
            intro j81 Jj81
            refine wp_ite (fun c67 => ?_) (fun c67 => ?_)
            · have c67 := congrArg Int32.toInt c67
              exact Jj81 (show y17_3.toInt + x12.toInt ≤ (g 30).toInt from by (first | omega | (simp only [id_eq] at *; omega)))
            · have c67 := z_ne c67
              have f57 : (y17_3 + x12).toInt = y17_3.toInt + x12.toInt := z_add (by (first | omega | (simp only [id_eq] at *; omega))) (by (first | omega | (simp only [id_eq] at *; omega)))
              refine wp_ite (fun c78 => ?_) (fun c78 => ?_)
              · have c78 := congrArg Int32.toInt c78
                exact Jj81 (show y17_3.toInt + x12.toInt ≤ (g 30).toInt from by (first | omega | (simp only [id_eq] at *; omega)))
              · have c78 := z_ne c78
                exact Jj85
          intro j61 Jj61
          refine wp_ite (fun c54 => ?_) (fun c54 => ?_)
          · have c54 := congrArg Int32.toInt c54
            exact Jj61 (show y17_3.toInt + x12.toInt ≤ (g 30).toInt from by (first | omega | (simp only [id_eq] at *; omega)))
          · have c54 := z_ne c54
            refine wp_ite (fun c58 => ?_) (fun c58 => ?_)
            · have c58 := congrArg Int32.toInt c58
              exact Jj61 (show y17_3.toInt + x12.toInt ≤ (g 30).toInt from by (first | omega | (simp only [id_eq] at *; omega)))
            · have c58 := z_ne c58
              exact Jj85
  exact lp17 NN (0 : Int32) (0 : Int32) (0 : Int32) (F 31) (by have := NN_eq; (first | omega | (simp only [id_eq] at *; omega))) (show (0 ≤ (0 : Int32).toInt ∧ (0 : Int32).toInt ≤ (g 30).toInt) from by (first | omega | (simp only [id_eq] at *; omega))) (show (0 ≤ (0 : Int32).toInt ∧ (0 : Int32).toInt ≤ 16 * (0 : Int32).toInt) from by (first | omega | (simp only [id_eq] at *; omega)))
