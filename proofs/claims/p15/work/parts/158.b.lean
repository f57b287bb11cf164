abbrev QX_see (g : Nat → Int32) (F : Nat → Nat → Int32) (p0 : Int32) : (Int32) → Prop := (fun t => (((-1) ≤ t.toInt ∧ t.toInt ≤ 255)) ∧ (((g 2).toInt ≤ p0.toInt → t.toInt = -1)) ∧ ((p0.toInt < (g 2).toInt → 0 ≤ t.toInt)) ∧ ((p0.toInt < (g 2).toInt → ((t.toInt = ((F 0) (Int32.toNatClampNeg p0)).toInt ∧ 0 ≤ ((F 0) (Int32.toNatClampNeg p0)).toInt) ∨ (t.toInt = ((F 0) (Int32.toNatClampNeg p0)).toInt + 256 ∧ ((F 0) (Int32.toNatClampNeg p0)).toInt < 0 ∧ -128 ≤ ((F 0) (Int32.toNatClampNeg p0)).toInt)))))
set_option maxHeartbeats 4000000 in
set_option maxRecDepth 100000 in
theorem fx_see (g : Nat → Int32) (F : Nat → Nat → Int32) (p0 : Int32) (hI : MInv g F) (hp0 : 0 ≤ p0.toInt) (hp1 : ∀ i, fits .byte (.int ((F 0) i)) = true) : wp (f_see g F p0) (QX_see g F p0) := by
  unfold f_see
  obtain ⟨hzg1, hzg2, hzg3, hzg4, hzg5, hzg6, hzg7, hzg8, hzg9, hzg23, hzg27, hzg30, hzg34, hzg36, hzg39, hzg44, hzg47, hzg48, hzg51, hzg56, hzg59, hzg62, hzg65, hzg66, hzg70, hzF11, hzF12, hzF13, hzF15, hzF19, hzF21, hzF24, hzF25, hzF26, hzF33, hzF38, hzF41, hzF43, hzF45, hzF46, hzF50, hzF53, hzF54, hzLQ⟩ := hI
  replace hzg1 : id _ := hzg1
  replace hzg3 : id _ := hzg3
  replace hzg4 : id _ := hzg4
  replace hzg5 : id _ := hzg5
  replace hzg6 : id _ := hzg6
  replace hzg7 : id _ := hzg7
  replace hzg8 : id _ := hzg8
  replace hzg9 : id _ := hzg9
  replace hzg23 : id _ := hzg23
  replace hzg27 : id _ := hzg27
  replace hzg30 : id _ := hzg30
  replace hzg34 : id _ := hzg34
  replace hzg36 : id _ := hzg36
  replace hzg39 : id _ := hzg39
  replace hzg44 : id _ := hzg44
  replace hzg47 : id _ := hzg47
  replace hzg48 : id _ := hzg48
  replace hzg51 : id _ := hzg51
  replace hzg56 : id _ := hzg56
  replace hzg59 : id _ := hzg59
  replace hzg62 : id _ := hzg62
  replace hzg65 : id _ := hzg65
  replace hzg66 : id _ := hzg66
  replace hzg70 : id _ := hzg70
  have zkm1 : (-1 : Int32).toInt = -1 := by decide +kernel
  have zk255 : (255 : Int32).toInt = 255 := by decide +kernel
  refine wp_jn (fun j22 => ∀ (t22_0 : Int32), ((-1) ≤ t22_0.toInt ∧ t22_0.toInt ≤ 255) → ((g 2).toInt ≤ p0.toInt → t22_0.toInt = -1) → (p0.toInt < (g 2).toInt → 0 ≤ t22_0.toInt) → (p0.toInt < (g 2).toInt → ((t22_0.toInt = ((F 0) (Int32.toNatClampNeg p0)).toInt ∧ 0 ≤ ((F 0) (Int32.toNatClampNeg p0)).toInt) ∨ (t22_0.toInt = ((F 0) (Int32.toNatClampNeg p0)).toInt + 256 ∧ ((F 0) (Int32.toNatClampNeg p0)).toInt < 0 ∧ -128 ≤ ((F 0) (Int32.toNatClampNeg p0)).toInt))) → wp (j22 t22_0) (QX_see g F p0)) ?_ ?_
  · intro t22_0 f1 f2 f3 jz22
    show wp _ _
    exact ⟨_, rfl, ⟨(show ((-1) ≤ t22_0.toInt ∧ t22_0.toInt ≤ 255) from by (first | omega | (simp only [id_eq] at *; omega))), (show ((g 2).toInt ≤ p0.toInt → t22_0.toInt = -1) from by (first | omega | (simp only [id_eq] at *; omega))), (show (p0.toInt < (g 2).toInt → 0 ≤ t22_0.toInt) from by (first | omega | (simp only [id_eq] at *; omega))), (show (p0.toInt < (g 2).toInt → ((t22_0.toInt = ((F 0) (Int32.toNatClampNeg p0)).toInt ∧ 0 ≤ ((F 0) (Int32.toNatClampNeg p0)).toInt) ∨ (t22_0.toInt = ((F 0) (Int32.toNatClampNeg p0)).toInt + 256 ∧ ((F 0) (Int32.toNatClampNeg p0)).toInt < 0 ∧ -128 ≤ ((F 0) (Int32.toNatClampNeg p0)).toInt))) from by exact jz22)⟩⟩
  intro j22 Jj22
  refine wp_ite (fun c5 => ?_) (fun c5 => ?_)
  · have c5 := (z_le _ _).mp c5
    exact Jj22 (-1 : Int32) (show ((-1) ≤ (-1 : Int32).toInt ∧ (-1 : Int32).toInt ≤ 255) from by (first | omega | (simp only [id_eq] at *; omega))) (show ((g 2).toInt ≤ p0.toInt → (-1 : Int32).toInt = -1) from by (first | omega | (simp only [id_eq] at *; omega))) (show (p0.toInt < (g 2).toInt → 0 ≤ (-1 : Int32).toInt) from by (first | omega | (simp only [id_eq] at *; omega))) (show (p0.toInt < (g 2).toInt → (((-1 : Int32).toInt = ((F 0) (Int32.toNatClampNeg p0)).toInt ∧ 0 ≤ ((F 0) (Int32.toNatClampNeg p0)).toInt) ∨ ((-1 : Int32).toInt = ((F 0) (Int32.toNatClampNeg p0)).toInt + 256 ∧ ((F 0) (Int32.toNatClampNeg p0)).toInt < 0 ∧ -128 ≤ ((F 0) (Int32.toNatClampNeg p0)).toInt))) from by first | (exact fun _ => and255 (hp1 _)) | (exact fun h => by (first | omega | (simp only [id_eq] at *; omega))))
  · have c5 := z_nle c5
    refine wp_if ⟨by (first | omega | (simp only [id_eq] at *; omega)), by (first | omega | (simp only [id_eq] at *; omega))⟩ ?_
    have f4 := z_and255 ((F 0) (Int32.toNatClampNeg p0))
    exact Jj22 (((F 0) (Int32.toNatClampNeg p0)) &&& 255) (show ((-1) ≤ (((F 0) (Int32.toNatClampNeg p0)) &&& 255).toInt ∧ (((F 0) (Int32.toNatClampNeg p0)) &&& 255).toInt ≤ 255) from by (first | omega | (simp only [id_eq] at *; omega))) (show ((g 2).toInt ≤ p0.toInt → (((F 0) (Int32.toNatClampNeg p0)) &&& 255).toInt = -1) from by (first | omega | (simp only [id_eq] at *; omega))) (show (p0.toInt < (g 2).toInt → 0 ≤ (((F 0) (Int32.toNatClampNeg p0)) &&& 255).toInt) from by (first | omega | (simp only [id_eq] at *; omega))) (show (p0.toInt < (g 2).toInt → (((((F 0) (Int32.toNatClampNeg p0)) &&& 255).toInt = ((F 0) (Int32.toNatClampNeg p0)).toInt ∧ 0 ≤ ((F 0) (Int32.toNatClampNeg p0)).toInt) ∨ ((((F 0) (Int32.toNatClampNeg p0)) &&& 255).toInt = ((F 0) (Int32.toNatClampNeg p0)).toInt + 256 ∧ ((F 0) (Int32.toNatClampNeg p0)).toInt < 0 ∧ -128 ≤ ((F 0) (Int32.toNatClampNeg p0)).toInt))) from by first | (exact fun _ => and255 (hp1 _)) | (exact fun h => by (first | omega | (simp only [id_eq] at *; omega))))
abbrev QX_keyAt (g : Nat → Int32) (F : Nat → Nat → Int32) (p0 : Int32) (p1 : Int32) : (Int32) → Prop := (fun t => (((-1) ≤ t.toInt ∧ t.toInt ≤ 8)) ∧ (((0 ≤ t.toInt ∧ t.toInt < 9 ∧ isk (F 0) (Int32.toNatClampNeg p0) (Int32.toNatClampNeg p1) t.toInt.toNat) ∨ (t.toInt = -1 ∧ ∀ k : Nat, k < 9 → ¬ isk (F 0) (Int32.toNatClampNeg p0) (Int32.toNatClampNeg p1) k))))
set_option maxHeartbeats 4000000 in
set_option maxRecDepth 100000 in
theorem fx_keyAt (g : Nat → Int32) (F : Nat → Nat → Int32) (p0 : Int32) (p1 : Int32) (hI : MInv g F) (hp0 : (0 ≤ p0.toInt ∧ p0.toInt ≤ 2001)) (hp1 : (0 ≤ p1.toInt ∧ p1.toInt ≤ 2001)) (hp2 : ∀ i, fits .byte (.int ((F 0) i)) = true) (hp3 : p0.toInt + p1.toInt ≤ (g 2).toInt) : wp (f_keyAt g F p0 p1) (QX_keyAt g F p0 p1) := by
  unfold f_keyAt
  obtain ⟨hzg1, hzg2, hzg3, hzg4, hzg5, hzg6, hzg7, hzg8, hzg9, hzg23, hzg27, hzg30, hzg34, hzg36, hzg39, hzg44, hzg47, hzg48, hzg51, hzg56, hzg59, hzg62, hzg65, hzg66, hzg70, hzF11, hzF12, hzF13, hzF15, hzF19, hzF21, hzF24, hzF25, hzF26, hzF33, hzF38, hzF41, hzF43, hzF45, hzF46, hzF50, hzF53, hzF54, hzLQ⟩ := hI
  replace hzg1 : id _ := hzg1
  replace hzg3 : id _ := hzg3
  replace hzg4 : id _ := hzg4
  replace hzg5 : id _ := hzg5
  replace hzg6 : id _ := hzg6
  replace hzg7 : id _ := hzg7
  replace hzg8 : id _ := hzg8
  replace hzg9 : id _ := hzg9
  replace hzg23 : id _ := hzg23
  replace hzg27 : id _ := hzg27
  replace hzg30 : id _ := hzg30
  replace hzg34 : id _ := hzg34
  replace hzg36 : id _ := hzg36
  replace hzg39 : id _ := hzg39
  replace hzg44 : id _ := hzg44
  replace hzg47 : id _ := hzg47
  replace hzg48 : id _ := hzg48
  replace hzg51 : id _ := hzg51
  replace hzg56 : id _ := hzg56
  replace hzg59 : id _ := hzg59
  replace hzg62 : id _ := hzg62
  replace hzg65 : id _ := hzg65
  replace hzg66 : id _ := hzg66
  replace hzg70 : id _ := hzg70
  have zkm1 : (-1 : Int32).toInt = -1 := by decide +kernel
  have zk0 : (0 : Int32).toInt = 0 := by decide +kernel
  have zk1 : (1 : Int32).toInt = 1 := by decide +kernel
  have zk32 : (32 : Int32).toInt = 32 := by decide +kernel
  have lp8 : ∀ (n8 : Nat) (y8_3 : Int32) (y8_4 : Int32) (y8_5 : Int32), (45 - y8_5.toInt).toNat < n8 → (0 ≤ y8_4.toInt ∧ y8_4.toInt ≤ y8_5.toInt ∧ y8_5.toInt ≤ 45) → y8_3.toInt = wcn (Int32.toNatClampNeg y8_5) → (y8_4.toInt = ((wfr (Int32.toNatClampNeg y8_5) : Nat) : Int)) → (∀ j : Nat, (j : Int) < y8_3.toInt → ¬ isk (F 0) (Int32.toNatClampNeg p0) (Int32.toNatClampNeg p1) j) → wp (L_keyAt_8 g F p0 p1 n8 y8_3 y8_4 y8_5) (QX_keyAt g F p0 p1) := by
    intro n8
    induction n8 with
    | zero => intro y8_3 y8_4 y8_5 hm; exact absurd hm (Nat.not_lt_zero _)
    | succ n8 ih8 =>
      intro y8_3 y8_4 y8_5 hm8 f1 f2 iq8 iw8
      show wp (B_keyAt_8 g F p0 p1 (L_keyAt_8 g F p0 p1 n8) y8_3 y8_4 y8_5) _
      unfold B_keyAt_8
      have hkw : (kwl 9).toInt = 45 := by decide +kernel
      refine wp_ite (fun c15 => ?_) (fun c15 => ?_)
      · have c15 := (z_le _ _).mp c15
        exact ⟨_, rfl, ⟨(show ((-1) ≤ (-1 : Int32).toInt ∧ (-1 : Int32).toInt ≤ 8) from by (first | omega | (simp only [id_eq] at *; omega))), (show ((0 ≤ (-1 : Int32).toInt ∧ (-1 : Int32).toInt < 9 ∧ isk (F 0) (Int32.toNatClampNeg p0) (Int32.toNatClampNeg p1) (-1 : Int32).toInt.toNat) ∨ ((-1 : Int32).toInt = -1 ∧ ∀ k : Nat, k < 9 → ¬ isk (F 0) (Int32.toNatClampNeg p0) (Int32.toNatClampNeg p1) k)) from by have e5 := clampI (x := y8_5) (by (first | omega | (simp only [id_eq] at *; omega))); have h3 : y8_3.toInt = wcn (Int32.toNatClampNeg y8_5) := (by assumption); rw [show Int32.toNatClampNeg y8_5 = 45 by (first | omega | (simp only [id_eq] at *; omega)), wcn_45] at h3; exact Or.inr ⟨by (first | omega | (simp only [id_eq] at *; omega)), fun k hk => iw8 k (by (first | omega | (simp only [id_eq] at *; omega)))⟩)⟩⟩
      · have c15 := z_nle c15
        refine wp_if (show inb y8_5 45 from ⟨by (first | omega | (simp only [id_eq] at *; omega)), by (first | omega | (simp only [id_eq] at *; omega))⟩) ?_
        have hwc := wc_all (Int32.toNatClampNeg y8_5) (by have := clampI (x := y8_5) (by (first | omega | (simp only [id_eq] at *; omega))); (first | omega | (simp only [id_eq] at *; omega)))
        have hn1 := nat_succ (x := y8_5) (by (first | omega | (simp only [id_eq] at *; omega))) (by (first | omega | (simp only [id_eq] at *; omega)))
        have hwp := wcn_nn (Int32.toNatClampNeg y8_5)
        have hwf := wfr_all (Int32.toNatClampNeg y8_5) (by have := clampI (x := y8_5) (by (first | omega | (simp only [id_eq] at *; omega))); (first | omega | (simp only [id_eq] at *; omega)))
        refine wp_jn (fun j113 => ∀ (x113_3 : Int32) (x113_4 : Int32), (0 ≤ x113_4.toInt ∧ x113_4.toInt ≤ y8_5.toInt + 1) → x113_3.toInt = wcn (Int32.toNatClampNeg y8_5 + 1) → (x113_4.toInt = ((wfr (Int32.toNatClampNeg y8_5 + 1) : Nat) : Int)) → (∀ j : Nat, (j : Int) < x113_3.toInt → ¬ isk (F 0) (Int32.toNatClampNeg p0) (Int32.toNatClampNeg p1) j) → wp (j113 x113_3 x113_4) (QX_keyAt g F p0 p1)) ?_ ?_
        · intro x113_3 x113_4 f3 f4 jq113 jw113
          show wp _ _
          have f5 : (y8_5 + 1).toInt = y8_5.toInt + (1) := z_addc (by decide +kernel) (by (first | omega | (simp only [id_eq] at *; omega))) (by (first | omega | (simp only [id_eq] at *; omega)))
          exact ih8 x113_3 x113_4 (y8_5 + 1) (show (45 - (y8_5 + 1).toInt).toNat < n8 from by (first | omega | (simp only [id_eq] at *; omega))) (show (0 ≤ x113_4.toInt ∧ x113_4.toInt ≤ (y8_5 + 1).toInt ∧ (y8_5 + 1).toInt ≤ 45) from by first | (first | omega | (simp only [id_eq] at *; omega)) | (rw [hn1]; (first | omega | (simp only [id_eq] at *; omega)))) (show x113_3.toInt = wcn (Int32.toNatClampNeg (y8_5 + 1)) from by first | (first | omega | (simp only [id_eq] at *; omega)) | (rw [hn1]; (first | omega | (simp only [id_eq] at *; omega)))) (show (x113_4.toInt = ((wfr (Int32.toNatClampNeg (y8_5 + 1)) : Nat) : Int)) from by rw [hn1]; exact jq113) (show (∀ j : Nat, (j : Int) < x113_3.toInt → ¬ isk (F 0) (Int32.toNatClampNeg p0) (Int32.toNatClampNeg p1) j) from by exact jw113)
        intro j113 Jj113
        refine wp_ite (fun c27 => ?_) (fun c27 => ?_)
        · have c27 := congrArg Int32.toInt c27
          have f6 : (y8_5 - y8_4).toInt = y8_5.toInt - y8_4.toInt := z_sub (by (first | omega | (simp only [id_eq] at *; omega))) (by (first | omega | (simp only [id_eq] at *; omega)))
          refine wp_jn (fun j47 => ∀ (t47_0 : Int32), (0 ≤ t47_0.toInt ∧ t47_0.toInt ≤ 1) → (t47_0.toInt ≠ 0 → y8_5.toInt - y8_4.toInt = p1.toInt) → (t47_0.toInt = 0 → y8_5.toInt - y8_4.toInt ≠ p1.toInt) → wp (j47 t47_0) (QX_keyAt g F p0 p1)) ?_ ?_
          · intro t47_0 f7 f8 f9
            show wp _ _
            obtain ⟨hw1, hw2, hw3, hw4, hw5, hw6⟩ := hwf.1 (by omega)
            have hq4 := iq8
            have ek := clampI (x := y8_5) (by (first | omega | (simp only [id_eq] at *; omega)))
            have ep1 := clampI (x := p1) (by (first | omega | (simp only [id_eq] at *; omega)))
            have ep0 := clampI (x := p0) (by (first | omega | (simp only [id_eq] at *; omega)))
            refine wp_jn (fun k97 => ∀ (x97_6 : Int32), (0 ≤ x97_6.toInt ∧ x97_6.toInt ≤ 1) → ((x97_6.toInt = 1 ∧ isk (F 0) (Int32.toNatClampNeg p0) (Int32.toNatClampNeg p1) (wcn (Int32.toNatClampNeg y8_5)).toNat) ∨ (x97_6.toInt = 0 ∧ ¬ isk (F 0) (Int32.toNatClampNeg p0) (Int32.toNatClampNeg p1) (wcn (Int32.toNatClampNeg y8_5)).toNat)) → wp (k97 x97_6) (QX_keyAt g F p0 p1)) ?_ ?_
            · intro x97_6 f10 jy97
              show wp _ _
              refine wp_ite (fun c99 => ?_) (fun c99 => ?_)
              · have c99 := congrArg Int32.toInt c99
                have f11 : (y8_3 + 1).toInt = y8_3.toInt + (1) := z_addc (by decide +kernel) (by (first | omega | (simp only [id_eq] at *; omega))) (by (first | omega | (simp only [id_eq] at *; omega)))
                have f12 : (y8_5 + 1).toInt = y8_5.toInt + 1 := z_addc (by decide +kernel) (by (first | omega | (simp only [id_eq] at *; omega))) (by (first | omega | (simp only [id_eq] at *; omega)))
                refine wp_vl (fun x111 ex111 => ?_)
                have f13 : x111.toInt = (y8_5 + 1).toInt := congrArg Int32.toInt ex111
                clear ex111
                exact Jj113 (y8_3 + 1) x111 (show (0 ≤ x111.toInt ∧ x111.toInt ≤ y8_5.toInt + 1) from by (first | omega | (simp only [id_eq] at *; omega))) (show (y8_3 + 1).toInt = wcn (Int32.toNatClampNeg y8_5 + 1) from by (first | omega | (simp only [id_eq] at *; omega))) (show (x111.toInt = ((wfr (Int32.toNatClampNeg y8_5 + 1) : Nat) : Int)) from by first | (have h := hwf.2 (by (first | omega | (simp only [id_eq] at *; omega))); have h0 := iq8; (first | omega | (simp only [id_eq] at *; omega))) | (have ek9 := clampI (x := y8_5) (by (first | omega | (simp only [id_eq] at *; omega))); have h := (hwf.1 (by (first | omega | (simp only [id_eq] at *; omega)))).1; (first | omega | (simp only [id_eq] at *; omega)))) (show (∀ j : Nat, (j : Int) < (y8_3 + 1).toInt → ¬ isk (F 0) (Int32.toNatClampNeg p0) (Int32.toNatClampNeg p1) j) from by first | exact iw8 | (intro j hj; have hy := jy97; by_cases q : (j : Int) < y8_3.toInt; (exact iw8 j q); (rw [show j = (wcn (Int32.toNatClampNeg y8_5)).toNat by (first | omega | (simp only [id_eq] at *; omega))]; exact (hy.resolve_left (fun z => by have := z.1; (first | omega | (simp only [id_eq] at *; omega)))).2)))
              · have c99 := z_ne c99
                exact ⟨_, rfl, ⟨(show ((-1) ≤ y8_3.toInt ∧ y8_3.toInt ≤ 8) from by (first | omega | (simp only [id_eq] at *; omega))), (show ((0 ≤ y8_3.toInt ∧ y8_3.toInt < 9 ∧ isk (F 0) (Int32.toNatClampNeg p0) (Int32.toNatClampNeg p1) y8_3.toInt.toNat) ∨ (y8_3.toInt = -1 ∧ ∀ k : Nat, k < 9 → ¬ isk (F 0) (Int32.toNatClampNeg p0) (Int32.toNatClampNeg p1) k)) from by have hy := jy97; exact Or.inl ⟨by (first | omega | (simp only [id_eq] at *; omega)), by (first | omega | (simp only [id_eq] at *; omega)), by rw [show y8_3.toInt.toNat = (wcn (Int32.toNatClampNeg y8_5)).toNat by (first | omega | (simp only [id_eq] at *; omega))]; exact (hy.resolve_right (fun z => by have := z.1; (first | omega | (simp only [id_eq] at *; omega)))).2⟩)⟩⟩
            intro k97 Jk97
            have lp52 : ∀ (n52 : Nat) (y52_6 : Int32) (y52_7 : Int32), (2001 - y52_7.toInt).toNat < n52 → 0 ≤ y52_7.toInt → (y52_6.toInt ≠ 0 → y8_5.toInt - y8_4.toInt = p1.toInt) → (0 ≤ y52_6.toInt ∧ y52_6.toInt ≤ 1) → (kmt (F 0) (Int32.toNatClampNeg p0) (Int32.toNatClampNeg p1) (wcn (Int32.toNatClampNeg y8_5)).toNat (Int32.toNatClampNeg y52_7) y52_6.toInt) → wp (L_keyAt_52 g F p0 p1 y8_4 k97 n52 y52_6 y52_7) (QX_keyAt g F p0 p1) := by
              intro n52
              induction n52 with
              | zero => intro y52_6 y52_7 hm; exact absurd hm (Nat.not_lt_zero _)
              | succ n52 ih52 =>
                intro y52_6 y52_7 hm52 f14 f15 f16 ix52
                show wp (B_keyAt_52 g F p0 p1 y8_4 k97 (L_keyAt_52 g F p0 p1 y8_4 k97 n52) y52_6 y52_7) _
                unfold B_keyAt_52
                refine wp_ite (fun c55 => ?_) (fun c55 => ?_)
                · have c55 := (z_le _ _).mp c55
                  exact Jk97 y52_6 (show (0 ≤ y52_6.toInt ∧ y52_6.toInt ≤ 1) from by (first | omega | (simp only [id_eq] at *; omega))) (show ((y52_6.toInt = 1 ∧ isk (F 0) (Int32.toNatClampNeg p0) (Int32.toNatClampNeg p1) (wcn (Int32.toNatClampNeg y8_5)).toNat) ∨ (y52_6.toInt = 0 ∧ ¬ isk (F 0) (Int32.toNatClampNeg p0) (Int32.toNatClampNeg p1) (wcn (Int32.toNatClampNeg y8_5)).toNat)) from by rcases (show y52_6.toInt = 0 ∨ y52_6.toInt = 1 by (first | omega | (simp only [id_eq] at *; omega))) with h | h; (exact Or.inr ⟨h, kmt_no ix52 h⟩); (exact Or.inl ⟨h, kmt_yes ix52 h (by have e7 := clampI (x := y52_7) (by (first | omega | (simp only [id_eq] at *; omega))); (first | omega | (simp only [id_eq] at *; omega)))⟩))
                · have c55 := z_nle c55
                  refine wp_ite (fun c60 => ?_) (fun c60 => ?_)
                  · have c60 := congrArg Int32.toInt c60
                    exact Jk97 y52_6 (show (0 ≤ y52_6.toInt ∧ y52_6.toInt ≤ 1) from by (first | omega | (simp only [id_eq] at *; omega))) (show ((y52_6.toInt = 1 ∧ isk (F 0) (Int32.toNatClampNeg p0) (Int32.toNatClampNeg p1) (wcn (Int32.toNatClampNeg y8_5)).toNat) ∨ (y52_6.toInt = 0 ∧ ¬ isk (F 0) (Int32.toNatClampNeg p0) (Int32.toNatClampNeg p1) (wcn (Int32.toNatClampNeg y8_5)).toNat)) from by rcases (show y52_6.toInt = 0 ∨ y52_6.toInt = 1 by (first | omega | (simp only [id_eq] at *; omega))) with h | h; (exact Or.inr ⟨h, kmt_no ix52 h⟩); (exact Or.inl ⟨h, kmt_yes ix52 h (by have e7 := clampI (x := y52_7) (by (first | omega | (simp only [id_eq] at *; omega))); (first | omega | (simp only [id_eq] at *; omega)))⟩))
                  · have c60 := z_ne c60
                    have f17 : (y8_4 + y52_7).toInt = y8_4.toInt + y52_7.toInt := z_add (by (first | omega | (simp only [id_eq] at *; omega))) (by (first | omega | (simp only [id_eq] at *; omega)))
                    refine wp_if (show inb (y8_4 + y52_7) 45 from ⟨by (first | omega | (simp only [id_eq] at *; omega)), by (first | omega | (simp only [id_eq] at *; omega))⟩) ?_
                    have f18 : (p0 + y52_7).toInt = p0.toInt + y52_7.toInt := z_add (by (first | omega | (simp only [id_eq] at *; omega))) (by (first | omega | (simp only [id_eq] at *; omega)))
                    obtain ⟨r78, hc78, hq78⟩ := fx_see g F (p0 + y52_7) ⟨hzg1, hzg2, hzg3, hzg4, hzg5, hzg6, hzg7, hzg8, hzg9, hzg23, hzg27, hzg30, hzg34, hzg36, hzg39, hzg44, hzg47, hzg48, hzg51, hzg56, hzg59, hzg62, hzg65, hzg66, hzg70, hzF11, hzF12, hzF13, hzF15, hzF19, hzF21, hzF24, hzF25, hzF26, hzF33, hzF38, hzF41, hzF43, hzF45, hzF46, hzF50, hzF53, hzF54, hzLQ⟩ (show 0 ≤ (p0 + y52_7).toInt from by (first | omega | (simp only [id_eq] at *; omega))) (show ∀ i, fits .byte (.int ((F 0) i)) = true from by assumption)
                    obtain ⟨f19, f20, f21, f22⟩ : (((-1) ≤ r78.toInt ∧ r78.toInt ≤ 255)) ∧ (id ((g 2).toInt ≤ (p0 + y52_7).toInt → r78.toInt = -1)) ∧ (id ((p0 + y52_7).toInt < (g 2).toInt → 0 ≤ r78.toInt)) ∧ (id ((p0 + y52_7).toInt < (g 2).toInt → ((r78.toInt = ((F 0) (Int32.toNatClampNeg (p0 + y52_7))).toInt ∧ 0 ≤ ((F 0) (Int32.toNatClampNeg (p0 + y52_7))).toInt) ∨ (r78.toInt = ((F 0) (Int32.toNatClampNeg (p0 + y52_7))).toInt + 256 ∧ ((F 0) (Int32.toNatClampNeg (p0 + y52_7))).toInt < 0 ∧ -128 ≤ ((F 0) (Int32.toNatClampNeg (p0 + y52_7))).toInt)))) := hq78
                    refine wp_b1 hc78 ?_
                    clear hc78
                    have hse := f22
                    have e7 := clampI (x := y52_7) (by (first | omega | (simp only [id_eq] at *; omega)))
                    have hml := kmt_len ix52 (by (first | omega | (simp only [id_eq] at *; omega)))
                    have h6 := hw6 (Int32.toNatClampNeg y52_7) (by (first | omega | (simp only [id_eq] at *; omega)))
                    have hkb := kws_b (wcn (Int32.toNatClampNeg y8_5)).toNat (by (first | omega | (simp only [id_eq] at *; omega))) (Int32.toNatClampNeg y52_7) (by (first | omega | (simp only [id_eq] at *; omega)))
                    have ea := clampI (x := y8_4 + y52_7) (by (first | omega | (simp only [id_eq] at *; omega)))
                    have eb := clampI (x := p0 + y52_7) (by (first | omega | (simp only [id_eq] at *; omega)))
                    rw [show wfr (Int32.toNatClampNeg y8_5) + Int32.toNatClampNeg y52_7 = Int32.toNatClampNeg (y8_4 + y52_7) by (first | omega | (simp only [id_eq] at *; omega))] at h6
                    rw [show Int32.toNatClampNeg (p0 + y52_7) = Int32.toNatClampNeg p0 + Int32.toNatClampNeg y52_7 by (first | omega | (simp only [id_eq] at *; omega))] at hse
                    refine wp_jn (fun j89 => ∀ (t89_0 : Int32), (0 ≤ t89_0.toInt ∧ t89_0.toInt ≤ 1) → ((t89_0.toInt = 1 ∧ ((F 0) (Int32.toNatClampNeg p0 + Int32.toNatClampNeg y52_7)).toInt = (kws (wcn (Int32.toNatClampNeg y8_5)).toNat).getD (Int32.toNatClampNeg y52_7) 0) ∨ (t89_0.toInt = 0 ∧ ((F 0) (Int32.toNatClampNeg p0 + Int32.toNatClampNeg y52_7)).toInt ≠ (kws (wcn (Int32.toNatClampNeg y8_5)).toNat).getD (Int32.toNatClampNeg y52_7) 0)) → wp (j89 t89_0) (QX_keyAt g F p0 p1)) ?_ ?_
                    · intro t89_0 f23 jx89
                      show wp _ _
                      have f24 : (y52_7 + 1).toInt = y52_7.toInt + (1) := z_addc (by decide +kernel) (by (first | omega | (simp only [id_eq] at *; omega))) (by (first | omega | (simp only [id_eq] at *; omega)))
                      exact ih52 t89_0 (y52_7 + 1) (show (2001 - (y52_7 + 1).toInt).toNat < n52 from by (first | omega | (simp only [id_eq] at *; omega))) (show 0 ≤ (y52_7 + 1).toInt from by (first | omega | (simp only [id_eq] at *; omega))) (show (t89_0.toInt ≠ 0 → y8_5.toInt - y8_4.toInt = p1.toInt) from by (first | omega | (simp only [id_eq] at *; omega))) (show (0 ≤ t89_0.toInt ∧ t89_0.toInt ≤ 1) from by (first | omega | (simp only [id_eq] at *; omega))) (show (kmt (F 0) (Int32.toNatClampNeg p0) (Int32.toNatClampNeg p1) (wcn (Int32.toNatClampNeg y8_5)).toNat (Int32.toNatClampNeg (y52_7 + 1)) t89_0.toInt) from by have e7 := clampI (x := y52_7) (by (first | omega | (simp only [id_eq] at *; omega))); have e8 := clampI (x := y52_7 + 1) (by (first | omega | (simp only [id_eq] at *; omega))); exact kmt_step ix52 (by (first | omega | (simp only [id_eq] at *; omega))) (by (first | omega | (simp only [id_eq] at *; omega))) (by (first | omega | (simp only [id_eq] at *; omega))) jx89)
                    intro j89 Jj89
                    refine wp_ite (fun c81 => ?_) (fun c81 => ?_)
                    · have c81 := congrArg Int32.toInt c81
                      exact Jj89 (1 : Int32) (show (0 ≤ (1 : Int32).toInt ∧ (1 : Int32).toInt ≤ 1) from by (first | omega | (simp only [id_eq] at *; omega))) (show (((1 : Int32).toInt = 1 ∧ ((F 0) (Int32.toNatClampNeg p0 + Int32.toNatClampNeg y52_7)).toInt = (kws (wcn (Int32.toNatClampNeg y8_5)).toNat).getD (Int32.toNatClampNeg y52_7) 0) ∨ ((1 : Int32).toInt = 0 ∧ ((F 0) (Int32.toNatClampNeg p0 + Int32.toNatClampNeg y52_7)).toInt ≠ (kws (wcn (Int32.toNatClampNeg y8_5)).toNat).getD (Int32.toNatClampNeg y52_7) 0)) from by (first | omega | (simp only [id_eq] at *; omega)))
                    · have c81 := z_ne c81
                      exact Jj89 (0 : Int32) (show (0 ≤ (0 : Int32).toInt ∧ (0 : Int32).toInt ≤ 1) from by (first | omega | (simp only [id_eq] at *; omega))) (show (((0 : Int32).toInt = 1 ∧ ((F 0) (Int32.toNatClampNeg p0 + Int32.toNatClampNeg y52_7)).toInt = (kws (wcn (Int32.toNatClampNeg y8_5)).toNat).getD (Int32.toNatClampNeg y52_7) 0) ∨ ((0 : Int32).toInt = 0 ∧ ((F 0) (Int32.toNatClampNeg p0 + Int32.toNatClampNeg y52_7)).toInt ≠ (kws (wcn (Int32.toNatClampNeg y8_5)).toNat).getD (Int32.toNatClampNeg y52_7) 0)) from by (first | omega | (simp only [id_eq] at *; omega)))
            exact lp52 NN t47_0 (0 : Int32) (by have := NN_eq; (first | omega | (simp only [id_eq] at *; omega))) (show 0 ≤ (0 : Int32).toInt from by (first | omega | (simp only [id_eq] at *; omega))) (show (t47_0.toInt ≠ 0 → y8_5.toInt - y8_4.toInt = p1.toInt) from by (first | omega | (simp only [id_eq] at *; omega))) (show (0 ≤ t47_0.toInt ∧ t47_0.toInt ≤ 1) from by (first | omega | (simp only [id_eq] at *; omega))) (show (kmt (F 0) (Int32.toNatClampNeg p0) (Int32.toNatClampNeg p1) (wcn (Int32.toNatClampNeg y8_5)).toNat (Int32.toNatClampNeg (0 : Int32)) t47_0.toInt) from by exact kmt_start (by decide) (by (first | omega | (simp only [id_eq] at *; omega))))
          intro j47 Jj47
          refine wp_ite (fun c39 => ?_) (fun c39 => ?_)
          · have c39 := congrArg Int32.toInt c39
            exact Jj47 (1 : Int32) (show (0 ≤ (1 : Int32).toInt ∧ (1 : Int32).toInt ≤ 1) from by (first | omega | (simp only [id_eq] at *; omega))) (show ((1 : Int32).toInt ≠ 0 → y8_5.toInt - y8_4.toInt = p1.toInt) from by (first | omega | (simp only [id_eq] at *; omega))) (show ((1 : Int32).toInt = 0 → y8_5.toInt - y8_4.toInt ≠ p1.toInt) from by (first | omega | (simp only [id_eq] at *; omega)))
          · have c39 := z_ne c39
            exact Jj47 (0 : Int32) (show (0 ≤ (0 : Int32).toInt ∧ (0 : Int32).toInt ≤ 1) from by (first | omega | (simp only [id_eq] at *; omega))) (show ((0 : Int32).toInt ≠ 0 → y8_5.toInt - y8_4.toInt = p1.toInt) from by (first | omega | (simp only [id_eq] at *; omega))) (show ((0 : Int32).toInt = 0 → y8_5.toInt - y8_4.toInt ≠ p1.toInt) from by (first | omega | (simp only [id_eq] at *; omega)))
        · have c27 := z_ne c27
          exact Jj113 y8_3 y8_4 (show (0 ≤ y8_4.toInt ∧ y8_4.toInt ≤ y8_5.toInt + 1) from by (first | omega | (simp only [id_eq] at *; omega))) (show y8_3.toInt = wcn (Int32.toNatClampNeg y8_5 + 1) from by (first | omega | (simp only [id_eq] at *; omega))) (show (y8_4.toInt = ((wfr (Int32.toNatClampNeg y8_5 + 1) : Nat) : Int)) from by first | (have h := hwf.2 (by (first | omega | (simp only [id_eq] at *; omega))); have h0 := iq8; (first | omega | (simp only [id_eq] at *; omega))) | (have ek9 := clampI (x := y8_5) (by (first | omega | (simp only [id_eq] at *; omega))); have h := (hwf.1 (by (first | omega | (simp only [id_eq] at *; omega)))).1; (first | omega | (simp only [id_eq] at *; omega)))) (show (∀ j : Nat, (j : Int) < y8_3.toInt → ¬ isk (F 0) (Int32.toNatClampNeg p0) (Int32.toNatClampNeg p1) j) from by first | exact iw8 | (intro j hj; have hy := NOIV_jy; by_cases q : (j : Int) < y8_3.toInt; (exact iw8 j q); (rw [show j = (wcn (Int32.toNatClampNeg y8_5)).toNat by (first | omega | (simp only [id_eq] at *; omega))]; exact (hy.resolve_left (fun z => by have := z.1; (first | omega | (simp only [id_eq] at *; omega)))).2)))
  exact lp8 NN (0 : Int32) (0 : Int32) (0 : Int32) (by have := NN_eq; (first | omega | (simp only [id_eq] at *; omega))) (show (0 ≤ (0 : Int32).toInt ∧ (0 : Int32).toInt ≤ (0 : Int32).toInt ∧ (0 : Int32).toInt ≤ 45) from by first | (first | omega | (simp only [id_eq] at *; omega)) | decide +kernel) (show (0 : Int32).toInt = wcn (Int32.toNatClampNeg (0 : Int32)) from by first | (first | omega | (simp only [id_eq] at *; omega)) | decide +kernel) (show ((0 : Int32).toInt = ((wfr (Int32.toNatClampNeg (0 : Int32)) : Nat) : Int)) from by decide +kernel) (show (∀ j : Nat, (j : Int) < (0 : Int32).toInt → ¬ isk (F 0) (Int32.toNatClampNeg p0) (Int32.toNatClampNeg p1) j) from by intro j hj; (first | omega | (simp only [id_eq] at *; omega)))
abbrev QX_scan (g : Nat → Int32) (F : Nat → Nat → Int32) : (Int32 × Int32 × Int32 × Int32) → Prop := (fun t => (((0) ≤ (t.1).toInt ∧ (t.1).toInt ≤ 4)) ∧ (((-1) ≤ (t.2.1).toInt ∧ (t.2.1).toInt ≤ 8)) ∧ (((0) ≤ (t.2.2.1).toInt ∧ (t.2.2.1).toInt ≤ 2001)) ∧ (((0) ≤ (t.2.2.2).toInt ∧ (t.2.2.2).toInt ≤ 2001)) ∧ (((t.1).toInt = 2 → (t.2.2.1).toInt + 2 ≤ (t.2.2.2).toInt ∧ (t.2.2.2).toInt ≤ (t.2.2.1).toInt + 18 ∧ (t.2.2.2).toInt ≤ 2000)) ∧ (((t.1).toInt ≠ 4 → (g 6).toInt < (t.2.2.2).toInt)) ∧ ((g 6).toInt ≤ (t.2.2.2).toInt) ∧ (TKS (F 0) (Int32.toNatClampNeg (g 2)) (Int32.toNatClampNeg (g 6)) (t.1).toInt (t.2.1).toInt (t.2.2.1).toInt (t.2.2.2).toInt))
set_option maxHeartbeats 4000000 in
set_option maxRecDepth 100000 in
theorem fx_scan (g : Nat → Int32) (F : Nat → Nat → Int32) (hI : MInv g F) (hp0 : ∀ i, fits .byte (.int ((F 0) i)) = true) : wp (f_scan g F) (QX_scan g F) := by
  unfold f_scan
  obtain ⟨hzg1, hzg2, hzg3, hzg4, hzg5, hzg6, hzg7, hzg8, hzg9, hzg23, hzg27, hzg30, hzg34, hzg36, hzg39, hzg44, hzg47, hzg48, hzg51, hzg56, hzg59, hzg62, hzg65, hzg66, hzg70, hzF11, hzF12, hzF13, hzF15, hzF19, hzF21, hzF24, hzF25, hzF26, hzF33, hzF38, hzF41, hzF43, hzF45, hzF46, hzF50, hzF53, hzF54, hzLQ⟩ := hI
  replace hzg1 : id _ := hzg1
  replace hzg3 : id _ := hzg3
  replace hzg5 : id _ := hzg5
  replace hzg7 : id _ := hzg7
  replace hzg8 : id _ := hzg8
  replace hzg9 : id _ := hzg9
  replace hzg23 : id _ := hzg23
  replace hzg27 : id _ := hzg27
  replace hzg30 : id _ := hzg30
  replace hzg34 : id _ := hzg34
  replace hzg36 : id _ := hzg36
  replace hzg39 : id _ := hzg39
  replace hzg44 : id _ := hzg44
  replace hzg47 : id _ := hzg47
  replace hzg48 : id _ := hzg48
  replace hzg51 : id _ := hzg51
  replace hzg56 : id _ := hzg56
  replace hzg59 : id _ := hzg59
  replace hzg62 : id _ := hzg62
  replace hzg65 : id _ := hzg65
  replace hzg66 : id _ := hzg66
  replace hzg70 : id _ := hzg70
  have zkm1 : (-1 : Int32).toInt = -1 := by decide +kernel
  have zk0 : (0 : Int32).toInt = 0 := by decide +kernel
  have zk1 : (1 : Int32).toInt = 1 := by decide +kernel
  have zk2 : (2 : Int32).toInt = 2 := by decide +kernel
  have zk3 : (3 : Int32).toInt = 3 := by decide +kernel
  have zk4 : (4 : Int32).toInt = 4 := by decide +kernel
  have zk10 : (10 : Int32).toInt = 10 := by decide +kernel
  have zk16 : (16 : Int32).toInt = 16 := by decide +kernel
  have zk32 : (32 : Int32).toInt = 32 := by decide +kernel
  have zk39 : (39 : Int32).toInt = 39 := by decide +kernel
  have zk59 : (59 : Int32).toInt = 59 := by decide +kernel
  refine wp_jn (fun k31 => ∀ (x31_1 : Int32), ((g 6).toInt ≤ x31_1.toInt ∧ x31_1.toInt ≤ 2001) → (tP (F 0) (Int32.toNatClampNeg (g 2)) (Int32.toNatClampNeg (g 6)) = tP (F 0) (Int32.toNatClampNeg (g 2)) (Int32.toNatClampNeg x31_1)) → (tP (F 0) (Int32.toNatClampNeg (g 2)) (Int32.toNatClampNeg (g 6)) = Int32.toNatClampNeg x31_1) → wp (k31 x31_1) (QX_scan g F)) ?_ ?_
  · intro x31_1 f1 ia31 jp31
    show wp _ _
    have e1 := clampI (x := x31_1) (by (first | omega | (simp only [id_eq] at *; omega)))
    have e0 := clampI (x := g 2) (by (first | omega | (simp only [id_eq] at *; omega)))
    have hg2 : ((0) ≤ x31_1.toInt ∧ x31_1.toInt ≤ 2001) := ⟨by (first | omega | (simp only [id_eq] at *; omega)), by (first | omega | (simp only [id_eq] at *; omega))⟩
    obtain ⟨r38, hc38, hq38⟩ := fx_see (upd g 5 x31_1) F x31_1 ⟨hzg1, hzg2, hzg3, hzg4, hg2, hzg6, hzg7, hzg8, hzg9, hzg23, hzg27, hzg30, hzg34, hzg36, hzg39, hzg44, hzg47, hzg48, hzg51, hzg56, hzg59, hzg62, hzg65, hzg66, hzg70, hzF11, hzF12, hzF13, hzF15, hzF19, hzF21, hzF24, hzF25, hzF26, hzF33, hzF38, hzF41, hzF43, hzF45, hzF46, hzF50, hzF53, hzF54, hzLQ⟩ (show 0 ≤ x31_1.toInt from by (first | omega | (simp only [id_eq] at *; omega))) (show ∀ i, fits .byte (.int ((F 0) i)) = true from by assumption)
    obtain ⟨f3, f4, f5, f6⟩ : (((-1) ≤ r38.toInt ∧ r38.toInt ≤ 255)) ∧ (id ((g 2).toInt ≤ x31_1.toInt → r38.toInt = -1)) ∧ (id (x31_1.toInt < (g 2).toInt → 0 ≤ r38.toInt)) ∧ (id (x31_1.toInt < (g 2).toInt → ((r38.toInt = ((F 0) (Int32.toNatClampNeg x31_1)).toInt ∧ 0 ≤ ((F 0) (Int32.toNatClampNeg x31_1)).toInt) ∨ (r38.toInt = ((F 0) (Int32.toNatClampNeg x31_1)).toInt + 256 ∧ ((F 0) (Int32.toNatClampNeg x31_1)).toInt < 0 ∧ -128 ≤ ((F 0) (Int32.toNatClampNeg x31_1)).toInt)))) := hq38
    refine wp_b1 hc38 ?_
    clear hc38
    have hs38 := f6
    have f7 : (x31_1 + 1).toInt = x31_1.toInt + 1 := z_addc (by decide +kernel) (by (first | omega | (simp only [id_eq] at *; omega))) (by (first | omega | (simp only [id_eq] at *; omega)))
    refine wp_vl (fun x45 ex45 => ?_)
    have f8 : x45.toInt = (x31_1 + 1).toInt := congrArg Int32.toInt ex45
    clear ex45
    refine wp_jn (fun j190 => ∀ (x190_3 : Int32) (c190_g3 : Int32) (c190_g4 : Int32), ((0) ≤ c190_g3.toInt ∧ c190_g3.toInt ≤ 4) → ((-1) ≤ c190_g4.toInt ∧ c190_g4.toInt ≤ 8) → (c190_g3.toInt = 2 → x31_1.toInt + 2 ≤ x190_3.toInt ∧ x190_3.toInt ≤ x31_1.toInt + 18 ∧ x190_3.toInt ≤ 2000) → (c190_g3.toInt ≠ 4 → (g 6).toInt < x190_3.toInt) → (x190_3.toInt ≤ 2001 ∧ 0 ≤ x190_3.toInt) → (g 6).toInt ≤ x190_3.toInt → (TKS (F 0) (Int32.toNatClampNeg (g 2)) (Int32.toNatClampNeg (g 6)) c190_g3.toInt c190_g4.toInt x31_1.toInt x190_3.toInt) → wp (j190 x190_3 c190_g3 c190_g4) (QX_scan g F)) ?_ ?_
    · intro x190_3 c190_g3 c190_g4 hg9 hg10 f11 f12 f13 f14 jt190
      show wp _ _
      have hg15 : ((0) ≤ x190_3.toInt ∧ x190_3.toInt ≤ 2001) := ⟨by (first | omega | (simp only [id_eq] at *; omega)), by (first | omega | (simp only [id_eq] at *; omega))⟩
      exact ⟨_, rfl, ⟨hg9, hg10, hg2, hg15, (show (c190_g3.toInt = 2 → x31_1.toInt + 2 ≤ x190_3.toInt ∧ x190_3.toInt ≤ x31_1.toInt + 18 ∧ x190_3.toInt ≤ 2000) from by (first | omega | (simp only [id_eq] at *; omega))), (show (c190_g3.toInt ≠ 4 → (g 6).toInt < x190_3.toInt) from by (first | omega | (simp only [id_eq] at *; omega))), (show (g 6).toInt ≤ x190_3.toInt from by (first | omega | (simp only [id_eq] at *; omega))), (show TKS (F 0) (Int32.toNatClampNeg (g 2)) (Int32.toNatClampNeg (g 6)) c190_g3.toInt c190_g4.toInt x31_1.toInt x190_3.toInt from by exact jt190)⟩⟩
    intro j190 Jj190
    refine wp_ite (fun c48 => ?_) (fun c48 => ?_)
    · have c48 := congrArg Int32.toInt c48
      have hg16 : ((0) ≤ (4 : Int32).toInt ∧ (4 : Int32).toInt ≤ 4) := ⟨by (first | omega | (simp only [id_eq] at *; omega)), by (first | omega | (simp only [id_eq] at *; omega))⟩
      exact Jj190 x31_1 (4 : Int32) (g 4) hg16 hzg4 (show ((4 : Int32).toInt = 2 → x31_1.toInt + 2 ≤ x31_1.toInt ∧ x31_1.toInt ≤ x31_1.toInt + 18 ∧ x31_1.toInt ≤ 2000) from by (first | omega | (simp only [id_eq] at *; omega))) (show ((4 : Int32).toInt ≠ 4 → (g 6).toInt < x31_1.toInt) from by (first | omega | (simp only [id_eq] at *; omega))) (show (x31_1.toInt ≤ 2001 ∧ 0 ≤ x31_1.toInt) from by (first | omega | (simp only [id_eq] at *; omega))) (show (g 6).toInt ≤ x31_1.toInt from by (first | omega | (simp only [id_eq] at *; omega))) (show (TKS (F 0) (Int32.toNatClampNeg (g 2)) (Int32.toNatClampNeg (g 6)) (4 : Int32).toInt (g 4).toInt x31_1.toInt x31_1.toInt) from by first | (exact tks_end jp31 (by (first | omega | (simp only [id_eq] at *; omega))) (by (first | omega | (simp only [id_eq] at *; omega))) (by (first | omega | (simp only [id_eq] at *; omega))) (by (first | omega | (simp only [id_eq] at *; omega)))) | (have hj := NOIV_js; exact tks_sign jp31 (by (first | omega | (simp only [id_eq] at *; omega))) (fun q => by have h1 := q.1; have h2 := q.2; (first | omega | (simp only [id_eq] at *; omega))) (by (first | omega | (simp only [id_eq] at *; omega))) (by (first | omega | (simp only [id_eq] at *; omega))) (by (first | omega | (simp only [id_eq] at *; omega))) (by (first | omega | (simp only [id_eq] at *; omega)))) | (have hj := NOIV_jo; rw [show Int32.toNatClampNeg x140_3 = (Int32.toNatClampNeg x31_1) + 1 + (Int32.toNatClampNeg x140_3 - ((Int32.toNatClampNeg x31_1) + 1)) by (first | omega | (simp only [id_eq] at *; omega))] at hj; exact tks_let (m := Int32.toNatClampNeg x140_3 - ((Int32.toNatClampNeg x31_1) + 1)) jp31 (by (first | omega | (simp only [id_eq] at *; omega))) (by (first | omega | (simp only [id_eq] at *; omega))) NOIV_je (by (first | omega | (simp only [id_eq] at *; omega))) (by (first | omega | (simp only [id_eq] at *; omega))) (by (first | omega | (simp only [id_eq] at *; omega)))) | (have hk := NOIV_jk; have hkw : Int32.toNatClampNeg (x85_3 - x31_1) = Int32.toNatClampNeg x85_3 - (Int32.toNatClampNeg x31_1) := (by have e9 := clampI (x := x85_3 - x31_1) (by (first | omega | (simp only [id_eq] at *; omega))); (first | omega | (simp only [id_eq] at *; omega))); exact tks_word (m := Int32.toNatClampNeg x85_3 - (Int32.toNatClampNeg x31_1)) jp31 (by (first | omega | (simp only [id_eq] at *; omega))) ⟨by (first | omega | (simp only [id_eq] at *; omega)), by (first | omega | (simp only [id_eq] at *; omega))⟩ NOIV_jc (by (first | omega | (simp only [id_eq] at *; omega))) (by (first | omega | (simp only [id_eq] at *; omega))) (by rcases hka with ⟨h1, h2, h3⟩ | ⟨h1, h2⟩; (exact Or.inl ⟨by (first | omega | (simp only [id_eq] at *; omega)), by (first | omega | (simp only [id_eq] at *; omega)), by (first | omega | (simp only [id_eq] at *; omega)), by rw [← hkw]; exact h3⟩); (exact Or.inr ⟨by (first | omega | (simp only [id_eq] at *; omega)), fun k hk9 => by rw [← hkw]; exact h2 k hk9⟩))))
    · have c48 := z_ne c48
      obtain ⟨r62, hc62, hq62⟩ := ok_isSmall r38 
      obtain ⟨f17, f18, f19⟩ : (id (r62.toInt = 1 → 97 ≤ r38.toInt ∧ r38.toInt ≤ 122)) ∧ (id (r62.toInt = 0 → r38.toInt < 97 ∨ 122 < r38.toInt)) ∧ ((0 ≤ r62.toInt ∧ r62.toInt ≤ 1)) := hq62
      refine wp_b1 hc62 ?_
      clear hc62
      refine wp_ite (fun c65 => ?_) (fun c65 => ?_)
      · have c65 := congrArg Int32.toInt c65
        refine wp_ite (fun c120 => ?_) (fun c120 => ?_)
        · have c120 := congrArg Int32.toInt c120
          refine wp_jn (fun k140 => ∀ (x140_3 : Int32), (x31_1.toInt + 1 ≤ x140_3.toInt ∧ x140_3.toInt ≤ (g 2).toInt) → (tRn (F 0) (Int32.toNatClampNeg (g 2)) ((Int32.toNatClampNeg x31_1) + 1) = Int32.toNatClampNeg x140_3 - ((Int32.toNatClampNeg x31_1) + 1) + tRn (F 0) (Int32.toNatClampNeg (g 2)) (Int32.toNatClampNeg x140_3)) → (tRn (F 0) (Int32.toNatClampNeg (g 2)) ((Int32.toNatClampNeg x31_1) + 1) = Int32.toNatClampNeg x140_3 - ((Int32.toNatClampNeg x31_1) + 1)) → wp (k140 x140_3) (QX_scan g F)) ?_ ?_
          · intro x140_3 f20 id140 je140
            show wp _ _
            have e3 := clampI (x := x140_3) (by (first | omega | (simp only [id_eq] at *; omega)))
            obtain ⟨r143, hc143, hq143⟩ := fx_see (upd g 5 x31_1) F x140_3 ⟨hzg1, hzg2, hzg3, hzg4, hg2, hzg6, hzg7, hzg8, hzg9, hzg23, hzg27, hzg30, hzg34, hzg36, hzg39, hzg44, hzg47, hzg48, hzg51, hzg56, hzg59, hzg62, hzg65, hzg66, hzg70, hzF11, hzF12, hzF13, hzF15, hzF19, hzF21, hzF24, hzF25, hzF26, hzF33, hzF38, hzF41, hzF43, hzF45, hzF46, hzF50, hzF53, hzF54, hzLQ⟩ (show 0 ≤ x140_3.toInt from by (first | omega | (simp only [id_eq] at *; omega))) (show ∀ i, fits .byte (.int ((F 0) i)) = true from by assumption)
            obtain ⟨f21, f22, f23, f24⟩ : (((-1) ≤ r143.toInt ∧ r143.toInt ≤ 255)) ∧ (id ((g 2).toInt ≤ x140_3.toInt → r143.toInt = -1)) ∧ (id (x140_3.toInt < (g 2).toInt → 0 ≤ r143.toInt)) ∧ (id (x140_3.toInt < (g 2).toInt → ((r143.toInt = ((F 0) (Int32.toNatClampNeg x140_3)).toInt ∧ 0 ≤ ((F 0) (Int32.toNatClampNeg x140_3)).toInt) ∨ (r143.toInt = ((F 0) (Int32.toNatClampNeg x140_3)).toInt + 256 ∧ ((F 0) (Int32.toNatClampNeg x140_3)).toInt < 0 ∧ -128 ≤ ((F 0) (Int32.toNatClampNeg x140_3)).toInt)))) := hq143
            refine wp_b1 hc143 ?_
            clear hc143
            have hs143 := f24
            refine wp_jn (fun j166 => ∀ (t166_0 : Int32), (t166_0.toInt = 2 → x140_3.toInt < (g 2).toInt ∧ x140_3.toInt ≤ x31_1.toInt + 17) → (t166_0.toInt = 0 ∨ t166_0.toInt = 2) → ((t166_0.toInt = 2 ∧ x140_3.toInt - x31_1.toInt - 1 ≤ 16 ∧ x140_3.toInt < (g 2).toInt ∧ ((F 0) (Int32.toNatClampNeg x140_3)).toInt = 39) ∨ (t166_0.toInt = 0 ∧ ¬ (x140_3.toInt - x31_1.toInt - 1 ≤ 16 ∧ x140_3.toInt < (g 2).toInt ∧ ((F 0) (Int32.toNatClampNeg x140_3)).toInt = 39))) → wp (j166 t166_0) (QX_scan g F)) ?_ ?_
            · intro t166_0 f25 f26 jo166
              show wp _ _
              have hg27 : ((0) ≤ t166_0.toInt ∧ t166_0.toInt ≤ 4) := ⟨by (first | omega | (simp only [id_eq] at *; omega)), by (first | omega | (simp only [id_eq] at *; omega))⟩
              have f28 : (x140_3 + 1).toInt = x140_3.toInt + (1) := z_addc (by decide +kernel) (by (first | omega | (simp only [id_eq] at *; omega))) (by (first | omega | (simp only [id_eq] at *; omega)))
              exact Jj190 (x140_3 + 1) t166_0 (g 4) hg27 hzg4 (show (t166_0.toInt = 2 → x31_1.toInt + 2 ≤ (x140_3 + 1).toInt ∧ (x140_3 + 1).toInt ≤ x31_1.toInt + 18 ∧ (x140_3 + 1).toInt ≤ 2000) from by (first | omega | (simp only [id_eq] at *; omega))) (show (t166_0.toInt ≠ 4 → (g 6).toInt < (x140_3 + 1).toInt) from by (first | omega | (simp only [id_eq] at *; omega))) (show ((x140_3 + 1).toInt ≤ 2001 ∧ 0 ≤ (x140_3 + 1).toInt) from by (first | omega | (simp only [id_eq] at *; omega))) (show (g 6).toInt ≤ (x140_3 + 1).toInt from by (first | omega | (simp only [id_eq] at *; omega))) (show (TKS (F 0) (Int32.toNatClampNeg (g 2)) (Int32.toNatClampNeg (g 6)) t166_0.toInt (g 4).toInt x31_1.toInt (x140_3 + 1).toInt) from by first | (exact tks_end jp31 (by (first | omega | (simp only [id_eq] at *; omega))) (by (first | omega | (simp only [id_eq] at *; omega))) (by (first | omega | (simp only [id_eq] at *; omega))) (by (first | omega | (simp only [id_eq] at *; omega)))) | (have hj := NOIV_js; exact tks_sign jp31 (by (first | omega | (simp only [id_eq] at *; omega))) (fun q => by have h1 := q.1; have h2 := q.2; (first | omega | (simp only [id_eq] at *; omega))) (by (first | omega | (simp only [id_eq] at *; omega))) (by (first | omega | (simp only [id_eq] at *; omega))) (by (first | omega | (simp only [id_eq] at *; omega))) (by (first | omega | (simp only [id_eq] at *; omega)))) | (have hj := jo166; rw [show Int32.toNatClampNeg x140_3 = (Int32.toNatClampNeg x31_1) + 1 + (Int32.toNatClampNeg x140_3 - ((Int32.toNatClampNeg x31_1) + 1)) by (first | omega | (simp only [id_eq] at *; omega))] at hj; exact tks_let (m := Int32.toNatClampNeg x140_3 - ((Int32.toNatClampNeg x31_1) + 1)) jp31 (by (first | omega | (simp only [id_eq] at *; omega))) (by (first | omega | (simp only [id_eq] at *; omega))) je140 (by (first | omega | (simp only [id_eq] at *; omega))) (by (first | omega | (simp only [id_eq] at *; omega))) (by (first | omega | (simp only [id_eq] at *; omega)))) | (have hk := NOIV_jk; have hkw : Int32.toNatClampNeg (x85_3 - x31_1) = Int32.toNatClampNeg x85_3 - (Int32.toNatClampNeg x31_1) := (by have e9 := clampI (x := x85_3 - x31_1) (by (first | omega | (simp only [id_eq] at *; omega))); (first | omega | (simp only [id_eq] at *; omega))); exact tks_word (m := Int32.toNatClampNeg x85_3 - (Int32.toNatClampNeg x31_1)) jp31 (by (first | omega | (simp only [id_eq] at *; omega))) ⟨by (first | omega | (simp only [id_eq] at *; omega)), by (first | omega | (simp only [id_eq] at *; omega))⟩ NOIV_jc (by (first | omega | (simp only [id_eq] at *; omega))) (by (first | omega | (simp only [id_eq] at *; omega))) (by rcases hka with ⟨h1, h2, h3⟩ | ⟨h1, h2⟩; (exact Or.inl ⟨by (first | omega | (simp only [id_eq] at *; omega)), by (first | omega | (simp only [id_eq] at *; omega)), by (first | omega | (simp only [id_eq] at *; omega)), by rw [← hkw]; exact h3⟩); (exact Or.inr ⟨by (first | omega | (simp only [id_eq] at *; omega)), fun k hk9 => by rw [← hkw]; exact h2 k hk9⟩))))
            intro j166 Jj166
            refine wp_jn (fun j165 => (¬ (x140_3.toInt - x31_1.toInt - 1 ≤ 16 ∧ x140_3.toInt < (g 2).toInt ∧ ((F 0) (Int32.toNatClampNeg x140_3)).toInt = 39)) → wp (j165 ()) (QX_scan g F)) ?_ ?_
            · intro jn165
              show wp _ _
              exact Jj166 (0 : Int32) (show ((0 : Int32).toInt = 2 → x140_3.toInt < (g 2).toInt ∧ x140_3.toInt ≤ x31_1.toInt + 17) from by (first | omega | (simp only [id_eq] at *; omega))) (show ((0 : Int32).toInt = 0 ∨ (0 : Int32).toInt = 2) from by (first | omega | (simp only [id_eq] at *; omega))) (show (((0 : Int32).toInt = 2 ∧ x140_3.toInt - x31_1.toInt - 1 ≤ 16 ∧ x140_3.toInt < (g 2).toInt ∧ ((F 0) (Int32.toNatClampNeg x140_3)).toInt = 39) ∨ ((0 : Int32).toInt = 0 ∧ ¬ (x140_3.toInt - x31_1.toInt - 1 ≤ 16 ∧ x140_3.toInt < (g 2).toInt ∧ ((F 0) (Int32.toNatClampNeg x140_3)).toInt = 39))) from by (first | omega | (simp only [id_eq] at *; omega)))
            intro j165 Jj165
            refine wp_ite (fun c148 => ?_) (fun c148 => ?_)
            · have c148 := congrArg Int32.toInt c148
              have f29 : (x140_3 - x31_1).toInt = x140_3.toInt - x31_1.toInt := z_sub (by (first | omega | (simp only [id_eq] at *; omega))) (by (first | omega | (simp only [id_eq] at *; omega)))
              have f30 : ((x140_3 - x31_1) - 1).toInt = (x140_3 - x31_1).toInt - 1 := z_subc (by decide +kernel) (by (first | omega | (simp only [id_eq] at *; omega))) (by (first | omega | (simp only [id_eq] at *; omega)))
              refine wp_ite (fun c158 => ?_) (fun c158 => ?_)
              · have c158 := (z_lt _ _).mp c158
                exact Jj165 (show (¬ (x140_3.toInt - x31_1.toInt - 1 ≤ 16 ∧ x140_3.toInt < (g 2).toInt ∧ ((F 0) (Int32.toNatClampNeg x140_3)).toInt = 39)) from by (first | omega | (simp only [id_eq] at *; omega)))
              · have c158 := z_nlt c158
                exact Jj166 (2 : Int32) (show ((2 : Int32).toInt = 2 → x140_3.toInt < (g 2).toInt ∧ x140_3.toInt ≤ x31_1.toInt + 17) from by (first | omega | (simp only [id_eq] at *; omega))) (show ((2 : Int32).toInt = 0 ∨ (2 : Int32).toInt = 2) from by (first | omega | (simp only [id_eq] at *; omega))) (show (((2 : Int32).toInt = 2 ∧ x140_3.toInt - x31_1.toInt - 1 ≤ 16 ∧ x140_3.toInt < (g 2).toInt ∧ ((F 0) (Int32.toNatClampNeg x140_3)).toInt = 39) ∨ ((2 : Int32).toInt = 0 ∧ ¬ (x140_3.toInt - x31_1.toInt - 1 ≤ 16 ∧ x140_3.toInt < (g 2).toInt ∧ ((F 0) (Int32.toNatClampNeg x140_3)).toInt = 39))) from by (first | omega | (simp only [id_eq] at *; omega)))
            · have c148 := z_ne c148
              exact Jj165 (show (¬ (x140_3.toInt - x31_1.toInt - 1 ≤ 16 ∧ x140_3.toInt < (g 2).toInt ∧ ((F 0) (Int32.toNatClampNeg x140_3)).toInt = 39)) from by (first | omega | (simp only [id_eq] at *; omega)))
          intro k140 Jk140
          have lp123 : ∀ (n123 : Nat) (y123_3 : Int32), (2001 - y123_3.toInt).toNat < n123 → (x31_1.toInt + 1 ≤ y123_3.toInt ∧ y123_3.toInt ≤ (g 2).toInt) → (tRn (F 0) (Int32.toNatClampNeg (g 2)) ((Int32.toNatClampNeg x31_1) + 1) = Int32.toNatClampNeg y123_3 - ((Int32.toNatClampNeg x31_1) + 1) + tRn (F 0) (Int32.toNatClampNeg (g 2)) (Int32.toNatClampNeg y123_3)) → wp (L_scan_123 g F x31_1 k140 n123 y123_3) (QX_scan g F) := by
            intro n123
            induction n123 with
            | zero => intro y123_3 hm; exact absurd hm (Nat.not_lt_zero _)
            | succ n123 ih123 =>
              intro y123_3 hm123 f31 id123
              show wp (B_scan_123 g F x31_1 k140 (L_scan_123 g F x31_1 k140 n123) y123_3) _
              unfold B_scan_123
              have e3 := clampI (x := y123_3) (by (first | omega | (simp only [id_eq] at *; omega)))
              obtain ⟨r125, hc125, hq125⟩ := fx_see (upd g 5 x31_1) F y123_3 ⟨hzg1, hzg2, hzg3, hzg4, hg2, hzg6, hzg7, hzg8, hzg9, hzg23, hzg27, hzg30, hzg34, hzg36, hzg39, hzg44, hzg47, hzg48, hzg51, hzg56, hzg59, hzg62, hzg65, hzg66, hzg70, hzF11, hzF12, hzF13, hzF15, hzF19, hzF21, hzF24, hzF25, hzF26, hzF33, hzF38, hzF41, hzF43, hzF45, hzF46, hzF50, hzF53, hzF54, hzLQ⟩ (show 0 ≤ y123_3.toInt from by (first | omega | (simp only [id_eq] at *; omega))) (show ∀ i, fits .byte (.int ((F 0) i)) = true from by assumption)
              obtain ⟨f32, f33, f34, f35⟩ : (((-1) ≤ r125.toInt ∧ r125.toInt ≤ 255)) ∧ (id ((g 2).toInt ≤ y123_3.toInt → r125.toInt = -1)) ∧ (id (y123_3.toInt < (g 2).toInt → 0 ≤ r125.toInt)) ∧ (id (y123_3.toInt < (g 2).toInt → ((r125.toInt = ((F 0) (Int32.toNatClampNeg y123_3)).toInt ∧ 0 ≤ ((F 0) (Int32.toNatClampNeg y123_3)).toInt) ∨ (r125.toInt = ((F 0) (Int32.toNatClampNeg y123_3)).toInt + 256 ∧ ((F 0) (Int32.toNatClampNeg y123_3)).toInt < 0 ∧ -128 ≤ ((F 0) (Int32.toNatClampNeg y123_3)).toInt)))) := hq125
              refine wp_b1 hc125 ?_
              clear hc125
              have hs125 := f35
              obtain ⟨r128, hc128, hq128⟩ := ok_isSmall r125 
              obtain ⟨f36, f37, f38⟩ : (id (r128.toInt = 1 → 97 ≤ r125.toInt ∧ r125.toInt ≤ 122)) ∧ (id (r128.toInt = 0 → r125.toInt < 97 ∨ 122 < r125.toInt)) ∧ ((0 ≤ r128.toInt ∧ r128.toInt ≤ 1)) := hq128
              refine wp_b1 hc128 ?_
              clear hc128
              refine wp_ite (fun c131 => ?_) (fun c131 => ?_)
              · have c131 := congrArg Int32.toInt c131
                exact Jk140 y123_3 (show (x31_1.toInt + 1 ≤ y123_3.toInt ∧ y123_3.toInt ≤ (g 2).toInt) from by (first | omega | (simp only [id_eq] at *; omega))) (show (tRn (F 0) (Int32.toNatClampNeg (g 2)) ((Int32.toNatClampNeg x31_1) + 1) = Int32.toNatClampNeg y123_3 - ((Int32.toNatClampNeg x31_1) + 1) + tRn (F 0) (Int32.toNatClampNeg (g 2)) (Int32.toNatClampNeg y123_3)) from by first | exact id123 | (have h := tRn_step (f := F 0) (n := (Int32.toNatClampNeg (g 2))) (s := Int32.toNatClampNeg y123_3) (by (first | omega | (simp only [id_eq] at *; omega))) ⟨by (first | omega | (simp only [id_eq] at *; omega)), by (first | omega | (simp only [id_eq] at *; omega))⟩; have e4 := clampI (x := y123_3 + 1) (by (first | omega | (simp only [id_eq] at *; omega))); have h0 := id123; rw [show Int32.toNatClampNeg (y123_3 + 1) = Int32.toNatClampNeg y123_3 + 1 by (first | omega | (simp only [id_eq] at *; omega))]; (first | omega | (simp only [id_eq] at *; omega)))) (show (tRn (F 0) (Int32.toNatClampNeg (g 2)) ((Int32.toNatClampNeg x31_1) + 1) = Int32.toNatClampNeg y123_3 - ((Int32.toNatClampNeg x31_1) + 1)) from by have h := tRn_stop (f := F 0) (n := (Int32.toNatClampNeg (g 2))) (s := Int32.toNatClampNeg y123_3) (fun q => by have h1 := q.1; have h2 := q.2.1; have h3 := q.2.2; (first | omega | (simp only [id_eq] at *; omega))); have h0 := id123; (first | omega | (simp only [id_eq] at *; omega)))
              · have c131 := z_ne c131
                have f39 : (y123_3 + 1).toInt = y123_3.toInt + (1) := z_addc (by decide +kernel) (by (first | omega | (simp only [id_eq] at *; omega))) (by (first | omega | (simp only [id_eq] at *; omega)))
                exact ih123 (y123_3 + 1) (show (2001 - (y123_3 + 1).toInt).toNat < n123 from by (first | omega | (simp only [id_eq] at *; omega))) (show (x31_1.toInt + 1 ≤ (y123_3 + 1).toInt ∧ (y123_3 + 1).toInt ≤ (g 2).toInt) from by (first | omega | (simp only [id_eq] at *; omega))) (show (tRn (F 0) (Int32.toNatClampNeg (g 2)) ((Int32.toNatClampNeg x31_1) + 1) = Int32.toNatClampNeg (y123_3 + 1) - ((Int32.toNatClampNeg x31_1) + 1) + tRn (F 0) (Int32.toNatClampNeg (g 2)) (Int32.toNatClampNeg (y123_3 + 1))) from by have h := tRn_step (f := F 0) (n := (Int32.toNatClampNeg (g 2))) (s := Int32.toNatClampNeg y123_3) (by (first | omega | (simp only [id_eq] at *; omega))) ⟨by (first | omega | (simp only [id_eq] at *; omega)), by (first | omega | (simp only [id_eq] at *; omega))⟩; have e4 := clampI (x := y123_3 + 1) (by (first | omega | (simp only [id_eq] at *; omega))); have h0 := id123; rw [show Int32.toNatClampNeg (y123_3 + 1) = Int32.toNatClampNeg y123_3 + 1 by (first | omega | (simp only [id_eq] at *; omega))]; (first | omega | (simp only [id_eq] at *; omega)))
          exact lp123 NN x45 (by have := NN_eq; (first | omega | (simp only [id_eq] at *; omega))) (show (x31_1.toInt + 1 ≤ x45.toInt ∧ x45.toInt ≤ (g 2).toInt) from by (first | omega | (simp only [id_eq] at *; omega))) (show (tRn (F 0) (Int32.toNatClampNeg (g 2)) ((Int32.toNatClampNeg x31_1) + 1) = Int32.toNatClampNeg x45 - ((Int32.toNatClampNeg x31_1) + 1) + tRn (F 0) (Int32.toNatClampNeg (g 2)) (Int32.toNatClampNeg x45)) from by have e4 := clampI (x := x45) (by (first | omega | (simp only [id_eq] at *; omega))); rw [show Int32.toNatClampNeg x45 = (Int32.toNatClampNeg x31_1) + 1 by (first | omega | (simp only [id_eq] at *; omega))]; (first | omega | (simp only [id_eq] at *; omega)))
        · have c120 := z_ne c120
          refine wp_jn (fun j187 => ∀ (t187_0 : Int32), (t187_0.toInt = 3 ∨ t187_0.toInt = 0) → ((t187_0.toInt = 3 ∧ ((F 0) (Int32.toNatClampNeg x31_1)).toInt = 59) ∨ (t187_0.toInt = 0 ∧ ((F 0) (Int32.toNatClampNeg x31_1)).toInt ≠ 59)) → wp (j187 t187_0) (QX_scan g F)) ?_ ?_
          · intro t187_0 f40 js187
            show wp _ _
            have hg41 : ((0) ≤ t187_0.toInt ∧ t187_0.toInt ≤ 4) := ⟨by (first | omega | (simp only [id_eq] at *; omega)), by (first | omega | (simp only [id_eq] at *; omega))⟩
            exact Jj190 x45 t187_0 (g 4) hg41 hzg4 (show (t187_0.toInt = 2 → x31_1.toInt + 2 ≤ x45.toInt ∧ x45.toInt ≤ x31_1.toInt + 18 ∧ x45.toInt ≤ 2000) from by (first | omega | (simp only [id_eq] at *; omega))) (show (t187_0.toInt ≠ 4 → (g 6).toInt < x45.toInt) from by (first | omega | (simp only [id_eq] at *; omega))) (show (x45.toInt ≤ 2001 ∧ 0 ≤ x45.toInt) from by (first | omega | (simp only [id_eq] at *; omega))) (show (g 6).toInt ≤ x45.toInt from by (first | omega | (simp only [id_eq] at *; omega))) (show (TKS (F 0) (Int32.toNatClampNeg (g 2)) (Int32.toNatClampNeg (g 6)) t187_0.toInt (g 4).toInt x31_1.toInt x45.toInt) from by first | (exact tks_end jp31 (by (first | omega | (simp only [id_eq] at *; omega))) (by (first | omega | (simp only [id_eq] at *; omega))) (by (first | omega | (simp only [id_eq] at *; omega))) (by (first | omega | (simp only [id_eq] at *; omega)))) | (have hj := js187; exact tks_sign jp31 (by (first | omega | (simp only [id_eq] at *; omega))) (fun q => by have h1 := q.1; have h2 := q.2; (first | omega | (simp only [id_eq] at *; omega))) (by (first | omega | (simp only [id_eq] at *; omega))) (by (first | omega | (simp only [id_eq] at *; omega))) (by (first | omega | (simp only [id_eq] at *; omega))) (by (first | omega | (simp only [id_eq] at *; omega)))) | (have hj := NOIV_jo; rw [show Int32.toNatClampNeg x140_3 = (Int32.toNatClampNeg x31_1) + 1 + (Int32.toNatClampNeg x140_3 - ((Int32.toNatClampNeg x31_1) + 1)) by (first | omega | (simp only [id_eq] at *; omega))] at hj; exact tks_let (m := Int32.toNatClampNeg x140_3 - ((Int32.toNatClampNeg x31_1) + 1)) jp31 (by (first | omega | (simp only [id_eq] at *; omega))) (by (first | omega | (simp only [id_eq] at *; omega))) NOIV_je (by (first | omega | (simp only [id_eq] at *; omega))) (by (first | omega | (simp only [id_eq] at *; omega))) (by (first | omega | (simp only [id_eq] at *; omega)))) | (have hk := NOIV_jk; have hkw : Int32.toNatClampNeg (x85_3 - x31_1) = Int32.toNatClampNeg x85_3 - (Int32.toNatClampNeg x31_1) := (by have e9 := clampI (x := x85_3 - x31_1) (by (first | omega | (simp only [id_eq] at *; omega))); (first | omega | (simp only [id_eq] at *; omega))); exact tks_word (m := Int32.toNatClampNeg x85_3 - (Int32.toNatClampNeg x31_1)) jp31 (by (first | omega | (simp only [id_eq] at *; omega))) ⟨by (first | omega | (simp only [id_eq] at *; omega)), by (first | omega | (simp only [id_eq] at *; omega))⟩ NOIV_jc (by (first | omega | (simp only [id_eq] at *; omega))) (by (first | omega | (simp only [id_eq] at *; omega))) (by rcases hka with ⟨h1, h2, h3⟩ | ⟨h1, h2⟩; (exact Or.inl ⟨by (first | omega | (simp only [id_eq] at *; omega)), by (first | omega | (simp only [id_eq] at *; omega)), by (first | omega | (simp only [id_eq] at *; omega)), by rw [← hkw]; exact h3⟩); (exact Or.inr ⟨by (first | omega | (simp only [id_eq] at *; omega)), fun k hk9 => by rw [← hkw]; exact h2 k hk9⟩))))
          intro j187 Jj187
          refine wp_ite (fun c179 => ?_) (fun c179 => ?_)
          · have c179 := congrArg Int32.toInt c179
            exact Jj187 (3 : Int32) (show ((3 : Int32).toInt = 3 ∨ (3 : Int32).toInt = 0) from by (first | omega | (simp only [id_eq] at *; omega))) (show (((3 : Int32).toInt = 3 ∧ ((F 0) (Int32.toNatClampNeg x31_1)).toInt = 59) ∨ ((3 : Int32).toInt = 0 ∧ ((F 0) (Int32.toNatClampNeg x31_1)).toInt ≠ 59)) from by (first | omega | (simp only [id_eq] at *; omega)))
          · have c179 := z_ne c179
            exact Jj187 (0 : Int32) (show ((0 : Int32).toInt = 3 ∨ (0 : Int32).toInt = 0) from by (first | omega | (simp only [id_eq] at *; omega))) (show (((0 : Int32).toInt = 3 ∧ ((F 0) (Int32.toNatClampNeg x31_1)).toInt = 59) ∨ ((0 : Int32).toInt = 0 ∧ ((F 0) (Int32.toNatClampNeg x31_1)).toInt ≠ 59)) from by (first | omega | (simp only [id_eq] at *; omega)))
      · have c65 := z_ne c65
        refine wp_jn (fun k85 => ∀ (x85_3 : Int32), (x31_1.toInt + 1 ≤ x85_3.toInt ∧ x85_3.toInt ≤ (g 2).toInt) → (tRn (F 0) (Int32.toNatClampNeg (g 2)) (Int32.toNatClampNeg x31_1) = Int32.toNatClampNeg x85_3 - (Int32.toNatClampNeg x31_1) + tRn (F 0) (Int32.toNatClampNeg (g 2)) (Int32.toNatClampNeg x85_3)) → (tRn (F 0) (Int32.toNatClampNeg (g 2)) (Int32.toNatClampNeg x31_1) = Int32.toNatClampNeg x85_3 - (Int32.toNatClampNeg x31_1)) → wp (k85 x85_3) (QX_scan g F)) ?_ ?_
        · intro x85_3 f42 ib85 jc85
          show wp _ _
          have e3 := clampI (x := x85_3) (by (first | omega | (simp only [id_eq] at *; omega)))
          have f43 : (x85_3 - x31_1).toInt = x85_3.toInt - x31_1.toInt := z_sub (by (first | omega | (simp only [id_eq] at *; omega))) (by (first | omega | (simp only [id_eq] at *; omega)))
          obtain ⟨r91, hc91, hq91⟩ := fx_keyAt (upd g 5 x31_1) F x31_1 (x85_3 - x31_1) ⟨hzg1, hzg2, hzg3, hzg4, hg2, hzg6, hzg7, hzg8, hzg9, hzg23, hzg27, hzg30, hzg34, hzg36, hzg39, hzg44, hzg47, hzg48, hzg51, hzg56, hzg59, hzg62, hzg65, hzg66, hzg70, hzF11, hzF12, hzF13, hzF15, hzF19, hzF21, hzF24, hzF25, hzF26, hzF33, hzF38, hzF41, hzF43, hzF45, hzF46, hzF50, hzF53, hzF54, hzLQ⟩ (show (0 ≤ x31_1.toInt ∧ x31_1.toInt ≤ 2001) from by (first | omega | (simp only [id_eq] at *; omega))) (show (0 ≤ (x85_3 - x31_1).toInt ∧ (x85_3 - x31_1).toInt ≤ 2001) from by (first | omega | (simp only [id_eq] at *; omega))) (show ∀ i, fits .byte (.int ((F 0) i)) = true from by assumption) (show x31_1.toInt + (x85_3 - x31_1).toInt ≤ (g 2).toInt from by (first | omega | (simp only [id_eq] at *; omega)))
          obtain ⟨f44, f45⟩ : (((-1) ≤ r91.toInt ∧ r91.toInt ≤ 8)) ∧ (id ((0 ≤ r91.toInt ∧ r91.toInt < 9 ∧ isk (F 0) (Int32.toNatClampNeg x31_1) (Int32.toNatClampNeg (x85_3 - x31_1)) r91.toInt.toNat) ∨ (r91.toInt = -1 ∧ ∀ k : Nat, k < 9 → ¬ isk (F 0) (Int32.toNatClampNeg x31_1) (Int32.toNatClampNeg (x85_3 - x31_1)) k))) := hq91
          refine wp_b1 hc91 ?_
          clear hc91
          have hka := f45
          have hg46 : ((-1) ≤ r91.toInt ∧ r91.toInt ≤ 8) := ⟨by (first | omega | (simp only [id_eq] at *; omega)), by (first | omega | (simp only [id_eq] at *; omega))⟩
          refine wp_jn (fun j111 => ∀ (t111_0 : Int32), (t111_0.toInt = 0 ∨ t111_0.toInt = 1) → ((t111_0.toInt = 1 ∧ r91.toInt ≠ -1) ∨ (t111_0.toInt = 0 ∧ r91.toInt = -1)) → wp (j111 t111_0) (QX_scan g F)) ?_ ?_
          · intro t111_0 f47 jk111
            show wp _ _
            have hg48 : ((0) ≤ t111_0.toInt ∧ t111_0.toInt ≤ 4) := ⟨by (first | omega | (simp only [id_eq] at *; omega)), by (first | omega | (simp only [id_eq] at *; omega))⟩
            exact Jj190 x85_3 t111_0 r91 hg48 hg46 (show (t111_0.toInt = 2 → x31_1.toInt + 2 ≤ x85_3.toInt ∧ x85_3.toInt ≤ x31_1.toInt + 18 ∧ x85_3.toInt ≤ 2000) from by (first | omega | (simp only [id_eq] at *; omega))) (show (t111_0.toInt ≠ 4 → (g 6).toInt < x85_3.toInt) from by (first | omega | (simp only [id_eq] at *; omega))) (show (x85_3.toInt ≤ 2001 ∧ 0 ≤ x85_3.toInt) from by (first | omega | (simp only [id_eq] at *; omega))) (show (g 6).toInt ≤ x85_3.toInt from by (first | omega | (simp only [id_eq] at *; omega))) (show (TKS (F 0) (Int32.toNatClampNeg (g 2)) (Int32.toNatClampNeg (g 6)) t111_0.toInt r91.toInt x31_1.toInt x85_3.toInt) from by first | (exact tks_end jp31 (by (first | omega | (simp only [id_eq] at *; omega))) (by (first | omega | (simp only [id_eq] at *; omega))) (by (first | omega | (simp only [id_eq] at *; omega))) (by (first | omega | (simp only [id_eq] at *; omega)))) | (have hj := NOIV_js; exact tks_sign jp31 (by (first | omega | (simp only [id_eq] at *; omega))) (fun q => by have h1 := q.1; have h2 := q.2; (first | omega | (simp only [id_eq] at *; omega))) (by (first | omega | (simp only [id_eq] at *; omega))) (by (first | omega | (simp only [id_eq] at *; omega))) (by (first | omega | (simp only [id_eq] at *; omega))) (by (first | omega | (simp only [id_eq] at *; omega)))) | (have hj := NOIV_jo; rw [show Int32.toNatClampNeg x140_3 = (Int32.toNatClampNeg x31_1) + 1 + (Int32.toNatClampNeg x140_3 - ((Int32.toNatClampNeg x31_1) + 1)) by (first | omega | (simp only [id_eq] at *; omega))] at hj; exact tks_let (m := Int32.toNatClampNeg x140_3 - ((Int32.toNatClampNeg x31_1) + 1)) jp31 (by (first | omega | (simp only [id_eq] at *; omega))) (by (first | omega | (simp only [id_eq] at *; omega))) NOIV_je (by (first | omega | (simp only [id_eq] at *; omega))) (by (first | omega | (simp only [id_eq] at *; omega))) (by (first | omega | (simp only [id_eq] at *; omega)))) | (have hk := jk111; have hkw : Int32.toNatClampNeg (x85_3 - x31_1) = Int32.toNatClampNeg x85_3 - (Int32.toNatClampNeg x31_1) := (by have e9 := clampI (x := x85_3 - x31_1) (by (first | omega | (simp only [id_eq] at *; omega))); (first | omega | (simp only [id_eq] at *; omega))); exact tks_word (m := Int32.toNatClampNeg x85_3 - (Int32.toNatClampNeg x31_1)) jp31 (by (first | omega | (simp only [id_eq] at *; omega))) ⟨by (first | omega | (simp only [id_eq] at *; omega)), by (first | omega | (simp only [id_eq] at *; omega))⟩ jc85 (by (first | omega | (simp only [id_eq] at *; omega))) (by (first | omega | (simp only [id_eq] at *; omega))) (by rcases hka with ⟨h1, h2, h3⟩ | ⟨h1, h2⟩; (exact Or.inl ⟨by (first | omega | (simp only [id_eq] at *; omega)), by (first | omega | (simp only [id_eq] at *; omega)), by (first | omega | (simp only [id_eq] at *; omega)), by rw [← hkw]; exact h3⟩); (exact Or.inr ⟨by (first | omega | (simp only [id_eq] at *; omega)), fun k hk9 => by rw [← hkw]; exact h2 k hk9⟩))))
          intro j111 Jj111
          refine wp_ite (fun c103 => ?_) (fun c103 => ?_)
          · have c103 := congrArg Int32.toInt c103
            exact Jj111 (0 : Int32) (show ((0 : Int32).toInt = 0 ∨ (0 : Int32).toInt = 1) from by (first | omega | (simp only [id_eq] at *; omega))) (show (((0 : Int32).toInt = 1 ∧ r91.toInt ≠ -1) ∨ ((0 : Int32).toInt = 0 ∧ r91.toInt = -1)) from by (first | omega | (simp only [id_eq] at *; omega)))
          · have c103 := z_ne c103
            exact Jj111 (1 : Int32) (show ((1 : Int32).toInt = 0 ∨ (1 : Int32).toInt = 1) from by (first | omega | (simp only [id_eq] at *; omega))) (show (((1 : Int32).toInt = 1 ∧ r91.toInt ≠ -1) ∨ ((1 : Int32).toInt = 0 ∧ r91.toInt = -1)) from by (first | omega | (simp only [id_eq] at *; omega)))
        intro k85 Jk85
        have lp68 : ∀ (n68 : Nat) (y68_3 : Int32), (2001 - y68_3.toInt).toNat < n68 → (x31_1.toInt + 1 ≤ y68_3.toInt ∧ y68_3.toInt ≤ (g 2).toInt) → (tRn (F 0) (Int32.toNatClampNeg (g 2)) (Int32.toNatClampNeg x31_1) = Int32.toNatClampNeg y68_3 - (Int32.toNatClampNeg x31_1) + tRn (F 0) (Int32.toNatClampNeg (g 2)) (Int32.toNatClampNeg y68_3)) → wp (L_scan_68 g F x31_1 k85 n68 y68_3) (QX_scan g F) := by
          intro n68
          induction n68 with
          | zero => intro y68_3 hm; exact absurd hm (Nat.not_lt_zero _)
          | succ n68 ih68 =>
            intro y68_3 hm68 f49 ib68
            show wp (B_scan_68 g F x31_1 k85 (L_scan_68 g F x31_1 k85 n68) y68_3) _
            unfold B_scan_68
            have e3 := clampI (x := y68_3) (by (first | omega | (simp only [id_eq] at *; omega)))
            obtain ⟨r70, hc70, hq70⟩ := fx_see (upd g 5 x31_1) F y68_3 ⟨hzg1, hzg2, hzg3, hzg4, hg2, hzg6, hzg7, hzg8, hzg9, hzg23, hzg27, hzg30, hzg34, hzg36, hzg39, hzg44, hzg47, hzg48, hzg51, hzg56, hzg59, hzg62, hzg65, hzg66, hzg70, hzF11, hzF12, hzF13, hzF15, hzF19, hzF21, hzF24, hzF25, hzF26, hzF33, hzF38, hzF41, hzF43, hzF45, hzF46, hzF50, hzF53, hzF54, hzLQ⟩ (show 0 ≤ y68_3.toInt from by (first | omega | (simp only [id_eq] at *; omega))) (show ∀ i, fits .byte (.int ((F 0) i)) = true from by assumption)
            obtain ⟨f50, f51, f52, f53⟩ : (((-1) ≤ r70.toInt ∧ r70.toInt ≤ 255)) ∧ (id ((g 2).toInt ≤ y68_3.toInt → r70.toInt = -1)) ∧ (id (y68_3.toInt < (g 2).toInt → 0 ≤ r70.toInt)) ∧ (id (y68_3.toInt < (g 2).toInt → ((r70.toInt = ((F 0) (Int32.toNatClampNeg y68_3)).toInt ∧ 0 ≤ ((F 0) (Int32.toNatClampNeg y68_3)).toInt) ∨ (r70.toInt = ((F 0) (Int32.toNatClampNeg y68_3)).toInt + 256 ∧ ((F 0) (Int32.toNatClampNeg y68_3)).toInt < 0 ∧ -128 ≤ ((F 0) (Int32.toNatClampNeg y68_3)).toInt)))) := hq70
            refine wp_b1 hc70 ?_
            clear hc70
            have hs70 := f53
            obtain ⟨r73, hc73, hq73⟩ := ok_isSmall r70 
            obtain ⟨f54, f55, f56⟩ : (id (r73.toInt = 1 → 97 ≤ r70.toInt ∧ r70.toInt ≤ 122)) ∧ (id (r73.toInt = 0 → r70.toInt < 97 ∨ 122 < r70.toInt)) ∧ ((0 ≤ r73.toInt ∧ r73.toInt ≤ 1)) := hq73
            refine wp_b1 hc73 ?_
            clear hc73
            refine wp_ite (fun c76 => ?_) (fun c76 => ?_)
            · have c76 := congrArg Int32.toInt c76
              exact Jk85 y68_3 (show (x31_1.toInt + 1 ≤ y68_3.toInt ∧ y68_3.toInt ≤ (g 2).toInt) from by (first | omega | (simp only [id_eq] at *; omega))) (show (tRn (F 0) (Int32.toNatClampNeg (g 2)) (Int32.toNatClampNeg x31_1) = Int32.toNatClampNeg y68_3 - (Int32.toNatClampNeg x31_1) + tRn (F 0) (Int32.toNatClampNeg (g 2)) (Int32.toNatClampNeg y68_3)) from by first | exact ib68 | (have h := tRn_step (f := F 0) (n := (Int32.toNatClampNeg (g 2))) (s := Int32.toNatClampNeg y68_3) (by (first | omega | (simp only [id_eq] at *; omega))) ⟨by (first | omega | (simp only [id_eq] at *; omega)), by (first | omega | (simp only [id_eq] at *; omega))⟩; have e4 := clampI (x := y68_3 + 1) (by (first | omega | (simp only [id_eq] at *; omega))); have h0 := ib68; rw [show Int32.toNatClampNeg (y68_3 + 1) = Int32.toNatClampNeg y68_3 + 1 by (first | omega | (simp only [id_eq] at *; omega))]; (first | omega | (simp only [id_eq] at *; omega)))) (show (tRn (F 0) (Int32.toNatClampNeg (g 2)) (Int32.toNatClampNeg x31_1) = Int32.toNatClampNeg y68_3 - (Int32.toNatClampNeg x31_1)) from by have h := tRn_stop (f := F 0) (n := (Int32.toNatClampNeg (g 2))) (s := Int32.toNatClampNeg y68_3) (fun q => by have h1 := q.1; have h2 := q.2.1; have h3 := q.2.2; (first | omega | (simp only [id_eq] at *; omega))); have h0 := ib68; (first | omega | (simp only [id_eq] at *; omega)))
            · have c76 := z_ne c76
              have f57 : (y68_3 + 1).toInt = y68_3.toInt + (1) := z_addc (by decide +kernel) (by (first | omega | (simp only [id_eq] at *; omega))) (by (first | omega | (simp only [id_eq] at *; omega)))
              exact ih68 (y68_3 + 1) (show (2001 - (y68_3 + 1).toInt).toNat < n68 from by (first | omega | (simp only [id_eq] at *; omega))) (show (x31_1.toInt + 1 ≤ (y68_3 + 1).toInt ∧ (y68_3 + 1).toInt ≤ (g 2).toInt) from by (first | omega | (simp only [id_eq] at *; omega))) (show (tRn (F 0) (Int32.toNatClampNeg (g 2)) (Int32.toNatClampNeg x31_1) = Int32.toNatClampNeg (y68_3 + 1) - (Int32.toNatClampNeg x31_1) + tRn (F 0) (Int32.toNatClampNeg (g 2)) (Int32.toNatClampNeg (y68_3 + 1))) from by have h := tRn_step (f := F 0) (n := (Int32.toNatClampNeg (g 2))) (s := Int32.toNatClampNeg y68_3) (by (first | omega | (simp only [id_eq] at *; omega))) ⟨by (first | omega | (simp only [id_eq] at *; omega)), by (first | omega | (simp only [id_eq] at *; omega))⟩; have e4 := clampI (x := y68_3 + 1) (by (first | omega | (simp only [id_eq] at *; omega))); have h0 := ib68; rw [show Int32.toNatClampNeg (y68_3 + 1) = Int32.toNatClampNeg y68_3 + 1 by (first | omega | (simp only [id_eq] at *; omega))]; (first | omega | (simp only [id_eq] at *; omega)))
        exact lp68 NN x45 (by have := NN_eq; (first | omega | (simp only [id_eq] at *; omega))) (show (x31_1.toInt + 1 ≤ x45.toInt ∧ x45.toInt ≤ (g 2).toInt) from by (first | omega | (simp only [id_eq] at *; omega))) (show (tRn (F 0) (Int32.toNatClampNeg (g 2)) (Int32.toNatClampNeg x31_1) = Int32.toNatClampNeg x45 - (Int32.toNatClampNeg x31_1) + tRn (F 0) (Int32.toNatClampNeg (g 2)) (Int32.toNatClampNeg x45)) from by have h := tRn_step (f := F 0) (n := (Int32.toNatClampNeg (g 2))) (s := (Int32.toNatClampNeg x31_1)) (by (first | omega | (simp only [id_eq] at *; omega))) ⟨by (first | omega | (simp only [id_eq] at *; omega)), by (first | omega | (simp only [id_eq] at *; omega))⟩; have e4 := clampI (x := x45) (by (first | omega | (simp only [id_eq] at *; omega))); rw [show Int32.toNatClampNeg x45 = (Int32.toNatClampNeg x31_1) + 1 by (first | omega | (simp only [id_eq] at *; omega))]; (first | omega | (simp only [id_eq] at *; omega)))
  intro k31 Jk31
  have lp5 : ∀ (n5 : Nat) (y5_1 : Int32), (2001 - y5_1.toInt).toNat < n5 → ((g 6).toInt ≤ y5_1.toInt ∧ y5_1.toInt ≤ 2001) → (tP (F 0) (Int32.toNatClampNeg (g 2)) (Int32.toNatClampNeg (g 6)) = tP (F 0) (Int32.toNatClampNeg (g 2)) (Int32.toNatClampNeg y5_1)) → wp (L_scan_5 g F k31 n5 y5_1) (QX_scan g F) := by
    intro n5
    induction n5 with
    | zero => intro y5_1 hm; exact absurd hm (Nat.not_lt_zero _)
    | succ n5 ih5 =>
      intro y5_1 hm5 f58 ia5
      show wp (B_scan_5 g F k31 (L_scan_5 g F k31 n5) y5_1) _
      unfold B_scan_5
      have e1 := clampI (x := y5_1) (by (first | omega | (simp only [id_eq] at *; omega)))
      have e0 := clampI (x := g 2) (by (first | omega | (simp only [id_eq] at *; omega)))
      obtain ⟨r7, hc7, hq7⟩ := fx_see g F y5_1 ⟨hzg1, hzg2, hzg3, hzg4, hzg5, hzg6, hzg7, hzg8, hzg9, hzg23, hzg27, hzg30, hzg34, hzg36, hzg39, hzg44, hzg47, hzg48, hzg51, hzg56, hzg59, hzg62, hzg65, hzg66, hzg70, hzF11, hzF12, hzF13, hzF15, hzF19, hzF21, hzF24, hzF25, hzF26, hzF33, hzF38, hzF41, hzF43, hzF45, hzF46, hzF50, hzF53, hzF54, hzLQ⟩ (show 0 ≤ y5_1.toInt from by (first | omega | (simp only [id_eq] at *; omega))) (show ∀ i, fits .byte (.int ((F 0) i)) = true from by assumption)
      obtain ⟨f59, f60, f61, f62⟩ : (((-1) ≤ r7.toInt ∧ r7.toInt ≤ 255)) ∧ (id ((g 2).toInt ≤ y5_1.toInt → r7.toInt = -1)) ∧ (id (y5_1.toInt < (g 2).toInt → 0 ≤ r7.toInt)) ∧ (id (y5_1.toInt < (g 2).toInt → ((r7.toInt = ((F 0) (Int32.toNatClampNeg y5_1)).toInt ∧ 0 ≤ ((F 0) (Int32.toNatClampNeg y5_1)).toInt) ∨ (r7.toInt = ((F 0) (Int32.toNatClampNeg y5_1)).toInt + 256 ∧ ((F 0) (Int32.toNatClampNeg y5_1)).toInt < 0 ∧ -128 ≤ ((F 0) (Int32.toNatClampNeg y5_1)).toInt)))) := hq7
      refine wp_b1 hc7 ?_
      clear hc7
      have hs7 := f62
      refine wp_jn (fun j25 => y5_1.toInt < (g 2).toInt → (blk ((F 0) (Int32.toNatClampNeg y5_1))) → wp (j25 ()) (QX_scan g F)) ?_ ?_
      · intro f63 jb25
        show wp _ _
        have f64 : (y5_1 + 1).toInt = y5_1.toInt + (1) := z_addc (by decide +kernel) (by (first | omega | (simp only [id_eq] at *; omega))) (by (first | omega | (simp only [id_eq] at *; omega)))
        exact ih5 (y5_1 + 1) (show (2001 - (y5_1 + 1).toInt).toNat < n5 from by (first | omega | (simp only [id_eq] at *; omega))) (show ((g 6).toInt ≤ (y5_1 + 1).toInt ∧ (y5_1 + 1).toInt ≤ 2001) from by (first | omega | (simp only [id_eq] at *; omega))) (show (tP (F 0) (Int32.toNatClampNeg (g 2)) (Int32.toNatClampNeg (g 6)) = tP (F 0) (Int32.toNatClampNeg (g 2)) (Int32.toNatClampNeg (y5_1 + 1))) from by have e2 := clampI (x := y5_1 + 1) (by (first | omega | (simp only [id_eq] at *; omega))); rw [ia5, tP_step (by (first | omega | (simp only [id_eq] at *; omega))) jb25]; exact congrArg (tP _ _) (by (first | omega | (simp only [id_eq] at *; omega))))
      intro j25 Jj25
      refine wp_ite (fun c12 => ?_) (fun c12 => ?_)
      · have c12 := congrArg Int32.toInt c12
        exact Jj25 (show y5_1.toInt < (g 2).toInt from by (first | omega | (simp only [id_eq] at *; omega))) (show (blk ((F 0) (Int32.toNatClampNeg y5_1))) from by show _ ∨ _; (first | omega | (simp only [id_eq] at *; omega)))
      · have c12 := z_ne c12
        obtain ⟨r17, hc17, hq17⟩ := fx_see g F y5_1 ⟨hzg1, hzg2, hzg3, hzg4, hzg5, hzg6, hzg7, hzg8, hzg9, hzg23, hzg27, hzg30, hzg34, hzg36, hzg39, hzg44, hzg47, hzg48, hzg51, hzg56, hzg59, hzg62, hzg65, hzg66, hzg70, hzF11, hzF12, hzF13, hzF15, hzF19, hzF21, hzF24, hzF25, hzF26, hzF33, hzF38, hzF41, hzF43, hzF45, hzF46, hzF50, hzF53, hzF54, hzLQ⟩ (show 0 ≤ y5_1.toInt from by (first | omega | (simp only [id_eq] at *; omega))) (show ∀ i, fits .byte (.int ((F 0) i)) = true from by assumption)
        obtain ⟨f65, f66, f67, f68⟩ : (((-1) ≤ r17.toInt ∧ r17.toInt ≤ 255)) ∧ (id ((g 2).toInt ≤ y5_1.toInt → r17.toInt = -1)) ∧ (id (y5_1.toInt < (g 2).toInt → 0 ≤ r17.toInt)) ∧ (id (y5_1.toInt < (g 2).toInt → ((r17.toInt = ((F 0) (Int32.toNatClampNeg y5_1)).toInt ∧ 0 ≤ ((F 0) (Int32.toNatClampNeg y5_1)).toInt) ∨ (r17.toInt = ((F 0) (Int32.toNatClampNeg y5_1)).toInt + 256 ∧ ((F 0) (Int32.toNatClampNeg y5_1)).toInt < 0 ∧ -128 ≤ ((F 0) (Int32.toNatClampNeg y5_1)).toInt)))) := hq17
        refine wp_b1 hc17 ?_
        clear hc17
        have hs17 := f68
        refine wp_ite (fun c22 => ?_) (fun c22 => ?_)
        · have c22 := congrArg Int32.toInt c22
          exact Jj25 (show y5_1.toInt < (g 2).toInt from by (first | omega | (simp only [id_eq] at *; omega))) (show (blk ((F 0) (Int32.toNatClampNeg y5_1))) from by show _ ∨ _; (first | omega | (simp only [id_eq] at *; omega)))
        · have c22 := z_ne c22
          exact Jk31 y5_1 (show ((g 6).toInt ≤ y5_1.toInt ∧ y5_1.toInt ≤ 2001) from by (first | omega | (simp only [id_eq] at *; omega))) (show (tP (F 0) (Int32.toNatClampNeg (g 2)) (Int32.toNatClampNeg (g 6)) = tP (F 0) (Int32.toNatClampNeg (g 2)) (Int32.toNatClampNeg y5_1)) from by first | exact ia5 | (have e2 := clampI (x := y5_1 + 1) (by (first | omega | (simp only [id_eq] at *; omega))); rw [ia5, tP_step (by (first | omega | (simp only [id_eq] at *; omega))) NOIV_jb]; exact congrArg (tP _ _) (by (first | omega | (simp only [id_eq] at *; omega))))) (show (tP (F 0) (Int32.toNatClampNeg (g 2)) (Int32.toNatClampNeg (g 6)) = Int32.toNatClampNeg y5_1) from by rw [ia5]; exact tP_stop (fun q => by have h1 := q.1; have h2 : _ ∨ _ := q.2; (first | omega | (simp only [id_eq] at *; omega))))
  exact lp5 NN (g 6) (by have := NN_eq; (first | omega | (simp only [id_eq] at *; omega))) (show ((g 6).toInt ≤ (g 6).toInt ∧ (g 6).toInt ≤ 2001) from by (first | omega | (simp only [id_eq] at *; omega))) (show (tP (F 0) (Int32.toNatClampNeg (g 2)) (Int32.toNatClampNeg (g 6)) = tP (F 0) (Int32.toNatClampNeg (g 2)) (Int32.toNatClampNeg (g 6))) from by rfl)
