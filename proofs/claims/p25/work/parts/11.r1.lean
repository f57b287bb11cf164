abbrev Q_onward (g : Nat → Int32) (F : Nat → Nat → Int32) (p0 : Int32) (p1 : Int32) (p2 : Int32) : (Int32) → Prop := (fun t => (owJ (F 68) p0 p1 p2 (g 9) t))
set_option maxHeartbeats 4000000 in
set_option maxRecDepth 100000 in
theorem ok_onward (g : Nat → Int32) (F : Nat → Nat → Int32) (p0 : Int32) (p1 : Int32) (p2 : Int32) (hI : MInv g F) (hp0 : (0 ≤ p0.toInt ∧ p0.toInt ≤ 40)) : wp (f_onward g F p0 p1 p2) (Q_onward g F p0 p1 p2) := by
  unfold f_onward
  refine MInv_e hI (fun (hzg1 : id _) (hzg2 : id _) (hzg3 : id _) (hzg4 : id _) (hzg5 : id _) (hzg6 : id _) (hzg7 : id _) (hzg8 : id _) hzg9 (hzg23 : id _) (hzg27 : id _) (hzg30 : id _) (hzg34 : id _) (hzg36 : id _) (hzg39 : id _) (hzg44 : id _) (hzg47 : id _) (hzg48 : id _) (hzg51 : id _) (hzg56 : id _) (hzg59 : id _) (hzg62 : id _) (hzg65 : id _) (hzg66 : id _) (hzg70 : id _) hzF11 hzF12 hzF13 hzF15 hzF19 hzF21 hzF24 hzF25 hzF26 hzF33 hzF38 hzF41 hzF43 hzF45 hzF46 hzF50 hzF53 hzF54 hzLQ => ?_)
  clear hI
  have zkm1 : (-1 : Int32).toInt = -1 := by decide +kernel
  have zk0 : (0 : Int32).toInt = 0 := by decide +kernel
  have zk7 : (7 : Int32).toInt = 7 := by decide +kernel
  have zk2147483647 : (2147483647 : Int32).toInt = 2147483647 := by decide +kernel
  have lp8 : ∀ (n8 : Nat) (y8_4 : Int32) (y8_5 : Int32), (7 - y8_5.toInt).toNat < n8 → (0 ≤ y8_5.toInt ∧ y8_5.toInt ≤ (g 9).toInt + 1) → owL (F 68) p0 p1 p2 y8_5 y8_4 → wp (L_onward_8 g F p0 p1 p2 n8 y8_4 y8_5) (Q_onward g F p0 p1 p2) := by
    intro n8
    induction n8 with
    | zero => intro y8_4 y8_5 hm; exact absurd hm (Nat.not_lt_zero _)
    | succ n8 ih8 =>
      intro y8_4 y8_5 hm8 f1 f2
      show wp (B_onward_8 g F p0 p1 p2 (L_onward_8 g F p0 p1 p2 n8) y8_4 y8_5) _
      unfold B_onward_8
      refine wp_ite (fun c14 => ?_) (fun c14 => ?_)
      · have c14 := (z_lt _ _).mp c14
        exact ⟨_, rfl, (show owJ (F 68) p0 p1 p2 (g 9) y8_4 from by exact ow_end (by assumption) (by (first | omega | (simp only [id_eq] at *; omega))) (by (first | omega | (simp only [id_eq] at *; omega))))⟩
      · have c14 := z_nlt c14
        have f3 : (7 * p0).toInt = 7 * p0.toInt := z_muld (by decide +kernel) (by (first | omega | (simp only [id_eq] at *; omega))) (by (first | omega | (simp only [id_eq] at *; omega)))
        have f4 : ((7 * p0) + y8_5).toInt = (7 * p0).toInt + y8_5.toInt := z_add (by (first | omega | (simp only [id_eq] at *; omega))) (by (first | omega | (simp only [id_eq] at *; omega)))
        refine wp_if ⟨by (first | omega | (simp only [id_eq] at *; omega)), by (first | omega | (simp only [id_eq] at *; omega))⟩ ?_
        refine wp_jn (fun j45 => ∀ (t45_0 : Int32), (p1.toInt = -1 ∨ p1.toInt = y8_5.toInt → t45_0 = 0) → (¬ (p1.toInt = -1 ∨ p1.toInt = y8_5.toInt) → t45_0 = p2) → wp (j45 t45_0) (Q_onward g F p0 p1 p2)) ?_ ?_
        · intro t45_0 f5 f6
          show wp _ _
          refine wp_vl (fun x46 ex46 => ?_)
          have f7 : x46.toInt = (((F 68) (Int32.toNatClampNeg ((7 * p0) + y8_5))) + t45_0).toInt := congrArg Int32.toInt ex46
          have how46 : ow (F 68) p0 p1 p2 y8_5.toInt.toNat x46 := ow_mk ex46 (by (first | omega | (simp only [id_eq] at *; omega))) (by (first | omega | (simp only [id_eq] at *; omega))) (by (first | omega | (simp only [id_eq] at *; omega))) (by assumption) (by assumption)
          refine wp_jn (fun j62 => ∀ (t62_0 : Int32), owJ (F 68) p0 p1 p2 y8_5 t62_0 → wp (j62 t62_0) (Q_onward g F p0 p1 p2)) ?_ ?_
          · intro t62_0 f8
            show wp _ _
            have f9 : (y8_5 + 1).toInt = y8_5.toInt + (1) := z_addc (by decide +kernel) (by (first | omega | (simp only [id_eq] at *; omega))) (by (first | omega | (simp only [id_eq] at *; omega)))
            exact ih8 t62_0 (y8_5 + 1) (show (7 - (y8_5 + 1).toInt).toNat < n8 from by (first | omega | (simp only [id_eq] at *; omega))) (show (0 ≤ (y8_5 + 1).toInt ∧ (y8_5 + 1).toInt ≤ (g 9).toInt + 1) from by first | (first | omega | (simp only [id_eq] at *; omega)) | exact ow_next (by assumption) (by (first | omega | (simp only [id_eq] at *; omega)))) (show owL (F 68) p0 p1 p2 (y8_5 + 1) t62_0 from by first | (first | omega | (simp only [id_eq] at *; omega)) | exact ow_next (by assumption) (by (first | omega | (simp only [id_eq] at *; omega))))
          intro j62 Jj62
          refine wp_ite (fun c52 => ?_) (fun c52 => ?_)
          · have c52 := (z_le _ _).mp c52
            exact Jj62 y8_4 (show owJ (F 68) p0 p1 p2 y8_5 y8_4 from by first | exact ⟨_, (by (first | omega | (simp only [id_eq] at *; omega))), how46⟩ | exact ow_step (by assumption) how46 (by (first | omega | (simp only [id_eq] at *; omega))))
          · have c52 := z_nle c52
            exact Jj62 x46 (show owJ (F 68) p0 p1 p2 y8_5 x46 from by first | exact ⟨_, (by (first | omega | (simp only [id_eq] at *; omega))), how46⟩ | exact ow_step (by assumption) how46 (by (first | omega | (simp only [id_eq] at *; omega))))
        intro j45 Jj45
        refine wp_jn (fun j40 => (p1.toInt = -1 ∨ p1.toInt = y8_5.toInt) → wp (j40 ()) (Q_onward g F p0 p1 p2)) ?_ ?_
        · intro f10
          show wp _ _
          exact Jj45 (0 : Int32) (show (p1.toInt = -1 ∨ p1.toInt = y8_5.toInt → (0 : Int32) = 0) from by first | exact (fun _ => rfl) | exact (fun h => absurd h (by (first | omega | (simp only [id_eq] at *; omega))))) (show (¬ (p1.toInt = -1 ∨ p1.toInt = y8_5.toInt) → (0 : Int32) = p2) from by first | exact (fun _ => rfl) | exact (fun h => absurd h (by (first | omega | (simp only [id_eq] at *; omega)))))
        intro j40 Jj40
        refine wp_ite (fun c31 => ?_) (fun c31 => ?_)
        · have c31 := congrArg Int32.toInt c31
          exact Jj40 (show (p1.toInt = -1 ∨ p1.toInt = y8_5.toInt) from by (first | omega | (simp only [id_eq] at *; omega)))
        · have c31 := z_ne c31
          refine wp_ite (fun c37 => ?_) (fun c37 => ?_)
          · have c37 := congrArg Int32.toInt c37
            exact Jj40 (show (p1.toInt = -1 ∨ p1.toInt = y8_5.toInt) from by (first | omega | (simp only [id_eq] at *; omega)))
          · have c37 := z_ne c37
            exact Jj45 p2 (show (p1.toInt = -1 ∨ p1.toInt = y8_5.toInt → p2 = 0) from by first | exact (fun _ => rfl) | exact (fun h => absurd h (by (first | omega | (simp only [id_eq] at *; omega))))) (show (¬ (p1.toInt = -1 ∨ p1.toInt = y8_5.toInt) → p2 = p2) from by first | exact (fun _ => rfl) | exact (fun h => absurd h (by (first | omega | (simp only [id_eq] at *; omega)))))
  exact lp8 NN (2147483647 : Int32) (0 : Int32) (by have := NN_eq; (first | omega | (simp only [id_eq] at *; omega))) (show (0 ≤ (0 : Int32).toInt ∧ (0 : Int32).toInt ≤ (g 9).toInt + 1) from by first | (first | omega | (simp only [id_eq] at *; omega)) | exact Or.inl ⟨(by (first | omega | (simp only [id_eq] at *; omega))), (by (first | omega | (simp only [id_eq] at *; omega)))⟩) (show owL (F 68) p0 p1 p2 (0 : Int32) (2147483647 : Int32) from by first | (first | omega | (simp only [id_eq] at *; omega)) | exact Or.inl ⟨(by (first | omega | (simp only [id_eq] at *; omega))), (by (first | omega | (simp only [id_eq] at *; omega)))⟩)
