abbrev Q_in (p0 : Int32) (p1 : Int32) (p2 : Int32) : (Int32) → Prop := (fun t => ((t.toInt = 1 → p1.toInt ≤ p0.toInt ∧ p0.toInt ≤ p2.toInt)) ∧ ((t.toInt = 0 → p0.toInt < p1.toInt ∨ p2.toInt < p0.toInt)) ∧ ((0 ≤ t.toInt ∧ t.toInt ≤ 1)))
set_option maxHeartbeats 4000000 in
set_option maxRecDepth 100000 in
theorem ok_in (p0 : Int32) (p1 : Int32) (p2 : Int32) : wp (f_in p0 p1 p2) (Q_in p0 p1 p2) := by
  unfold f_in
  have zk0 : (0 : Int32).toInt = 0 := by decide +kernel
  have zk1 : (1 : Int32).toInt = 1 := by decide +kernel
  refine wp_jn (fun j15 => ∀ (t15_0 : Int32), (0 ≤ t15_0.toInt ∧ t15_0.toInt ≤ 1) → (t15_0.toInt = 1 → p1.toInt ≤ p0.toInt ∧ p0.toInt ≤ p2.toInt) → (t15_0.toInt = 0 → p0.toInt < p1.toInt ∨ p2.toInt < p0.toInt) → wp (j15 t15_0) (Q_in p0 p1 p2)) ?_ ?_
  · intro t15_0 f1 f2 f3
    show wp _ _
    refine wp_if ⟨by (first | omega | (simp only [id_eq] at *; omega)), by (first | omega | (simp only [id_eq] at *; omega))⟩ ?_
    exact ⟨_, rfl, ⟨(show (t15_0.toInt = 1 → p1.toInt ≤ p0.toInt ∧ p0.toInt ≤ p2.toInt) from by (first | omega | (simp only [id_eq] at *; omega))), (show (t15_0.toInt = 0 → p0.toInt < p1.toInt ∨ p2.toInt < p0.toInt) from by (first | omega | (simp only [id_eq] at *; omega))), (show (0 ≤ t15_0.toInt ∧ t15_0.toInt ≤ 1) from by (first | omega | (simp only [id_eq] at *; omega)))⟩⟩
  intro j15 Jj15
  refine wp_jn (fun j14 => (p0.toInt < p1.toInt ∨ p2.toInt < p0.toInt) → wp (j14 ()) (Q_in p0 p1 p2)) ?_ ?_
  · intro f4
    show wp _ _
    exact Jj15 (0 : Int32) (show (0 ≤ (0 : Int32).toInt ∧ (0 : Int32).toInt ≤ 1) from by (first | omega | (simp only [id_eq] at *; omega))) (show ((0 : Int32).toInt = 1 → p1.toInt ≤ p0.toInt ∧ p0.toInt ≤ p2.toInt) from by (first | omega | (simp only [id_eq] at *; omega))) (show ((0 : Int32).toInt = 0 → p0.toInt < p1.toInt ∨ p2.toInt < p0.toInt) from by (first | omega | (simp only [id_eq] at *; omega)))
  intro j14 Jj14
  refine wp_ite (fun c2 => ?_) (fun c2 => ?_)
  · have c2 := (z_lt _ _).mp c2
    exact Jj14 (show (p0.toInt < p1.toInt ∨ p2.toInt < p0.toInt) from by (first | omega | (simp only [id_eq] at *; omega)))
  · have c2 := z_nlt c2
    refine wp_ite (fun c7 => ?_) (fun c7 => ?_)
    · have c7 := (z_lt _ _).mp c7
      exact Jj14 (show (p0.toInt < p1.toInt ∨ p2.toInt < p0.toInt) from by (first | omega | (simp only [id_eq] at *; omega)))
    · have c7 := z_nlt c7
      exact Jj15 (1 : Int32) (show (0 ≤ (1 : Int32).toInt ∧ (1 : Int32).toInt ≤ 1) from by (first | omega | (simp only [id_eq] at *; omega))) (show ((1 : Int32).toInt = 1 → p1.toInt ≤ p0.toInt ∧ p0.toInt ≤ p2.toInt) from by (first | omega | (simp only [id_eq] at *; omega))) (show ((1 : Int32).toInt = 0 → p0.toInt < p1.toInt ∨ p2.toInt < p0.toInt) from by (first | omega | (simp only [id_eq] at *; omega)))
abbrev Q_isSmall (p0 : Int32) : (Int32) → Prop := (fun t => ((t.toInt = 1 → 97 ≤ p0.toInt ∧ p0.toInt ≤ 122)) ∧ ((t.toInt = 0 → p0.toInt < 97 ∨ 122 < p0.toInt)) ∧ ((0 ≤ t.toInt ∧ t.toInt ≤ 1)))
set_option maxHeartbeats 4000000 in
set_option maxRecDepth 100000 in
theorem ok_isSmall (p0 : Int32) : wp (f_isSmall p0) (Q_isSmall p0) := by
  unfold f_isSmall
  have zk0 : (0 : Int32).toInt = 0 := by decide +kernel
  have zk1 : (1 : Int32).toInt = 1 := by decide +kernel
  have zk97 : (97 : Int32).toInt = 97 := by decide +kernel
  have zk122 : (122 : Int32).toInt = 122 := by decide +kernel
  refine wp_jn (fun j17 => ∀ (t17_0 : Int32), (0 ≤ t17_0.toInt ∧ t17_0.toInt ≤ 1) → (t17_0.toInt = 1 → 97 ≤ p0.toInt ∧ p0.toInt ≤ 122) → (t17_0.toInt = 0 → p0.toInt < 97 ∨ 122 < p0.toInt) → wp (j17 t17_0) (Q_isSmall p0)) ?_ ?_
  · intro t17_0 f1 f2 f3
    show wp _ _
    refine wp_if ⟨by (first | omega | (simp only [id_eq] at *; omega)), by (first | omega | (simp only [id_eq] at *; omega))⟩ ?_
    exact ⟨_, rfl, ⟨(show (t17_0.toInt = 1 → 97 ≤ p0.toInt ∧ p0.toInt ≤ 122) from by (first | omega | (simp only [id_eq] at *; omega))), (show (t17_0.toInt = 0 → p0.toInt < 97 ∨ 122 < p0.toInt) from by (first | omega | (simp only [id_eq] at *; omega))), (show (0 ≤ t17_0.toInt ∧ t17_0.toInt ≤ 1) from by (first | omega | (simp only [id_eq] at *; omega)))⟩⟩
  intro j17 Jj17
  refine wp_jn (fun j16 => (p0.toInt < 97 ∨ 122 < p0.toInt) → wp (j16 ()) (Q_isSmall p0)) ?_ ?_
  · intro f4
    show wp _ _
    exact Jj17 (0 : Int32) (show (0 ≤ (0 : Int32).toInt ∧ (0 : Int32).toInt ≤ 1) from by (first | omega | (simp only [id_eq] at *; omega))) (show ((0 : Int32).toInt = 1 → 97 ≤ p0.toInt ∧ p0.toInt ≤ 122) from by (first | omega | (simp only [id_eq] at *; omega))) (show ((0 : Int32).toInt = 0 → p0.toInt < 97 ∨ 122 < p0.toInt) from by (first | omega | (simp only [id_eq] at *; omega)))
  intro j16 Jj16
  refine wp_ite (fun c3 => ?_) (fun c3 => ?_)
  · have c3 := (z_lt _ _).mp c3
    exact Jj16 (show (p0.toInt < 97 ∨ 122 < p0.toInt) from by (first | omega | (simp only [id_eq] at *; omega)))
  · have c3 := z_nlt c3
    refine wp_ite (fun c9 => ?_) (fun c9 => ?_)
    · have c9 := (z_lt _ _).mp c9
      exact Jj16 (show (p0.toInt < 97 ∨ 122 < p0.toInt) from by (first | omega | (simp only [id_eq] at *; omega)))
    · have c9 := z_nlt c9
      exact Jj17 (1 : Int32) (show (0 ≤ (1 : Int32).toInt ∧ (1 : Int32).toInt ≤ 1) from by (first | omega | (simp only [id_eq] at *; omega))) (show ((1 : Int32).toInt = 1 → 97 ≤ p0.toInt ∧ p0.toInt ≤ 122) from by (first | omega | (simp only [id_eq] at *; omega))) (show ((1 : Int32).toInt = 0 → p0.toInt < 97 ∨ 122 < p0.toInt) from by (first | omega | (simp only [id_eq] at *; omega)))
abbrev Q_isLetter (p0 : Int32) : (Int32) → Prop := (fun t => ((t.toInt = 1 → 65 ≤ p0.toInt)) ∧ ((0 ≤ t.toInt ∧ t.toInt ≤ 1)))
set_option maxHeartbeats 4000000 in
set_option maxRecDepth 100000 in
theorem ok_isLetter (p0 : Int32) : wp (f_isLetter p0) (Q_isLetter p0) := by
  unfold f_isLetter
  have zk0 : (0 : Int32).toInt = 0 := by decide +kernel
  have zk1 : (1 : Int32).toInt = 1 := by decide +kernel
  have zk65 : (65 : Int32).toInt = 65 := by decide +kernel
  have zk90 : (90 : Int32).toInt = 90 := by decide +kernel
  obtain ⟨r1, hc1, hq1⟩ := ok_isSmall p0 
  obtain ⟨f1, f2, f3⟩ : (id (r1.toInt = 1 → 97 ≤ p0.toInt ∧ p0.toInt ≤ 122)) ∧ (id (r1.toInt = 0 → p0.toInt < 97 ∨ 122 < p0.toInt)) ∧ ((0 ≤ r1.toInt ∧ r1.toInt ≤ 1)) := hq1
  refine wp_b1 hc1 ?_
  clear hc1
  refine wp_jn (fun j24 => ∀ (t24_0 : Int32), (0 ≤ t24_0.toInt ∧ t24_0.toInt ≤ 1) → (t24_0.toInt = 1 → 65 ≤ p0.toInt) → wp (j24 t24_0) (Q_isLetter p0)) ?_ ?_
  · intro t24_0 f4 f5
    show wp _ _
    refine wp_if ⟨by (first | omega | (simp only [id_eq] at *; omega)), by (first | omega | (simp only [id_eq] at *; omega))⟩ ?_
    exact ⟨_, rfl, ⟨(show (t24_0.toInt = 1 → 65 ≤ p0.toInt) from by (first | omega | (simp only [id_eq] at *; omega))), (show (0 ≤ t24_0.toInt ∧ t24_0.toInt ≤ 1) from by (first | omega | (simp only [id_eq] at *; omega)))⟩⟩
  intro j24 Jj24
  refine wp_jn (fun j19 => 65 ≤ p0.toInt → wp (j19 ()) (Q_isLetter p0)) ?_ ?_
  · intro f6
    show wp _ _
    exact Jj24 (1 : Int32) (show (0 ≤ (1 : Int32).toInt ∧ (1 : Int32).toInt ≤ 1) from by (first | omega | (simp only [id_eq] at *; omega))) (show ((1 : Int32).toInt = 1 → 65 ≤ p0.toInt) from by (first | omega | (simp only [id_eq] at *; omega)))
  intro j19 Jj19
  refine wp_ite (fun c4 => ?_) (fun c4 => ?_)
  · have c4 := congrArg Int32.toInt c4
    refine wp_jn (fun j23 => wp (j23 ()) (Q_isLetter p0)) ?_ ?_
    · show wp _ _
      show wp _ _
      exact Jj24 (0 : Int32) (show (0 ≤ (0 : Int32).toInt ∧ (0 : Int32).toInt ≤ 1) from by (first | omega | (simp only [id_eq] at *; omega))) (show ((0 : Int32).toInt = 1 → 65 ≤ p0.toInt) from by (first | omega | (simp only [id_eq] at *; omega)))
    intro j23 Jj23
    refine wp_ite (fun c10 => ?_) (fun c10 => ?_)
    · have c10 := (z_lt _ _).mp c10
      exact Jj23
    · have c10 := z_nlt c10
      refine wp_ite (fun c16 => ?_) (fun c16 => ?_)
      · have c16 := (z_lt _ _).mp c16
        exact Jj23
      · have c16 := z_nlt c16
        exact Jj19 (show 65 ≤ p0.toInt from by (first | omega | (simp only [id_eq] at *; omega)))
  · have c4 := z_ne c4
    exact Jj19 (show 65 ≤ p0.toInt from by (first | omega | (simp only [id_eq] at *; omega)))
abbrev Q_see (g : Nat → Int32) (F : Nat → Nat → Int32) (p0 : Int32) : (Int32) → Prop := (fun t => (((-1) ≤ t.toInt ∧ t.toInt ≤ 255)) ∧ (((g 2).toInt ≤ p0.toInt → t.toInt = -1)) ∧ ((p0.toInt < (g 2).toInt → 0 ≤ t.toInt)))
set_option maxHeartbeats 4000000 in
set_option maxRecDepth 100000 in
theorem ok_see (g : Nat → Int32) (F : Nat → Nat → Int32) (p0 : Int32) (hI : MInv g F) (hp0 : 0 ≤ p0.toInt) : wp (f_see g F p0) (Q_see g F p0) := by
  unfold f_see
  refine MInv_e hI (fun (hzg1 : id _) hzg2 (hzg3 : id _) (hzg4 : id _) (hzg5 : id _) (hzg6 : id _) (hzg7 : id _) (hzg8 : id _) (hzg9 : id _) (hzg23 : id _) (hzg27 : id _) (hzg30 : id _) (hzg34 : id _) (hzg36 : id _) (hzg39 : id _) (hzg44 : id _) (hzg47 : id _) (hzg48 : id _) (hzg51 : id _) (hzg56 : id _) (hzg59 : id _) (hzg62 : id _) (hzg65 : id _) (hzg66 : id _) (hzg70 : id _) hzF11 hzF12 hzF13 hzF15 hzF19 hzF21 hzF24 hzF25 hzF26 hzF33 hzF38 hzF41 hzF43 hzF45 hzF46 hzF50 hzF53 hzF54 hzLQ => ?_)
  clear hI
  have zkm1 : (-1 : Int32).toInt = -1 := by decide +kernel
  have zk255 : (255 : Int32).toInt = 255 := by decide +kernel
  refine wp_jn (fun j22 => ∀ (t22_0 : Int32), ((-1) ≤ t22_0.toInt ∧ t22_0.toInt ≤ 255) → ((g 2).toInt ≤ p0.toInt → t22_0.toInt = -1) → (p0.toInt < (g 2).toInt → 0 ≤ t22_0.toInt) → wp (j22 t22_0) (Q_see g F p0)) ?_ ?_
  · intro t22_0 f1 f2 f3
    show wp _ _
    exact ⟨_, rfl, ⟨(show ((-1) ≤ t22_0.toInt ∧ t22_0.toInt ≤ 255) from by (first | omega | (simp only [id_eq] at *; omega))), (show ((g 2).toInt ≤ p0.toInt → t22_0.toInt = -1) from by (first | omega | (simp only [id_eq] at *; omega))), (show (p0.toInt < (g 2).toInt → 0 ≤ t22_0.toInt) from by (first | omega | (simp only [id_eq] at *; omega)))⟩⟩
  intro j22 Jj22
  refine wp_ite (fun c5 => ?_) (fun c5 => ?_)
  · have c5 := (z_le _ _).mp c5
    exact Jj22 (-1 : Int32) (show ((-1) ≤ (-1 : Int32).toInt ∧ (-1 : Int32).toInt ≤ 255) from by (first | omega | (simp only [id_eq] at *; omega))) (show ((g 2).toInt ≤ p0.toInt → (-1 : Int32).toInt = -1) from by (first | omega | (simp only [id_eq] at *; omega))) (show (p0.toInt < (g 2).toInt → 0 ≤ (-1 : Int32).toInt) from by (first | omega | (simp only [id_eq] at *; omega)))
  · have c5 := z_nle c5
    refine wp_if ⟨by (first | omega | (simp only [id_eq] at *; omega)), by (first | omega | (simp only [id_eq] at *; omega))⟩ ?_
    have f4 := z_and255 ((F 0) (Int32.toNatClampNeg p0))
    exact Jj22 (((F 0) (Int32.toNatClampNeg p0)) &&& 255) (show ((-1) ≤ (((F 0) (Int32.toNatClampNeg p0)) &&& 255).toInt ∧ (((F 0) (Int32.toNatClampNeg p0)) &&& 255).toInt ≤ 255) from by (first | omega | (simp only [id_eq] at *; omega))) (show ((g 2).toInt ≤ p0.toInt → (((F 0) (Int32.toNatClampNeg p0)) &&& 255).toInt = -1) from by (first | omega | (simp only [id_eq] at *; omega))) (show (p0.toInt < (g 2).toInt → 0 ≤ (((F 0) (Int32.toNatClampNeg p0)) &&& 255).toInt) from by (first | omega | (simp only [id_eq] at *; omega)))
abbrev Q_wrong (g : Nat → Int32) (F : Nat → Nat → Int32) (p0 : Int32) : (Int32 × Int32 × Int32) → Prop := (fun t => (((0) ≤ (t.2.1).toInt ∧ (t.2.1).toInt ≤ 4)) ∧ (((-1) ≤ (t.2.2).toInt ∧ (t.2.2).toInt ≤ 2001)) ∧ ((t.1).toInt = 0) ∧ ((0 ≤ (t.1).toInt ∧ (t.1).toInt ≤ 1)))
set_option maxHeartbeats 4000000 in
set_option maxRecDepth 100000 in
theorem ok_wrong (g : Nat → Int32) (F : Nat → Nat → Int32) (p0 : Int32) (hI : MInv g F) (hp0 : 0 ≤ p0.toInt ∧ p0.toInt ≤ 4) : wp (f_wrong g F p0) (Q_wrong g F p0) := by
  unfold f_wrong
  refine MInv_e hI (fun (hzg1 : id _) (hzg2 : id _) (hzg3 : id _) (hzg4 : id _) hzg5 (hzg6 : id _) (hzg7 : id _) (hzg8 : id _) (hzg9 : id _) (hzg23 : id _) (hzg27 : id _) (hzg30 : id _) (hzg34 : id _) (hzg36 : id _) (hzg39 : id _) (hzg44 : id _) (hzg47 : id _) (hzg48 : id _) (hzg51 : id _) (hzg56 : id _) (hzg59 : id _) (hzg62 : id _) (hzg65 : id _) (hzg66 : id _) (hzg70 : id _) hzF11 hzF12 hzF13 hzF15 hzF19 hzF21 hzF24 hzF25 hzF26 hzF33 hzF38 hzF41 hzF43 hzF45 hzF46 hzF50 hzF53 hzF54 hzLQ => ?_)
  clear hI
  have zk0 : (0 : Int32).toInt = 0 := by decide +kernel
  have hg1 : ((0) ≤ p0.toInt ∧ p0.toInt ≤ 4) := ⟨by (first | omega | (simp only [id_eq] at *; omega)), by (first | omega | (simp only [id_eq] at *; omega))⟩
  have hg2 : ((-1) ≤ (g 5).toInt ∧ (g 5).toInt ≤ 2001) := ⟨by (first | omega | (simp only [id_eq] at *; omega)), by (first | omega | (simp only [id_eq] at *; omega))⟩
  exact ⟨_, rfl, ⟨hg1, hg2, (show (0 : Int32).toInt = 0 from by (first | omega | (simp only [id_eq] at *; omega))), (show (0 ≤ (0 : Int32).toInt ∧ (0 : Int32).toInt ≤ 1) from by (first | omega | (simp only [id_eq] at *; omega)))⟩⟩
abbrev Q_isStage (g : Nat → Int32) (F : Nat → Nat → Int32) (p0 : Int32) : (Int32) → Prop := (fun t => ((t.toInt = 1 → 0 ≤ p0.toInt ∧ p0.toInt ≤ (g 9).toInt)) ∧ ((0 ≤ t.toInt ∧ t.toInt ≤ 1)))
set_option maxHeartbeats 4000000 in
set_option maxRecDepth 100000 in
theorem ok_isStage (g : Nat → Int32) (F : Nat → Nat → Int32) (p0 : Int32) (hI : MInv g F) : wp (f_isStage g F p0) (Q_isStage g F p0) := by
  unfold f_isStage
  refine MInv_e hI (fun (hzg1 : id _) (hzg2 : id _) (hzg3 : id _) (hzg4 : id _) (hzg5 : id _) (hzg6 : id _) (hzg7 : id _) (hzg8 : id _) hzg9 (hzg23 : id _) (hzg27 : id _) (hzg30 : id _) (hzg34 : id _) (hzg36 : id _) (hzg39 : id _) (hzg44 : id _) (hzg47 : id _) (hzg48 : id _) (hzg51 : id _) (hzg56 : id _) (hzg59 : id _) (hzg62 : id _) (hzg65 : id _) (hzg66 : id _) (hzg70 : id _) hzF11 hzF12 hzF13 hzF15 hzF19 hzF21 hzF24 hzF25 hzF26 hzF33 hzF38 hzF41 hzF43 hzF45 hzF46 hzF50 hzF53 hzF54 hzLQ => ?_)
  clear hI
  have zk0 : (0 : Int32).toInt = 0 := by decide +kernel
  obtain ⟨r6, hc6, hq6⟩ := ok_in p0 0 (g 9) 
  obtain ⟨f1, f2, f3⟩ : (id (r6.toInt = 1 → (0 : Int32).toInt ≤ p0.toInt ∧ p0.toInt ≤ (g 9).toInt)) ∧ (id (r6.toInt = 0 → p0.toInt < (0 : Int32).toInt ∨ (g 9).toInt < p0.toInt)) ∧ ((0 ≤ r6.toInt ∧ r6.toInt ≤ 1)) := hq6
  refine wp_b1 hc6 ?_
  clear hc6
  refine wp_if ⟨by (first | omega | (simp only [id_eq] at *; omega)), by (first | omega | (simp only [id_eq] at *; omega))⟩ ?_
  exact ⟨_, rfl, ⟨(show (r6.toInt = 1 → 0 ≤ p0.toInt ∧ p0.toInt ≤ (g 9).toInt) from by (first | omega | (simp only [id_eq] at *; omega))), (show (0 ≤ r6.toInt ∧ r6.toInt ≤ 1) from by (first | omega | (simp only [id_eq] at *; omega)))⟩⟩
abbrev Q_hasNought (g : Nat → Int32) (F : Nat → Nat → Int32) (p0 : Int32) : (Int32) → Prop := (fun t => ((0 ≤ t.toInt ∧ t.toInt ≤ 1)))
set_option maxHeartbeats 4000000 in
set_option maxRecDepth 100000 in
theorem ok_hasNought (g : Nat → Int32) (F : Nat → Nat → Int32) (p0 : Int32) (hI : MInv g F) (hp0 : p0.toInt ≤ 2000) : wp (f_hasNought g F p0) (Q_hasNought g F p0) := by
  unfold f_hasNought
  refine MInv_e hI (fun (hzg1 : id _) (hzg2 : id _) (hzg3 : id _) (hzg4 : id _) (hzg5 : id _) (hzg6 : id _) (hzg7 : id _) (hzg8 : id _) (hzg9 : id _) (hzg23 : id _) (hzg27 : id _) (hzg30 : id _) (hzg34 : id _) (hzg36 : id _) (hzg39 : id _) (hzg44 : id _) (hzg47 : id _) (hzg48 : id _) (hzg51 : id _) (hzg56 : id _) (hzg59 : id _) (hzg62 : id _) (hzg65 : id _) (hzg66 : id _) (hzg70 : id _) hzF11 hzF12 hzF13 hzF15 hzF19 hzF21 hzF24 hzF25 hzF26 hzF33 hzF38 hzF41 hzF43 hzF45 hzF46 hzF50 hzF53 hzF54 hzLQ => ?_)
  clear hI
  have zk0 : (0 : Int32).toInt = 0 := by decide +kernel
  have zk1 : (1 : Int32).toInt = 1 := by decide +kernel
  have lp2 : ∀ (n2 : Nat) (y2_2 : Int32), (2000 - y2_2.toInt).toNat < n2 → 0 ≤ y2_2.toInt → wp (L_hasNought_2 F p0 n2 y2_2) (Q_hasNought g F p0) := by
    intro n2
    induction n2 with
    | zero => intro y2_2 hm; exact absurd hm (Nat.not_lt_zero _)
    | succ n2 ih2 =>
      intro y2_2 hm2 f1
      show wp (B_hasNought_2 F p0 (L_hasNought_2 F p0 n2) y2_2) _
      unfold B_hasNought_2
      refine wp_ite (fun c4 => ?_) (fun c4 => ?_)
      · have c4 := (z_le _ _).mp c4
        exact ⟨_, rfl, (show (0 ≤ (0 : Int32).toInt ∧ (0 : Int32).toInt ≤ 1) from by (first | omega | (simp only [id_eq] at *; omega)))⟩
      · have c4 := z_nle c4
        refine wp_if ⟨by (first | omega | (simp only [id_eq] at *; omega)), by (first | omega | (simp only [id_eq] at *; omega))⟩ ?_
        refine wp_ite (fun c13 => ?_) (fun c13 => ?_)
        · have c13 := congrArg Int32.toInt c13
          exact ⟨_, rfl, (show (0 ≤ (1 : Int32).toInt ∧ (1 : Int32).toInt ≤ 1) from by (first | omega | (simp only [id_eq] at *; omega)))⟩
        · have c13 := z_ne c13
          have f2 : (y2_2 + 1).toInt = y2_2.toInt + (1) := z_addc (by decide +kernel) (by (first | omega | (simp only [id_eq] at *; omega))) (by (first | omega | (simp only [id_eq] at *; omega)))
          exact ih2 (y2_2 + 1) (show (2000 - (y2_2 + 1).toInt).toNat < n2 from by (first | omega | (simp only [id_eq] at *; omega))) (show 0 ≤ (y2_2 + 1).toInt from by (first | omega | (simp only [id_eq] at *; omega)))
  exact lp2 NN (0 : Int32) (by have := NN_eq; (first | omega | (simp only [id_eq] at *; omega))) (show 0 ≤ (0 : Int32).toInt from by (first | omega | (simp only [id_eq] at *; omega)))
abbrev Q_feed (g : Nat → Int32) (F : Nat → Nat → Int32) (p0 : Int32) (p1 : Int32) (p2 : Int32) (p3 : Int32) (p4 : Int32) : (Int32 × Int32 × (Nat → Int32)) → Prop := (fun t => (((0) ≤ (t.2.1).toInt ∧ (t.2.1).toInt ≤ 2000)) ∧ (((g 1).toInt + 20 ≤ 2000 → (t.2.1).toInt = (g 1).toInt + 20 ∧ (t.1).toInt = (g 1).toInt + 20)) ∧ ((2000 < (g 1).toInt + 20 → (t.2.1).toInt = (g 1).toInt ∧ (t.1).toInt = -3)))
set_option maxHeartbeats 4000000 in
set_option maxRecDepth 100000 in
theorem ok_feed (g : Nat → Int32) (F : Nat → Nat → Int32) (p0 : Int32) (p1 : Int32) (p2 : Int32) (p3 : Int32) (p4 : Int32) (hI : MInv g F) : wp (f_feed g F p0 p1 p2 p3 p4) (Q_feed g F p0 p1 p2 p3 p4) := by
  unfold f_feed
  refine MInv_e hI (fun hzg1 (hzg2 : id _) (hzg3 : id _) (hzg4 : id _) (hzg5 : id _) (hzg6 : id _) (hzg7 : id _) (hzg8 : id _) (hzg9 : id _) (hzg23 : id _) (hzg27 : id _) (hzg30 : id _) (hzg34 : id _) (hzg36 : id _) (hzg39 : id _) (hzg44 : id _) (hzg47 : id _) (hzg48 : id _) (hzg51 : id _) (hzg56 : id _) (hzg59 : id _) (hzg62 : id _) (hzg65 : id _) (hzg66 : id _) (hzg70 : id _) hzF11 hzF12 hzF13 hzF15 hzF19 hzF21 hzF24 hzF25 hzF26 hzF33 hzF38 hzF41 hzF43 hzF45 hzF46 hzF50 hzF53 hzF54 hzLQ => ?_)
  clear hI
  have zkm3 : (-3 : Int32).toInt = -3 := by decide +kernel
  have zk0 : (0 : Int32).toInt = 0 := by decide +kernel
  have zk1 : (1 : Int32).toInt = 1 := by decide +kernel
  have zk2 : (2 : Int32).toInt = 2 := by decide +kernel
  have zk3 : (3 : Int32).toInt = 3 := by decide +kernel
  have zk5 : (5 : Int32).toInt = 5 := by decide +kernel
  have zk20 : (20 : Int32).toInt = 20 := by decide +kernel
  have zk24 : (24 : Int32).toInt = 24 := by decide +kernel
  have zk2000 : (2000 : Int32).toInt = 2000 := by decide +kernel
  have f1 : ((g 1) + 20).toInt = (g 1).toInt + 20 := z_addc (by decide +kernel) (by (first | omega | (simp only [id_eq] at *; omega))) (by (first | omega | (simp only [id_eq] at *; omega)))
  refine wp_ite (fun c10 => ?_) (fun c10 => ?_)
  · have c10 := (z_le _ _).mp c10
    have lp19 : ∀ (n19 : Nat) (y19_6 : Int32) (d19_g1 : Int32) (d19_F0 : (Nat → Int32)), (5 - y19_6.toInt).toNat < n19 → ((0) ≤ d19_g1.toInt ∧ d19_g1.toInt ≤ 2000) → (0 ≤ y19_6.toInt ∧ y19_6.toInt ≤ 5) → d19_g1.toInt = (g 1).toInt + 4 * y19_6.toInt → wp (L_feed_19 p0 p1 p2 p3 p4 n19 y19_6 d19_g1 d19_F0) (Q_feed g F p0 p1 p2 p3 p4) := by
      intro n19
      induction n19 with
      | zero => intro y19_6 d19_g1 d19_F0 hm; exact absurd hm (Nat.not_lt_zero _)
      | succ n19 ih19 =>
        intro y19_6 d19_g1 d19_F0 hm19 hg2 f3 f4
        show wp (B_feed_19 p0 p1 p2 p3 p4 (L_feed_19 p0 p1 p2 p3 p4 n19) y19_6 d19_g1 d19_F0) _
        unfold B_feed_19
        refine wp_ite (fun c22 => ?_) (fun c22 => ?_)
        · have c22 := (z_le _ _).mp c22
          exact ⟨_, rfl, ⟨hg2, (show ((g 1).toInt + 20 ≤ 2000 → d19_g1.toInt = (g 1).toInt + 20 ∧ d19_g1.toInt = (g 1).toInt + 20) from by (first | omega | (simp only [id_eq] at *; omega))), (show (2000 < (g 1).toInt + 20 → d19_g1.toInt = (g 1).toInt ∧ d19_g1.toInt = -3) from by (first | omega | (simp only [id_eq] at *; omega)))⟩⟩
        · have c22 := z_nle c22
          refine wp_jn (fun j67 => ∀ (t67_0 : Int32), wp (j67 t67_0) (Q_feed g F p0 p1 p2 p3 p4)) ?_ ?_
          · intro t67_0
            show wp _ _
            refine wp_jn (fun k109 => ∀ (c109_g1 : Int32) (c109_F0 : (Nat → Int32)), ((0) ≤ c109_g1.toInt ∧ c109_g1.toInt ≤ 2000) → (0 ≤ c109_g1.toInt - (g 1).toInt - 4 * y19_6.toInt ∧ c109_g1.toInt - (g 1).toInt - 4 * y19_6.toInt ≤ 4) → c109_g1.toInt = (g 1).toInt + 4 * y19_6.toInt + 4 → wp (k109 c109_g1 c109_F0) (Q_feed g F p0 p1 p2 p3 p4)) ?_ ?_
            · intro c109_g1 c109_F0 hg5 f6 f7
              show wp _ _
              have f8 : (y19_6 + 1).toInt = y19_6.toInt + (1) := z_addc (by decide +kernel) (by (first | omega | (simp only [id_eq] at *; omega))) (by (first | omega | (simp only [id_eq] at *; omega)))
              exact ih19 (y19_6 + 1) c109_g1 c109_F0 (show (5 - (y19_6 + 1).toInt).toNat < n19 from by (first | omega | (simp only [id_eq] at *; omega))) hg5 (show (0 ≤ (y19_6 + 1).toInt ∧ (y19_6 + 1).toInt ≤ 5) from by (first | omega | (simp only [id_eq] at *; omega))) (show c109_g1.toInt = (g 1).toInt + 4 * (y19_6 + 1).toInt from by (first | omega | (simp only [id_eq] at *; omega)))
            intro k109 Jk109
            have lp73 : ∀ (n73 : Nat) (y73_8 : Int32) (d73_g1 : Int32) (d73_F0 : (Nat → Int32)), (4 - (d73_g1.toInt - (g 1).toInt - 4 * y19_6.toInt)).toNat < n73 → ((0) ≤ d73_g1.toInt ∧ d73_g1.toInt ≤ 2000) → (0 ≤ d73_g1.toInt - (g 1).toInt - 4 * y19_6.toInt ∧ d73_g1.toInt - (g 1).toInt - 4 * y19_6.toInt ≤ 4) → y73_8.toInt = 24 - 8 * (d73_g1.toInt - (g 1).toInt - 4 * y19_6.toInt) → wp (L_feed_73 t67_0 k109 n73 y73_8 d73_g1 d73_F0) (Q_feed g F p0 p1 p2 p3 p4) := by
              intro n73
              induction n73 with
              | zero => intro y73_8 d73_g1 d73_F0 hm; exact absurd hm (Nat.not_lt_zero _)
              | succ n73 ih73 =>
                intro y73_8 d73_g1 d73_F0 hm73 hg9 f10 f11
                show wp (B_feed_73 t67_0 k109 (L_feed_73 t67_0 k109 n73) y73_8 d73_g1 d73_F0) _
                unfold B_feed_73
                refine wp_ite (fun c75 => ?_) (fun c75 => ?_)
                · have c75 := (z_lt _ _).mp c75
                  exact Jk109 d73_g1 d73_F0 hg9 (show (0 ≤ d73_g1.toInt - (g 1).toInt - 4 * y19_6.toInt ∧ d73_g1.toInt - (g 1).toInt - 4 * y19_6.toInt ≤ 4) from by (first | omega | (simp only [id_eq] at *; omega))) (show d73_g1.toInt = (g 1).toInt + 4 * y19_6.toInt + 4 from by (first | omega | (simp only [id_eq] at *; omega)))
                · have c75 := z_nlt c75
                  refine wp_if ⟨by (first | omega | (simp only [id_eq] at *; omega)), by (first | omega | (simp only [id_eq] at *; omega))⟩ ?_
                  refine wp_vl (fun w92 ew92 => ?_)
                  clear ew92
                  have f12 : (d73_g1 + 1).toInt = d73_g1.toInt + 1 := z_addc (by decide +kernel) (by (first | omega | (simp only [id_eq] at *; omega))) (by (first | omega | (simp only [id_eq] at *; omega)))
                  refine wp_vl (fun x100 ex100 => ?_)
                  have f13 : x100.toInt = (d73_g1 + 1).toInt := congrArg Int32.toInt ex100
                  clear ex100
                  have hg14 : ((0) ≤ x100.toInt ∧ x100.toInt ≤ 2000) := ⟨by (first | omega | (simp only [id_eq] at *; omega)), by (first | omega | (simp only [id_eq] at *; omega))⟩
                  have f15 : (y73_8 + (-8)).toInt = y73_8.toInt + (-8) := z_addc (by decide +kernel) (by (first | omega | (simp only [id_eq] at *; omega))) (by (first | omega | (simp only [id_eq] at *; omega)))
                  obtain ⟨z16, ez16⟩ : ∃ z : Int32, z = (y73_8 + (-8)) := ⟨_, rfl⟩
                  have fz16 : z16.toInt = y73_8.toInt + (-8) := by rw [ez16]; exact f15
                  rw [← ez16]
                  clear f15 ez16
                  exact ih73 z16 x100 w92 (show (4 - (x100.toInt - (g 1).toInt - 4 * y19_6.toInt)).toNat < n73 from by (first | omega | (simp only [id_eq] at *; omega))) hg14 (show (0 ≤ x100.toInt - (g 1).toInt - 4 * y19_6.toInt ∧ x100.toInt - (g 1).toInt - 4 * y19_6.toInt ≤ 4) from by (first | omega | (simp only [id_eq] at *; omega))) (show z16.toInt = 24 - 8 * (x100.toInt - (g 1).toInt - 4 * y19_6.toInt) from by (first | omega | (simp only [id_eq] at *; omega)))
            exact lp73 NN (24 : Int32) d19_g1 d19_F0 (by have := NN_eq; (first | omega | (simp only [id_eq] at *; omega))) hg2 (show (0 ≤ d19_g1.toInt - (g 1).toInt - 4 * y19_6.toInt ∧ d19_g1.toInt - (g 1).toInt - 4 * y19_6.toInt ≤ 4) from by (first | omega | (simp only [id_eq] at *; omega))) (show (24 : Int32).toInt = 24 - 8 * (d19_g1.toInt - (g 1).toInt - 4 * y19_6.toInt) from by (first | omega | (simp only [id_eq] at *; omega)))
          intro j67 Jj67
          refine wp_ite (fun c27 => ?_) (fun c27 => ?_)
          · have c27 := congrArg Int32.toInt c27
            exact Jj67 p0
          · have c27 := z_ne c27
            refine wp_ite (fun c37 => ?_) (fun c37 => ?_)
            · have c37 := congrArg Int32.toInt c37
              exact Jj67 p1
            · have c37 := z_ne c37
              refine wp_ite (fun c47 => ?_) (fun c47 => ?_)
              · have c47 := congrArg Int32.toInt c47
                exact Jj67 p2
              · have c47 := z_ne c47
                refine wp_ite (fun c57 => ?_) (fun c57 => ?_)
                · have c57 := congrArg Int32.toInt c57
                  exact Jj67 p3
                · have c57 := z_ne c57
                  exact Jj67 p4
    exact lp19 NN (0 : Int32) (g 1) (F 0) (by have := NN_eq; (first | omega | (simp only [id_eq] at *; omega))) hzg1 (show (0 ≤ (0 : Int32).toInt ∧ (0 : Int32).toInt ≤ 5) from by (first | omega | (simp only [id_eq] at *; omega))) (show (g 1).toInt = (g 1).toInt + 4 * (0 : Int32).toInt from by (first | omega | (simp only [id_eq] at *; omega)))
  · have c10 := z_nle c10
    exact ⟨_, rfl, ⟨hzg1, (show ((g 1).toInt + 20 ≤ 2000 → (g 1).toInt = (g 1).toInt + 20 ∧ (-3 : Int32).toInt = (g 1).toInt + 20) from by (first | omega | (simp only [id_eq] at *; omega))), (show (2000 < (g 1).toInt + 20 → (g 1).toInt = (g 1).toInt ∧ (-3 : Int32).toInt = -3) from by (first | omega | (simp only [id_eq] at *; omega)))⟩⟩
abbrev Q_end (g : Nat → Int32) (F : Nat → Nat → Int32) (p0 : Int32) : (Int32 × Int32) → Prop := (fun t => (((0) ≤ (t.2).toInt ∧ (t.2).toInt ≤ 2000)) ∧ ((0 ≤ p0.toInt ∧ p0.toInt ≤ (g 1).toInt → (t.2).toInt = p0.toInt ∧ (t.1).toInt = p0.toInt)) ∧ ((p0.toInt < 0 ∨ (g 1).toInt < p0.toInt → (t.2).toInt = (g 1).toInt ∧ (t.1).toInt = -1)))
set_option maxHeartbeats 4000000 in
set_option maxRecDepth 100000 in
theorem ok_end (g : Nat → Int32) (F : Nat → Nat → Int32) (p0 : Int32) (hI : MInv g F) : wp (f_end g F p0) (Q_end g F p0) := by
  unfold f_end
  refine MInv_e hI (fun hzg1 (hzg2 : id _) (hzg3 : id _) (hzg4 : id _) (hzg5 : id _) (hzg6 : id _) (hzg7 : id _) (hzg8 : id _) (hzg9 : id _) (hzg23 : id _) (hzg27 : id _) (hzg30 : id _) (hzg34 : id _) (hzg36 : id _) (hzg39 : id _) (hzg44 : id _) (hzg47 : id _) (hzg48 : id _) (hzg51 : id _) (hzg56 : id _) (hzg59 : id _) (hzg62 : id _) (hzg65 : id _) (hzg66 : id _) (hzg70 : id _) hzF11 hzF12 hzF13 hzF15 hzF19 hzF21 hzF24 hzF25 hzF26 hzF33 hzF38 hzF41 hzF43 hzF45 hzF46 hzF50 hzF53 hzF54 hzLQ => ?_)
  clear hI
  have zkm1 : (-1 : Int32).toInt = -1 := by decide +kernel
  have zk0 : (0 : Int32).toInt = 0 := by decide +kernel
  refine wp_jn (fun j12 => (p0.toInt < 0 ∨ (g 1).toInt < p0.toInt) → wp (j12 ()) (Q_end g F p0)) ?_ ?_
  · intro f1
    show wp _ _
    exact ⟨_, rfl, ⟨hzg1, (show (0 ≤ p0.toInt ∧ p0.toInt ≤ (g 1).toInt → (g 1).toInt = p0.toInt ∧ (-1 : Int32).toInt = p0.toInt) from by (first | omega | (simp only [id_eq] at *; omega))), (show (p0.toInt < 0 ∨ (g 1).toInt < p0.toInt → (g 1).toInt = (g 1).toInt ∧ (-1 : Int32).toInt = -1) from by (first | omega | (simp only [id_eq] at *; omega)))⟩⟩
  intro j12 Jj12
  refine wp_ite (fun c1 => ?_) (fun c1 => ?_)
  · have c1 := (z_lt _ _).mp c1
    exact Jj12 (show (p0.toInt < 0 ∨ (g 1).toInt < p0.toInt) from by (first | omega | (simp only [id_eq] at *; omega)))
  · have c1 := z_nlt c1
    refine wp_ite (fun c9 => ?_) (fun c9 => ?_)
    · have c9 := (z_le _ _).mp c9
      have hg2 : ((0) ≤ p0.toInt ∧ p0.toInt ≤ 2000) := ⟨by (first | omega | (simp only [id_eq] at *; omega)), by (first | omega | (simp only [id_eq] at *; omega))⟩
      exact ⟨_, rfl, ⟨hg2, (show (0 ≤ p0.toInt ∧ p0.toInt ≤ (g 1).toInt → p0.toInt = p0.toInt ∧ p0.toInt = p0.toInt) from by (first | omega | (simp only [id_eq] at *; omega))), (show (p0.toInt < 0 ∨ (g 1).toInt < p0.toInt → p0.toInt = (g 1).toInt ∧ p0.toInt = -1) from by (first | omega | (simp only [id_eq] at *; omega)))⟩⟩
    · have c9 := z_nle c9
      exact Jj12 (show (p0.toInt < 0 ∨ (g 1).toInt < p0.toInt) from by (first | omega | (simp only [id_eq] at *; omega)))
abbrev Q_sameBytes (A0 : (Nat → Int32)) (n0 : Nat) (p1 : Int32) (p2 : Int32) (A3 : (Nat → Int32)) (n3 : Nat) (p4 : Int32) (p5 : Int32) : (Int32) → Prop := (fun t => ((0 ≤ t.toInt ∧ t.toInt ≤ 1)))
set_option maxHeartbeats 4000000 in
set_option maxRecDepth 100000 in
theorem ok_sameBytes (A0 : (Nat → Int32)) (n0 : Nat) (p1 : Int32) (p2 : Int32) (A3 : (Nat → Int32)) (n3 : Nat) (p4 : Int32) (p5 : Int32) (hp0 : (0 ≤ p1.toInt ∧ p1.toInt + p2.toInt ≤ n0)) (hp1 : n0 ≤ 500000) (hp2 : (0 ≤ p4.toInt ∧ p4.toInt + p5.toInt ≤ n3)) (hp3 : n3 ≤ 500000) : wp (f_sameBytes A0 n0 p1 p2 A3 n3 p4 p5) (Q_sameBytes A0 n0 p1 p2 A3 n3 p4 p5) := by
  unfold f_sameBytes
  have zk0 : (0 : Int32).toInt = 0 := by decide +kernel
  have zk1 : (1 : Int32).toInt = 1 := by decide +kernel
  refine wp_ite (fun c3 => ?_) (fun c3 => ?_)
  · have c3 := congrArg Int32.toInt c3
    have lp11 : ∀ (n11 : Nat) (y11_6 : Int32), (p2.toInt - y11_6.toInt).toNat < n11 → 0 ≤ y11_6.toInt → wp (L_sameBytes_11 A0 n0 p1 p2 A3 n3 p4 n11 y11_6) (Q_sameBytes A0 n0 p1 p2 A3 n3 p4 p5) := by
      intro n11
      induction n11 with
      | zero => intro y11_6 hm; exact absurd hm (Nat.not_lt_zero _)
      | succ n11 ih11 =>
        intro y11_6 hm11 f1
        show wp (B_sameBytes_11 A0 n0 p1 p2 A3 n3 p4 (L_sameBytes_11 A0 n0 p1 p2 A3 n3 p4 n11) y11_6) _
        unfold B_sameBytes_11
        refine wp_ite (fun c14 => ?_) (fun c14 => ?_)
        · have c14 := (z_le _ _).mp c14
          exact ⟨_, rfl, (show (0 ≤ (1 : Int32).toInt ∧ (1 : Int32).toInt ≤ 1) from by (first | omega | (simp only [id_eq] at *; omega)))⟩
        · have c14 := z_nle c14
          have f2 : (p1 + y11_6).toInt = p1.toInt + y11_6.toInt := z_add (by (first | omega | (simp only [id_eq] at *; omega))) (by (first | omega | (simp only [id_eq] at *; omega)))
          refine wp_if ⟨by (first | omega | (simp only [id_eq] at *; omega)), by (first | omega | (simp only [id_eq] at *; omega))⟩ ?_
          have f3 : (p4 + y11_6).toInt = p4.toInt + y11_6.toInt := z_add (by (first | omega | (simp only [id_eq] at *; omega))) (by (first | omega | (simp only [id_eq] at *; omega)))
          refine wp_if ⟨by (first | omega | (simp only [id_eq] at *; omega)), by (first | omega | (simp only [id_eq] at *; omega))⟩ ?_
          refine wp_ite (fun c30 => ?_) (fun c30 => ?_)
          · have c30 := congrArg Int32.toInt c30
            have f4 : (y11_6 + 1).toInt = y11_6.toInt + (1) := z_addc (by decide +kernel) (by (first | omega | (simp only [id_eq] at *; omega))) (by (first | omega | (simp only [id_eq] at *; omega)))
            exact ih11 (y11_6 + 1) (show (p2.toInt - (y11_6 + 1).toInt).toNat < n11 from by (first | omega | (simp only [id_eq] at *; omega))) (show 0 ≤ (y11_6 + 1).toInt from by (first | omega | (simp only [id_eq] at *; omega)))
          · have c30 := z_ne c30
            exact ⟨_, rfl, (show (0 ≤ (0 : Int32).toInt ∧ (0 : Int32).toInt ≤ 1) from by (first | omega | (simp only [id_eq] at *; omega)))⟩
    exact lp11 NN (0 : Int32) (by have := NN_eq; (first | omega | (simp only [id_eq] at *; omega))) (show 0 ≤ (0 : Int32).toInt from by (first | omega | (simp only [id_eq] at *; omega)))
  · have c3 := z_ne c3
    exact ⟨_, rfl, (show (0 ≤ (0 : Int32).toInt ∧ (0 : Int32).toInt ≤ 1) from by (first | omega | (simp only [id_eq] at *; omega)))⟩
abbrev Q_takeWord (g : Nat → Int32) (F : Nat → Nat → Int32) (A0 : (Nat → Int32)) (n0 : Nat) (p1 : Int32) (p2 : Int32) : (Int32 × (Nat → Int32)) → Prop := (fun t => (((0) ≤ (t.1).toInt ∧ (t.1).toInt ≤ 24)) ∧ ((t.1).toInt = p2.toInt))
set_option maxHeartbeats 4000000 in
set_option maxRecDepth 100000 in
theorem ok_takeWord (g : Nat → Int32) (F : Nat → Nat → Int32) (A0 : (Nat → Int32)) (n0 : Nat) (p1 : Int32) (p2 : Int32) (hI : MInv g F) (hp0 : (0 ≤ p1.toInt ∧ p1.toInt + p2.toInt ≤ n0)) (hp1 : n0 ≤ 500000) (hp2 : (0 ≤ p2.toInt ∧ p2.toInt ≤ 24)) : wp (f_takeWord g F A0 n0 p1 p2) (Q_takeWord g F A0 n0 p1 p2) := by
  unfold f_takeWord
  refine MInv_e hI (fun (hzg1 : id _) (hzg2 : id _) (hzg3 : id _) (hzg4 : id _) (hzg5 : id _) (hzg6 : id _) (hzg7 : id _) (hzg8 : id _) (hzg9 : id _) (hzg23 : id _) (hzg27 : id _) (hzg30 : id _) (hzg34 : id _) (hzg36 : id _) (hzg39 : id _) (hzg44 : id _) (hzg47 : id _) (hzg48 : id _) (hzg51 : id _) (hzg56 : id _) (hzg59 : id _) (hzg62 : id _) (hzg65 : id _) (hzg66 : id _) (hzg70 : id _) hzF11 hzF12 hzF13 hzF15 hzF19 hzF21 hzF24 hzF25 hzF26 hzF33 hzF38 hzF41 hzF43 hzF45 hzF46 hzF50 hzF53 hzF54 hzLQ => ?_)
  clear hI
  have zk0 : (0 : Int32).toInt = 0 := by decide +kernel
  have lp3 : ∀ (n3 : Nat) (y3_4 : Int32) (d3_F22 : (Nat → Int32)), (p2.toInt - y3_4.toInt).toNat < n3 → 0 ≤ y3_4.toInt → wp (L_takeWord_3 A0 n0 p1 p2 n3 y3_4 d3_F22) (Q_takeWord g F A0 n0 p1 p2) := by
    intro n3
    induction n3 with
    | zero => intro y3_4 d3_F22 hm; exact absurd hm (Nat.not_lt_zero _)
    | succ n3 ih3 =>
      intro y3_4 d3_F22 hm3 f1
      show wp (B_takeWord_3 A0 n0 p1 p2 (L_takeWord_3 A0 n0 p1 p2 n3) y3_4 d3_F22) _
      unfold B_takeWord_3
      refine wp_ite (fun c6 => ?_) (fun c6 => ?_)
      · have c6 := (z_le _ _).mp c6
        have hg2 : ((0) ≤ p2.toInt ∧ p2.toInt ≤ 24) := ⟨by (first | omega | (simp only [id_eq] at *; omega)), by (first | omega | (simp only [id_eq] at *; omega))⟩
        exact ⟨_, rfl, ⟨hg2, (show p2.toInt = p2.toInt from by (first | omega | (simp only [id_eq] at *; omega)))⟩⟩
      · have c6 := z_nle c6
        have f3 : (p1 + y3_4).toInt = p1.toInt + y3_4.toInt := z_add (by (first | omega | (simp only [id_eq] at *; omega))) (by (first | omega | (simp only [id_eq] at *; omega)))
        refine wp_if ⟨by (first | omega | (simp only [id_eq] at *; omega)), by (first | omega | (simp only [id_eq] at *; omega))⟩ ?_
        refine wp_if ⟨by (first | omega | (simp only [id_eq] at *; omega)), by (first | omega | (simp only [id_eq] at *; omega))⟩ ?_
        refine wp_vl (fun w21 ew21 => ?_)
        clear ew21
        have f4 : (y3_4 + 1).toInt = y3_4.toInt + (1) := z_addc (by decide +kernel) (by (first | omega | (simp only [id_eq] at *; omega))) (by (first | omega | (simp only [id_eq] at *; omega)))
        exact ih3 (y3_4 + 1) w21 (show (p2.toInt - (y3_4 + 1).toInt).toNat < n3 from by (first | omega | (simp only [id_eq] at *; omega))) (show 0 ≤ (y3_4 + 1).toInt from by (first | omega | (simp only [id_eq] at *; omega)))
  exact lp3 NN (0 : Int32) (F 22) (by have := NN_eq; (first | omega | (simp only [id_eq] at *; omega))) (show 0 ≤ (0 : Int32).toInt from by (first | omega | (simp only [id_eq] at *; omega)))
abbrev Q_readWord (g : Nat → Int32) (F : Nat → Nat → Int32) : (Int32 × Int32 × Int32 × (Nat → Int32)) → Prop := (fun t => (((0) ≤ (t.2.1).toInt ∧ (t.2.1).toInt ≤ 2000)) ∧ (((0) ≤ (t.2.2.1).toInt ∧ (t.2.2.1).toInt ≤ 24)) ∧ ((t.2.1).toInt = 0) ∧ (((t.1).toInt = 1 → 1 ≤ (t.2.2.1).toInt)) ∧ ((0 ≤ (t.1).toInt ∧ (t.1).toInt ≤ 1)))
set_option maxHeartbeats 4000000 in
set_option maxRecDepth 100000 in
theorem ok_readWord (g : Nat → Int32) (F : Nat → Nat → Int32) (hI : MInv g F) : wp (f_readWord g F) (Q_readWord g F) := by
  unfold f_readWord
  refine MInv_e hI (fun hzg1 (hzg2 : id _) (hzg3 : id _) (hzg4 : id _) (hzg5 : id _) (hzg6 : id _) (hzg7 : id _) (hzg8 : id _) (hzg9 : id _) hzg23 (hzg27 : id _) (hzg30 : id _) (hzg34 : id _) (hzg36 : id _) (hzg39 : id _) (hzg44 : id _) (hzg47 : id _) (hzg48 : id _) (hzg51 : id _) (hzg56 : id _) (hzg59 : id _) (hzg62 : id _) (hzg65 : id _) (hzg66 : id _) (hzg70 : id _) hzF11 hzF12 hzF13 hzF15 hzF19 hzF21 hzF24 hzF25 hzF26 hzF33 hzF38 hzF41 hzF43 hzF45 hzF46 hzF50 hzF53 hzF54 hzLQ => ?_)
  clear hI
  have zk0 : (0 : Int32).toInt = 0 := by decide +kernel
  have zk1 : (1 : Int32).toInt = 1 := by decide +kernel
  have zk24 : (24 : Int32).toInt = 24 := by decide +kernel
  have hg1 : ((0) ≤ (0 : Int32).toInt ∧ (0 : Int32).toInt ≤ 2000) := ⟨by (first | omega | (simp only [id_eq] at *; omega)), by (first | omega | (simp only [id_eq] at *; omega))⟩
  obtain ⟨r14, hc14, hq14⟩ := ok_in (g 1) 1 24 
  obtain ⟨f2, f3, f4⟩ : (id (r14.toInt = 1 → (1 : Int32).toInt ≤ (g 1).toInt ∧ (g 1).toInt ≤ (24 : Int32).toInt)) ∧ (id (r14.toInt = 0 → (g 1).toInt < (1 : Int32).toInt ∨ (24 : Int32).toInt < (g 1).toInt)) ∧ ((0 ≤ r14.toInt ∧ r14.toInt ≤ 1)) := hq14
  refine wp_b1 hc14 ?_
  clear hc14
  refine wp_ite (fun c17 => ?_) (fun c17 => ?_)
  · have c17 := congrArg Int32.toInt c17
    exact ⟨_, rfl, ⟨hg1, hzg23, (show (0 : Int32).toInt = 0 from by (first | omega | (simp only [id_eq] at *; omega))), (show ((0 : Int32).toInt = 1 → 1 ≤ (g 23).toInt) from by (first | omega | (simp only [id_eq] at *; omega))), (show (0 ≤ (0 : Int32).toInt ∧ (0 : Int32).toInt ≤ 1) from by (first | omega | (simp only [id_eq] at *; omega)))⟩⟩
  · have c17 := z_ne c17
    have lp24 : ∀ (n24 : Nat) (y24_2 : Int32), (24 - y24_2.toInt).toNat < n24 → 0 ≤ y24_2.toInt → wp (L_readWord_24 g F n24 y24_2) (Q_readWord g F) := by
      intro n24
      induction n24 with
      | zero => intro y24_2 hm; exact absurd hm (Nat.not_lt_zero _)
      | succ n24 ih24 =>
        intro y24_2 hm24 f5
        show wp (B_readWord_24 g F (L_readWord_24 g F n24) y24_2) _
        unfold B_readWord_24
        refine wp_ite (fun c26 => ?_) (fun c26 => ?_)
        · have c26 := (z_le _ _).mp c26
          obtain ⟨⟨c56_g23, c56_F22⟩, hc56, hq56⟩ := ok_takeWord (upd g 1 0) F (F 0) 2000 0 (g 1) (MInv_i hg1 hzg2 hzg3 hzg4 hzg5 hzg6 hzg7 hzg8 hzg9 hzg23 hzg27 hzg30 hzg34 hzg36 hzg39 hzg44 hzg47 hzg48 hzg51 hzg56 hzg59 hzg62 hzg65 hzg66 hzg70 hzF11 hzF12 hzF13 hzF15 hzF19 hzF21 hzF24 hzF25 hzF26 hzF33 hzF38 hzF41 hzF43 hzF45 hzF46 hzF50 hzF53 hzF54 hzLQ) (show (0 ≤ (0 : Int32).toInt ∧ (0 : Int32).toInt + (g 1).toInt ≤ 2000) from by (first | omega | (simp only [id_eq] at *; omega))) (show 2000 ≤ 500000 from by (first | omega | (simp only [id_eq] at *; omega))) (show (0 ≤ (g 1).toInt ∧ (g 1).toInt ≤ 24) from by (first | omega | (simp only [id_eq] at *; omega)))
          obtain ⟨hg6, f7⟩ : (((0) ≤ c56_g23.toInt ∧ c56_g23.toInt ≤ 24)) ∧ (c56_g23.toInt = (g 1).toInt) := hq56
          refine wp_b2 hc56 ?_
          clear hc56
          exact ⟨_, rfl, ⟨hg1, hg6, (show (0 : Int32).toInt = 0 from by (first | omega | (simp only [id_eq] at *; omega))), (show ((1 : Int32).toInt = 1 → 1 ≤ c56_g23.toInt) from by (first | omega | (simp only [id_eq] at *; omega))), (show (0 ≤ (1 : Int32).toInt ∧ (1 : Int32).toInt ≤ 1) from by (first | omega | (simp only [id_eq] at *; omega)))⟩⟩
        · have c26 := z_nle c26
          refine wp_if ⟨by (first | omega | (simp only [id_eq] at *; omega)), by (first | omega | (simp only [id_eq] at *; omega))⟩ ?_
          obtain ⟨r35, hc35, hq35⟩ := ok_isSmall ((F 0) (Int32.toNatClampNeg y24_2)) 
          obtain ⟨f8, f9, f10⟩ : (id (r35.toInt = 1 → 97 ≤ ((F 0) (Int32.toNatClampNeg y24_2)).toInt ∧ ((F 0) (Int32.toNatClampNeg y24_2)).toInt ≤ 122)) ∧ (id (r35.toInt = 0 → ((F 0) (Int32.toNatClampNeg y24_2)).toInt < 97 ∨ 122 < ((F 0) (Int32.toNatClampNeg y24_2)).toInt)) ∧ ((0 ≤ r35.toInt ∧ r35.toInt ≤ 1)) := hq35
          refine wp_b1 hc35 ?_
          clear hc35
          refine wp_ite (fun c38 => ?_) (fun c38 => ?_)
          · have c38 := congrArg Int32.toInt c38
            exact ⟨_, rfl, ⟨hg1, hzg23, (show (0 : Int32).toInt = 0 from by (first | omega | (simp only [id_eq] at *; omega))), (show ((0 : Int32).toInt = 1 → 1 ≤ (g 23).toInt) from by (first | omega | (simp only [id_eq] at *; omega))), (show (0 ≤ (0 : Int32).toInt ∧ (0 : Int32).toInt ≤ 1) from by (first | omega | (simp only [id_eq] at *; omega)))⟩⟩
          · have c38 := z_ne c38
            have f11 : (y24_2 + 1).toInt = y24_2.toInt + (1) := z_addc (by decide +kernel) (by (first | omega | (simp only [id_eq] at *; omega))) (by (first | omega | (simp only [id_eq] at *; omega)))
            exact ih24 (y24_2 + 1) (show (24 - (y24_2 + 1).toInt).toNat < n24 from by (first | omega | (simp only [id_eq] at *; omega))) (show 0 ≤ (y24_2 + 1).toInt from by (first | omega | (simp only [id_eq] at *; omega)))
    exact lp24 NN (0 : Int32) (by have := NN_eq; (first | omega | (simp only [id_eq] at *; omega))) (show 0 ≤ (0 : Int32).toInt from by (first | omega | (simp only [id_eq] at *; omega)))
abbrev Q_isWordPart (g : Nat → Int32) (F : Nat → Nat → Int32) (p0 : Int32) (p1 : Int32) (p2 : Int32) : (Int32) → Prop := (fun t => ((0 ≤ t.toInt ∧ t.toInt ≤ 1)))
set_option maxHeartbeats 4000000 in
set_option maxRecDepth 100000 in
theorem ok_isWordPart (g : Nat → Int32) (F : Nat → Nat → Int32) (p0 : Int32) (p1 : Int32) (p2 : Int32) (hI : MInv g F) (hp0 : (0 ≤ p0.toInt ∧ p0.toInt ≤ 6)) (hp1 : (0 ≤ p1.toInt ∧ p1.toInt + p2.toInt ≤ 24 ∧ p2.toInt ≤ 16)) : wp (f_isWordPart g F p0 p1 p2) (Q_isWordPart g F p0 p1 p2) := by
  unfold f_isWordPart
  refine MInv_e hI (fun (hzg1 : id _) (hzg2 : id _) (hzg3 : id _) (hzg4 : id _) (hzg5 : id _) (hzg6 : id _) (hzg7 : id _) (hzg8 : id _) (hzg9 : id _) (hzg23 : id _) (hzg27 : id _) (hzg30 : id _) (hzg34 : id _) (hzg36 : id _) (hzg39 : id _) (hzg44 : id _) (hzg47 : id _) (hzg48 : id _) (hzg51 : id _) (hzg56 : id _) (hzg59 : id _) (hzg62 : id _) (hzg65 : id _) (hzg66 : id _) (hzg70 : id _) hzF11 hzF12 hzF13 hzF15 hzF19 hzF21 hzF24 hzF25 hzF26 hzF33 hzF38 hzF41 hzF43 hzF45 hzF46 hzF50 hzF53 hzF54 hzLQ => ?_)
  clear hI
  have zk0 : (0 : Int32).toInt = 0 := by decide +kernel
  have zk1 : (1 : Int32).toInt = 1 := by decide +kernel
  have zk16 : (16 : Int32).toInt = 16 := by decide +kernel
  have zk40 : (40 : Int32).toInt = 40 := by decide +kernel
  have f1 : (40 * p0).toInt = 40 * p0.toInt := z_muld (by decide +kernel) (by (first | omega | (simp only [id_eq] at *; omega))) (by (first | omega | (simp only [id_eq] at *; omega)))
  refine wp_vl (fun x4 ex4 => ?_)
  have f2 : x4.toInt = (40 * p0).toInt := congrArg Int32.toInt ex4
  clear ex4
  have lp6 : ∀ (n6 : Nat) (y6_4 : Int32), (40 * p0.toInt + 40 - y6_4.toInt).toNat < n6 → (40 * p0.toInt ≤ y6_4.toInt ∧ y6_4.toInt ≤ 40 * p0.toInt + 40) → wp (L_isWordPart_6 F p0 p1 p2 n6 y6_4) (Q_isWordPart g F p0 p1 p2) := by
    intro n6
    induction n6 with
    | zero => intro y6_4 hm; exact absurd hm (Nat.not_lt_zero _)
    | succ n6 ih6 =>
      intro y6_4 hm6 f3
      show wp (B_isWordPart_6 F p0 p1 p2 (L_isWordPart_6 F p0 p1 p2 n6) y6_4) _
      unfold B_isWordPart_6
      refine wp_if ⟨by (first | omega | (simp only [id_eq] at *; omega)), by (first | omega | (simp only [id_eq] at *; omega))⟩ ?_
      have f5 := hzF12 (Int32.toNatClampNeg p0)
      have f6 : ((40 * p0) + ((F 12) (Int32.toNatClampNeg p0))).toInt = (40 * p0).toInt + ((F 12) (Int32.toNatClampNeg p0)).toInt := z_add (by (first | omega | (simp only [id_eq] at *; omega))) (by (first | omega | (simp only [id_eq] at *; omega)))
      refine wp_ite (fun c19 => ?_) (fun c19 => ?_)
      · have c19 := (z_le _ _).mp c19
        exact ⟨_, rfl, (show (0 ≤ (0 : Int32).toInt ∧ (0 : Int32).toInt ≤ 1) from by (first | omega | (simp only [id_eq] at *; omega)))⟩
      · have c19 := z_nle c19
        refine wp_if ⟨by (first | omega | (simp only [id_eq] at *; omega)), by (first | omega | (simp only [id_eq] at *; omega))⟩ ?_
        have f7 := hzF19 (Int32.toNatClampNeg y6_4)
        refine wp_jn (fun j98 => wp (j98 ()) (Q_isWordPart g F p0 p1 p2)) ?_ ?_
        · show wp _ _
          show wp _ _
          have f8 : (y6_4 + 1).toInt = y6_4.toInt + (1) := z_addc (by decide +kernel) (by (first | omega | (simp only [id_eq] at *; omega))) (by (first | omega | (simp only [id_eq] at *; omega)))
          exact ih6 (y6_4 + 1) (show (40 * p0.toInt + 40 - (y6_4 + 1).toInt).toNat < n6 from by (first | omega | (simp only [id_eq] at *; omega))) (show (40 * p0.toInt ≤ (y6_4 + 1).toInt ∧ (y6_4 + 1).toInt ≤ 40 * p0.toInt + 40) from by (first | omega | (simp only [id_eq] at *; omega)))
        intro j98 Jj98
        refine wp_ite (fun c30 => ?_) (fun c30 => ?_)
        · have c30 := congrArg Int32.toInt c30
          refine wp_jn (fun k91 => ∀ (x91_5 : Int32), wp (k91 x91_5) (Q_isWordPart g F p0 p1 p2)) ?_ ?_
          · intro x91_5
            show wp _ _
            refine wp_ite (fun c93 => ?_) (fun c93 => ?_)
            · have c93 := congrArg Int32.toInt c93
              exact Jj98
            · have c93 := z_ne c93
              exact ⟨_, rfl, (show (0 ≤ (1 : Int32).toInt ∧ (1 : Int32).toInt ≤ 1) from by (first | omega | (simp only [id_eq] at *; omega)))⟩
          intro k91 Jk91
          have lp42 : ∀ (n42 : Nat) (y42_5 : Int32) (y42_6 : Int32), (16 - y42_6.toInt).toNat < n42 → 0 ≤ y42_6.toInt → wp (L_isWordPart_42 F p1 p2 y6_4 k91 n42 y42_5 y42_6) (Q_isWordPart g F p0 p1 p2) := by
            intro n42
            induction n42 with
            | zero => intro y42_5 y42_6 hm; exact absurd hm (Nat.not_lt_zero _)
            | succ n42 ih42 =>
              intro y42_5 y42_6 hm42 f9
              show wp (B_isWordPart_42 F p1 p2 y6_4 k91 (L_isWordPart_42 F p1 p2 y6_4 k91 n42) y42_5 y42_6) _
              unfold B_isWordPart_42
              refine wp_ite (fun c45 => ?_) (fun c45 => ?_)
              · have c45 := (z_le _ _).mp c45
                exact Jk91 y42_5
              · have c45 := z_nle c45
                refine wp_ite (fun c50 => ?_) (fun c50 => ?_)
                · have c50 := congrArg Int32.toInt c50
                  exact Jk91 y42_5
                · have c50 := z_ne c50
                  have f10 : (16 * y6_4).toInt = 16 * y6_4.toInt := z_muld (by decide +kernel) (by (first | omega | (simp only [id_eq] at *; omega))) (by (first | omega | (simp only [id_eq] at *; omega)))
                  have f11 : ((16 * y6_4) + y42_6).toInt = (16 * y6_4).toInt + y42_6.toInt := z_add (by (first | omega | (simp only [id_eq] at *; omega))) (by (first | omega | (simp only [id_eq] at *; omega)))
                  refine wp_if ⟨by (first | omega | (simp only [id_eq] at *; omega)), by (first | omega | (simp only [id_eq] at *; omega))⟩ ?_
                  have f12 : (p1 + y42_6).toInt = p1.toInt + y42_6.toInt := z_add (by (first | omega | (simp only [id_eq] at *; omega))) (by (first | omega | (simp only [id_eq] at *; omega)))
                  refine wp_if ⟨by (first | omega | (simp only [id_eq] at *; omega)), by (first | omega | (simp only [id_eq] at *; omega))⟩ ?_
                  refine wp_jn (fun j83 => ∀ (t83_0 : Int32), wp (j83 t83_0) (Q_isWordPart g F p0 p1 p2)) ?_ ?_
                  · intro t83_0
                    show wp _ _
                    have f13 : (y42_6 + 1).toInt = y42_6.toInt + (1) := z_addc (by decide +kernel) (by (first | omega | (simp only [id_eq] at *; omega))) (by (first | omega | (simp only [id_eq] at *; omega)))
                    exact ih42 t83_0 (y42_6 + 1) (show (16 - (y42_6 + 1).toInt).toNat < n42 from by (first | omega | (simp only [id_eq] at *; omega))) (show 0 ≤ (y42_6 + 1).toInt from by (first | omega | (simp only [id_eq] at *; omega)))
                  intro j83 Jj83
                  refine wp_ite (fun c75 => ?_) (fun c75 => ?_)
                  · have c75 := congrArg Int32.toInt c75
                    exact Jj83 (1 : Int32)
                  · have c75 := z_ne c75
                    exact Jj83 (0 : Int32)
          exact lp42 NN (1 : Int32) (0 : Int32) (by have := NN_eq; (first | omega | (simp only [id_eq] at *; omega))) (show 0 ≤ (0 : Int32).toInt from by (first | omega | (simp only [id_eq] at *; omega)))
        · have c30 := z_ne c30
          exact Jj98
  exact lp6 NN x4 (by have := NN_eq; (first | omega | (simp only [id_eq] at *; omega))) (show (40 * p0.toInt ≤ x4.toInt ∧ x4.toInt ≤ 40 * p0.toInt + 40) from by (first | omega | (simp only [id_eq] at *; omega)))
abbrev Q_about (g : Nat → Int32) (F : Nat → Nat → Int32) (p0 : Int32) (p1 : Int32) : (Int32) → Prop := (fun t => True)
set_option maxHeartbeats 4000000 in
set_option maxRecDepth 100000 in
theorem ok_about (g : Nat → Int32) (F : Nat → Nat → Int32) (p0 : Int32) (p1 : Int32) (hI : MInv g F) : wp (f_about g F p0 p1) (Q_about g F p0 p1) := by
  unfold f_about
  refine MInv_e hI (fun (hzg1 : id _) (hzg2 : id _) (hzg3 : id _) (hzg4 : id _) (hzg5 : id _) (hzg6 : id _) (hzg7 : id _) (hzg8 : id _) hzg9 (hzg23 : id _) (hzg27 : id _) (hzg30 : id _) (hzg34 : id _) (hzg36 : id _) (hzg39 : id _) (hzg44 : id _) (hzg47 : id _) (hzg48 : id _) (hzg51 : id _) (hzg56 : id _) (hzg59 : id _) (hzg62 : id _) (hzg65 : id _) (hzg66 : id _) (hzg70 : id _) hzF11 hzF12 hzF13 hzF15 hzF19 hzF21 hzF24 hzF25 hzF26 hzF33 hzF38 hzF41 hzF43 hzF45 hzF46 hzF50 hzF53 hzF54 hzLQ => ?_)
  clear hI
  have zkm1 : (-1 : Int32).toInt = -1 := by decide +kernel
  have zk0 : (0 : Int32).toInt = 0 := by decide +kernel
  have zk1 : (1 : Int32).toInt = 1 := by decide +kernel
  have zk2 : (2 : Int32).toInt = 2 := by decide +kernel
  have zk3 : (3 : Int32).toInt = 3 := by decide +kernel
  have zk4 : (4 : Int32).toInt = 4 := by decide +kernel
  have zk40 : (40 : Int32).toInt = 40 := by decide +kernel
  have f1 : ((g 9) - 1).toInt = (g 9).toInt - 1 := z_subc (by decide +kernel) (by (first | omega | (simp only [id_eq] at *; omega))) (by (first | omega | (simp only [id_eq] at *; omega)))
  obtain ⟨r8, hc8, hq8⟩ := ok_in p0 0 ((g 9) - 1) 
  obtain ⟨f2, f3, f4⟩ : (id (r8.toInt = 1 → (0 : Int32).toInt ≤ p0.toInt ∧ p0.toInt ≤ ((g 9) - 1).toInt)) ∧ (id (r8.toInt = 0 → p0.toInt < (0 : Int32).toInt ∨ ((g 9) - 1).toInt < p0.toInt)) ∧ ((0 ≤ r8.toInt ∧ r8.toInt ≤ 1)) := hq8
  refine wp_b1 hc8 ?_
  clear hc8
  refine wp_ite (fun c11 => ?_) (fun c11 => ?_)
  · have c11 := congrArg Int32.toInt c11
    exact ⟨_, rfl, trivial⟩
  · have c11 := z_ne c11
    refine wp_jn (fun k66 => ∀ (x66_3 : Int32), (0 ≤ x66_3.toInt ∧ x66_3.toInt ≤ 40) → wp (k66 x66_3) (Q_about g F p0 p1)) ?_ ?_
    · intro x66_3 f5
      show wp _ _
      refine wp_ite (fun c67_0 => ?_) (fun c67_0 => ?_)
      · have c67_0 := congrArg Int32.toInt c67_0
        refine wp_if ⟨by (first | omega | (simp only [id_eq] at *; omega)), by (first | omega | (simp only [id_eq] at *; omega))⟩ ?_
        exact ⟨_, rfl, trivial⟩
      · have c67_0 := z_ne c67_0
        refine wp_ite (fun c67_1 => ?_) (fun c67_1 => ?_)
        · have c67_1 := congrArg Int32.toInt c67_1
          refine wp_if ⟨by (first | omega | (simp only [id_eq] at *; omega)), by (first | omega | (simp only [id_eq] at *; omega))⟩ ?_
          have f6 := hzF11 (Int32.toNatClampNeg p0)
          exact ⟨_, rfl, trivial⟩
        · have c67_1 := z_ne c67_1
          refine wp_ite (fun c67_2 => ?_) (fun c67_2 => ?_)
          · have c67_2 := congrArg Int32.toInt c67_2
            refine wp_if ⟨by (first | omega | (simp only [id_eq] at *; omega)), by (first | omega | (simp only [id_eq] at *; omega))⟩ ?_
            have f7 := hzF12 (Int32.toNatClampNeg p0)
            exact ⟨_, rfl, trivial⟩
          · have c67_2 := z_ne c67_2
            refine wp_ite (fun c67_3 => ?_) (fun c67_3 => ?_)
            · have c67_3 := congrArg Int32.toInt c67_3
              exact ⟨_, rfl, trivial⟩
            · have c67_3 := z_ne c67_3
              refine wp_ite (fun c67_4 => ?_) (fun c67_4 => ?_)
              · have c67_4 := congrArg Int32.toInt c67_4
                refine wp_if ⟨by (first | omega | (simp only [id_eq] at *; omega)), by (first | omega | (simp only [id_eq] at *; omega))⟩ ?_
                have f8 := hzF13 (Int32.toNatClampNeg p0)
                have f9 : (((F 13) (Int32.toNatClampNeg p0)) - x66_3).toInt = ((F 13) (Int32.toNatClampNeg p0)).toInt - x66_3.toInt := z_sub (by (first | omega | (simp only [id_eq] at *; omega))) (by (first | omega | (simp only [id_eq] at *; omega)))
                exact ⟨_, rfl, trivial⟩
              · have c67_4 := z_ne c67_4
                exact ⟨_, rfl, trivial⟩
    intro k66 Jk66
    have lp21 : ∀ (n21 : Nat) (y21_3 : Int32) (y21_4 : Int32), (40 - y21_4.toInt).toNat < n21 → (0 ≤ y21_4.toInt ∧ y21_4.toInt ≤ 40) → (0 ≤ y21_3.toInt ∧ y21_3.toInt ≤ y21_4.toInt) → wp (L_about_21 F p0 k66 n21 y21_3 y21_4) (Q_about g F p0 p1) := by
      intro n21
      induction n21 with
      | zero => intro y21_3 y21_4 hm; exact absurd hm (Nat.not_lt_zero _)
      | succ n21 ih21 =>
        intro y21_3 y21_4 hm21 f10 f11
        show wp (B_about_21 F p0 k66 (L_about_21 F p0 k66 n21) y21_3 y21_4) _
        unfold B_about_21
        refine wp_if ⟨by (first | omega | (simp only [id_eq] at *; omega)), by (first | omega | (simp only [id_eq] at *; omega))⟩ ?_
        have f12 := hzF13 (Int32.toNatClampNeg p0)
        refine wp_ite (fun c29 => ?_) (fun c29 => ?_)
        · have c29 := (z_le _ _).mp c29
          exact Jk66 y21_3 (show (0 ≤ y21_3.toInt ∧ y21_3.toInt ≤ 40) from by (first | omega | (simp only [id_eq] at *; omega)))
        · have c29 := z_nle c29
          have f13 : (40 * p0).toInt = 40 * p0.toInt := z_muld (by decide +kernel) (by (first | omega | (simp only [id_eq] at *; omega))) (by (first | omega | (simp only [id_eq] at *; omega)))
          have f14 : ((40 * p0) + y21_4).toInt = (40 * p0).toInt + y21_4.toInt := z_add (by (first | omega | (simp only [id_eq] at *; omega))) (by (first | omega | (simp only [id_eq] at *; omega)))
          have f15 : (2 * ((40 * p0) + y21_4)).toInt = 2 * ((40 * p0) + y21_4).toInt := z_muld (by decide +kernel) (by (first | omega | (simp only [id_eq] at *; omega))) (by (first | omega | (simp only [id_eq] at *; omega)))
          have f16 : ((2 * ((40 * p0) + y21_4)) + 1).toInt = (2 * ((40 * p0) + y21_4)).toInt + 1 := z_addc (by decide +kernel) (by (first | omega | (simp only [id_eq] at *; omega))) (by (first | omega | (simp only [id_eq] at *; omega)))
          refine wp_if ⟨by (first | omega | (simp only [id_eq] at *; omega)), by (first | omega | (simp only [id_eq] at *; omega))⟩ ?_
          have f17 := hzF21 (Int32.toNatClampNeg ((2 * ((40 * p0) + y21_4)) + 1))
          refine wp_jn (fun j58 => ∀ (t58_0 : Int32), (0 ≤ t58_0.toInt ∧ t58_0.toInt ≤ 1) → wp (j58 t58_0) (Q_about g F p0 p1)) ?_ ?_
          · intro t58_0 f18
            show wp _ _
            have f19 : (y21_3 + t58_0).toInt = y21_3.toInt + t58_0.toInt := z_add (by (first | omega | (simp only [id_eq] at *; omega))) (by (first | omega | (simp only [id_eq] at *; omega)))
            refine wp_vl (fun x59 ex59 => ?_)
            have f20 : x59.toInt = (y21_3 + t58_0).toInt := congrArg Int32.toInt ex59
            clear ex59
            have f21 : (y21_4 + 1).toInt = y21_4.toInt + (1) := z_addc (by decide +kernel) (by (first | omega | (simp only [id_eq] at *; omega))) (by (first | omega | (simp only [id_eq] at *; omega)))
            exact ih21 x59 (y21_4 + 1) (show (40 - (y21_4 + 1).toInt).toNat < n21 from by (first | omega | (simp only [id_eq] at *; omega))) (show (0 ≤ (y21_4 + 1).toInt ∧ (y21_4 + 1).toInt ≤ 40) from by (first | omega | (simp only [id_eq] at *; omega))) (show (0 ≤ x59.toInt ∧ x59.toInt ≤ (y21_4 + 1).toInt) from by (first | omega | (simp only [id_eq] at *; omega)))
          intro j58 Jj58
          refine wp_ite (fun c50 => ?_) (fun c50 => ?_)
          · have c50 := congrArg Int32.toInt c50
            exact Jj58 (1 : Int32) (show (0 ≤ (1 : Int32).toInt ∧ (1 : Int32).toInt ≤ 1) from by (first | omega | (simp only [id_eq] at *; omega)))
          · have c50 := z_ne c50
            exact Jj58 (0 : Int32) (show (0 ≤ (0 : Int32).toInt ∧ (0 : Int32).toInt ≤ 1) from by (first | omega | (simp only [id_eq] at *; omega)))
    exact lp21 NN (0 : Int32) (0 : Int32) (by have := NN_eq; (first | omega | (simp only [id_eq] at *; omega))) (show (0 ≤ (0 : Int32).toInt ∧ (0 : Int32).toInt ≤ 40) from by (first | omega | (simp only [id_eq] at *; omega))) (show (0 ≤ (0 : Int32).toInt ∧ (0 : Int32).toInt ≤ (0 : Int32).toInt) from by (first | omega | (simp only [id_eq] at *; omega)))
abbrev Q_fault (g : Nat → Int32) (F : Nat → Nat → Int32) (p0 : Int32) : (Int32) → Prop := (fun t => True)
set_option maxHeartbeats 4000000 in
set_option maxRecDepth 100000 in
theorem ok_fault (g : Nat → Int32) (F : Nat → Nat → Int32) (p0 : Int32) (hI : MInv g F) : wp (f_fault g F p0) (Q_fault g F p0) := by
  unfold f_fault
  refine MInv_e hI (fun (hzg1 : id _) (hzg2 : id _) (hzg3 : id _) (hzg4 : id _) (hzg5 : id _) (hzg6 : id _) hzg7 hzg8 (hzg9 : id _) (hzg23 : id _) (hzg27 : id _) (hzg30 : id _) (hzg34 : id _) (hzg36 : id _) (hzg39 : id _) (hzg44 : id _) (hzg47 : id _) (hzg48 : id _) (hzg51 : id _) (hzg56 : id _) (hzg59 : id _) (hzg62 : id _) (hzg65 : id _) (hzg66 : id _) (hzg70 : id _) hzF11 hzF12 hzF13 hzF15 hzF19 hzF21 hzF24 hzF25 hzF26 hzF33 hzF38 hzF41 hzF43 hzF45 hzF46 hzF50 hzF53 hzF54 hzLQ => ?_)
  clear hI
  have zkm1 : (-1 : Int32).toInt = -1 := by decide +kernel
  have zk0 : (0 : Int32).toInt = 0 := by decide +kernel
  have zk1 : (1 : Int32).toInt = 1 := by decide +kernel
  refine wp_jn (fun j24 => ∀ (t24_0 : Int32), wp (j24 t24_0) (Q_fault g F p0)) ?_ ?_
  · intro t24_0
    show wp _ _
    exact ⟨_, rfl, trivial⟩
  intro j24 Jj24
  refine wp_ite (fun c1 => ?_) (fun c1 => ?_)
  · have c1 := congrArg Int32.toInt c1
    exact Jj24 (g 7)
  · have c1 := z_ne c1
    refine wp_ite (fun c13 => ?_) (fun c13 => ?_)
    · have c13 := congrArg Int32.toInt c13
      exact Jj24 (g 8)
    · have c13 := z_ne c13
      exact Jj24 (-1 : Int32)
abbrev Q_form (g : Nat → Int32) (F : Nat → Nat → Int32) (p0 : Int32) (p1 : Int32) : (Int32) → Prop := (fun t => True)
set_option maxHeartbeats 4000000 in
set_option maxRecDepth 100000 in
theorem ok_form (g : Nat → Int32) (F : Nat → Nat → Int32) (p0 : Int32) (p1 : Int32) (hI : MInv g F) : wp (f_form g F p0 p1) (Q_form g F p0 p1) := by
  unfold f_form
  refine MInv_e hI (fun (hzg1 : id _) (hzg2 : id _) (hzg3 : id _) (hzg4 : id _) (hzg5 : id _) (hzg6 : id _) (hzg7 : id _) (hzg8 : id _) (hzg9 : id _) (hzg23 : id _) (hzg27 : id _) (hzg30 : id _) (hzg34 : id _) (hzg36 : id _) (hzg39 : id _) hzg44 (hzg47 : id _) (hzg48 : id _) (hzg51 : id _) (hzg56 : id _) (hzg59 : id _) (hzg62 : id _) (hzg65 : id _) (hzg66 : id _) (hzg70 : id _) hzF11 hzF12 hzF13 hzF15 hzF19 hzF21 hzF24 hzF25 hzF26 hzF33 hzF38 hzF41 hzF43 hzF45 hzF46 hzF50 hzF53 hzF54 hzLQ => ?_)
  clear hI
  have zkm1 : (-1 : Int32).toInt = -1 := by decide +kernel
  have zk0 : (0 : Int32).toInt = 0 := by decide +kernel
  have zk1 : (1 : Int32).toInt = 1 := by decide +kernel
  have zk24 : (24 : Int32).toInt = 24 := by decide +kernel
  have f1 : ((g 44) - 1).toInt = (g 44).toInt - 1 := z_subc (by decide +kernel) (by (first | omega | (simp only [id_eq] at *; omega))) (by (first | omega | (simp only [id_eq] at *; omega)))
  obtain ⟨r8, hc8, hq8⟩ := ok_in p0 0 ((g 44) - 1) 
  obtain ⟨f2, f3, f4⟩ : (id (r8.toInt = 1 → (0 : Int32).toInt ≤ p0.toInt ∧ p0.toInt ≤ ((g 44) - 1).toInt)) ∧ (id (r8.toInt = 0 → p0.toInt < (0 : Int32).toInt ∨ ((g 44) - 1).toInt < p0.toInt)) ∧ ((0 ≤ r8.toInt ∧ r8.toInt ≤ 1)) := hq8
  refine wp_b1 hc8 ?_
  clear hc8
  refine wp_jn (fun j45 => ∀ (t45_0 : Int32), wp (j45 t45_0) (Q_form g F p0 p1)) ?_ ?_
  · intro t45_0
    show wp _ _
    exact ⟨_, rfl, trivial⟩
  intro j45 Jj45
  refine wp_jn (fun j44 => wp (j44 ()) (Q_form g F p0 p1)) ?_ ?_
  · show wp _ _
    show wp _ _
    exact Jj45 (-1 : Int32)
  intro j44 Jj44
  refine wp_ite (fun c11 => ?_) (fun c11 => ?_)
  · have c11 := congrArg Int32.toInt c11
    exact Jj44
  · have c11 := z_ne c11
    refine wp_if ⟨by (first | omega | (simp only [id_eq] at *; omega)), by (first | omega | (simp only [id_eq] at *; omega))⟩ ?_
    have f5 := hzF43 (Int32.toNatClampNeg p0)
    have f6 : (((F 43) (Int32.toNatClampNeg p0)) - 1).toInt = ((F 43) (Int32.toNatClampNeg p0)).toInt - 1 := z_subc (by decide +kernel) (by (first | omega | (simp only [id_eq] at *; omega))) (by (first | omega | (simp only [id_eq] at *; omega)))
    obtain ⟨r24, hc24, hq24⟩ := ok_in p1 0 (((F 43) (Int32.toNatClampNeg p0)) - 1) 
    obtain ⟨f7, f8, f9⟩ : (id (r24.toInt = 1 → (0 : Int32).toInt ≤ p1.toInt ∧ p1.toInt ≤ (((F 43) (Int32.toNatClampNeg p0)) - 1).toInt)) ∧ (id (r24.toInt = 0 → p1.toInt < (0 : Int32).toInt ∨ (((F 43) (Int32.toNatClampNeg p0)) - 1).toInt < p1.toInt)) ∧ ((0 ≤ r24.toInt ∧ r24.toInt ≤ 1)) := hq24
    refine wp_b1 hc24 ?_
    clear hc24
    refine wp_ite (fun c27 => ?_) (fun c27 => ?_)
    · have c27 := congrArg Int32.toInt c27
      exact Jj44
    · have c27 := z_ne c27
      have f10 : (24 * p0).toInt = 24 * p0.toInt := z_muld (by decide +kernel) (by (first | omega | (simp only [id_eq] at *; omega))) (by (first | omega | (simp only [id_eq] at *; omega)))
      have f11 : ((24 * p0) + p1).toInt = (24 * p0).toInt + p1.toInt := z_add (by (first | omega | (simp only [id_eq] at *; omega))) (by (first | omega | (simp only [id_eq] at *; omega)))
      refine wp_if ⟨by (first | omega | (simp only [id_eq] at *; omega)), by (first | omega | (simp only [id_eq] at *; omega))⟩ ?_
      exact Jj45 ((F 42) (Int32.toNatClampNeg ((24 * p0) + p1)))
abbrev Q_parting (g : Nat → Int32) (F : Nat → Nat → Int32) (p0 : Int32) (p1 : Int32) : (Int32) → Prop := (fun t => True)
set_option maxHeartbeats 4000000 in
set_option maxRecDepth 100000 in
theorem ok_parting (g : Nat → Int32) (F : Nat → Nat → Int32) (p0 : Int32) (p1 : Int32) (hI : MInv g F) : wp (f_parting g F p0 p1) (Q_parting g F p0 p1) := by
  unfold f_parting
  refine MInv_e hI (fun (hzg1 : id _) (hzg2 : id _) (hzg3 : id _) (hzg4 : id _) (hzg5 : id _) (hzg6 : id _) (hzg7 : id _) (hzg8 : id _) (hzg9 : id _) (hzg23 : id _) (hzg27 : id _) (hzg30 : id _) (hzg34 : id _) (hzg36 : id _) (hzg39 : id _) (hzg44 : id _) hzg47 (hzg48 : id _) (hzg51 : id _) (hzg56 : id _) (hzg59 : id _) (hzg62 : id _) (hzg65 : id _) (hzg66 : id _) (hzg70 : id _) hzF11 hzF12 hzF13 hzF15 hzF19 hzF21 hzF24 hzF25 hzF26 hzF33 hzF38 hzF41 hzF43 hzF45 hzF46 hzF50 hzF53 hzF54 hzLQ => ?_)
  clear hI
  have zkm1 : (-1 : Int32).toInt = -1 := by decide +kernel
  have zk0 : (0 : Int32).toInt = 0 := by decide +kernel
  have zk1 : (1 : Int32).toInt = 1 := by decide +kernel
  have zk24 : (24 : Int32).toInt = 24 := by decide +kernel
  have f1 : ((g 47) - 1).toInt = (g 47).toInt - 1 := z_subc (by decide +kernel) (by (first | omega | (simp only [id_eq] at *; omega))) (by (first | omega | (simp only [id_eq] at *; omega)))
  obtain ⟨r8, hc8, hq8⟩ := ok_in p0 0 ((g 47) - 1) 
  obtain ⟨f2, f3, f4⟩ : (id (r8.toInt = 1 → (0 : Int32).toInt ≤ p0.toInt ∧ p0.toInt ≤ ((g 47) - 1).toInt)) ∧ (id (r8.toInt = 0 → p0.toInt < (0 : Int32).toInt ∨ ((g 47) - 1).toInt < p0.toInt)) ∧ ((0 ≤ r8.toInt ∧ r8.toInt ≤ 1)) := hq8
  refine wp_b1 hc8 ?_
  clear hc8
  refine wp_ite (fun c11 => ?_) (fun c11 => ?_)
  · have c11 := congrArg Int32.toInt c11
    exact ⟨_, rfl, trivial⟩
  · have c11 := z_ne c11
    refine wp_ite (fun c17 => ?_) (fun c17 => ?_)
    · have c17 := congrArg Int32.toInt c17
      refine wp_if ⟨by (first | omega | (simp only [id_eq] at *; omega)), by (first | omega | (simp only [id_eq] at *; omega))⟩ ?_
      have f5 := hzF46 (Int32.toNatClampNeg p0)
      exact ⟨_, rfl, trivial⟩
    · have c17 := z_ne c17
      refine wp_if ⟨by (first | omega | (simp only [id_eq] at *; omega)), by (first | omega | (simp only [id_eq] at *; omega))⟩ ?_
      have f6 := hzF46 (Int32.toNatClampNeg p0)
      obtain ⟨r35, hc35, hq35⟩ := ok_in p1 1 ((F 46) (Int32.toNatClampNeg p0)) 
      obtain ⟨f7, f8, f9⟩ : (id (r35.toInt = 1 → (1 : Int32).toInt ≤ p1.toInt ∧ p1.toInt ≤ ((F 46) (Int32.toNatClampNeg p0)).toInt)) ∧ (id (r35.toInt = 0 → p1.toInt < (1 : Int32).toInt ∨ ((F 46) (Int32.toNatClampNeg p0)).toInt < p1.toInt)) ∧ ((0 ≤ r35.toInt ∧ r35.toInt ≤ 1)) := hq35
      refine wp_b1 hc35 ?_
      clear hc35
      refine wp_jn (fun j58 => ∀ (t58_0 : Int32), wp (j58 t58_0) (Q_parting g F p0 p1)) ?_ ?_
      · intro t58_0
        show wp _ _
        exact ⟨_, rfl, trivial⟩
      intro j58 Jj58
      refine wp_ite (fun c38 => ?_) (fun c38 => ?_)
      · have c38 := congrArg Int32.toInt c38
        exact Jj58 (-1 : Int32)
      · have c38 := z_ne c38
        have f10 : (24 * p0).toInt = 24 * p0.toInt := z_muld (by decide +kernel) (by (first | omega | (simp only [id_eq] at *; omega))) (by (first | omega | (simp only [id_eq] at *; omega)))
        have f11 : ((24 * p0) + p1).toInt = (24 * p0).toInt + p1.toInt := z_add (by (first | omega | (simp only [id_eq] at *; omega))) (by (first | omega | (simp only [id_eq] at *; omega)))
        have f12 : (((24 * p0) + p1) - 1).toInt = ((24 * p0) + p1).toInt - 1 := z_subc (by decide +kernel) (by (first | omega | (simp only [id_eq] at *; omega))) (by (first | omega | (simp only [id_eq] at *; omega)))
        refine wp_if ⟨by (first | omega | (simp only [id_eq] at *; omega)), by (first | omega | (simp only [id_eq] at *; omega))⟩ ?_
        have f13 := hzF45 (Int32.toNatClampNeg (((24 * p0) + p1) - 1))
        exact Jj58 ((F 45) (Int32.toNatClampNeg (((24 * p0) + p1) - 1)))
abbrev Q_word (g : Nat → Int32) (F : Nat → Nat → Int32) (p0 : Int32) (p1 : Int32) : (Int32) → Prop := (fun t => True)
set_option maxHeartbeats 4000000 in
set_option maxRecDepth 100000 in
theorem ok_word (g : Nat → Int32) (F : Nat → Nat → Int32) (p0 : Int32) (p1 : Int32) (hI : MInv g F) : wp (f_word g F p0 p1) (Q_word g F p0 p1) := by
  unfold f_word
  refine MInv_e hI (fun (hzg1 : id _) (hzg2 : id _) (hzg3 : id _) (hzg4 : id _) (hzg5 : id _) (hzg6 : id _) (hzg7 : id _) (hzg8 : id _) (hzg9 : id _) (hzg23 : id _) (hzg27 : id _) (hzg30 : id _) (hzg34 : id _) (hzg36 : id _) (hzg39 : id _) (hzg44 : id _) (hzg47 : id _) hzg48 (hzg51 : id _) (hzg56 : id _) (hzg59 : id _) (hzg62 : id _) (hzg65 : id _) (hzg66 : id _) (hzg70 : id _) hzF11 hzF12 hzF13 hzF15 hzF19 hzF21 hzF24 hzF25 hzF26 hzF33 hzF38 hzF41 hzF43 hzF45 hzF46 hzF50 hzF53 hzF54 hzLQ => ?_)
  clear hI
  have zkm1 : (-1 : Int32).toInt = -1 := by decide +kernel
  have zk0 : (0 : Int32).toInt = 0 := by decide +kernel
  have zk1 : (1 : Int32).toInt = 1 := by decide +kernel
  have zk24 : (24 : Int32).toInt = 24 := by decide +kernel
  have f1 : ((g 48) - 1).toInt = (g 48).toInt - 1 := z_subc (by decide +kernel) (by (first | omega | (simp only [id_eq] at *; omega))) (by (first | omega | (simp only [id_eq] at *; omega)))
  obtain ⟨r8, hc8, hq8⟩ := ok_in p0 0 ((g 48) - 1) 
  obtain ⟨f2, f3, f4⟩ : (id (r8.toInt = 1 → (0 : Int32).toInt ≤ p0.toInt ∧ p0.toInt ≤ ((g 48) - 1).toInt)) ∧ (id (r8.toInt = 0 → p0.toInt < (0 : Int32).toInt ∨ ((g 48) - 1).toInt < p0.toInt)) ∧ ((0 ≤ r8.toInt ∧ r8.toInt ≤ 1)) := hq8
  refine wp_b1 hc8 ?_
  clear hc8
  refine wp_jn (fun j45 => ∀ (t45_0 : Int32), wp (j45 t45_0) (Q_word g F p0 p1)) ?_ ?_
  · intro t45_0
    show wp _ _
    exact ⟨_, rfl, trivial⟩
  intro j45 Jj45
  refine wp_jn (fun j44 => wp (j44 ()) (Q_word g F p0 p1)) ?_ ?_
  · show wp _ _
    show wp _ _
    exact Jj45 (-1 : Int32)
  intro j44 Jj44
  refine wp_ite (fun c11 => ?_) (fun c11 => ?_)
  · have c11 := congrArg Int32.toInt c11
    exact Jj44
  · have c11 := z_ne c11
    refine wp_if ⟨by (first | omega | (simp only [id_eq] at *; omega)), by (first | omega | (simp only [id_eq] at *; omega))⟩ ?_
    have f5 := hzF50 (Int32.toNatClampNeg p0)
    have f6 : (((F 50) (Int32.toNatClampNeg p0)) - 1).toInt = ((F 50) (Int32.toNatClampNeg p0)).toInt - 1 := z_subc (by decide +kernel) (by (first | omega | (simp only [id_eq] at *; omega))) (by (first | omega | (simp only [id_eq] at *; omega)))
    obtain ⟨r24, hc24, hq24⟩ := ok_in p1 0 (((F 50) (Int32.toNatClampNeg p0)) - 1) 
    obtain ⟨f7, f8, f9⟩ : (id (r24.toInt = 1 → (0 : Int32).toInt ≤ p1.toInt ∧ p1.toInt ≤ (((F 50) (Int32.toNatClampNeg p0)) - 1).toInt)) ∧ (id (r24.toInt = 0 → p1.toInt < (0 : Int32).toInt ∨ (((F 50) (Int32.toNatClampNeg p0)) - 1).toInt < p1.toInt)) ∧ ((0 ≤ r24.toInt ∧ r24.toInt ≤ 1)) := hq24
    refine wp_b1 hc24 ?_
    clear hc24
    refine wp_ite (fun c27 => ?_) (fun c27 => ?_)
    · have c27 := congrArg Int32.toInt c27
      exact Jj44
    · have c27 := z_ne c27
      have f10 : (24 * p0).toInt = 24 * p0.toInt := z_muld (by decide +kernel) (by (first | omega | (simp only [id_eq] at *; omega))) (by (first | omega | (simp only [id_eq] at *; omega)))
      have f11 : ((24 * p0) + p1).toInt = (24 * p0).toInt + p1.toInt := z_add (by (first | omega | (simp only [id_eq] at *; omega))) (by (first | omega | (simp only [id_eq] at *; omega)))
      refine wp_if ⟨by (first | omega | (simp only [id_eq] at *; omega)), by (first | omega | (simp only [id_eq] at *; omega))⟩ ?_
      exact Jj45 ((F 49) (Int32.toNatClampNeg ((24 * p0) + p1)))
abbrev Q_old (g : Nat → Int32) (F : Nat → Nat → Int32) (p0 : Int32) : (Int32) → Prop := (fun t => True)
set_option maxHeartbeats 4000000 in
set_option maxRecDepth 100000 in
theorem ok_old (g : Nat → Int32) (F : Nat → Nat → Int32) (p0 : Int32) (hI : MInv g F) : wp (f_old g F p0) (Q_old g F p0) := by
  unfold f_old
  refine MInv_e hI (fun (hzg1 : id _) (hzg2 : id _) (hzg3 : id _) (hzg4 : id _) (hzg5 : id _) (hzg6 : id _) (hzg7 : id _) (hzg8 : id _) (hzg9 : id _) (hzg23 : id _) (hzg27 : id _) (hzg30 : id _) (hzg34 : id _) (hzg36 : id _) (hzg39 : id _) (hzg44 : id _) (hzg47 : id _) (hzg48 : id _) (hzg51 : id _) hzg56 (hzg59 : id _) (hzg62 : id _) (hzg65 : id _) (hzg66 : id _) (hzg70 : id _) hzF11 hzF12 hzF13 hzF15 hzF19 hzF21 hzF24 hzF25 hzF26 hzF33 hzF38 hzF41 hzF43 hzF45 hzF46 hzF50 hzF53 hzF54 hzLQ => ?_)
  clear hI
  have zkm1 : (-1 : Int32).toInt = -1 := by decide +kernel
  have zk0 : (0 : Int32).toInt = 0 := by decide +kernel
  have zk1 : (1 : Int32).toInt = 1 := by decide +kernel
  have f1 : ((g 56) - 1).toInt = (g 56).toInt - 1 := z_subc (by decide +kernel) (by (first | omega | (simp only [id_eq] at *; omega))) (by (first | omega | (simp only [id_eq] at *; omega)))
  obtain ⟨r8, hc8, hq8⟩ := ok_in p0 0 ((g 56) - 1) 
  obtain ⟨f2, f3, f4⟩ : (id (r8.toInt = 1 → (0 : Int32).toInt ≤ p0.toInt ∧ p0.toInt ≤ ((g 56) - 1).toInt)) ∧ (id (r8.toInt = 0 → p0.toInt < (0 : Int32).toInt ∨ ((g 56) - 1).toInt < p0.toInt)) ∧ ((0 ≤ r8.toInt ∧ r8.toInt ≤ 1)) := hq8
  refine wp_b1 hc8 ?_
  clear hc8
  refine wp_jn (fun j24 => ∀ (t24_0 : Int32), wp (j24 t24_0) (Q_old g F p0)) ?_ ?_
  · intro t24_0
    show wp _ _
    exact ⟨_, rfl, trivial⟩
  intro j24 Jj24
  refine wp_ite (fun c11 => ?_) (fun c11 => ?_)
  · have c11 := congrArg Int32.toInt c11
    exact Jj24 (-1 : Int32)
  · have c11 := z_ne c11
    refine wp_if ⟨by (first | omega | (simp only [id_eq] at *; omega)), by (first | omega | (simp only [id_eq] at *; omega))⟩ ?_
    exact Jj24 ((F 55) (Int32.toNatClampNeg p0))
abbrev Q_collision (g : Nat → Int32) (F : Nat → Nat → Int32) (p0 : Int32) : (Int32) → Prop := (fun t => True)
set_option maxHeartbeats 4000000 in
set_option maxRecDepth 100000 in
theorem ok_collision (g : Nat → Int32) (F : Nat → Nat → Int32) (p0 : Int32) (hI : MInv g F) : wp (f_collision g F p0) (Q_collision g F p0) := by
  unfold f_collision
  refine MInv_e hI (fun (hzg1 : id _) (hzg2 : id _) (hzg3 : id _) (hzg4 : id _) (hzg5 : id _) (hzg6 : id _) (hzg7 : id _) (hzg8 : id _) (hzg9 : id _) (hzg23 : id _) (hzg27 : id _) (hzg30 : id _) (hzg34 : id _) (hzg36 : id _) (hzg39 : id _) (hzg44 : id _) (hzg47 : id _) (hzg48 : id _) (hzg51 : id _) (hzg56 : id _) hzg59 (hzg62 : id _) (hzg65 : id _) (hzg66 : id _) (hzg70 : id _) hzF11 hzF12 hzF13 hzF15 hzF19 hzF21 hzF24 hzF25 hzF26 hzF33 hzF38 hzF41 hzF43 hzF45 hzF46 hzF50 hzF53 hzF54 hzLQ => ?_)
  clear hI
  have zkm1 : (-1 : Int32).toInt = -1 := by decide +kernel
  have zk0 : (0 : Int32).toInt = 0 := by decide +kernel
  have zk1 : (1 : Int32).toInt = 1 := by decide +kernel
  have f1 : ((g 59) - 1).toInt = (g 59).toInt - 1 := z_subc (by decide +kernel) (by (first | omega | (simp only [id_eq] at *; omega))) (by (first | omega | (simp only [id_eq] at *; omega)))
  obtain ⟨r8, hc8, hq8⟩ := ok_in p0 0 ((g 59) - 1) 
  obtain ⟨f2, f3, f4⟩ : (id (r8.toInt = 1 → (0 : Int32).toInt ≤ p0.toInt ∧ p0.toInt ≤ ((g 59) - 1).toInt)) ∧ (id (r8.toInt = 0 → p0.toInt < (0 : Int32).toInt ∨ ((g 59) - 1).toInt < p0.toInt)) ∧ ((0 ≤ r8.toInt ∧ r8.toInt ≤ 1)) := hq8
  refine wp_b1 hc8 ?_
  clear hc8
  refine wp_jn (fun j24 => ∀ (t24_0 : Int32), wp (j24 t24_0) (Q_collision g F p0)) ?_ ?_
  · intro t24_0
    show wp _ _
    exact ⟨_, rfl, trivial⟩
  intro j24 Jj24
  refine wp_ite (fun c11 => ?_) (fun c11 => ?_)
  · have c11 := congrArg Int32.toInt c11
    exact Jj24 (-1 : Int32)
  · have c11 := z_ne c11
    refine wp_if ⟨by (first | omega | (simp only [id_eq] at *; omega)), by (first | omega | (simp only [id_eq] at *; omega))⟩ ?_
    exact Jj24 ((F 58) (Int32.toNatClampNeg p0))
abbrev Q_written (g : Nat → Int32) (F : Nat → Nat → Int32) (p0 : Int32) : (Int32) → Prop := (fun t => True)
set_option maxHeartbeats 4000000 in
set_option maxRecDepth 100000 in
theorem ok_written (g : Nat → Int32) (F : Nat → Nat → Int32) (p0 : Int32) (hI : MInv g F) : wp (f_written g F p0) (Q_written g F p0) := by
  unfold f_written
  refine MInv_e hI (fun (hzg1 : id _) (hzg2 : id _) (hzg3 : id _) (hzg4 : id _) (hzg5 : id _) (hzg6 : id _) (hzg7 : id _) (hzg8 : id _) (hzg9 : id _) (hzg23 : id _) (hzg27 : id _) (hzg30 : id _) (hzg34 : id _) (hzg36 : id _) (hzg39 : id _) (hzg44 : id _) (hzg47 : id _) (hzg48 : id _) (hzg51 : id _) (hzg56 : id _) (hzg59 : id _) hzg62 (hzg65 : id _) (hzg66 : id _) (hzg70 : id _) hzF11 hzF12 hzF13 hzF15 hzF19 hzF21 hzF24 hzF25 hzF26 hzF33 hzF38 hzF41 hzF43 hzF45 hzF46 hzF50 hzF53 hzF54 hzLQ => ?_)
  clear hI
  have zkm1 : (-1 : Int32).toInt = -1 := by decide +kernel
  have zk0 : (0 : Int32).toInt = 0 := by decide +kernel
  have zk1 : (1 : Int32).toInt = 1 := by decide +kernel
  have zk255 : (255 : Int32).toInt = 255 := by decide +kernel
  have f1 : ((g 62) - 1).toInt = (g 62).toInt - 1 := z_subc (by decide +kernel) (by (first | omega | (simp only [id_eq] at *; omega))) (by (first | omega | (simp only [id_eq] at *; omega)))
  obtain ⟨r8, hc8, hq8⟩ := ok_in p0 0 ((g 62) - 1) 
  obtain ⟨f2, f3, f4⟩ : (id (r8.toInt = 1 → (0 : Int32).toInt ≤ p0.toInt ∧ p0.toInt ≤ ((g 62) - 1).toInt)) ∧ (id (r8.toInt = 0 → p0.toInt < (0 : Int32).toInt ∨ ((g 62) - 1).toInt < p0.toInt)) ∧ ((0 ≤ r8.toInt ∧ r8.toInt ≤ 1)) := hq8
  refine wp_b1 hc8 ?_
  clear hc8
  refine wp_jn (fun j28 => ∀ (t28_0 : Int32), wp (j28 t28_0) (Q_written g F p0)) ?_ ?_
  · intro t28_0
    show wp _ _
    exact ⟨_, rfl, trivial⟩
  intro j28 Jj28
  refine wp_ite (fun c11 => ?_) (fun c11 => ?_)
  · have c11 := congrArg Int32.toInt c11
    exact Jj28 (-1 : Int32)
  · have c11 := z_ne c11
    refine wp_if ⟨by (first | omega | (simp only [id_eq] at *; omega)), by (first | omega | (simp only [id_eq] at *; omega))⟩ ?_
    have f5 := z_and255 ((F 60) (Int32.toNatClampNeg p0))
    exact Jj28 (((F 60) (Int32.toNatClampNeg p0)) &&& 255)
abbrev Q_counted (g : Nat → Int32) (F : Nat → Nat → Int32) (p0 : Int32) : (Int32) → Prop := (fun t => True)
set_option maxHeartbeats 4000000 in
set_option maxRecDepth 100000 in
theorem ok_counted (g : Nat → Int32) (F : Nat → Nat → Int32) (p0 : Int32) (hI : MInv g F) : wp (f_counted g F p0) (Q_counted g F p0) := by
  unfold f_counted
  refine MInv_e hI (fun (hzg1 : id _) (hzg2 : id _) (hzg3 : id _) (hzg4 : id _) (hzg5 : id _) (hzg6 : id _) (hzg7 : id _) (hzg8 : id _) (hzg9 : id _) (hzg23 : id _) (hzg27 : id _) (hzg30 : id _) (hzg34 : id _) (hzg36 : id _) (hzg39 : id _) (hzg44 : id _) (hzg47 : id _) (hzg48 : id _) (hzg51 : id _) (hzg56 : id _) (hzg59 : id _) (hzg62 : id _) hzg65 (hzg66 : id _) (hzg70 : id _) hzF11 hzF12 hzF13 hzF15 hzF19 hzF21 hzF24 hzF25 hzF26 hzF33 hzF38 hzF41 hzF43 hzF45 hzF46 hzF50 hzF53 hzF54 hzLQ => ?_)
  clear hI
  have zkm1 : (-1 : Int32).toInt = -1 := by decide +kernel
  have zk0 : (0 : Int32).toInt = 0 := by decide +kernel
  have zk4 : (4 : Int32).toInt = 4 := by decide +kernel
  refine wp_jn (fun j26 => ∀ (t26_0 : Int32), wp (j26 t26_0) (Q_counted g F p0)) ?_ ?_
  · intro t26_0
    show wp _ _
    exact ⟨_, rfl, trivial⟩
  intro j26 Jj26
  refine wp_jn (fun j25 => wp (j25 ()) (Q_counted g F p0)) ?_ ?_
  · show wp _ _
    show wp _ _
    exact Jj26 (-1 : Int32)
  intro j25 Jj25
  refine wp_ite (fun c4 => ?_) (fun c4 => ?_)
  · have c4 := congrArg Int32.toInt c4
    exact Jj25
  · have c4 := z_ne c4
    obtain ⟨r10, hc10, hq10⟩ := ok_in p0 0 4 
    obtain ⟨f1, f2, f3⟩ : (id (r10.toInt = 1 → (0 : Int32).toInt ≤ p0.toInt ∧ p0.toInt ≤ (4 : Int32).toInt)) ∧ (id (r10.toInt = 0 → p0.toInt < (0 : Int32).toInt ∨ (4 : Int32).toInt < p0.toInt)) ∧ ((0 ≤ r10.toInt ∧ r10.toInt ≤ 1)) := hq10
    refine wp_b1 hc10 ?_
    clear hc10
    refine wp_ite (fun c13 => ?_) (fun c13 => ?_)
    · have c13 := congrArg Int32.toInt c13
      exact Jj25
    · have c13 := z_ne c13
      refine wp_if ⟨by (first | omega | (simp only [id_eq] at *; omega)), by (first | omega | (simp only [id_eq] at *; omega))⟩ ?_
      exact Jj26 ((F 63) (Int32.toNatClampNeg p0))
abbrev Q_line (g : Nat → Int32) (F : Nat → Nat → Int32) (p0 : Int32) : (Int32) → Prop := (fun t => True)
set_option maxHeartbeats 4000000 in
set_option maxRecDepth 100000 in
theorem ok_line (g : Nat → Int32) (F : Nat → Nat → Int32) (p0 : Int32) (hI : MInv g F) : wp (f_line g F p0) (Q_line g F p0) := by
  unfold f_line
  refine MInv_e hI (fun (hzg1 : id _) (hzg2 : id _) (hzg3 : id _) (hzg4 : id _) (hzg5 : id _) (hzg6 : id _) (hzg7 : id _) (hzg8 : id _) (hzg9 : id _) (hzg23 : id _) (hzg27 : id _) (hzg30 : id _) (hzg34 : id _) (hzg36 : id _) (hzg39 : id _) (hzg44 : id _) (hzg47 : id _) (hzg48 : id _) (hzg51 : id _) (hzg56 : id _) (hzg59 : id _) (hzg62 : id _) (hzg65 : id _) (hzg66 : id _) hzg70 hzF11 hzF12 hzF13 hzF15 hzF19 hzF21 hzF24 hzF25 hzF26 hzF33 hzF38 hzF41 hzF43 hzF45 hzF46 hzF50 hzF53 hzF54 hzLQ => ?_)
  clear hI
  have zkm1 : (-1 : Int32).toInt = -1 := by decide +kernel
  have zk0 : (0 : Int32).toInt = 0 := by decide +kernel
  have zk1 : (1 : Int32).toInt = 1 := by decide +kernel
  have f1 : ((g 70) - 1).toInt = (g 70).toInt - 1 := z_subc (by decide +kernel) (by (first | omega | (simp only [id_eq] at *; omega))) (by (first | omega | (simp only [id_eq] at *; omega)))
  obtain ⟨r8, hc8, hq8⟩ := ok_in p0 0 ((g 70) - 1) 
  obtain ⟨f2, f3, f4⟩ : (id (r8.toInt = 1 → (0 : Int32).toInt ≤ p0.toInt ∧ p0.toInt ≤ ((g 70) - 1).toInt)) ∧ (id (r8.toInt = 0 → p0.toInt < (0 : Int32).toInt ∨ ((g 70) - 1).toInt < p0.toInt)) ∧ ((0 ≤ r8.toInt ∧ r8.toInt ≤ 1)) := hq8
  refine wp_b1 hc8 ?_
  clear hc8
  refine wp_jn (fun j24 => ∀ (t24_0 : Int32), wp (j24 t24_0) (Q_line g F p0)) ?_ ?_
  · intro t24_0
    show wp _ _
    exact ⟨_, rfl, trivial⟩
  intro j24 Jj24
  refine wp_ite (fun c11 => ?_) (fun c11 => ?_)
  · have c11 := congrArg Int32.toInt c11
    exact Jj24 (-1 : Int32)
  · have c11 := z_ne c11
    refine wp_if ⟨by (first | omega | (simp only [id_eq] at *; omega)), by (first | omega | (simp only [id_eq] at *; omega))⟩ ?_
    exact Jj24 ((F 69) (Int32.toNatClampNeg p0))
abbrev Q_count (g : Nat → Int32) (F : Nat → Nat → Int32) (p0 : Int32) : (Int32) → Prop := (fun t => True)
set_option maxHeartbeats 4000000 in
set_option maxRecDepth 100000 in
theorem ok_count (g : Nat → Int32) (F : Nat → Nat → Int32) (p0 : Int32) (hI : MInv g F) : wp (f_count g F p0) (Q_count g F p0) := by
  unfold f_count
  refine MInv_e hI (fun hzg1 (hzg2 : id _) (hzg3 : id _) (hzg4 : id _) (hzg5 : id _) (hzg6 : id _) (hzg7 : id _) (hzg8 : id _) hzg9 (hzg23 : id _) (hzg27 : id _) (hzg30 : id _) (hzg34 : id _) (hzg36 : id _) (hzg39 : id _) (hzg44 : id _) (hzg47 : id _) hzg48 (hzg51 : id _) (hzg56 : id _) (hzg59 : id _) (hzg62 : id _) (hzg65 : id _) (hzg66 : id _) (hzg70 : id _) hzF11 hzF12 hzF13 hzF15 hzF19 hzF21 hzF24 hzF25 hzF26 hzF33 hzF38 hzF41 hzF43 hzF45 hzF46 hzF50 hzF53 hzF54 hzLQ => ?_)
  clear hI
  have zkm1 : (-1 : Int32).toInt = -1 := by decide +kernel
  have zk0 : (0 : Int32).toInt = 0 := by decide +kernel
  have zk1 : (1 : Int32).toInt = 1 := by decide +kernel
  have zk2 : (2 : Int32).toInt = 2 := by decide +kernel
  refine wp_jn (fun j36 => ∀ (t36_0 : Int32), wp (j36 t36_0) (Q_count g F p0)) ?_ ?_
  · intro t36_0
    show wp _ _
    exact ⟨_, rfl, trivial⟩
  intro j36 Jj36
  refine wp_ite (fun c1 => ?_) (fun c1 => ?_)
  · have c1 := congrArg Int32.toInt c1
    exact Jj36 (g 9)
  · have c1 := z_ne c1
    refine wp_ite (fun c13 => ?_) (fun c13 => ?_)
    · have c13 := congrArg Int32.toInt c13
      exact Jj36 (g 48)
    · have c13 := z_ne c13
      refine wp_ite (fun c25 => ?_) (fun c25 => ?_)
      · have c25 := congrArg Int32.toInt c25
        exact Jj36 (g 1)
      · have c25 := z_ne c25
        exact Jj36 (-1 : Int32)
abbrev Q_stage (g : Nat → Int32) (F : Nat → Nat → Int32) (p0 : Int32) : (Int32) → Prop := (fun t => True)
set_option maxHeartbeats 4000000 in
set_option maxRecDepth 100000 in
theorem ok_stage (g : Nat → Int32) (F : Nat → Nat → Int32) (p0 : Int32) (hI : MInv g F) : wp (f_stage g F p0) (Q_stage g F p0) := by
  unfold f_stage
  refine MInv_e hI (fun (hzg1 : id _) (hzg2 : id _) (hzg3 : id _) (hzg4 : id _) (hzg5 : id _) (hzg6 : id _) (hzg7 : id _) (hzg8 : id _) hzg9 (hzg23 : id _) (hzg27 : id _) (hzg30 : id _) (hzg34 : id _) (hzg36 : id _) (hzg39 : id _) (hzg44 : id _) (hzg47 : id _) (hzg48 : id _) (hzg51 : id _) (hzg56 : id _) (hzg59 : id _) (hzg62 : id _) (hzg65 : id _) (hzg66 : id _) (hzg70 : id _) hzF11 hzF12 hzF13 hzF15 hzF19 hzF21 hzF24 hzF25 hzF26 hzF33 hzF38 hzF41 hzF43 hzF45 hzF46 hzF50 hzF53 hzF54 hzLQ => ?_)
  clear hI
  have zkm2 : (-2 : Int32).toInt = -2 := by decide +kernel
  have zk0 : (0 : Int32).toInt = 0 := by decide +kernel
  have zk1 : (1 : Int32).toInt = 1 := by decide +kernel
  have zk100000 : (100000 : Int32).toInt = 100000 := by decide +kernel
  obtain ⟨r4, hc4, hq4⟩ := ok_in p0 0 100000 
  obtain ⟨f1, f2, f3⟩ : (id (r4.toInt = 1 → (0 : Int32).toInt ≤ p0.toInt ∧ p0.toInt ≤ (100000 : Int32).toInt)) ∧ (id (r4.toInt = 0 → p0.toInt < (0 : Int32).toInt ∨ (100000 : Int32).toInt < p0.toInt)) ∧ ((0 ≤ r4.toInt ∧ r4.toInt ≤ 1)) := hq4
  refine wp_b1 hc4 ?_
  clear hc4
  refine wp_ite (fun c7 => ?_) (fun c7 => ?_)
  · have c7 := congrArg Int32.toInt c7
    exact ⟨_, rfl, trivial⟩
  · have c7 := z_ne c7
    have lp17 : ∀ (n17 : Nat) (y17_2 : Int32) (y17_3 : Int32), (6 - y17_3.toInt).toNat < n17 → (0 ≤ y17_3.toInt ∧ y17_3.toInt ≤ 6) → (0 ≤ y17_2.toInt ∧ y17_2.toInt ≤ y17_3.toInt) → wp (L_stage_17 g F p0 n17 y17_2 y17_3) (Q_stage g F p0) := by
      intro n17
      induction n17 with
      | zero => intro y17_2 y17_3 hm; exact absurd hm (Nat.not_lt_zero _)
      | succ n17 ih17 =>
        intro y17_2 y17_3 hm17 f4 f5
        show wp (B_stage_17 g F p0 (L_stage_17 g F p0 n17) y17_2 y17_3) _
        unfold B_stage_17
        refine wp_ite (fun c22 => ?_) (fun c22 => ?_)
        · have c22 := (z_le _ _).mp c22
          exact ⟨_, rfl, trivial⟩
        · have c22 := z_nle c22
          refine wp_if ⟨by (first | omega | (simp only [id_eq] at *; omega)), by (first | omega | (simp only [id_eq] at *; omega))⟩ ?_
          refine wp_jn (fun j41 => ∀ (t41_0 : Int32), (0 ≤ t41_0.toInt ∧ t41_0.toInt ≤ 1) → wp (j41 t41_0) (Q_stage g F p0)) ?_ ?_
          · intro t41_0 f6
            show wp _ _
            have f7 : (y17_2 + t41_0).toInt = y17_2.toInt + t41_0.toInt := z_add (by (first | omega | (simp only [id_eq] at *; omega))) (by (first | omega | (simp only [id_eq] at *; omega)))
            refine wp_vl (fun x42 ex42 => ?_)
            have f8 : x42.toInt = (y17_2 + t41_0).toInt := congrArg Int32.toInt ex42
            clear ex42
            have f9 : (y17_3 + 1).toInt = y17_3.toInt + (1) := z_addc (by decide +kernel) (by (first | omega | (simp only [id_eq] at *; omega))) (by (first | omega | (simp only [id_eq] at *; omega)))
            exact ih17 x42 (y17_3 + 1) (show (6 - (y17_3 + 1).toInt).toNat < n17 from by (first | omega | (simp only [id_eq] at *; omega))) (show (0 ≤ (y17_3 + 1).toInt ∧ (y17_3 + 1).toInt ≤ 6) from by (first | omega | (simp only [id_eq] at *; omega))) (show (0 ≤ x42.toInt ∧ x42.toInt ≤ (y17_3 + 1).toInt) from by (first | omega | (simp only [id_eq] at *; omega)))
          intro j41 Jj41
          refine wp_ite (fun c33 => ?_) (fun c33 => ?_)
          · have c33 := (z_lt _ _).mp c33
            exact Jj41 (0 : Int32) (show (0 ≤ (0 : Int32).toInt ∧ (0 : Int32).toInt ≤ 1) from by (first | omega | (simp only [id_eq] at *; omega)))
          · have c33 := z_nlt c33
            exact Jj41 (1 : Int32) (show (0 ≤ (1 : Int32).toInt ∧ (1 : Int32).toInt ≤ 1) from by (first | omega | (simp only [id_eq] at *; omega)))
    exact lp17 NN (0 : Int32) (0 : Int32) (by have := NN_eq; (first | omega | (simp only [id_eq] at *; omega))) (show (0 ≤ (0 : Int32).toInt ∧ (0 : Int32).toInt ≤ 6) from by (first | omega | (simp only [id_eq] at *; omega))) (show (0 ≤ (0 : Int32).toInt ∧ (0 : Int32).toInt ≤ (0 : Int32).toInt) from by (first | omega | (simp only [id_eq] at *; omega)))
abbrev Q_isName (g : Nat → Int32) (F : Nat → Nat → Int32) (p0 : Int32) (p1 : Int32) : (Int32) → Prop := (fun t => ((0 ≤ t.toInt ∧ t.toInt ≤ 1)))
set_option maxHeartbeats 4000000 in
set_option maxRecDepth 100000 in
theorem ok_isName (g : Nat → Int32) (F : Nat → Nat → Int32) (p0 : Int32) (p1 : Int32) (hI : MInv g F) (hp0 : 0 ≤ p0.toInt) (hp1 : p1.toInt ≤ 2000) : wp (f_isName g F p0 p1) (Q_isName g F p0 p1) := by
  unfold f_isName
  refine MInv_e hI (fun (hzg1 : id _) (hzg2 : id _) (hzg3 : id _) (hzg4 : id _) (hzg5 : id _) (hzg6 : id _) (hzg7 : id _) (hzg8 : id _) (hzg9 : id _) (hzg23 : id _) (hzg27 : id _) (hzg30 : id _) (hzg34 : id _) (hzg36 : id _) (hzg39 : id _) (hzg44 : id _) (hzg47 : id _) (hzg48 : id _) (hzg51 : id _) (hzg56 : id _) (hzg59 : id _) (hzg62 : id _) (hzg65 : id _) (hzg66 : id _) (hzg70 : id _) hzF11 hzF12 hzF13 hzF15 hzF19 hzF21 hzF24 hzF25 hzF26 hzF33 hzF38 hzF41 hzF43 hzF45 hzF46 hzF50 hzF53 hzF54 hzLQ => ?_)
  clear hI
  have zk0 : (0 : Int32).toInt = 0 := by decide +kernel
  have zk1 : (1 : Int32).toInt = 1 := by decide +kernel
  have lp2 : ∀ (n2 : Nat) (y2_3 : Int32), (2000 - y2_3.toInt).toNat < n2 → 0 ≤ y2_3.toInt → wp (L_isName_2 F p1 n2 y2_3) (Q_isName g F p0 p1) := by
    intro n2
    induction n2 with
    | zero => intro y2_3 hm; exact absurd hm (Nat.not_lt_zero _)
    | succ n2 ih2 =>
      intro y2_3 hm2 f1
      show wp (B_isName_2 F p1 (L_isName_2 F p1 n2) y2_3) _
      unfold B_isName_2
      refine wp_ite (fun c4 => ?_) (fun c4 => ?_)
      · have c4 := (z_le _ _).mp c4
        exact ⟨_, rfl, (show (0 ≤ (0 : Int32).toInt ∧ (0 : Int32).toInt ≤ 1) from by (first | omega | (simp only [id_eq] at *; omega)))⟩
      · have c4 := z_nle c4
        refine wp_if ⟨by (first | omega | (simp only [id_eq] at *; omega)), by (first | omega | (simp only [id_eq] at *; omega))⟩ ?_
        obtain ⟨r13, hc13, hq13⟩ := ok_isSmall ((F 0) (Int32.toNatClampNeg y2_3)) 
        obtain ⟨f2, f3, f4⟩ : (id (r13.toInt = 1 → 97 ≤ ((F 0) (Int32.toNatClampNeg y2_3)).toInt ∧ ((F 0) (Int32.toNatClampNeg y2_3)).toInt ≤ 122)) ∧ (id (r13.toInt = 0 → ((F 0) (Int32.toNatClampNeg y2_3)).toInt < 97 ∨ 122 < ((F 0) (Int32.toNatClampNeg y2_3)).toInt)) ∧ ((0 ≤ r13.toInt ∧ r13.toInt ≤ 1)) := hq13
        refine wp_b1 hc13 ?_
        clear hc13
        refine wp_ite (fun c16 => ?_) (fun c16 => ?_)
        · have c16 := congrArg Int32.toInt c16
          exact ⟨_, rfl, (show (0 ≤ (1 : Int32).toInt ∧ (1 : Int32).toInt ≤ 1) from by (first | omega | (simp only [id_eq] at *; omega)))⟩
        · have c16 := z_ne c16
          have f5 : (y2_3 + 1).toInt = y2_3.toInt + (1) := z_addc (by decide +kernel) (by (first | omega | (simp only [id_eq] at *; omega))) (by (first | omega | (simp only [id_eq] at *; omega)))
          exact ih2 (y2_3 + 1) (show (2000 - (y2_3 + 1).toInt).toNat < n2 from by (first | omega | (simp only [id_eq] at *; omega))) (show 0 ≤ (y2_3 + 1).toInt from by (first | omega | (simp only [id_eq] at *; omega)))
  exact lp2 NN p0 (by have := NN_eq; (first | omega | (simp only [id_eq] at *; omega))) (show 0 ≤ p0.toInt from by (first | omega | (simp only [id_eq] at *; omega)))
abbrev Q_quoted (g : Nat → Int32) (F : Nat → Nat → Int32) (p0 : Int32) (p1 : Int32) : (Int32) → Prop := (fun t => ((p0.toInt < t.toInt ∧ t.toInt ≤ p1.toInt)))
set_option maxHeartbeats 4000000 in
set_option maxRecDepth 100000 in
theorem ok_quoted (g : Nat → Int32) (F : Nat → Nat → Int32) (p0 : Int32) (p1 : Int32) (hI : MInv g F) (hp0 : 0 ≤ p0.toInt) (hp1 : p0.toInt < p1.toInt) (hp2 : p1.toInt ≤ 2000) : wp (f_quoted g F p0 p1) (Q_quoted g F p0 p1) := by
  unfold f_quoted
  refine MInv_e hI (fun (hzg1 : id _) (hzg2 : id _) (hzg3 : id _) (hzg4 : id _) (hzg5 : id _) (hzg6 : id _) (hzg7 : id _) (hzg8 : id _) (hzg9 : id _) (hzg23 : id _) (hzg27 : id _) (hzg30 : id _) (hzg34 : id _) (hzg36 : id _) (hzg39 : id _) (hzg44 : id _) (hzg47 : id _) (hzg48 : id _) (hzg51 : id _) (hzg56 : id _) (hzg59 : id _) (hzg62 : id _) (hzg65 : id _) (hzg66 : id _) (hzg70 : id _) hzF11 hzF12 hzF13 hzF15 hzF19 hzF21 hzF24 hzF25 hzF26 hzF33 hzF38 hzF41 hzF43 hzF45 hzF46 hzF50 hzF53 hzF54 hzLQ => ?_)
  clear hI
  have zk1 : (1 : Int32).toInt = 1 := by decide +kernel
  have zk34 : (34 : Int32).toInt = 34 := by decide +kernel
  have f1 : (p0 + 1).toInt = p0.toInt + 1 := z_addc (by decide +kernel) (by (first | omega | (simp only [id_eq] at *; omega))) (by (first | omega | (simp only [id_eq] at *; omega)))
  refine wp_vl (fun x3 ex3 => ?_)
  have f2 : x3.toInt = (p0 + 1).toInt := congrArg Int32.toInt ex3
  clear ex3
  refine wp_jn (fun k26 => ∀ (x26_3 : Int32), (p0.toInt + 1 ≤ x26_3.toInt ∧ x26_3.toInt ≤ p1.toInt) → wp (k26 x26_3) (Q_quoted g F p0 p1)) ?_ ?_
  · intro x26_3 f3
    show wp _ _
    refine wp_jn (fun j38 => ∀ (t38_0 : Int32), (p0.toInt < t38_0.toInt ∧ t38_0.toInt ≤ p1.toInt) → wp (j38 t38_0) (Q_quoted g F p0 p1)) ?_ ?_
    · intro t38_0 f4
      show wp _ _
      exact ⟨_, rfl, (show (p0.toInt < t38_0.toInt ∧ t38_0.toInt ≤ p1.toInt) from by (first | omega | (simp only [id_eq] at *; omega)))⟩
    intro j38 Jj38
    refine wp_ite (fun c28 => ?_) (fun c28 => ?_)
    · have c28 := (z_le _ _).mp c28
      exact Jj38 p1 (show (p0.toInt < p1.toInt ∧ p1.toInt ≤ p1.toInt) from by (first | omega | (simp only [id_eq] at *; omega)))
    · have c28 := z_nle c28
      have f5 : (x26_3 + 1).toInt = x26_3.toInt + 1 := z_addc (by decide +kernel) (by (first | omega | (simp only [id_eq] at *; omega))) (by (first | omega | (simp only [id_eq] at *; omega)))
      exact Jj38 (x26_3 + 1) (show (p0.toInt < (x26_3 + 1).toInt ∧ (x26_3 + 1).toInt ≤ p1.toInt) from by (first | omega | (simp only [id_eq] at *; omega)))
  intro k26 Jk26
  have lp4 : ∀ (n4 : Nat) (y4_3 : Int32), (2000 - y4_3.toInt).toNat < n4 → (p0.toInt + 1 ≤ y4_3.toInt ∧ y4_3.toInt ≤ p1.toInt) → wp (L_quoted_4 F p1 k26 n4 y4_3) (Q_quoted g F p0 p1) := by
    intro n4
    induction n4 with
    | zero => intro y4_3 hm; exact absurd hm (Nat.not_lt_zero _)
    | succ n4 ih4 =>
      intro y4_3 hm4 f6
      show wp (B_quoted_4 F p1 k26 (L_quoted_4 F p1 k26 n4) y4_3) _
      unfold B_quoted_4
      refine wp_ite (fun c6 => ?_) (fun c6 => ?_)
      · have c6 := (z_le _ _).mp c6
        exact Jk26 y4_3 (show (p0.toInt + 1 ≤ y4_3.toInt ∧ y4_3.toInt ≤ p1.toInt) from by (first | omega | (simp only [id_eq] at *; omega)))
      · have c6 := z_nle c6
        refine wp_if ⟨by (first | omega | (simp only [id_eq] at *; omega)), by (first | omega | (simp only [id_eq] at *; omega))⟩ ?_
        refine wp_ite (fun c17 => ?_) (fun c17 => ?_)
        · have c17 := congrArg Int32.toInt c17
          exact Jk26 y4_3 (show (p0.toInt + 1 ≤ y4_3.toInt ∧ y4_3.toInt ≤ p1.toInt) from by (first | omega | (simp only [id_eq] at *; omega)))
        · have c17 := z_ne c17
          have f7 : (y4_3 + 1).toInt = y4_3.toInt + (1) := z_addc (by decide +kernel) (by (first | omega | (simp only [id_eq] at *; omega))) (by (first | omega | (simp only [id_eq] at *; omega)))
          exact ih4 (y4_3 + 1) (show (2000 - (y4_3 + 1).toInt).toNat < n4 from by (first | omega | (simp only [id_eq] at *; omega))) (show (p0.toInt + 1 ≤ (y4_3 + 1).toInt ∧ (y4_3 + 1).toInt ≤ p1.toInt) from by (first | omega | (simp only [id_eq] at *; omega)))
  exact lp4 NN x3 (by have := NN_eq; (first | omega | (simp only [id_eq] at *; omega))) (show (p0.toInt + 1 ≤ x3.toInt ∧ x3.toInt ≤ p1.toInt) from by (first | omega | (simp only [id_eq] at *; omega)))
abbrev Q_stands (g : Nat → Int32) (F : Nat → Nat → Int32) (p0 : Int32) (A1 : (Nat → Int32)) (n1 : Nat) (p2 : Int32) (p3 : Int32) : (Int32) → Prop := (fun t => ((t.toInt = 1 → 0 ≤ p2.toInt ∧ p2.toInt + ((F 15) (Int32.toNatClampNeg p0)).toInt ≤ p3.toInt)) ∧ ((0 ≤ t.toInt ∧ t.toInt ≤ 1)))
set_option maxHeartbeats 4000000 in
set_option maxRecDepth 100000 in
theorem ok_stands (g : Nat → Int32) (F : Nat → Nat → Int32) (p0 : Int32) (A1 : (Nat → Int32)) (n1 : Nat) (p2 : Int32) (p3 : Int32) (hI : MInv g F) (hp0 : (0 ≤ p0.toInt ∧ p0.toInt < 1120)) (hp1 : p3.toInt ≤ n1) (hp2 : n1 ≤ 400) (hp3 : p2.toInt ≤ 400) : wp (f_stands g F p0 A1 n1 p2 p3) (Q_stands g F p0 A1 n1 p2 p3) := by
  unfold f_stands
  refine MInv_e hI (fun (hzg1 : id _) (hzg2 : id _) (hzg3 : id _) (hzg4 : id _) (hzg5 : id _) (hzg6 : id _) (hzg7 : id _) (hzg8 : id _) (hzg9 : id _) (hzg23 : id _) (hzg27 : id _) (hzg30 : id _) (hzg34 : id _) (hzg36 : id _) (hzg39 : id _) (hzg44 : id _) (hzg47 : id _) (hzg48 : id _) (hzg51 : id _) (hzg56 : id _) (hzg59 : id _) (hzg62 : id _) (hzg65 : id _) (hzg66 : id _) (hzg70 : id _) hzF11 hzF12 hzF13 hzF15 hzF19 hzF21 hzF24 hzF25 hzF26 hzF33 hzF38 hzF41 hzF43 hzF45 hzF46 hzF50 hzF53 hzF54 hzLQ => ?_)
  clear hI
  have zk0 : (0 : Int32).toInt = 0 := by decide +kernel
  have zk1 : (1 : Int32).toInt = 1 := by decide +kernel
  have zk16 : (16 : Int32).toInt = 16 := by decide +kernel
  refine wp_jn (fun j17 => wp (j17 ()) (Q_stands g F p0 A1 n1 p2 p3)) ?_ ?_
  · show wp _ _
    show wp _ _
    exact ⟨_, rfl, ⟨(show ((0 : Int32).toInt = 1 → 0 ≤ p2.toInt ∧ p2.toInt + ((F 15) (Int32.toNatClampNeg p0)).toInt ≤ p3.toInt) from by (first | omega | (simp only [id_eq] at *; omega))), (show (0 ≤ (0 : Int32).toInt ∧ (0 : Int32).toInt ≤ 1) from by (first | omega | (simp only [id_eq] at *; omega)))⟩⟩
  intro j17 Jj17
  refine wp_ite (fun c1 => ?_) (fun c1 => ?_)
  · have c1 := (z_lt _ _).mp c1
    exact Jj17
  · have c1 := z_nlt c1
    refine wp_if ⟨by (first | omega | (simp only [id_eq] at *; omega)), by (first | omega | (simp only [id_eq] at *; omega))⟩ ?_
    have f1 := hzF15 (Int32.toNatClampNeg p0)
    have f2 : (p2 + ((F 15) (Int32.toNatClampNeg p0))).toInt = p2.toInt + ((F 15) (Int32.toNatClampNeg p0)).toInt := z_add (by (first | omega | (simp only [id_eq] at *; omega))) (by (first | omega | (simp only [id_eq] at *; omega)))
    refine wp_ite (fun c14 => ?_) (fun c14 => ?_)
    · have c14 := (z_le _ _).mp c14
      have lp22 : ∀ (n22 : Nat) (y22_5 : Int32), (16 - y22_5.toInt).toNat < n22 → 0 ≤ y22_5.toInt → wp (L_stands_22 F p0 A1 n1 p2 n22 y22_5) (Q_stands g F p0 A1 n1 p2 p3) := by
        intro n22
        induction n22 with
        | zero => intro y22_5 hm; exact absurd hm (Nat.not_lt_zero _)
        | succ n22 ih22 =>
          intro y22_5 hm22 f3
          show wp (B_stands_22 F p0 A1 n1 p2 (L_stands_22 F p0 A1 n1 p2 n22) y22_5) _
          unfold B_stands_22
          refine wp_if ⟨by (first | omega | (simp only [id_eq] at *; omega)), by (first | omega | (simp only [id_eq] at *; omega))⟩ ?_
          refine wp_ite (fun c30 => ?_) (fun c30 => ?_)
          · have c30 := (z_le _ _).mp c30
            exact ⟨_, rfl, ⟨(show ((1 : Int32).toInt = 1 → 0 ≤ p2.toInt ∧ p2.toInt + ((F 15) (Int32.toNatClampNeg p0)).toInt ≤ p3.toInt) from by (first | omega | (simp only [id_eq] at *; omega))), (show (0 ≤ (1 : Int32).toInt ∧ (1 : Int32).toInt ≤ 1) from by (first | omega | (simp only [id_eq] at *; omega)))⟩⟩
          · have c30 := z_nle c30
            have f5 : (p2 + y22_5).toInt = p2.toInt + y22_5.toInt := z_add (by (first | omega | (simp only [id_eq] at *; omega))) (by (first | omega | (simp only [id_eq] at *; omega)))
            refine wp_if ⟨by (first | omega | (simp only [id_eq] at *; omega)), by (first | omega | (simp only [id_eq] at *; omega))⟩ ?_
            have f6 : (16 * p0).toInt = 16 * p0.toInt := z_muld (by decide +kernel) (by (first | omega | (simp only [id_eq] at *; omega))) (by (first | omega | (simp only [id_eq] at *; omega)))
            have f7 : ((16 * p0) + y22_5).toInt = (16 * p0).toInt + y22_5.toInt := z_add (by (first | omega | (simp only [id_eq] at *; omega))) (by (first | omega | (simp only [id_eq] at *; omega)))
            refine wp_if ⟨by (first | omega | (simp only [id_eq] at *; omega)), by (first | omega | (simp only [id_eq] at *; omega))⟩ ?_
            refine wp_ite (fun c51 => ?_) (fun c51 => ?_)
            · have c51 := congrArg Int32.toInt c51
              have f8 : (y22_5 + 1).toInt = y22_5.toInt + (1) := z_addc (by decide +kernel) (by (first | omega | (simp only [id_eq] at *; omega))) (by (first | omega | (simp only [id_eq] at *; omega)))
              exact ih22 (y22_5 + 1) (show (16 - (y22_5 + 1).toInt).toNat < n22 from by (first | omega | (simp only [id_eq] at *; omega))) (show 0 ≤ (y22_5 + 1).toInt from by (first | omega | (simp only [id_eq] at *; omega)))
            · have c51 := z_ne c51
              exact ⟨_, rfl, ⟨(show ((0 : Int32).toInt = 1 → 0 ≤ p2.toInt ∧ p2.toInt + ((F 15) (Int32.toNatClampNeg p0)).toInt ≤ p3.toInt) from by (first | omega | (simp only [id_eq] at *; omega))), (show (0 ≤ (0 : Int32).toInt ∧ (0 : Int32).toInt ≤ 1) from by (first | omega | (simp only [id_eq] at *; omega)))⟩⟩
      exact lp22 NN (0 : Int32) (by have := NN_eq; (first | omega | (simp only [id_eq] at *; omega))) (show 0 ≤ (0 : Int32).toInt from by (first | omega | (simp only [id_eq] at *; omega)))
    · have c14 := z_nle c14
      exact Jj17
abbrev Q_hasForm (g : Nat → Int32) (F : Nat → Nat → Int32) (p0 : Int32) (p1 : Int32) (A2 : (Nat → Int32)) (n2 : Nat) (p3 : Int32) (p4 : Int32) : (Int32) → Prop := (fun t => ((0 ≤ t.toInt ∧ t.toInt ≤ 1)))
set_option maxHeartbeats 4000000 in
set_option maxRecDepth 100000 in
theorem ok_hasForm (g : Nat → Int32) (F : Nat → Nat → Int32) (p0 : Int32) (p1 : Int32) (A2 : (Nat → Int32)) (n2 : Nat) (p3 : Int32) (p4 : Int32) (hI : MInv g F) (hp0 : (0 ≤ p0.toInt ∧ p0.toInt ≤ 99)) (hp1 : (0 ≤ p1.toInt ∧ p1.toInt ≤ 6)) (hp2 : (0 ≤ p3.toInt ∧ p3.toInt + p4.toInt ≤ n2)) (hp3 : n2 ≤ 500000) : wp (f_hasForm g F p0 p1 A2 n2 p3 p4) (Q_hasForm g F p0 p1 A2 n2 p3 p4) := by
  unfold f_hasForm
  refine MInv_e hI (fun (hzg1 : id _) (hzg2 : id _) (hzg3 : id _) (hzg4 : id _) (hzg5 : id _) (hzg6 : id _) (hzg7 : id _) (hzg8 : id _) (hzg9 : id _) (hzg23 : id _) (hzg27 : id _) (hzg30 : id _) (hzg34 : id _) (hzg36 : id _) (hzg39 : id _) (hzg44 : id _) (hzg47 : id _) (hzg48 : id _) (hzg51 : id _) (hzg56 : id _) (hzg59 : id _) (hzg62 : id _) (hzg65 : id _) (hzg66 : id _) (hzg70 : id _) hzF11 hzF12 hzF13 hzF15 hzF19 hzF21 hzF24 hzF25 hzF26 hzF33 hzF38 hzF41 hzF43 hzF45 hzF46 hzF50 hzF53 hzF54 hzLQ => ?_)
  clear hI
  have zk0 : (0 : Int32).toInt = 0 := by decide +kernel
  have zk1 : (1 : Int32).toInt = 1 := by decide +kernel
  have zk7 : (7 : Int32).toInt = 7 := by decide +kernel
  have zk12 : (12 : Int32).toInt = 12 := by decide +kernel
  have zk24 : (24 : Int32).toInt = 24 := by decide +kernel
  have f1 : (7 * p0).toInt = 7 * p0.toInt := z_muld (by decide +kernel) (by (first | omega | (simp only [id_eq] at *; omega))) (by (first | omega | (simp only [id_eq] at *; omega)))
  have f2 : ((7 * p0) + p1).toInt = (7 * p0).toInt + p1.toInt := z_add (by (first | omega | (simp only [id_eq] at *; omega))) (by (first | omega | (simp only [id_eq] at *; omega)))
  have f3 : (12 * ((7 * p0) + p1)).toInt = 12 * ((7 * p0) + p1).toInt := z_muld (by decide +kernel) (by (first | omega | (simp only [id_eq] at *; omega))) (by (first | omega | (simp only [id_eq] at *; omega)))
  refine wp_vl (fun x9 ex9 => ?_)
  have f4 : x9.toInt = (12 * ((7 * p0) + p1)).toInt := congrArg Int32.toInt ex9
  clear ex9
  have lp11 : ∀ (n11 : Nat) (y11_6 : Int32), (84 * p0.toInt + 12 * p1.toInt + 12 - y11_6.toInt).toNat < n11 → (84 * p0.toInt + 12 * p1.toInt ≤ y11_6.toInt ∧ y11_6.toInt ≤ 84 * p0.toInt + 12 * p1.toInt + 12) → wp (L_hasForm_11 F p0 p1 A2 n2 p3 p4 n11 y11_6) (Q_hasForm g F p0 p1 A2 n2 p3 p4) := by
    intro n11
    induction n11 with
    | zero => intro y11_6 hm; exact absurd hm (Nat.not_lt_zero _)
    | succ n11 ih11 =>
      intro y11_6 hm11 f5
      show wp (B_hasForm_11 F p0 p1 A2 n2 p3 p4 (L_hasForm_11 F p0 p1 A2 n2 p3 p4 n11) y11_6) _
      unfold B_hasForm_11
      refine wp_if ⟨by (first | omega | (simp only [id_eq] at *; omega)), by (first | omega | (simp only [id_eq] at *; omega))⟩ ?_
      have f11 := hzF54 (Int32.toNatClampNeg ((7 * p0) + p1))
      have f12 : ((12 * ((7 * p0) + p1)) + ((F 54) (Int32.toNatClampNeg ((7 * p0) + p1)))).toInt = (12 * ((7 * p0) + p1)).toInt + ((F 54) (Int32.toNatClampNeg ((7 * p0) + p1))).toInt := z_add (by (first | omega | (simp only [id_eq] at *; omega))) (by (first | omega | (simp only [id_eq] at *; omega)))
      refine wp_ite (fun c34 => ?_) (fun c34 => ?_)
      · have c34 := (z_le _ _).mp c34
        exact ⟨_, rfl, (show (0 ≤ (0 : Int32).toInt ∧ (0 : Int32).toInt ≤ 1) from by (first | omega | (simp only [id_eq] at *; omega)))⟩
      · have c34 := z_nle c34
        have f13 : (24 * y11_6).toInt = 24 * y11_6.toInt := z_muld (by decide +kernel) (by (first | omega | (simp only [id_eq] at *; omega))) (by (first | omega | (simp only [id_eq] at *; omega)))
        refine wp_if ⟨by (first | omega | (simp only [id_eq] at *; omega)), by (first | omega | (simp only [id_eq] at *; omega))⟩ ?_
        have f14 := hzF53 (Int32.toNatClampNeg y11_6)
        obtain ⟨r58, hc58, hq58⟩ := ok_sameBytes (F 52) 201600 (24 * y11_6) ((F 53) (Int32.toNatClampNeg y11_6)) A2 n2 p3 p4 (show (0 ≤ (24 * y11_6).toInt ∧ (24 * y11_6).toInt + ((F 53) (Int32.toNatClampNeg y11_6)).toInt ≤ 201600) from by (first | omega | (simp only [id_eq] at *; omega))) (show 201600 ≤ 500000 from by (first | omega | (simp only [id_eq] at *; omega))) (show (0 ≤ p3.toInt ∧ p3.toInt + p4.toInt ≤ n2) from by (first | omega | (simp only [id_eq] at *; omega))) (show n2 ≤ 500000 from by (first | omega | (simp only [id_eq] at *; omega)))
        have f15 : (0 ≤ r58.toInt ∧ r58.toInt ≤ 1) := hq58
        refine wp_b1 hc58 ?_
        clear hc58
        refine wp_ite (fun c61 => ?_) (fun c61 => ?_)
        · have c61 := congrArg Int32.toInt c61
          have f16 : (y11_6 + 1).toInt = y11_6.toInt + (1) := z_addc (by decide +kernel) (by (first | omega | (simp only [id_eq] at *; omega))) (by (first | omega | (simp only [id_eq] at *; omega)))
          exact ih11 (y11_6 + 1) (show (84 * p0.toInt + 12 * p1.toInt + 12 - (y11_6 + 1).toInt).toNat < n11 from by (first | omega | (simp only [id_eq] at *; omega))) (show (84 * p0.toInt + 12 * p1.toInt ≤ (y11_6 + 1).toInt ∧ (y11_6 + 1).toInt ≤ 84 * p0.toInt + 12 * p1.toInt + 12) from by (first | omega | (simp only [id_eq] at *; omega)))
        · have c61 := z_ne c61
          exact ⟨_, rfl, (show (0 ≤ (1 : Int32).toInt ∧ (1 : Int32).toInt ≤ 1) from by (first | omega | (simp only [id_eq] at *; omega)))⟩
  exact lp11 NN x9 (by have := NN_eq; (first | omega | (simp only [id_eq] at *; omega))) (show (84 * p0.toInt + 12 * p1.toInt ≤ x9.toInt ∧ x9.toInt ≤ 84 * p0.toInt + 12 * p1.toInt + 12) from by (first | omega | (simp only [id_eq] at *; omega)))
abbrev Q_isKnown (g : Nat → Int32) (F : Nat → Nat → Int32) (p0 : Int32) (p1 : Int32) (p2 : Int32) : (Int32) → Prop := (fun t => ((0 ≤ t.toInt ∧ t.toInt ≤ 1)))
set_option maxHeartbeats 4000000 in
set_option maxRecDepth 100000 in
theorem ok_isKnown (g : Nat → Int32) (F : Nat → Nat → Int32) (p0 : Int32) (p1 : Int32) (p2 : Int32) (hI : MInv g F) (hp0 : (0 ≤ p0.toInt ∧ p0.toInt ≤ 6)) (hp1 : (0 ≤ p1.toInt ∧ p1.toInt ≤ p2.toInt ∧ p2.toInt ≤ 2000)) : wp (f_isKnown g F p0 p1 p2) (Q_isKnown g F p0 p1 p2) := by
  unfold f_isKnown
  refine MInv_e hI (fun (hzg1 : id _) (hzg2 : id _) (hzg3 : id _) (hzg4 : id _) (hzg5 : id _) (hzg6 : id _) (hzg7 : id _) (hzg8 : id _) (hzg9 : id _) (hzg23 : id _) (hzg27 : id _) (hzg30 : id _) (hzg34 : id _) (hzg36 : id _) (hzg39 : id _) (hzg44 : id _) (hzg47 : id _) hzg48 (hzg51 : id _) (hzg56 : id _) (hzg59 : id _) (hzg62 : id _) (hzg65 : id _) (hzg66 : id _) (hzg70 : id _) hzF11 hzF12 hzF13 hzF15 hzF19 hzF21 hzF24 hzF25 hzF26 hzF33 hzF38 hzF41 hzF43 hzF45 hzF46 hzF50 hzF53 hzF54 hzLQ => ?_)
  clear hI
  have zk0 : (0 : Int32).toInt = 0 := by decide +kernel
  have zk1 : (1 : Int32).toInt = 1 := by decide +kernel
  have lp3 : ∀ (n3 : Nat) (y3_4 : Int32), (100 - y3_4.toInt).toNat < n3 → (0 ≤ y3_4.toInt ∧ y3_4.toInt ≤ 100) → wp (L_isKnown_3 g F p0 p1 p2 n3 y3_4) (Q_isKnown g F p0 p1 p2) := by
    intro n3
    induction n3 with
    | zero => intro y3_4 hm; exact absurd hm (Nat.not_lt_zero _)
    | succ n3 ih3 =>
      intro y3_4 hm3 f1
      show wp (B_isKnown_3 g F p0 p1 p2 (L_isKnown_3 g F p0 p1 p2 n3) y3_4) _
      unfold B_isKnown_3
      refine wp_ite (fun c9 => ?_) (fun c9 => ?_)
      · have c9 := (z_le _ _).mp c9
        exact ⟨_, rfl, (show (0 ≤ (0 : Int32).toInt ∧ (0 : Int32).toInt ≤ 1) from by (first | omega | (simp only [id_eq] at *; omega)))⟩
      · have c9 := z_nle c9
        have f2 : (p2 - p1).toInt = p2.toInt - p1.toInt := z_sub (by (first | omega | (simp only [id_eq] at *; omega))) (by (first | omega | (simp only [id_eq] at *; omega)))
        obtain ⟨r24, hc24, hq24⟩ := ok_hasForm g F y3_4 p0 (F 0) 2000 p1 (p2 - p1) (MInv_i hzg1 hzg2 hzg3 hzg4 hzg5 hzg6 hzg7 hzg8 hzg9 hzg23 hzg27 hzg30 hzg34 hzg36 hzg39 hzg44 hzg47 hzg48 hzg51 hzg56 hzg59 hzg62 hzg65 hzg66 hzg70 hzF11 hzF12 hzF13 hzF15 hzF19 hzF21 hzF24 hzF25 hzF26 hzF33 hzF38 hzF41 hzF43 hzF45 hzF46 hzF50 hzF53 hzF54 hzLQ) (show (0 ≤ y3_4.toInt ∧ y3_4.toInt ≤ 99) from by (first | omega | (simp only [id_eq] at *; omega))) (show (0 ≤ p0.toInt ∧ p0.toInt ≤ 6) from by (first | omega | (simp only [id_eq] at *; omega))) (show (0 ≤ p1.toInt ∧ p1.toInt + (p2 - p1).toInt ≤ 2000) from by (first | omega | (simp only [id_eq] at *; omega))) (show 2000 ≤ 500000 from by (first | omega | (simp only [id_eq] at *; omega)))
        have f3 : (0 ≤ r24.toInt ∧ r24.toInt ≤ 1) := hq24
        refine wp_b1 hc24 ?_
        clear hc24
        refine wp_ite (fun c27 => ?_) (fun c27 => ?_)
        · have c27 := congrArg Int32.toInt c27
          have f4 : (y3_4 + 1).toInt = y3_4.toInt + (1) := z_addc (by decide +kernel) (by (first | omega | (simp only [id_eq] at *; omega))) (by (first | omega | (simp only [id_eq] at *; omega)))
          exact ih3 (y3_4 + 1) (show (100 - (y3_4 + 1).toInt).toNat < n3 from by (first | omega | (simp only [id_eq] at *; omega))) (show (0 ≤ (y3_4 + 1).toInt ∧ (y3_4 + 1).toInt ≤ 100) from by (first | omega | (simp only [id_eq] at *; omega)))
        · have c27 := z_ne c27
          exact ⟨_, rfl, (show (0 ≤ (1 : Int32).toInt ∧ (1 : Int32).toInt ≤ 1) from by (first | omega | (simp only [id_eq] at *; omega)))⟩
  exact lp3 NN (0 : Int32) (by have := NN_eq; (first | omega | (simp only [id_eq] at *; omega))) (show (0 ≤ (0 : Int32).toInt ∧ (0 : Int32).toInt ≤ 100) from by (first | omega | (simp only [id_eq] at *; omega)))
abbrev Q_collide (g : Nat → Int32) (F : Nat → Nat → Int32) (p0 : Int32) (p1 : Int32) (p2 : Int32) : (Int32) → Prop := (fun t => ((0 ≤ t.toInt ∧ t.toInt ≤ 1)))
set_option maxHeartbeats 4000000 in
set_option maxRecDepth 100000 in
theorem ok_collide (g : Nat → Int32) (F : Nat → Nat → Int32) (p0 : Int32) (p1 : Int32) (p2 : Int32) (hI : MInv g F) (hp0 : (0 ≤ p0.toInt ∧ p0.toInt ≤ 99)) (hp1 : (0 ≤ p1.toInt ∧ p1.toInt ≤ 99)) (hp2 : (0 ≤ p2.toInt ∧ p2.toInt ≤ 6)) : wp (f_collide g F p0 p1 p2) (Q_collide g F p0 p1 p2) := by
  unfold f_collide
  refine MInv_e hI (fun (hzg1 : id _) (hzg2 : id _) (hzg3 : id _) (hzg4 : id _) (hzg5 : id _) (hzg6 : id _) (hzg7 : id _) (hzg8 : id _) (hzg9 : id _) (hzg23 : id _) (hzg27 : id _) (hzg30 : id _) (hzg34 : id _) (hzg36 : id _) (hzg39 : id _) (hzg44 : id _) (hzg47 : id _) (hzg48 : id _) (hzg51 : id _) (hzg56 : id _) (hzg59 : id _) (hzg62 : id _) (hzg65 : id _) (hzg66 : id _) (hzg70 : id _) hzF11 hzF12 hzF13 hzF15 hzF19 hzF21 hzF24 hzF25 hzF26 hzF33 hzF38 hzF41 hzF43 hzF45 hzF46 hzF50 hzF53 hzF54 hzLQ => ?_)
  clear hI
  have zk0 : (0 : Int32).toInt = 0 := by decide +kernel
  have zk1 : (1 : Int32).toInt = 1 := by decide +kernel
  have zk7 : (7 : Int32).toInt = 7 := by decide +kernel
  have zk12 : (12 : Int32).toInt = 12 := by decide +kernel
  have zk24 : (24 : Int32).toInt = 24 := by decide +kernel
  have f1 : (7 * p0).toInt = 7 * p0.toInt := z_muld (by decide +kernel) (by (first | omega | (simp only [id_eq] at *; omega))) (by (first | omega | (simp only [id_eq] at *; omega)))
  have f2 : ((7 * p0) + p2).toInt = (7 * p0).toInt + p2.toInt := z_add (by (first | omega | (simp only [id_eq] at *; omega))) (by (first | omega | (simp only [id_eq] at *; omega)))
  have f3 : (12 * ((7 * p0) + p2)).toInt = 12 * ((7 * p0) + p2).toInt := z_muld (by decide +kernel) (by (first | omega | (simp only [id_eq] at *; omega))) (by (first | omega | (simp only [id_eq] at *; omega)))
  refine wp_vl (fun x9 ex9 => ?_)
  have f4 : x9.toInt = (12 * ((7 * p0) + p2)).toInt := congrArg Int32.toInt ex9
  clear ex9
  have lp11 : ∀ (n11 : Nat) (y11_4 : Int32), (84 * p0.toInt + 12 * p2.toInt + 12 - y11_4.toInt).toNat < n11 → (84 * p0.toInt + 12 * p2.toInt ≤ y11_4.toInt ∧ y11_4.toInt ≤ 84 * p0.toInt + 12 * p2.toInt + 12) → wp (L_collide_11 g F p0 p1 p2 n11 y11_4) (Q_collide g F p0 p1 p2) := by
    intro n11
    induction n11 with
    | zero => intro y11_4 hm; exact absurd hm (Nat.not_lt_zero _)
    | succ n11 ih11 =>
      intro y11_4 hm11 f5
      show wp (B_collide_11 g F p0 p1 p2 (L_collide_11 g F p0 p1 p2 n11) y11_4) _
      unfold B_collide_11
      refine wp_if ⟨by (first | omega | (simp only [id_eq] at *; omega)), by (first | omega | (simp only [id_eq] at *; omega))⟩ ?_
      have f11 := hzF54 (Int32.toNatClampNeg ((7 * p0) + p2))
      have f12 : ((12 * ((7 * p0) + p2)) + ((F 54) (Int32.toNatClampNeg ((7 * p0) + p2)))).toInt = (12 * ((7 * p0) + p2)).toInt + ((F 54) (Int32.toNatClampNeg ((7 * p0) + p2))).toInt := z_add (by (first | omega | (simp only [id_eq] at *; omega))) (by (first | omega | (simp only [id_eq] at *; omega)))
      refine wp_ite (fun c34 => ?_) (fun c34 => ?_)
      · have c34 := (z_le _ _).mp c34
        exact ⟨_, rfl, (show (0 ≤ (0 : Int32).toInt ∧ (0 : Int32).toInt ≤ 1) from by (first | omega | (simp only [id_eq] at *; omega)))⟩
      · have c34 := z_nle c34
        have f13 : (24 * y11_4).toInt = 24 * y11_4.toInt := z_muld (by decide +kernel) (by (first | omega | (simp only [id_eq] at *; omega))) (by (first | omega | (simp only [id_eq] at *; omega)))
        refine wp_if ⟨by (first | omega | (simp only [id_eq] at *; omega)), by (first | omega | (simp only [id_eq] at *; omega))⟩ ?_
        have f14 := hzF53 (Int32.toNatClampNeg y11_4)
        obtain ⟨r56, hc56, hq56⟩ := ok_hasForm g F p1 p2 (F 52) 201600 (24 * y11_4) ((F 53) (Int32.toNatClampNeg y11_4)) (MInv_i hzg1 hzg2 hzg3 hzg4 hzg5 hzg6 hzg7 hzg8 hzg9 hzg23 hzg27 hzg30 hzg34 hzg36 hzg39 hzg44 hzg47 hzg48 hzg51 hzg56 hzg59 hzg62 hzg65 hzg66 hzg70 hzF11 hzF12 hzF13 hzF15 hzF19 hzF21 hzF24 hzF25 hzF26 hzF33 hzF38 hzF41 hzF43 hzF45 hzF46 hzF50 hzF53 hzF54 hzLQ) (show (0 ≤ p1.toInt ∧ p1.toInt ≤ 99) from by (first | omega | (simp only [id_eq] at *; omega))) (show (0 ≤ p2.toInt ∧ p2.toInt ≤ 6) from by (first | omega | (simp only [id_eq] at *; omega))) (show (0 ≤ (24 * y11_4).toInt ∧ (24 * y11_4).toInt + ((F 53) (Int32.toNatClampNeg y11_4)).toInt ≤ 201600) from by (first | omega | (simp only [id_eq] at *; omega))) (show 201600 ≤ 500000 from by (first | omega | (simp only [id_eq] at *; omega)))
        have f15 : (0 ≤ r56.toInt ∧ r56.toInt ≤ 1) := hq56
        refine wp_b1 hc56 ?_
        clear hc56
        refine wp_ite (fun c59 => ?_) (fun c59 => ?_)
        · have c59 := congrArg Int32.toInt c59
          have f16 : (y11_4 + 1).toInt = y11_4.toInt + (1) := z_addc (by decide +kernel) (by (first | omega | (simp only [id_eq] at *; omega))) (by (first | omega | (simp only [id_eq] at *; omega)))
          exact ih11 (y11_4 + 1) (show (84 * p0.toInt + 12 * p2.toInt + 12 - (y11_4 + 1).toInt).toNat < n11 from by (first | omega | (simp only [id_eq] at *; omega))) (show (84 * p0.toInt + 12 * p2.toInt ≤ (y11_4 + 1).toInt ∧ (y11_4 + 1).toInt ≤ 84 * p0.toInt + 12 * p2.toInt + 12) from by (first | omega | (simp only [id_eq] at *; omega)))
        · have c59 := z_ne c59
          exact ⟨_, rfl, (show (0 ≤ (1 : Int32).toInt ∧ (1 : Int32).toInt ≤ 1) from by (first | omega | (simp only [id_eq] at *; omega)))⟩
  exact lp11 NN x9 (by have := NN_eq; (first | omega | (simp only [id_eq] at *; omega))) (show (84 * p0.toInt + 12 * p2.toInt ≤ x9.toInt ∧ x9.toInt ≤ 84 * p0.toInt + 12 * p2.toInt + 12) from by (first | omega | (simp only [id_eq] at *; omega)))
abbrev Q_rhyme (A0 : (Nat → Int32)) (n0 : Nat) (p1 : Int32) (p2 : Int32) (A3 : (Nat → Int32)) (n3 : Nat) (p4 : Int32) (p5 : Int32) : (Int32) → Prop := (fun t => ((0 ≤ t.toInt ∧ t.toInt ≤ 1)))
set_option maxHeartbeats 4000000 in
set_option maxRecDepth 100000 in
theorem ok_rhyme (A0 : (Nat → Int32)) (n0 : Nat) (p1 : Int32) (p2 : Int32) (A3 : (Nat → Int32)) (n3 : Nat) (p4 : Int32) (p5 : Int32) (hp0 : (0 ≤ p1.toInt ∧ p1.toInt + p2.toInt ≤ n0)) (hp1 : n0 ≤ 500000) (hp2 : (0 ≤ p4.toInt ∧ p4.toInt + p5.toInt ≤ n3)) (hp3 : n3 ≤ 500000) (hp4 : p2.toInt ≤ 24) (hp5 : p5.toInt ≤ 24) : wp (f_rhyme A0 n0 p1 p2 A3 n3 p4 p5) (Q_rhyme A0 n0 p1 p2 A3 n3 p4 p5) := by
  unfold f_rhyme
  have zk0 : (0 : Int32).toInt = 0 := by decide +kernel
  have zk1 : (1 : Int32).toInt = 1 := by decide +kernel
  have zk2 : (2 : Int32).toInt = 2 := by decide +kernel
  have zk3 : (3 : Int32).toInt = 3 := by decide +kernel
  refine wp_jn (fun j38 => ∀ (t38_0 : Int32), (0 ≤ t38_0.toInt ∧ t38_0.toInt ≤ 1) → wp (j38 t38_0) (Q_rhyme A0 n0 p1 p2 A3 n3 p4 p5)) ?_ ?_
  · intro t38_0 f1
    show wp _ _
    refine wp_if ⟨by (first | omega | (simp only [id_eq] at *; omega)), by (first | omega | (simp only [id_eq] at *; omega))⟩ ?_
    exact ⟨_, rfl, (show (0 ≤ t38_0.toInt ∧ t38_0.toInt ≤ 1) from by (first | omega | (simp only [id_eq] at *; omega)))⟩
  intro j38 Jj38
  refine wp_jn (fun j37 => wp (j37 ()) (Q_rhyme A0 n0 p1 p2 A3 n3 p4 p5)) ?_ ?_
  · show wp _ _
    show wp _ _
    exact Jj38 (0 : Int32) (show (0 ≤ (0 : Int32).toInt ∧ (0 : Int32).toInt ≤ 1) from by (first | omega | (simp only [id_eq] at *; omega)))
  intro j37 Jj37
  refine wp_ite (fun c2 => ?_) (fun c2 => ?_)
  · have c2 := (z_le _ _).mp c2
    exact Jj37
  · have c2 := z_nle c2
    refine wp_ite (fun c8 => ?_) (fun c8 => ?_)
    · have c8 := (z_le _ _).mp c8
      exact Jj37
    · have c8 := z_nle c8
      have f2 : (p1 + p2).toInt = p1.toInt + p2.toInt := z_add (by (first | omega | (simp only [id_eq] at *; omega))) (by (first | omega | (simp only [id_eq] at *; omega)))
      have f3 : ((p1 + p2) - 3).toInt = (p1 + p2).toInt - 3 := z_subc (by decide +kernel) (by (first | omega | (simp only [id_eq] at *; omega))) (by (first | omega | (simp only [id_eq] at *; omega)))
      have f4 : (p4 + p5).toInt = p4.toInt + p5.toInt := z_add (by (first | omega | (simp only [id_eq] at *; omega))) (by (first | omega | (simp only [id_eq] at *; omega)))
      have f5 : ((p4 + p5) - 3).toInt = (p4 + p5).toInt - 3 := z_subc (by decide +kernel) (by (first | omega | (simp only [id_eq] at *; omega))) (by (first | omega | (simp only [id_eq] at *; omega)))
      obtain ⟨r27, hc27, hq27⟩ := ok_sameBytes A0 n0 ((p1 + p2) - 3) 3 A3 n3 ((p4 + p5) - 3) 3 (show (0 ≤ ((p1 + p2) - 3).toInt ∧ ((p1 + p2) - 3).toInt + (3 : Int32).toInt ≤ n0) from by (first | omega | (simp only [id_eq] at *; omega))) (show n0 ≤ 500000 from by (first | omega | (simp only [id_eq] at *; omega))) (show (0 ≤ ((p4 + p5) - 3).toInt ∧ ((p4 + p5) - 3).toInt + (3 : Int32).toInt ≤ n3) from by (first | omega | (simp only [id_eq] at *; omega))) (show n3 ≤ 500000 from by (first | omega | (simp only [id_eq] at *; omega)))
      have f6 : (0 ≤ r27.toInt ∧ r27.toInt ≤ 1) := hq27
      refine wp_b1 hc27 ?_
      clear hc27
      refine wp_ite (fun c30 => ?_) (fun c30 => ?_)
      · have c30 := congrArg Int32.toInt c30
        exact Jj37
      · have c30 := z_ne c30
        exact Jj38 (1 : Int32) (show (0 ≤ (1 : Int32).toInt ∧ (1 : Int32).toInt ≤ 1) from by (first | omega | (simp only [id_eq] at *; omega)))
abbrev Q_rhymeAt (g : Nat → Int32) (F : Nat → Nat → Int32) (p0 : Int32) (p1 : Int32) (p2 : Int32) : (Int32) → Prop := (fun t => ((0 ≤ t.toInt ∧ t.toInt ≤ 1)))
set_option maxHeartbeats 4000000 in
set_option maxRecDepth 100000 in
theorem ok_rhymeAt (g : Nat → Int32) (F : Nat → Nat → Int32) (p0 : Int32) (p1 : Int32) (p2 : Int32) (hI : MInv g F) (hp0 : (0 ≤ p0.toInt ∧ p0.toInt ≤ 99)) (hp1 : (0 ≤ p1.toInt ∧ p1.toInt ≤ 99)) (hp2 : (0 ≤ p2.toInt ∧ p2.toInt ≤ 6)) : wp (f_rhymeAt g F p0 p1 p2) (Q_rhymeAt g F p0 p1 p2) := by
  unfold f_rhymeAt
  refine MInv_e hI (fun (hzg1 : id _) (hzg2 : id _) (hzg3 : id _) (hzg4 : id _) (hzg5 : id _) (hzg6 : id _) (hzg7 : id _) (hzg8 : id _) (hzg9 : id _) (hzg23 : id _) (hzg27 : id _) (hzg30 : id _) (hzg34 : id _) (hzg36 : id _) (hzg39 : id _) (hzg44 : id _) (hzg47 : id _) (hzg48 : id _) (hzg51 : id _) (hzg56 : id _) (hzg59 : id _) (hzg62 : id _) (hzg65 : id _) (hzg66 : id _) (hzg70 : id _) hzF11 hzF12 hzF13 hzF15 hzF19 hzF21 hzF24 hzF25 hzF26 hzF33 hzF38 hzF41 hzF43 hzF45 hzF46 hzF50 hzF53 hzF54 hzLQ => ?_)
  clear hI
  have zk0 : (0 : Int32).toInt = 0 := by decide +kernel
  have zk1 : (1 : Int32).toInt = 1 := by decide +kernel
  have zk7 : (7 : Int32).toInt = 7 := by decide +kernel
  have zk12 : (12 : Int32).toInt = 12 := by decide +kernel
  have zk24 : (24 : Int32).toInt = 24 := by decide +kernel
  have f1 : (7 * p0).toInt = 7 * p0.toInt := z_muld (by decide +kernel) (by (first | omega | (simp only [id_eq] at *; omega))) (by (first | omega | (simp only [id_eq] at *; omega)))
  have f2 : ((7 * p0) + p2).toInt = (7 * p0).toInt + p2.toInt := z_add (by (first | omega | (simp only [id_eq] at *; omega))) (by (first | omega | (simp only [id_eq] at *; omega)))
  have f3 : (12 * ((7 * p0) + p2)).toInt = 12 * ((7 * p0) + p2).toInt := z_muld (by decide +kernel) (by (first | omega | (simp only [id_eq] at *; omega))) (by (first | omega | (simp only [id_eq] at *; omega)))
  refine wp_vl (fun x9 ex9 => ?_)
  have f4 : x9.toInt = (12 * ((7 * p0) + p2)).toInt := congrArg Int32.toInt ex9
  clear ex9
  have lp11 : ∀ (n11 : Nat) (y11_4 : Int32), (84 * p0.toInt + 12 * p2.toInt + 12 - y11_4.toInt).toNat < n11 → (84 * p0.toInt + 12 * p2.toInt ≤ y11_4.toInt ∧ y11_4.toInt ≤ 84 * p0.toInt + 12 * p2.toInt + 12) → wp (L_rhymeAt_11 F p0 p1 p2 n11 y11_4) (Q_rhymeAt g F p0 p1 p2) := by
    intro n11
    induction n11 with
    | zero => intro y11_4 hm; exact absurd hm (Nat.not_lt_zero _)
    | succ n11 ih11 =>
      intro y11_4 hm11 f5
      show wp (B_rhymeAt_11 F p0 p1 p2 (L_rhymeAt_11 F p0 p1 p2 n11) y11_4) _
      unfold B_rhymeAt_11
      refine wp_if ⟨by (first | omega | (simp only [id_eq] at *; omega)), by (first | omega | (simp only [id_eq] at *; omega))⟩ ?_
      have f11 := hzF54 (Int32.toNatClampNeg ((7 * p0) + p2))
      have f12 : ((12 * ((7 * p0) + p2)) + ((F 54) (Int32.toNatClampNeg ((7 * p0) + p2)))).toInt = (12 * ((7 * p0) + p2)).toInt + ((F 54) (Int32.toNatClampNeg ((7 * p0) + p2))).toInt := z_add (by (first | omega | (simp only [id_eq] at *; omega))) (by (first | omega | (simp only [id_eq] at *; omega)))
      refine wp_ite (fun c34 => ?_) (fun c34 => ?_)
      · have c34 := (z_le _ _).mp c34
        exact ⟨_, rfl, (show (0 ≤ (0 : Int32).toInt ∧ (0 : Int32).toInt ≤ 1) from by (first | omega | (simp only [id_eq] at *; omega)))⟩
      · have c34 := z_nle c34
        have f13 : (7 * p1).toInt = 7 * p1.toInt := z_muld (by decide +kernel) (by (first | omega | (simp only [id_eq] at *; omega))) (by (first | omega | (simp only [id_eq] at *; omega)))
        have f14 : ((7 * p1) + p2).toInt = (7 * p1).toInt + p2.toInt := z_add (by (first | omega | (simp only [id_eq] at *; omega))) (by (first | omega | (simp only [id_eq] at *; omega)))
        have f15 : (12 * ((7 * p1) + p2)).toInt = 12 * ((7 * p1) + p2).toInt := z_muld (by decide +kernel) (by (first | omega | (simp only [id_eq] at *; omega))) (by (first | omega | (simp only [id_eq] at *; omega)))
        refine wp_vl (fun x46 ex46 => ?_)
        have f16 : x46.toInt = (12 * ((7 * p1) + p2)).toInt := congrArg Int32.toInt ex46
        clear ex46
        refine wp_jn (fun k120 => wp (k120 ()) (Q_rhymeAt g F p0 p1 p2)) ?_ ?_
        · show wp _ _
          show wp _ _
          have f17 : (y11_4 + 1).toInt = y11_4.toInt + (1) := z_addc (by decide +kernel) (by (first | omega | (simp only [id_eq] at *; omega))) (by (first | omega | (simp only [id_eq] at *; omega)))
          exact ih11 (y11_4 + 1) (show (84 * p0.toInt + 12 * p2.toInt + 12 - (y11_4 + 1).toInt).toNat < n11 from by (first | omega | (simp only [id_eq] at *; omega))) (show (84 * p0.toInt + 12 * p2.toInt ≤ (y11_4 + 1).toInt ∧ (y11_4 + 1).toInt ≤ 84 * p0.toInt + 12 * p2.toInt + 12) from by (first | omega | (simp only [id_eq] at *; omega)))
        intro k120 Jk120
        have lp48 : ∀ (n48 : Nat) (y48_5 : Int32), (84 * p1.toInt + 12 * p2.toInt + 12 - y48_5.toInt).toNat < n48 → (84 * p1.toInt + 12 * p2.toInt ≤ y48_5.toInt ∧ y48_5.toInt ≤ 84 * p1.toInt + 12 * p2.toInt + 12) → wp (L_rhymeAt_48 F p1 p2 y11_4 k120 n48 y48_5) (Q_rhymeAt g F p0 p1 p2) := by
          intro n48
          induction n48 with
          | zero => intro y48_5 hm; exact absurd hm (Nat.not_lt_zero _)
          | succ n48 ih48 =>
            intro y48_5 hm48 f18
            show wp (B_rhymeAt_48 F p1 p2 y11_4 k120 (L_rhymeAt_48 F p1 p2 y11_4 k120 n48) y48_5) _
            unfold B_rhymeAt_48
            refine wp_if ⟨by (first | omega | (simp only [id_eq] at *; omega)), by (first | omega | (simp only [id_eq] at *; omega))⟩ ?_
            have f24 := hzF54 (Int32.toNatClampNeg ((7 * p1) + p2))
            have f25 : ((12 * ((7 * p1) + p2)) + ((F 54) (Int32.toNatClampNeg ((7 * p1) + p2)))).toInt = (12 * ((7 * p1) + p2)).toInt + ((F 54) (Int32.toNatClampNeg ((7 * p1) + p2))).toInt := z_add (by (first | omega | (simp only [id_eq] at *; omega))) (by (first | omega | (simp only [id_eq] at *; omega)))
            refine wp_ite (fun c71 => ?_) (fun c71 => ?_)
            · have c71 := (z_le _ _).mp c71
              exact Jk120
            · have c71 := z_nle c71
              have f26 : (24 * y11_4).toInt = 24 * y11_4.toInt := z_muld (by decide +kernel) (by (first | omega | (simp only [id_eq] at *; omega))) (by (first | omega | (simp only [id_eq] at *; omega)))
              refine wp_if ⟨by (first | omega | (simp only [id_eq] at *; omega)), by (first | omega | (simp only [id_eq] at *; omega))⟩ ?_
              have f27 := hzF53 (Int32.toNatClampNeg y11_4)
              have f28 : (24 * y48_5).toInt = 24 * y48_5.toInt := z_muld (by decide +kernel) (by (first | omega | (simp only [id_eq] at *; omega))) (by (first | omega | (simp only [id_eq] at *; omega)))
              refine wp_if ⟨by (first | omega | (simp only [id_eq] at *; omega)), by (first | omega | (simp only [id_eq] at *; omega))⟩ ?_
              have f29 := hzF53 (Int32.toNatClampNeg y48_5)
              obtain ⟨r106, hc106, hq106⟩ := ok_rhyme (F 52) 201600 (24 * y11_4) ((F 53) (Int32.toNatClampNeg y11_4)) (F 52) 201600 (24 * y48_5) ((F 53) (Int32.toNatClampNeg y48_5)) (show (0 ≤ (24 * y11_4).toInt ∧ (24 * y11_4).toInt + ((F 53) (Int32.toNatClampNeg y11_4)).toInt ≤ 201600) from by (first | omega | (simp only [id_eq] at *; omega))) (show 201600 ≤ 500000 from by (first | omega | (simp only [id_eq] at *; omega))) (show (0 ≤ (24 * y48_5).toInt ∧ (24 * y48_5).toInt + ((F 53) (Int32.toNatClampNeg y48_5)).toInt ≤ 201600) from by (first | omega | (simp only [id_eq] at *; omega))) (show 201600 ≤ 500000 from by (first | omega | (simp only [id_eq] at *; omega))) (show ((F 53) (Int32.toNatClampNeg y11_4)).toInt ≤ 24 from by (first | omega | (simp only [id_eq] at *; omega))) (show ((F 53) (Int32.toNatClampNeg y48_5)).toInt ≤ 24 from by (first | omega | (simp only [id_eq] at *; omega)))
              have f30 : (0 ≤ r106.toInt ∧ r106.toInt ≤ 1) := hq106
              refine wp_b1 hc106 ?_
              clear hc106
              refine wp_ite (fun c109 => ?_) (fun c109 => ?_)
              · have c109 := congrArg Int32.toInt c109
                have f31 : (y48_5 + 1).toInt = y48_5.toInt + (1) := z_addc (by decide +kernel) (by (first | omega | (simp only [id_eq] at *; omega))) (by (first | omega | (simp only [id_eq] at *; omega)))
                exact ih48 (y48_5 + 1) (show (84 * p1.toInt + 12 * p2.toInt + 12 - (y48_5 + 1).toInt).toNat < n48 from by (first | omega | (simp only [id_eq] at *; omega))) (show (84 * p1.toInt + 12 * p2.toInt ≤ (y48_5 + 1).toInt ∧ (y48_5 + 1).toInt ≤ 84 * p1.toInt + 12 * p2.toInt + 12) from by (first | omega | (simp only [id_eq] at *; omega)))
              · have c109 := z_ne c109
                exact ⟨_, rfl, (show (0 ≤ (1 : Int32).toInt ∧ (1 : Int32).toInt ≤ 1) from by (first | omega | (simp only [id_eq] at *; omega)))⟩
        exact lp48 NN x46 (by have := NN_eq; (first | omega | (simp only [id_eq] at *; omega))) (show (84 * p1.toInt + 12 * p2.toInt ≤ x46.toInt ∧ x46.toInt ≤ 84 * p1.toInt + 12 * p2.toInt + 12) from by (first | omega | (simp only [id_eq] at *; omega)))
  exact lp11 NN x9 (by have := NN_eq; (first | omega | (simp only [id_eq] at *; omega))) (show (84 * p0.toInt + 12 * p2.toInt ≤ x9.toInt ∧ x9.toInt ≤ 84 * p0.toInt + 12 * p2.toInt + 12) from by (first | omega | (simp only [id_eq] at *; omega)))
abbrev Q_listedAs (g : Nat → Int32) (F : Nat → Nat → Int32) (p0 : Int32) : (Int32) → Prop := (fun t => ((t.toInt = -1 ∨ (40 * p0.toInt ≤ t.toInt ∧ t.toInt < 40 * p0.toInt + 40))))
set_option maxHeartbeats 4000000 in
set_option maxRecDepth 100000 in
theorem ok_listedAs (g : Nat → Int32) (F : Nat → Nat → Int32) (p0 : Int32) (hI : MInv g F) (hp0 : (0 ≤ p0.toInt ∧ p0.toInt ≤ 6)) : wp (f_listedAs g F p0) (Q_listedAs g F p0) := by
  unfold f_listedAs
  refine MInv_e hI (fun (hzg1 : id _) (hzg2 : id _) (hzg3 : id _) (hzg4 : id _) (hzg5 : id _) (hzg6 : id _) (hzg7 : id _) (hzg8 : id _) (hzg9 : id _) hzg23 (hzg27 : id _) (hzg30 : id _) (hzg34 : id _) (hzg36 : id _) (hzg39 : id _) (hzg44 : id _) (hzg47 : id _) (hzg48 : id _) (hzg51 : id _) (hzg56 : id _) (hzg59 : id _) (hzg62 : id _) (hzg65 : id _) (hzg66 : id _) (hzg70 : id _) hzF11 hzF12 hzF13 hzF15 hzF19 hzF21 hzF24 hzF25 hzF26 hzF33 hzF38 hzF41 hzF43 hzF45 hzF46 hzF50 hzF53 hzF54 hzLQ => ?_)
  clear hI
  have zkm1 : (-1 : Int32).toInt = -1 := by decide +kernel
  have zk0 : (0 : Int32).toInt = 0 := by decide +kernel
  have zk2 : (2 : Int32).toInt = 2 := by decide +kernel
  have zk32 : (32 : Int32).toInt = 32 := by decide +kernel
  have zk40 : (40 : Int32).toInt = 40 := by decide +kernel
  have f1 : (40 * p0).toInt = 40 * p0.toInt := z_muld (by decide +kernel) (by (first | omega | (simp only [id_eq] at *; omega))) (by (first | omega | (simp only [id_eq] at *; omega)))
  refine wp_vl (fun x4 ex4 => ?_)
  have f2 : x4.toInt = (40 * p0).toInt := congrArg Int32.toInt ex4
  clear ex4
  have lp5 : ∀ (n5 : Nat) (y5_2 : Int32), (40 * p0.toInt + 40 - y5_2.toInt).toNat < n5 → (40 * p0.toInt ≤ y5_2.toInt ∧ y5_2.toInt ≤ 40 * p0.toInt + 40) → wp (L_listedAs_5 g F p0 n5 y5_2) (Q_listedAs g F p0) := by
    intro n5
    induction n5 with
    | zero => intro y5_2 hm; exact absurd hm (Nat.not_lt_zero _)
    | succ n5 ih5 =>
      intro y5_2 hm5 f3
      show wp (B_listedAs_5 g F p0 (L_listedAs_5 g F p0 n5) y5_2) _
      unfold B_listedAs_5
      refine wp_if ⟨by (first | omega | (simp only [id_eq] at *; omega)), by (first | omega | (simp only [id_eq] at *; omega))⟩ ?_
      have f5 := hzF13 (Int32.toNatClampNeg p0)
      have f6 : ((40 * p0) + ((F 13) (Int32.toNatClampNeg p0))).toInt = (40 * p0).toInt + ((F 13) (Int32.toNatClampNeg p0)).toInt := z_add (by (first | omega | (simp only [id_eq] at *; omega))) (by (first | omega | (simp only [id_eq] at *; omega)))
      refine wp_ite (fun c17 => ?_) (fun c17 => ?_)
      · have c17 := (z_le _ _).mp c17
        exact ⟨_, rfl, (show ((-1 : Int32).toInt = -1 ∨ (40 * p0.toInt ≤ (-1 : Int32).toInt ∧ (-1 : Int32).toInt < 40 * p0.toInt + 40)) from by (first | omega | (simp only [id_eq] at *; omega)))⟩
      · have c17 := z_nle c17
        have f7 : (32 * y5_2).toInt = 32 * y5_2.toInt := z_muld (by decide +kernel) (by (first | omega | (simp only [id_eq] at *; omega))) (by (first | omega | (simp only [id_eq] at *; omega)))
        have f8 : (2 * y5_2).toInt = 2 * y5_2.toInt := z_muld (by decide +kernel) (by (first | omega | (simp only [id_eq] at *; omega))) (by (first | omega | (simp only [id_eq] at *; omega)))
        refine wp_if ⟨by (first | omega | (simp only [id_eq] at *; omega)), by (first | omega | (simp only [id_eq] at *; omega))⟩ ?_
        have f9 := hzF21 (Int32.toNatClampNeg (2 * y5_2))
        obtain ⟨r45, hc45, hq45⟩ := ok_sameBytes (F 20) 8960 (32 * y5_2) ((F 21) (Int32.toNatClampNeg (2 * y5_2))) (F 22) 24 0 (g 23) (show (0 ≤ (32 * y5_2).toInt ∧ (32 * y5_2).toInt + ((F 21) (Int32.toNatClampNeg (2 * y5_2))).toInt ≤ 8960) from by (first | omega | (simp only [id_eq] at *; omega))) (show 8960 ≤ 500000 from by (first | omega | (simp only [id_eq] at *; omega))) (show (0 ≤ (0 : Int32).toInt ∧ (0 : Int32).toInt + (g 23).toInt ≤ 24) from by (first | omega | (simp only [id_eq] at *; omega))) (show 24 ≤ 500000 from by (first | omega | (simp only [id_eq] at *; omega)))
        have f10 : (0 ≤ r45.toInt ∧ r45.toInt ≤ 1) := hq45
        refine wp_b1 hc45 ?_
        clear hc45
        refine wp_ite (fun c48 => ?_) (fun c48 => ?_)
        · have c48 := congrArg Int32.toInt c48
          have f11 : (y5_2 + 1).toInt = y5_2.toInt + (1) := z_addc (by decide +kernel) (by (first | omega | (simp only [id_eq] at *; omega))) (by (first | omega | (simp only [id_eq] at *; omega)))
          exact ih5 (y5_2 + 1) (show (40 * p0.toInt + 40 - (y5_2 + 1).toInt).toNat < n5 from by (first | omega | (simp only [id_eq] at *; omega))) (show (40 * p0.toInt ≤ (y5_2 + 1).toInt ∧ (y5_2 + 1).toInt ≤ 40 * p0.toInt + 40) from by (first | omega | (simp only [id_eq] at *; omega)))
        · have c48 := z_ne c48
          exact ⟨_, rfl, (show (y5_2.toInt = -1 ∨ (40 * p0.toInt ≤ y5_2.toInt ∧ y5_2.toInt < 40 * p0.toInt + 40)) from by (first | omega | (simp only [id_eq] at *; omega)))⟩
  exact lp5 NN x4 (by have := NN_eq; (first | omega | (simp only [id_eq] at *; omega))) (show (40 * p0.toInt ≤ x4.toInt ∧ x4.toInt ≤ 40 * p0.toInt + 40) from by (first | omega | (simp only [id_eq] at *; omega)))
abbrev Q_learn (g : Nat → Int32) (F : Nat → Nat → Int32) : (Int32 × Int32 × Int32 × Int32 × Int32 × (Nat → Int32) × (Nat → Int32) × (Nat → Int32)) → Prop := (fun t => (((0) ≤ (t.2.1).toInt ∧ (t.2.1).toInt ≤ 2000)) ∧ (((0) ≤ (t.2.2.1).toInt ∧ (t.2.2.1).toInt ≤ 24)) ∧ (((0) ≤ (t.2.2.2.1).toInt ∧ (t.2.2.2.1).toInt ≤ 100)) ∧ (((0) ≤ (t.2.2.2.2.1).toInt ∧ (t.2.2.2.2.1).toInt ≤ 1)) ∧ (rng (0) 24 (t.2.2.2.2.2.2.2)) ∧ ((t.2.1).toInt = 0))
set_option maxHeartbeats 4000000 in
set_option maxRecDepth 100000 in
theorem ok_learn (g : Nat → Int32) (F : Nat → Nat → Int32) (hI : MInv g F) : wp (f_learn g F) (Q_learn g F) := by
  unfold f_learn
  refine MInv_e hI (fun (hzg1 : id _) (hzg2 : id _) (hzg3 : id _) (hzg4 : id _) (hzg5 : id _) (hzg6 : id _) (hzg7 : id _) (hzg8 : id _) (hzg9 : id _) (hzg23 : id _) (hzg27 : id _) (hzg30 : id _) (hzg34 : id _) (hzg36 : id _) (hzg39 : id _) (hzg44 : id _) (hzg47 : id _) hzg48 hzg51 (hzg56 : id _) (hzg59 : id _) (hzg62 : id _) (hzg65 : id _) (hzg66 : id _) (hzg70 : id _) hzF11 hzF12 hzF13 hzF15 hzF19 hzF21 hzF24 hzF25 hzF26 hzF33 hzF38 hzF41 hzF43 hzF45 hzF46 hzF50 hzF53 hzF54 hzLQ => ?_)
  clear hI
  have zkm3 : (-3 : Int32).toInt = -3 := by decide +kernel
  have zkm2 : (-2 : Int32).toInt = -2 := by decide +kernel
  have zk0 : (0 : Int32).toInt = 0 := by decide +kernel
  have zk1 : (1 : Int32).toInt = 1 := by decide +kernel
  have zk24 : (24 : Int32).toInt = 24 := by decide +kernel
  have zk100 : (100 : Int32).toInt = 100 := by decide +kernel
  obtain ⟨⟨r1, c1_g1, c1_g23, c1_F22⟩, hc1, hq1⟩ := ok_readWord g F (MInv_i hzg1 hzg2 hzg3 hzg4 hzg5 hzg6 hzg7 hzg8 hzg9 hzg23 hzg27 hzg30 hzg34 hzg36 hzg39 hzg44 hzg47 hzg48 hzg51 hzg56 hzg59 hzg62 hzg65 hzg66 hzg70 hzF11 hzF12 hzF13 hzF15 hzF19 hzF21 hzF24 hzF25 hzF26 hzF33 hzF38 hzF41 hzF43 hzF45 hzF46 hzF50 hzF53 hzF54 hzLQ)
  obtain ⟨hg1, hg2, f3, f4, f5⟩ : (((0) ≤ c1_g1.toInt ∧ c1_g1.toInt ≤ 2000)) ∧ (((0) ≤ c1_g23.toInt ∧ c1_g23.toInt ≤ 24)) ∧ (c1_g1.toInt = 0) ∧ (id (r1.toInt = 1 → 1 ≤ c1_g23.toInt)) ∧ ((0 ≤ r1.toInt ∧ r1.toInt ≤ 1)) := hq1
  refine wp_b4 hc1 ?_
  clear hc1
  refine wp_ite (fun c4 => ?_) (fun c4 => ?_)
  · have c4 := congrArg Int32.toInt c4
    exact ⟨_, rfl, ⟨hg1, hg2, hzg48, hzg51, hzF50, (show c1_g1.toInt = 0 from by (first | omega | (simp only [id_eq] at *; omega)))⟩⟩
  · have c4 := z_ne c4
    refine wp_jn (fun k57 => wp (k57 ()) (Q_learn g F)) ?_ ?_
    · show wp _ _
      show wp _ _
      refine wp_ite (fun c63 => ?_) (fun c63 => ?_)
      · have c63 := congrArg Int32.toInt c63
        exact ⟨_, rfl, ⟨hg1, hg2, hzg48, hzg51, hzF50, (show c1_g1.toInt = 0 from by (first | omega | (simp only [id_eq] at *; omega)))⟩⟩
      · have c63 := z_ne c63
        refine wp_jn (fun k105 => ∀ (c105_F49 : (Nat → Int32)), wp (k105 c105_F49) (Q_learn g F)) ?_ ?_
        · intro c105_F49
          show wp _ _
          refine wp_if ⟨by (first | omega | (simp only [id_eq] at *; omega)), by (first | omega | (simp only [id_eq] at *; omega))⟩ ?_
          refine wp_vl (fun w117 ew117 => ?_)
          have hF6 : rng (0) 24 w117 := by rw [ew117]; exact rng_upd hzF50 (by (first | omega | (simp only [id_eq] at *; omega))) (by (first | omega | (simp only [id_eq] at *; omega)))
          clear ew117
          have f7 : ((g 48) + 1).toInt = (g 48).toInt + 1 := z_addc (by decide +kernel) (by (first | omega | (simp only [id_eq] at *; omega))) (by (first | omega | (simp only [id_eq] at *; omega)))
          refine wp_vl (fun x125 ex125 => ?_)
          have f8 : x125.toInt = ((g 48) + 1).toInt := congrArg Int32.toInt ex125
          clear ex125
          have hg9 : ((0) ≤ x125.toInt ∧ x125.toInt ≤ 100) := ⟨by (first | omega | (simp only [id_eq] at *; omega)), by (first | omega | (simp only [id_eq] at *; omega))⟩
          have hg10 : ((0) ≤ (0 : Int32).toInt ∧ (0 : Int32).toInt ≤ 1) := ⟨by (first | omega | (simp only [id_eq] at *; omega)), by (first | omega | (simp only [id_eq] at *; omega))⟩
          have f11 : (x125 - 1).toInt = x125.toInt - 1 := z_subc (by decide +kernel) (by (first | omega | (simp only [id_eq] at *; omega))) (by (first | omega | (simp only [id_eq] at *; omega)))
          exact ⟨_, rfl, ⟨hg1, hg2, hg9, hg10, hF6, (show c1_g1.toInt = 0 from by (first | omega | (simp only [id_eq] at *; omega)))⟩⟩
        intro k105 Jk105
        have lp71 : ∀ (n71 : Nat) (y71_1 : Int32) (d71_F49 : (Nat → Int32)), (24 - y71_1.toInt).toNat < n71 → 0 ≤ y71_1.toInt → wp (L_learn_71 g c1_g23 c1_F22 k105 n71 y71_1 d71_F49) (Q_learn g F) := by
          intro n71
          induction n71 with
          | zero => intro y71_1 d71_F49 hm; exact absurd hm (Nat.not_lt_zero _)
          | succ n71 ih71 =>
            intro y71_1 d71_F49 hm71 f12
            show wp (B_learn_71 g c1_g23 c1_F22 k105 (L_learn_71 g c1_g23 c1_F22 k105 n71) y71_1 d71_F49) _
            unfold B_learn_71
            refine wp_ite (fun c76 => ?_) (fun c76 => ?_)
            · have c76 := (z_le _ _).mp c76
              exact Jk105 d71_F49
            · have c76 := z_nle c76
              have f13 : (24 * (g 48)).toInt = 24 * (g 48).toInt := z_muld (by decide +kernel) (by (first | omega | (simp only [id_eq] at *; omega))) (by (first | omega | (simp only [id_eq] at *; omega)))
              have f14 : ((24 * (g 48)) + y71_1).toInt = (24 * (g 48)).toInt + y71_1.toInt := z_add (by (first | omega | (simp only [id_eq] at *; omega))) (by (first | omega | (simp only [id_eq] at *; omega)))
              refine wp_if ⟨by (first | omega | (simp only [id_eq] at *; omega)), by (first | omega | (simp only [id_eq] at *; omega))⟩ ?_
              refine wp_if ⟨by (first | omega | (simp only [id_eq] at *; omega)), by (first | omega | (simp only [id_eq] at *; omega))⟩ ?_
              refine wp_vl (fun w98 ew98 => ?_)
              clear ew98
              have f15 : (y71_1 + 1).toInt = y71_1.toInt + (1) := z_addc (by decide +kernel) (by (first | omega | (simp only [id_eq] at *; omega))) (by (first | omega | (simp only [id_eq] at *; omega)))
              exact ih71 (y71_1 + 1) w98 (show (24 - (y71_1 + 1).toInt).toNat < n71 from by (first | omega | (simp only [id_eq] at *; omega))) (show 0 ≤ (y71_1 + 1).toInt from by (first | omega | (simp only [id_eq] at *; omega)))
        exact lp71 NN (0 : Int32) (F 49) (by have := NN_eq; (first | omega | (simp only [id_eq] at *; omega))) (show 0 ≤ (0 : Int32).toInt from by (first | omega | (simp only [id_eq] at *; omega)))
    intro k57 Jk57
    have lp12 : ∀ (n12 : Nat) (y12_1 : Int32), (100 - y12_1.toInt).toNat < n12 → (0 ≤ y12_1.toInt ∧ y12_1.toInt ≤ 100) → wp (L_learn_12 g F c1_g1 c1_g23 c1_F22 k57 n12 y12_1) (Q_learn g F) := by
      intro n12
      induction n12 with
      | zero => intro y12_1 hm; exact absurd hm (Nat.not_lt_zero _)
      | succ n12 ih12 =>
        intro y12_1 hm12 f16
        show wp (B_learn_12 g F c1_g1 c1_g23 c1_F22 k57 (L_learn_12 g F c1_g1 c1_g23 c1_F22 k57 n12) y12_1) _
        unfold B_learn_12
        refine wp_ite (fun c17 => ?_) (fun c17 => ?_)
        · have c17 := (z_le _ _).mp c17
          exact Jk57
        · have c17 := z_nle c17
          have f17 : (24 * y12_1).toInt = 24 * y12_1.toInt := z_muld (by decide +kernel) (by (first | omega | (simp only [id_eq] at *; omega))) (by (first | omega | (simp only [id_eq] at *; omega)))
          refine wp_if ⟨by (first | omega | (simp only [id_eq] at *; omega)), by (first | omega | (simp only [id_eq] at *; omega))⟩ ?_
          have f18 := hzF50 (Int32.toNatClampNeg y12_1)
          obtain ⟨r43, hc43, hq43⟩ := ok_sameBytes (F 49) 2400 (24 * y12_1) ((F 50) (Int32.toNatClampNeg y12_1)) c1_F22 24 0 c1_g23 (show (0 ≤ (24 * y12_1).toInt ∧ (24 * y12_1).toInt + ((F 50) (Int32.toNatClampNeg y12_1)).toInt ≤ 2400) from by (first | omega | (simp only [id_eq] at *; omega))) (show 2400 ≤ 500000 from by (first | omega | (simp only [id_eq] at *; omega))) (show (0 ≤ (0 : Int32).toInt ∧ (0 : Int32).toInt + c1_g23.toInt ≤ 24) from by (first | omega | (simp only [id_eq] at *; omega))) (show 24 ≤ 500000 from by (first | omega | (simp only [id_eq] at *; omega)))
          have f19 : (0 ≤ r43.toInt ∧ r43.toInt ≤ 1) := hq43
          refine wp_b1 hc43 ?_
          clear hc43
          refine wp_ite (fun c46 => ?_) (fun c46 => ?_)
          · have c46 := congrArg Int32.toInt c46
            have f20 : (y12_1 + 1).toInt = y12_1.toInt + (1) := z_addc (by decide +kernel) (by (first | omega | (simp only [id_eq] at *; omega))) (by (first | omega | (simp only [id_eq] at *; omega)))
            exact ih12 (y12_1 + 1) (show (100 - (y12_1 + 1).toInt).toNat < n12 from by (first | omega | (simp only [id_eq] at *; omega))) (show (0 ≤ (y12_1 + 1).toInt ∧ (y12_1 + 1).toInt ≤ 100) from by (first | omega | (simp only [id_eq] at *; omega)))
          · have c46 := z_ne c46
            exact ⟨_, rfl, ⟨hg1, hg2, hzg48, hzg51, hzF50, (show c1_g1.toInt = 0 from by (first | omega | (simp only [id_eq] at *; omega)))⟩⟩
    exact lp12 NN (0 : Int32) (by have := NN_eq; (first | omega | (simp only [id_eq] at *; omega))) (show (0 ≤ (0 : Int32).toInt ∧ (0 : Int32).toInt ≤ 100) from by (first | omega | (simp only [id_eq] at *; omega)))
abbrev Q_write1 (g : Nat → Int32) (F : Nat → Nat → Int32) (A0 : (Nat → Int32)) (n0 : Nat) (p1 : Int32) (p2 : Int32) : (Int32 × Int32 × (Nat → Int32)) → Prop := (fun t => (((0) ≤ (t.2.1).toInt ∧ (t.2.1).toInt ≤ 2500)) ∧ ((0 ≤ (t.1).toInt ∧ (t.1).toInt ≤ 1)))
set_option maxHeartbeats 4000000 in
set_option maxRecDepth 100000 in
theorem ok_write1 (g : Nat → Int32) (F : Nat → Nat → Int32) (A0 : (Nat → Int32)) (n0 : Nat) (p1 : Int32) (p2 : Int32) (hI : MInv g F) (hp0 : (0 ≤ p1.toInt ∧ 0 ≤ p2.toInt ∧ p1.toInt + p2.toInt ≤ n0)) (hp1 : n0 ≤ 2500) : wp (f_write1 g F A0 n0 p1 p2) (Q_write1 g F A0 n0 p1 p2) := by
  unfold f_write1
  refine MInv_e hI (fun (hzg1 : id _) (hzg2 : id _) (hzg3 : id _) (hzg4 : id _) (hzg5 : id _) (hzg6 : id _) (hzg7 : id _) (hzg8 : id _) (hzg9 : id _) (hzg23 : id _) (hzg27 : id _) (hzg30 : id _) (hzg34 : id _) (hzg36 : id _) (hzg39 : id _) (hzg44 : id _) (hzg47 : id _) (hzg48 : id _) (hzg51 : id _) (hzg56 : id _) (hzg59 : id _) (hzg62 : id _) (hzg65 : id _) hzg66 (hzg70 : id _) hzF11 hzF12 hzF13 hzF15 hzF19 hzF21 hzF24 hzF25 hzF26 hzF33 hzF38 hzF41 hzF43 hzF45 hzF46 hzF50 hzF53 hzF54 hzLQ => ?_)
  clear hI
  have zk0 : (0 : Int32).toInt = 0 := by decide +kernel
  have zk1 : (1 : Int32).toInt = 1 := by decide +kernel
  have zk2500 : (2500 : Int32).toInt = 2500 := by decide +kernel
  have f1 : ((g 66) + p2).toInt = (g 66).toInt + p2.toInt := z_add (by (first | omega | (simp only [id_eq] at *; omega))) (by (first | omega | (simp only [id_eq] at *; omega)))
  refine wp_ite (fun c9 => ?_) (fun c9 => ?_)
  · have c9 := (z_le _ _).mp c9
    have lp17 : ∀ (n17 : Nat) (y17_4 : Int32) (d17_F61 : (Nat → Int32)), (p2.toInt - y17_4.toInt).toNat < n17 → 0 ≤ y17_4.toInt → wp (L_write1_17 g A0 n0 p1 p2 n17 y17_4 d17_F61) (Q_write1 g F A0 n0 p1 p2) := by
      intro n17
      induction n17 with
      | zero => intro y17_4 d17_F61 hm; exact absurd hm (Nat.not_lt_zero _)
      | succ n17 ih17 =>
        intro y17_4 d17_F61 hm17 f2
        show wp (B_write1_17 g A0 n0 p1 p2 (L_write1_17 g A0 n0 p1 p2 n17) y17_4 d17_F61) _
        unfold B_write1_17
        refine wp_ite (fun c20 => ?_) (fun c20 => ?_)
        · have c20 := (z_le _ _).mp c20
          refine wp_vl (fun x54 ex54 => ?_)
          have f4 : x54.toInt = ((g 66) + p2).toInt := congrArg Int32.toInt ex54
          clear ex54
          have hg5 : ((0) ≤ x54.toInt ∧ x54.toInt ≤ 2500) := ⟨by (first | omega | (simp only [id_eq] at *; omega)), by (first | omega | (simp only [id_eq] at *; omega))⟩
          exact ⟨_, rfl, ⟨hg5, (show (0 ≤ (1 : Int32).toInt ∧ (1 : Int32).toInt ≤ 1) from by (first | omega | (simp only [id_eq] at *; omega)))⟩⟩
        · have c20 := z_nle c20
          have f6 : ((g 66) + y17_4).toInt = (g 66).toInt + y17_4.toInt := z_add (by (first | omega | (simp only [id_eq] at *; omega))) (by (first | omega | (simp only [id_eq] at *; omega)))
          have f7 : (p1 + y17_4).toInt = p1.toInt + y17_4.toInt := z_add (by (first | omega | (simp only [id_eq] at *; omega))) (by (first | omega | (simp only [id_eq] at *; omega)))
          refine wp_if ⟨by (first | omega | (simp only [id_eq] at *; omega)), by (first | omega | (simp only [id_eq] at *; omega))⟩ ?_
          refine wp_if ⟨by (first | omega | (simp only [id_eq] at *; omega)), by (first | omega | (simp only [id_eq] at *; omega))⟩ ?_
          refine wp_vl (fun w40 ew40 => ?_)
          clear ew40
          have f8 : (y17_4 + 1).toInt = y17_4.toInt + (1) := z_addc (by decide +kernel) (by (first | omega | (simp only [id_eq] at *; omega))) (by (first | omega | (simp only [id_eq] at *; omega)))
          exact ih17 (y17_4 + 1) w40 (show (p2.toInt - (y17_4 + 1).toInt).toNat < n17 from by (first | omega | (simp only [id_eq] at *; omega))) (show 0 ≤ (y17_4 + 1).toInt from by (first | omega | (simp only [id_eq] at *; omega)))
    exact lp17 NN (0 : Int32) (F 61) (by have := NN_eq; (first | omega | (simp only [id_eq] at *; omega))) (show 0 ≤ (0 : Int32).toInt from by (first | omega | (simp only [id_eq] at *; omega)))
  · have c9 := z_nle c9
    exact ⟨_, rfl, ⟨hzg66, (show (0 ≤ (0 : Int32).toInt ∧ (0 : Int32).toInt ≤ 1) from by (first | omega | (simp only [id_eq] at *; omega)))⟩⟩
