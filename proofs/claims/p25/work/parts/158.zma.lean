/-! the relation: the stages of lines -/
def RMX (g : Nat → Int32) (F : Nat → Nat → Int32) (x : Nat) (G : Nat → Nat → Int32) (P : Nat → Nat → Option Nat) (V : Nat → Nat → Nat → Int32) : Prop := ∃ mi to, P 236 x = some mi ∧ P 42 mi = some to ∧ (G 43 mi).toInt = (g 70).toInt ∧ ∀ j : Nat, (j : Int) < (g 70).toInt → V 9 to j = F 69 j
theorem RMX_keep {g g1 : Nat → Int32} {F F1 : Nat → Nat → Int32} {la : Nat → Nat} {cnt x : Nat} {G G1 : Nat → Nat → Int32} {P P1 : Nat → Nat → Option Nat} {V V1 : Nat → Nat → Nat → Int32} (h : RMX g F x G P V) (hB : LB la cnt P) (p1 : P1 236 x = P 236 x) (hc : ∀ z, z < cnt → la z = 330 → P1 42 z = P 42 z ∧ G1 43 z = G 43 z ∧ V1 9 z = V 9 z) (e1 : g1 70 = g 70) (e2 : F1 69 = F 69) : RMX g1 F1 x G1 P1 V1 := by
  obtain ⟨mi, to, h0, h1, h2, h3⟩ := h
  have c0 := (hB.1 236 fl_236 x mi h0).2.1
  have l0 : la mi = 330 := lk_236.mp (hB.1 236 fl_236 x mi h0).2.2
  have c1 := (hB.1 42 fl_42 mi to h1).2.1
  have l1 : la to = la mi + 0 := lk_42.mp (hB.1 42 fl_42 mi to h1).2.2
  obtain ⟨a1, a2, _⟩ := hc mi c0 l0
  have a3 := (hc to c1 (by omega)).2.2
  refine ⟨mi, to, p1.trans h0, a1.trans h1, ?_, ?_⟩
  · rw [a2, e1]
    exact h2
  · rw [a3, e1, e2]
    exact h3
theorem rmx_mixed {g g1 : Nat → Int32} {F F1 : Nat → Nat → Int32} {x mi to : Nat} {G G1 : Nat → Nat → Int32} {P P1 : Nat → Nat → Option Nat} {V V1 : Nat → Nat → Nat → Int32} {IN NZ : Prop} {L : Nat} {v r1 r2 : Int32} {t : Nat → Int32} (p1 : P1 236 x = some mi) (p2 : P1 42 mi = some to) (h2 : (G 43 mi).toInt = (g 70).toInt) (h3 : ∀ j : Nat, (j : Int) < (g 70).toInt → V 9 to j = F 69 j)
    (k0 : ¬ IN → r1.toInt = -2 ∧ G1 43 mi = G 43 mi ∧ V1 9 to = V 9 to) (k1 : IN → ¬ (NZ ∧ L ≤ 40) → r1.toInt = -1 ∧ G1 43 mi = G 43 mi ∧ V1 9 to = V 9 to) (k2 : IN → NZ → L ≤ 40 → r1 = v ∧ (G1 43 mi).toInt = ((L : Nat) : Int) ∧ ∀ j, j < L → V1 9 to j = t j)
    (n0 : ¬ IN → r2.toInt = -2 ∧ g1 70 = g 70 ∧ F1 69 = F 69) (n1 : IN → ¬ (NZ ∧ L ≤ 40) → r2.toInt = -1 ∧ g1 70 = g 70 ∧ F1 69 = F 69) (n2 : IN → NZ → L ≤ 40 → r2 = v ∧ (g1 70).toInt = ((L : Nat) : Int) ∧ ∀ j, j < L → F1 69 j = t j) : r1 = r2 ∧ RMX g1 F1 x G1 P1 V1 := by
  have same : (G1 43 mi = G 43 mi ∧ V1 9 to = V 9 to) → (g1 70 = g 70 ∧ F1 69 = F 69) → RMX g1 F1 x G1 P1 V1 := by
    rintro ⟨a1, a2⟩ ⟨b1, b2⟩
    refine ⟨mi, to, p1, p2, ?_, ?_⟩
    · rw [a1, b1]
      exact h2
    · rw [a2, b1, b2]
      exact h3
  by_cases q : IN
  · by_cases q2 : NZ ∧ L ≤ 40
    · obtain ⟨a0, a1, a2⟩ := k2 q q2.1 q2.2
      obtain ⟨b0, b1, b2⟩ := n2 q q2.1 q2.2
      refine ⟨a0.trans b0.symm, mi, to, p1, p2, a1.trans b1.symm, fun j hj => ?_⟩
      rw [b1] at hj
      rw [a2 j (by omega), b2 j (by omega)]
    · obtain ⟨a0, a1⟩ := k1 q q2
      obtain ⟨b0, b1⟩ := n1 q q2
      exact ⟨z_e (a0.trans b0.symm), same a1 b1⟩
  · obtain ⟨a0, a1⟩ := k0 q
    obtain ⟨b0, b1⟩ := n0 q
    exact ⟨z_e (a0.trans b0.symm), same a1 b1⟩
theorem rmx_line {f1 f2 : Nat → Int32} {c1 c2 p r1 r2 : Int32} (e : c1.toInt = c2.toInt) (hw : ∀ j : Nat, (j : Int) < c2.toInt → f1 j = f2 j) (k0 : (0 ≤ p.toInt ∧ p.toInt < c1.toInt) → r1 = f1 (Int32.toNatClampNeg p)) (k1 : ¬ (0 ≤ p.toInt ∧ p.toInt < c1.toInt) → r1.toInt = -1) (n0 : (0 ≤ p.toInt ∧ p.toInt < c2.toInt) → r2 = f2 (Int32.toNatClampNeg p)) (n1 : ¬ (0 ≤ p.toInt ∧ p.toInt < c2.toInt) → r2.toInt = -1) : r1 = r2 := by
  by_cases q : 0 ≤ p.toInt ∧ p.toInt < c2.toInt
  · have h1 := clampI q.1
    rw [k0 (by omega), n0 q, hw _ (by omega)]
  · exact z_e ((k1 (by omega)).trans (n1 q).symm)
