/-! the relation: texts -/
def RSC (g : Nat → Int32) (F : Nat → Nat → Int32) (x : Nat) (G : Nat → Nat → Int32) (P : Nat → Nat → Option Nat) (V : Nat → Nat → Nat → Int32) : Prop := ∃ sc tl pv tt tv, (P 235 x = some sc ∧ P 120 sc = some tl ∧ P 121 sc = some pv ∧ P 122 sc = some tt ∧ P 123 sc = some tv) ∧ (tl ≠ pv ∧ tt ≠ tv) ∧ G 125 sc = g 62 ∧ ((G 124 sc).toInt ≠ 0 ↔ (g 65).toInt ≠ 0) ∧ wdl (V 0 tl) 0 (Int32.toNatClampNeg (g 62)) = wdl (F 60) 0 (Int32.toNatClampNeg (g 62)) ∧ ((g 65).toInt ≠ 0 → ∀ j, j < 5 → V 6 tt j = F 63 j)
theorem RSC_keep {g g1 : Nat → Int32} {F F1 : Nat → Nat → Int32} {la : Nat → Nat} {cnt x : Nat} {G G1 : Nat → Nat → Int32} {P P1 : Nat → Nat → Option Nat} {V V1 : Nat → Nat → Nat → Int32} (h : RSC g F x G P V) (hB : LB la cnt P) (p1 : P1 235 x = P 235 x) (hc : ∀ z, z < cnt → la z = 320 → P1 120 z = P 120 z ∧ P1 121 z = P 121 z ∧ P1 122 z = P 122 z ∧ P1 123 z = P 123 z ∧ G1 124 z = G 124 z ∧ G1 125 z = G 125 z) (hv : ∀ z, z < cnt → 321 ≤ la z → la z ≤ 322 → V1 0 z = V 0 z ∧ V1 6 z = V 6 z) (e1 : g1 62 = g 62) (e2 : g1 65 = g 65) (e3 : F1 60 = F 60) (e4 : F1 63 = F 63) : RSC g1 F1 x G1 P1 V1 := by
  obtain ⟨sc, tl, pv, tt, tv, ⟨h0, h1, h2, h3, h4⟩, h5, h6, h7, h8, h9⟩ := h
  have c0 := (hB.1 235 fl_235 x sc h0).2.1
  have l0 : la sc = 320 := lk_235.mp (hB.1 235 fl_235 x sc h0).2.2
  have c1 := (hB.1 120 fl_120 sc tl h1).2.1
  have l1 : la tl = la sc + 1 ∨ la tl = la sc + 2 := lk_120.mp (hB.1 120 fl_120 sc tl h1).2.2
  have c3 := (hB.1 122 fl_122 sc tt h3).2.1
  have l3 : la tt = la sc + 1 ∨ la tt = la sc + 2 := lk_122.mp (hB.1 122 fl_122 sc tt h3).2.2
  obtain ⟨a1, a2, a3, a4, a5, a6⟩ := hc sc c0 l0
  have b1 := (hv tl c1 (by omega) (by omega)).1
  have b2 := (hv tt c3 (by omega) (by omega)).2
  refine ⟨sc, tl, pv, tt, tv, ⟨p1.trans h0, a1.trans h1, a2.trans h2, a3.trans h3, a4.trans h4⟩, h5, ?_, ?_, ?_, ?_⟩
  · rw [a6, e1]
    exact h6
  · rw [a5, e2]
    exact h7
  · rw [b1, e1, e3]
    exact h8
  · rw [b2, e2, e4]
    exact h9
theorem rsc_write {g g1 : Nat → Int32} {F F1 : Nat → Nat → Int32} {x sc tl pv tt tv : Nat} {G G1 : Nat → Nat → Int32} {P P1 : Nat → Nat → Option Nat} {V V1 : Nat → Nat → Nat → Int32} {IN NZ : Prop} {o : Wd × Ty} {r1 r2 : Int32} (p1 : P1 235 x = some sc) (hd : tl ≠ pv ∧ tt ≠ tv) (h6 : G 125 sc = g 62) (h7 : (G 124 sc).toInt ≠ 0 ↔ (g 65).toInt ≠ 0) (h8 : wdl (V 0 tl) 0 (Int32.toNatClampNeg (g 62)) = wdl (F 60) 0 (Int32.toNatClampNeg (g 62))) (h9 : (g 65).toInt ≠ 0 → ∀ j, j < 5 → V 6 tt j = F 63 j)
    (k0 : ¬ IN → r1.toInt = -2 ∧ P1 120 sc = some tl ∧ P1 121 sc = some pv ∧ P1 122 sc = some tt ∧ P1 123 sc = some tv ∧ G1 124 sc = G 124 sc ∧ G1 125 sc = G 125 sc ∧ V1 0 tl = V 0 tl ∧ V1 6 tt = V 6 tt)
    (k1 : IN → ¬ (NZ ∧ o.1.length ≤ 2500) → r1.toInt = -1 ∧ P1 120 sc = some tl ∧ P1 121 sc = some pv ∧ P1 122 sc = some tt ∧ P1 123 sc = some tv ∧ G1 124 sc = G 124 sc ∧ G1 125 sc = G 125 sc ∧ V1 0 tl = V 0 tl ∧ V1 6 tt = V 6 tt)
    (k2 : IN → NZ → o.1.length ≤ 2500 → r1.toInt = ((o.1.length : Nat) : Int) ∧ P1 120 sc = some pv ∧ P1 121 sc = some tl ∧ P1 122 sc = some tv ∧ P1 123 sc = some tt ∧ (G1 124 sc).toInt ≠ 0 ∧ G1 125 sc = r1 ∧ wdl (V1 0 pv) 0 (Int32.toNatClampNeg (G1 125 sc)) = o.1 ∧ TYA (V1 6 tv) o.2)
    (n0 : ¬ IN → r2.toInt = -2 ∧ g1 62 = g 62 ∧ F1 60 = F 60 ∧ F1 63 = F 63 ∧ g1 65 = g 65)
    (n1 : IN → ¬ (NZ ∧ o.1.length ≤ 2500) → r2.toInt = -1 ∧ g1 62 = g 62 ∧ F1 60 = F 60 ∧ F1 63 = F 63 ∧ g1 65 = g 65)
    (n2 : IN → NZ → o.1.length ≤ 2500 → r2.toInt = ((o.1.length : Nat) : Int) ∧ g1 62 = r2 ∧ wdl (F1 60) 0 (Int32.toNatClampNeg (g1 62)) = o.1 ∧ TYA (F1 63) o.2 ∧ (g1 65).toInt ≠ 0) : r1 = r2 ∧ RSC g1 F1 x G1 P1 V1 := by
  have same : (P1 120 sc = some tl ∧ P1 121 sc = some pv ∧ P1 122 sc = some tt ∧ P1 123 sc = some tv ∧ G1 124 sc = G 124 sc ∧ G1 125 sc = G 125 sc ∧ V1 0 tl = V 0 tl ∧ V1 6 tt = V 6 tt) → (g1 62 = g 62 ∧ F1 60 = F 60 ∧ F1 63 = F 63 ∧ g1 65 = g 65) → RSC g1 F1 x G1 P1 V1 := by
    rintro ⟨a1, a2, a3, a4, a5, a6, a7, a8⟩ ⟨b1, b2, b3, b4⟩
    refine ⟨sc, tl, pv, tt, tv, ⟨p1, a1, a2, a3, a4⟩, hd, ?_, ?_, ?_, ?_⟩
    · rw [a6, b1]
      exact h6
    · rw [a5, b4]
      exact h7
    · rw [a7, b1, b2]
      exact h8
    · rw [a8, b4, b3]
      exact h9
  by_cases q : IN
  · by_cases q2 : NZ ∧ o.1.length ≤ 2500
    · obtain ⟨a0, a1, a2, a3, a4, a5, a6, a7, a8⟩ := k2 q q2.1 q2.2
      obtain ⟨b0, b1, b2, b3, b4⟩ := n2 q q2.1 q2.2
      have e : r1 = r2 := z_e (a0.trans b0.symm)
      refine ⟨e, sc, pv, tl, tv, tt, ⟨p1, a1, a2, a3, a4⟩, ⟨fun z => hd.1 z.symm, fun z => hd.2 z.symm⟩, ?_, ?_, ?_, ?_⟩
      · rw [a6, b1, e]
      · exact ⟨fun _ => b4, fun _ => a5⟩
      · rw [b2]
        rw [a6, e, ← b1] at a7
        exact a7
      · exact fun _ => TYA_det a8 b3
    · obtain ⟨a0, a1⟩ := k1 q q2
      obtain ⟨b0, b1⟩ := n1 q q2
      exact ⟨z_e (a0.trans b0.symm), same a1 b1⟩
  · obtain ⟨a0, a1⟩ := k0 q
    obtain ⟨b0, b1⟩ := n0 q
    exact ⟨z_e (a0.trans b0.symm), same a1 b1⟩
theorem rsc_cnt {f1 f2 : Nat → Int32} {a1 a2 p r1 r2 : Int32} (e : a1.toInt ≠ 0 ↔ a2.toInt ≠ 0) (hw : a2.toInt ≠ 0 → ∀ j, j < 5 → f1 j = f2 j) (k0 : (a1.toInt ≠ 0 ∧ 0 ≤ p.toInt ∧ p.toInt < 5) → r1 = f1 (Int32.toNatClampNeg p)) (k1 : ¬ (a1.toInt ≠ 0 ∧ 0 ≤ p.toInt ∧ p.toInt < 5) → r1.toInt = -1) (n0 : (a2.toInt ≠ 0 ∧ 0 ≤ p.toInt ∧ p.toInt < 5) → r2 = f2 (Int32.toNatClampNeg p)) (n1 : ¬ (a2.toInt ≠ 0 ∧ 0 ≤ p.toInt ∧ p.toInt < 5) → r2.toInt = -1) : r1 = r2 := by
  by_cases q : a2.toInt ≠ 0 ∧ 0 ≤ p.toInt ∧ p.toInt < 5
  · have h1 := clampI q.2.1
    rw [k0 ⟨e.mpr q.1, q.2⟩, n0 q, hw q.1 _ (by omega)]
  · exact z_e ((k1 (fun z => q ⟨e.mp z.1, z.2⟩)).trans (n1 q).symm)
