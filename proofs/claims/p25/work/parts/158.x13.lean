/-! the relation: reforms are well-formed -/
theorem par_wf {f : Nat → Int32} {n : Nat} (hfit : ∀ i, fits .byte (.int (f i)) = true) : ∀ (k e : Nat) (d : Dr), WFD d → WFD (parF f n k e d).2 := by
  intro k
  induction k with
  | zero => exact fun e d h => h
  | succ k ih =>
    intro e d h
    by_cases h0 : tK f n e = 0
    · rw [par_end h0]
      exact h
    · cases hi : itmF f n e d with
      | error z =>
        rw [par_err h0 hi]
        exact h
      | ok z =>
        obtain ⟨e1, d1⟩ := z
        rw [par_ok h0 hi]
        exact ih e1 d1 (itm_wf hfit h hi)
def RLW (g : Nat → Int32) (F : Nat → Nat → Int32) : Prop := ∀ q, q < Int32.toNatClampNeg (g 9) → WFD (RVf F q)
theorem RVf_eq {F F1 : Nat → Nat → Int32} {q : Nat} (hF : ∀ j, 10 ≤ j → j ≤ 21 → F1 j = F j) : RVf F1 q = RVf F q := by
  unfold RVf
  rw [hF 11 (by omega) (by omega), hF 12 (by omega) (by omega), hF 13 (by omega) (by omega), hF 14 (by omega) (by omega), hF 15 (by omega) (by omega), hF 16 (by omega) (by omega), hF 17 (by omega) (by omega), hF 18 (by omega) (by omega), hF 19 (by omega) (by omega), hF 20 (by omega) (by omega), hF 21 (by omega) (by omega)]
theorem RLW_keep {g g1 : Nat → Int32} {F F1 : Nat → Nat → Int32} (h : RLW g F) (g9 : g1 9 = g 9) (hF : ∀ j, 10 ≤ j → j ≤ 21 → F1 j = F j) : RLW g1 F1 := by
  intro q hq
  rw [g9] at hq
  rw [RVf_eq hF]
  exact h q hq
theorem rlw_reform {g g1 : Nat → Int32} {F F1 : Nat → Nat → Int32} {dy r2 : Int32} {ld : Int} {res : Er × Dr} (h : RLW g F) (hw : WFD res.2) (hb9 : 0 ≤ (g 9).toInt ∧ (g 9).toInt ≤ 6) (m0 : dy.toInt ≤ ld ∨ 100000 < dy.toInt → r2.toInt = -2 ∧ (g1 9).toInt = (g 9).toInt ∧ (g1 7).toInt = (g 7).toInt ∧ (g1 8).toInt = (g 8).toInt) (m1 : ld < dy.toInt ∧ dy.toInt ≤ 100000 → ∀ z, res.1 = some z → r2.toInt = -1 ∧ (g1 9).toInt = (g 9).toInt ∧ ERR (some z) (g1 7) (g1 8)) (m2 : ld < dy.toInt ∧ dy.toInt ≤ 100000 → res.1 = none → (g 9).toInt = 6 → r2.toInt = -3 ∧ (g1 9).toInt = (g 9).toInt ∧ (g1 7).toInt = 0 ∧ (g1 8).toInt = -1) (m3 : ld < dy.toInt ∧ dy.toInt ≤ 100000 → res.1 = none → (g 9).toInt < 6 → r2.toInt = (g 9).toInt ∧ (g1 9).toInt = (g 9).toInt + 1 ∧ (g1 7).toInt = 0 ∧ (g1 8).toInt = -1 ∧ F1 10 (Int32.toNatClampNeg (g 9)) = dy ∧ RVf F1 (Int32.toNatClampNeg (g 9)) = res.2) (m4 : ∀ q, q < Int32.toNatClampNeg (g 9) → F1 10 q = F 10 q ∧ RVf F1 q = RVf F q) : RLW g1 F1 ∧ ∀ q, q < Int32.toNatClampNeg (g 9) → q < Int32.toNatClampNeg (g1 9) ∧ RVf F1 q = RVf F q := by
  have cg := clampI hb9.1
  have same : g1 9 = g 9 → RLW g1 F1 ∧ ∀ q, q < Int32.toNatClampNeg (g 9) → q < Int32.toNatClampNeg (g1 9) ∧ RVf F1 q = RVf F q := fun e => ⟨fun q hq => by rw [e] at hq; rw [(m4 q hq).2]; exact h q hq, fun q hq => ⟨by rw [e]; exact hq, (m4 q hq).2⟩⟩
  by_cases hq : dy.toInt ≤ ld ∨ 100000 < dy.toInt
  · exact same (z_e (m0 hq).2.1)
  · have hq : ld < dy.toInt ∧ dy.toInt ≤ 100000 := by omega
    by_cases hn : res.1 = none
    · by_cases h6 : (g 9).toInt = 6
      · exact same (z_e (m2 hq hn h6).2.1)
      · obtain ⟨y1, y2, y3, y4, y5, y6⟩ := m3 hq hn (by omega)
        have cg1 := clampI (x := g1 9) (by omega)
        refine ⟨fun q hq2 => ?_, fun q hq2 => ⟨by omega, (m4 q hq2).2⟩⟩
        by_cases q9 : q = Int32.toNatClampNeg (g 9)
        · rw [q9, y6]
          exact hw
        · have q8 : q < Int32.toNatClampNeg (g 9) := by omega
          rw [(m4 q q8).2]
          exact h q q8
    · obtain ⟨z, hz⟩ := Option.ne_none_iff_exists'.mp hn
      exact same (z_e (m1 hq z hz).2.1)