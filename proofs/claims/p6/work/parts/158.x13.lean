/-! the relation: reforms are well-formed -/
theorem par_wf {f : Nat → Int32} {n : Nat} (hfit : ∀ i, fits .byte (.int (f i)) = true) : ∀ (k e : Nat) (d : Dr), WFD d → WFD (parF f n k e d).2 := by
  intro k
  induction k with
  | zero => exact fun e d h => h
  | succ k ih =>
    intro e d h
    by_cases h0 : tK f n e = 0
    · rw [par_end h0]
      exact h
    · cases hi : itmF f n e d with
      | error z =>
        rw [par_err h0 hi]
        exact h
      | ok z =>
        obtain ⟨e1, d1⟩ := z
        rw [par_ok h0 hi]
        exact ih e1 d1 (itm_wf hfit h hi)
def RLW (g : Nat → Int32) (F : Nat → Nat → Int32) : Prop := ∀ q, q < Int32.toNatClampNeg (g 9) → WFD (RVf F q)
theorem RVf_eq {F F1 : Nat → Nat → Int32} {q : Nat} (hF : ∀ j, 10 ≤ j → j ≤ 21 → F1 j = F j) : RVf F1 q = RVf F q := by
  unfold RVf
  rw [hF 11 (by omega) (by omega), hF 12 (by omega) (by omega), hF 13 (by omega) (by omega), hF 14 (by omega) (by omega), hF 15 (by omega) (by omega), hF 16 (by omega) (by omega), hF 17 (by omega) (by omega), hF 18 (by omega) (by omega), hF 19 (by omega) (by omega), hF 20 (by omega) (by omega), hF 21 (by omega) (by omega)]
theorem RLW_keep {g g1 : Nat → Int32} {F F1 : Nat → Nat → Int32} (h : RLW g F) (g9 : g1 9 = g 9) (hF : ∀ j, 10 ≤ j → j ≤ 21 → F1 j = F j) : RLW g1 F1 := by
  intro q hq
  rw [g9] at hq
  rw [RVf_eq hF]
  exact h q hq
theorem rlw_reform {g g1 : Nat → Int32} {F F1 : Nat → Nat → Int32} {dy r2 : Int32} {ld : Int} {res : Er × Dr} (h : RLW g F) (hw : WFD res.2) (hb9 : 0 ≤ (g 9).toInt ∧ (g 9).toInt ≤ 6) (m0 : dy.toInt ≤ ld ∨ 100000 < dy.toInt → r2.toInt = -2 ∧ (g1 9).toInt = (g 9).toInt ∧ (g1 7).toInt = (g 7).toInt ∧ (g1 8).toInt = (g 8).toInt) (m1 : ld < dy.toInt ∧ dy.toInt ≤ 100000 → ∀ z, res.1 = some z → r2.toInt = -1 ∧ (g1 9).toInt = (g 9).toInt ∧ ERR (some z) (g1 7) (g1 8)) (m2 : ld < dy.toInt ∧ dy.toInt ≤ 100000 → res.1 = none → (g 9).toInt = 6 → r2.toInt = -3 ∧ (g1 9).toInt = (g 9).toInt ∧ (g1 7).toInt = 0 ∧ (g1 8).toInt = -1) (m3 : ld < dy.toInt ∧ dy.toInt ≤ 100000 → res.1 = none → (g 9).toInt < 6 → r2.toInt = (g 9).toInt ∧ (g1 9).toInt = (g 9).toInt + 1 ∧ (g1 7).toInt = 0 ∧ (g1 8).toInt = -1 ∧ F1 10 (Int32.toNatClampNeg (g 9)) = dy ∧ RVf F1 (Int32.toNatClampNeg (g 9)) = res.2) (m4 : ∀ q, q < Int32.toNatClampNeg (g 9) → F1 10 q = F 10 q ∧ RVf F1 q = RVf F q) : RLW g1 F1 ∧ ∀ q, q < Int32.toNatClampNeg (g 9) → q < Int32.toNatClampNeg (g1 9) ∧ RVf F1 q = RVf F q := by
  have cg := clampI hb9.1
  have same : g1 9 = g 9 → RLW g1 F1 ∧ ∀ q, q < Int32.toNatClampNeg (g 9) → q < Int32.toNatClampNeg (g1 9) ∧ RVf F1 q = RVf F q := fun e => ⟨fun q hq => by rw [e] at hq; rw [(m4 q hq).2]; exact h q hq, fun q hq => ⟨by rw [e]; exact hq, (m4 q hq).2⟩⟩
  by_cases hq : dy.toInt ≤ ld ∨ 100000 < dy.toInt
  · exact same (z_e (m0 hq).2.1)
  · have hq : ld < dy.toInt ∧ dy.toInt ≤ 100000 := by omega
    by_cases hn : res.1 = none
    · by_cases h6 : (g 9).toInt = 6
      · exact same (z_e (m2 hq hn h6).2.1)
      · obtain ⟨y1, y2, y3, y4, y5, y6⟩ := m3 hq hn (by omega)
        have cg1 := clampI (x := g1 9) (by omega)
        refine ⟨fun q hq2 => ?_, fun q hq2 => ⟨by omega, (m4 q hq2).2⟩⟩
        by_cases q9 : q = Int32.toNatClampNeg (g 9)
        · rw [q9, y6]
          exact hw
        · have q8 : q < Int32.toNatClampNeg (g 9) := by omega
          rw [(m4 q q8).2]
          exact h q q8
    · obtain ⟨z, hz⟩ := Option.ne_none_iff_exists'.mp hn
      exact same (z_e (m1 hq z hz).2.1)
/-! the relation: told partings -/
def RLQ (g : Nat → Int32) (F : Nat → Nat → Int32) (x : Nat) (G : Nat → Nat → Int32) (P : Nat → Nat → Option Nat) (V : Nat → Nat → Nat → Int32) (O : Nat → Nat → Nat → Option Nat) : Prop := ∃ lp fi pa pk sz cl pt ps R, (P 228 x = some lp ∧ P 63 lp = some fi ∧ P 65 lp = some pa ∧ P 62 lp = some pk ∧ P 61 lp = some sz ∧ P 64 lp = some cl) ∧ P 66 lp = some pt ∧ RWS lenP (g 47).toInt (F 46) (F 45) R ∧ RWS (idxP ps) (G 60 lp).toInt (V 2 sz) (V 0 pk) R ∧ (R = [] ∨ ∃ q ra rf, q < Int32.toNatClampNeg (g 9) ∧ P 221 x = some ra ∧ O 2 ra q = some rf ∧ P 103 rf = some pt ∧ ps = (RVf F q).2.1)
theorem RLQ_keep {g g1 : Nat → Int32} {F F1 : Nat → Nat → Int32} {la : Nat → Nat} {D x : Nat} {G G1 : Nat → Nat → Int32} {P P1 : Nat → Nat → Option Nat} {V V1 : Nat → Nat → Nat → Int32} {O O1 : Nat → Nat → Nat → Option Nat} {ln : Nat → Nat} {cnt : Nat} (h : RLQ g F x G P V O) (hR : RLR g F la D x G P V O ln cnt) (hB : LB la cnt P) (hq : ∀ q, q < Int32.toNatClampNeg (g 9) → q < Int32.toNatClampNeg (g1 9) ∧ RVf F1 q = RVf F q) (hO : ∀ ra q, P 221 x = some ra → q < Int32.toNatClampNeg (g 9) → O1 2 ra q = O 2 ra q) (e47 : g1 47 = g 47) (e46 : F1 46 = F 46) (e45 : F1 45 = F 45) (p8 : P1 228 x = P 228 x) (p1 : P1 221 x = P 221 x) (hc : ∀ z, z < cnt → la z = 60 → G1 60 z = G 60 z ∧ P1 61 z = P 61 z ∧ P1 62 z = P 62 z ∧ P1 63 z = P 63 z ∧ P1 64 z = P 64 z ∧ P1 65 z = P 65 z ∧ P1 66 z = P 66 z ∧ V1 2 z = V 2 z ∧ V1 0 z = V 0 z) (h103 : ∀ z, z < cnt → 100000 ≤ la z → (la z < D ∨ D + 5 < la z) → P1 103 z = P 103 z) : RLQ g1 F1 x G1 P1 V1 O1 := by
  obtain ⟨lp, fi, pa, pk, sz, cl, pt, ps, R, ⟨w1, w2, w3, w4, w5, w6⟩, w7, w8, w9, w10⟩ := h
  have l1 := (hB.1 228 fl_228 x lp w1).2.1
  have m1 : la lp = 60 := lk_228.mp (hB.1 228 fl_228 x lp w1).2.2
  have l4 := (hB.1 62 fl_62 lp pk w4).2.1
  have m4 : la pk = la lp + 0 := lk_62.mp (hB.1 62 fl_62 lp pk w4).2.2
  have l5 := (hB.1 61 fl_61 lp sz w5).2.1
  have m5 : la sz = la lp + 0 := lk_61.mp (hB.1 61 fl_61 lp sz w5).2.2
  obtain ⟨c1, c2, c3, c4, c5, c6, c7, _, _⟩ := hc lp l1 m1
  have c8 := (hc sz l5 (by omega)).2.2.2.2.2.2.2.1
  have c9 := (hc pk l4 (by omega)).2.2.2.2.2.2.2.2
  refine ⟨lp, fi, pa, pk, sz, cl, pt, ps, R, ⟨p8.trans w1, c4.trans w2, c6.trans w3, c3.trans w4, c2.trans w5, c5.trans w6⟩, c7.trans w7, ?_, ?_, ?_⟩
  · rw [e47, e46, e45]
    exact w8
  · rw [c1, c8, c9]
    exact w9
  · rcases w10 with w10 | ⟨q, ra, rf, y1, y2, y3, y4, y5⟩
    · exact Or.inl w10
    · obtain ⟨rd, dr, ra2, ⟨a1, a2, a3⟩, ⟨b1, b2, kD, b3⟩, _, _, _, d3⟩ := hR
      obtain ⟨rf2, k, z1, z2, z3, z4, _⟩ := d3 q y1
      have era : ra2 = ra := Option.some.inj (a3.symm.trans y2)
      rw [era, y3] at z1
      have erf : rf = rf2 := Option.some.inj z1
      rw [← erf] at z2 z3 z4
      exact Or.inr ⟨q, ra, rf, (hq q y1).1, p1.trans y2, (hO ra q y2 y1).trans y3, (h103 rf z2 (by omega) (by omega)).trans y4, by rw [(hq q y1).2]; exact y5⟩
theorem rlq_part {g g1 : Nat → Int32} {F F1 : Nat → Nat → Int32} {x : Nat} {G G1 : Nat → Nat → Int32} {P P1 : Nat → Nat → Option Nat} {V V1 : Nat → Nat → Nat → Int32} {O O1 : Nat → Nat → Nat → Option Nat} {lp fi pa pk sz cl pt ra : Nat} {r1 r2 y : Int32} {R : List (List Wd)} {ps : List Wd} {W : Wd} {I : Prop} (a3 : P 221 x = some ra) (w : P 228 x = some lp ∧ P 63 lp = some fi ∧ P 65 lp = some pa ∧ P 62 lp = some pk ∧ P 61 lp = some sz ∧ P 64 lp = some cl) (wt : P 66 lp = some pt) (wr : RWS lenP (g 47).toInt (F 46) (F 45) R) (wc : RWS (idxP ps) (G 60 lp).toInt (V 2 sz) (V 0 pk) R) (wo : R = [] ∨ ∃ q ra rf, q < Int32.toNatClampNeg (g 9) ∧ P 221 x = some ra ∧ O 2 ra q = some rf ∧ P 103 rf = some pt ∧ ps = (RVf F q).2.1) (k0 : ¬ I → r1.toInt = -2 ∧ G1 60 lp = G 60 lp ∧ V1 2 sz = V 2 sz ∧ V1 0 pk = V 0 pk ∧ P1 66 lp = P 66 lp) (k1 : I → lkE (RVf F (Int32.toNatClampNeg y)).1 W = some none → r1.toInt = -10 ∧ G1 60 lp = G 60 lp ∧ V1 2 sz = V 2 sz ∧ V1 0 pk = V 0 pk ∧ P1 66 lp = P 66 lp) (k2 : I → ∀ v, lkE (RVf F (Int32.toNatClampNeg y)).1 W = some (some v) → r1.toInt = -11 ∧ G1 60 lp = G 60 lp ∧ V1 2 sz = V 2 sz ∧ V1 0 pk = V 0 pk ∧ P1 66 lp = P 66 lp) (k3 : I → lkE (RVf F (Int32.toNatClampNeg y)).1 W = none → r1.toInt = (((cwF (RVf F (Int32.toNatClampNeg y)) W).length : Nat) : Int) ∧ ∃ rf pr, O 2 ra (Int32.toNatClampNeg y) = some rf ∧ P 103 rf = some pr ∧ P1 66 lp = some pr ∧ RWS (idxP (RVf F (Int32.toNatClampNeg y)).2.1) (G1 60 lp).toInt (V1 2 sz) (V1 0 pk) (cwF (RVf F (Int32.toNatClampNeg y)) W)) (m0 : ¬ I → r2.toInt = -2 ∧ g1 47 = g 47 ∧ F1 45 = F 45 ∧ F1 46 = F 46) (m1 : I → lkE (RVf F (Int32.toNatClampNeg y)).1 W = some none → r2.toInt = -10 ∧ g1 47 = g 47 ∧ F1 45 = F 45 ∧ F1 46 = F 46) (m2 : I → ∀ v, lkE (RVf F (Int32.toNatClampNeg y)).1 W = some (some v) → r2.toInt = -11 ∧ g1 47 = g 47 ∧ F1 45 = F 45 ∧ F1 46 = F 46) (m3 : I → lkE (RVf F (Int32.toNatClampNeg y)).1 W = none → r2.toInt = (((cwF (RVf F (Int32.toNatClampNeg y)) W).length : Nat) : Int) ∧ RWS lenP (g1 47).toInt (F1 46) (F1 45) (cwF (RVf F (Int32.toNatClampNeg y)) W)) (hI : I → Int32.toNatClampNeg y < Int32.toNatClampNeg (g 9)) (e9 : g1 9 = g 9) (eF : ∀ j, 10 ≤ j → j ≤ 21 → F1 j = F j) (p8 : P1 228 x = P 228 x) (p1 : P1 221 x = P 221 x) (p61 : P1 61 lp = P 61 lp) (p62 : P1 62 lp = P 62 lp) (p63 : P1 63 lp = P 63 lp) (p64 : P1 64 lp = P 64 lp) (p65 : P1 65 lp = P 65 lp) (h103 : P1 103 = P 103) (hO : O1 2 = O 2) : r1 = r2 ∧ RLQ g1 F1 x G1 P1 V1 O1 := by
  have eq : ∀ q, RVf F1 q = RVf F q := fun q => RVf_eq eF
  obtain ⟨w1, w2, w3, w4, w5, w6⟩ := w
  have wp : P1 228 x = some lp ∧ P1 63 lp = some fi ∧ P1 65 lp = some pa ∧ P1 62 lp = some pk ∧ P1 61 lp = some sz ∧ P1 64 lp = some cl := ⟨p8.trans w1, p63.trans w2, p65.trans w3, p62.trans w4, p61.trans w5, p64.trans w6⟩
  have same : (G1 60 lp = G 60 lp ∧ V1 2 sz = V 2 sz ∧ V1 0 pk = V 0 pk ∧ P1 66 lp = P 66 lp) → (g1 47 = g 47 ∧ F1 45 = F 45 ∧ F1 46 = F 46) → RLQ g1 F1 x G1 P1 V1 O1 := by
    intro ⟨s1, s2, s3, s4⟩ ⟨t1, t2, t3⟩
    refine ⟨lp, fi, pa, pk, sz, cl, pt, ps, R, wp, s4.trans wt, ?_, ?_, ?_⟩
    · rw [t1, t2, t3]
      exact wr
    · rw [s1, s2, s3]
      exact wc
    · rcases wo with wo | ⟨q, ra2, rf, y1, y2, y3, y4, y5⟩
      · exact Or.inl wo
      · exact Or.inr ⟨q, ra2, rf, by rw [e9]; exact y1, p1.trans y2, by rw [hO]; exact y3, by rw [h103]; exact y4, by rw [eq]; exact y5⟩
  by_cases hi : I
  · cases hk : lkE (RVf F (Int32.toNatClampNeg y)).1 W with
    | none =>
      obtain ⟨u1, rf, pr, u2, u3, u4, u5⟩ := k3 hi hk
      obtain ⟨v1, v2⟩ := m3 hi hk
      exact ⟨z_e (by omega), lp, fi, pa, pk, sz, cl, pr, _, _, wp, u4, v2, u5, Or.inr ⟨Int32.toNatClampNeg y, ra, rf, by rw [e9]; exact hI hi, p1.trans a3, by rw [hO]; exact u2, by rw [h103]; exact u3, by rw [eq]⟩⟩
    | some o =>
      cases o with
      | none =>
        obtain ⟨u1, u2⟩ := k1 hi hk
        obtain ⟨v1, v2⟩ := m1 hi hk
        exact ⟨z_e (by omega), same u2 v2⟩
      | some v =>
        obtain ⟨u1, u2⟩ := k2 hi v hk
        obtain ⟨v1, v2⟩ := m2 hi v hk
        exact ⟨z_e (by omega), same u2 v2⟩
  · obtain ⟨u1, u2⟩ := k0 hi
    obtain ⟨v1, v2⟩ := m0 hi
    exact ⟨z_e (by omega), same u2 v2⟩
