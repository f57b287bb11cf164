/-! the relation: reforms -/
def RVf (F : Nat → Nat → Int32) (q : Nat) : Dr := (entR (F 13 q) (F 20) (F 21) (80 * q), prtR (F 12 q) (F 18) (F 19) (40 * q), lwsR (F 11 q) (F 14) (F 15) (F 16) (F 17) (40 * q))
def RLR (g : Nat → Int32) (F : Nat → Nat → Int32) (la : Nat → Nat) (D x : Nat) (G : Nat → Nat → Int32) (P : Nat → Nat → Option Nat) (V : Nat → Nat → Nat → Int32) (O : Nat → Nat → Nat → Option Nat) (ln : Nat → Nat) (cnt : Nat) : Prop := ∃ rd dr ra, (P 225 x = some rd ∧ P 224 x = some dr ∧ P 221 x = some ra) ∧ (la dr = D ∧ DRF G P ln dr ∧ ∃ k, D = 100000 + 10 * k) ∧ (G 222 x = g 9 ∧ G 80 rd = g 7 ∧ G 81 rd = g 8) ∧ (-1 ≤ (G 223 x).toInt ∧ (G 223 x).toInt ≤ 100000) ∧ (((g 9).toInt = 0 ∧ (G 223 x).toInt = -1) ∨ (1 ≤ (g 9).toInt ∧ (F 10 (Int32.toNatClampNeg (g 9) - 1)).toInt = (G 223 x).toInt)) ∧ (∀ q, q < Int32.toNatClampNeg (g 9) → ∃ rf k, O 2 ra q = some rf ∧ rf < cnt ∧ la rf = 100000 + 10 * k ∧ la rf ≠ D ∧ RFC G P V O ln la cnt rf (F 10 q) (RVf F q))
theorem DRF_ag {G G1 : Nat → Nat → Int32} {P P1 : Nat → Nat → Option Nat} {V V1 : Nat → Nat → Nat → Int32} {O O1 : Nat → Nat → Nat → Option Nat} {ln ln1 la : Nat → Nat} {cnt dr : Nat} (h : DRF G P ln dr) (hB : LB la cnt P) (hdr : dr < cnt) (hag : ∀ z, z < cnt → la dr ≤ la z → la z ≤ la dr + 5 → AGR G G1 P P1 V V1 O O1 ln ln1 z) : DRF G1 P1 ln1 dr := by
  obtain ⟨er, br, pr, kp, lr, le, lb, lp, se, sb, sp, hp⟩ := h
  obtain ⟨⟨q1, r1⟩, ⟨q2, r2⟩, ⟨q3, r3⟩, ⟨q4, r4⟩, ⟨q5, r5⟩, ⟨q6, r6⟩, ⟨q7, r7⟩, ⟨q8, r8⟩, ⟨q9, r9⟩, ⟨q10, r10⟩, ⟨q11, r11⟩⟩ := pts_lab hp hB
  have A0 := hag dr hdr (by omega) (by omega)
  have A1 := hag er q1 (by omega) (by omega)
  have A2 := hag br q2 (by omega) (by omega)
  have A3 := hag pr q3 (by omega) (by omega)
  have A9 := hag se q9 (by omega) (by omega)
  have A10 := hag sb q10 (by omega) (by omega)
  have A11 := hag sp q11 (by omega) (by omega)
  obtain ⟨⟨a1, a2, a3, a4, a5⟩, ⟨b1, b2, b3⟩, ⟨c1, c2, c3⟩, ⟨w1, w2, w3⟩, ⟨l1, l2, l3⟩⟩ := hp
  refine ⟨er, br, pr, kp, lr, le, lb, lp, se, sb, sp, ⟨?_, ?_, ?_, ?_, ?_⟩, ⟨?_, ?_, ?_⟩, ⟨?_, ?_, ?_⟩, ⟨?_, ?_, ?_⟩, ⟨?_, ?_, ?_⟩⟩
  · exact (A0.2.2.2.2.2.2.2.2.2.1).trans a1
  · exact (A0.2.2.2.2.2.2.2.2.2.2.1).trans a2
  · exact (A0.2.2.2.2.2.2.2.2.1).trans a3
  · exact (A0.2.2.2.2.2.2.2.2.2.2.2.1).trans a4
  · exact (A0.2.2.2.2.2.2.2.1).trans a5
  · exact (A1.2.2.2.2.2.2.2.2.2.2.2.2.1).trans b1
  · exact (A2.2.2.2.2.2.2.2.2.2.2.2.2.1).trans b2
  · exact (A3.2.2.2.2.2.2.2.2.2.2.2.2.1).trans b3
  · exact (A1.2.2.2.2.2.2.2.2.2.2.2.2.2.1).trans c1
  · exact (A2.2.2.2.2.2.2.2.2.2.2.2.2.2.1).trans c2
  · exact (A3.2.2.2.2.2.2.2.2.2.2.2.2.2.1).trans c3
  · rw [A1.2.2.2.1]; exact w1
  · rw [A2.2.2.2.1]; exact w2
  · rw [A3.2.2.2.1]; exact w3
  · exact (A9.2.2.2.2.2.2.2.2.2.2.2.2.2.2.2.2.2.2.2.2.2.2).trans l1
  · exact (A10.2.2.2.2.2.2.2.2.2.2.2.2.2.2.2.2.2.2.2.2.2.2).trans l2
  · exact (A11.2.2.2.2.2.2.2.2.2.2.2.2.2.2.2.2.2.2.2.2.2.2).trans l3
theorem RLR_keep {g g1 : Nat → Int32} {F F1 : Nat → Nat → Int32} {la la1 : Nat → Nat} {D x : Nat} {G G1 : Nat → Nat → Int32} {P P1 : Nat → Nat → Option Nat} {V V1 : Nat → Nat → Nat → Int32} {O O1 : Nat → Nat → Nat → Option Nat} {ln ln1 : Nat → Nat} {cnt cnt1 : Nat} (h : RLR g F la D x G P V O ln cnt) (hB : LB la cnt P) (hx : x < cnt) (g9 : g1 9 = g 9) (g7 : g1 7 = g 7) (g8 : g1 8 = g 8) (hF : ∀ j, 10 ≤ j → j ≤ 21 → F1 j = F j) (p5 : P1 225 x = P 225 x) (p4 : P1 224 x = P 224 x) (p1 : P1 221 x = P 221 x) (h222 : G1 222 x = G 222 x) (h223 : G1 223 x = G 223 x) (hrd : ∀ z, z < cnt → la z = 300 → G1 80 z = G 80 z ∧ G1 81 z = G 81 z) (hO : ∀ z, z < cnt → O1 2 z = O 2 z) (hag : ∀ z, z < cnt → 100000 ≤ la z → AGR G G1 P P1 V V1 O O1 ln ln1 z) (hle : cnt ≤ cnt1) (hla : ∀ z, z < cnt → la1 z = la z) : RLR g1 F1 la1 D x G1 P1 V1 O1 ln1 cnt1 := by
  obtain ⟨rd, dr, ra, ⟨a1, a2, a3⟩, ⟨b1, b2, b3⟩, ⟨c1, c2, c3⟩, d1, d2, d3⟩ := h
  have l5 := (hB.1 225 fl_225 x rd a1).2.1
  have m5 : la rd = 300 := lk_225.mp (hB.1 225 fl_225 x rd a1).2.2
  obtain ⟨_, l4, _⟩ := hB.1 224 fl_224 x dr a2
  obtain ⟨_, l1, _⟩ := hB.1 221 fl_221 x ra a3
  obtain ⟨e1, e2⟩ := hrd rd l5 m5
  obtain ⟨kD, hkD⟩ := b3
  refine ⟨rd, dr, ra, ⟨p5.trans a1, p4.trans a2, p1.trans a3⟩, ⟨(hla dr l4).trans b1, DRF_ag b2 hB l4 (fun z hz h1 h2 => hag z hz (by omega)), kD, hkD⟩, ⟨by rw [h222, g9]; exact c1, by rw [e1, g7]; exact c2, by rw [e2, g8]; exact c3⟩, by rw [h223]; exact d1, by rw [h223, g9, hF 10 (by omega) (by omega)]; exact d2, fun q hq => ?_⟩
  rw [g9] at hq
  obtain ⟨rf, k, y1, y2, y3, y4, y5⟩ := d3 q hq
  refine ⟨rf, k, by rw [hO ra l1]; exact y1, by omega, (hla rf y2).trans y3, by rw [hla rf y2]; exact y4, ?_⟩
  have e : RVf F1 q = RVf F q := by
    unfold RVf
    rw [hF 11 (by omega) (by omega), hF 12 (by omega) (by omega), hF 13 (by omega) (by omega), hF 14 (by omega) (by omega), hF 15 (by omega) (by omega), hF 16 (by omega) (by omega), hF 17 (by omega) (by omega), hF 18 (by omega) (by omega), hF 19 (by omega) (by omega), hF 20 (by omega) (by omega), hF 21 (by omega) (by omega)]
  rw [e, hF 10 (by omega) (by omega)]
  exact RFC_fr y5 hB y2 (fun z hz h1 h2 _ => hag z hz (by omega)) hle hla
theorem err_eq {x : Nat × Nat} {k p k2 p2 : Int32} (h : ERR (some x) k p) (h2 : ERR (some x) k2 p2) : k = k2 ∧ p = p2 := by
  obtain ⟨a1, a2, a3⟩ := h
  obtain ⟨b1, b2, b3⟩ := h2
  have e := Option.some.inj (a1.symm.trans b1)
  injection e with e1 e2
  have c1 := clampI (x := k) (by omega)
  have c2 := clampI (x := k2) (by omega)
  have c3 := clampI (x := p) (by omega)
  have c4 := clampI (x := p2) (by omega)
  exact ⟨z_e (by omega), z_e (by omega)⟩
theorem rlr_reform {g g1 : Nat → Int32} {F F1 : Nat → Nat → Int32} {la la1 : Nat → Nat} {D x : Nat} {G G1 : Nat → Nat → Int32} {P P1 : Nat → Nat → Option Nat} {V V1 : Nat → Nat → Nat → Int32} {O O1 : Nat → Nat → Nat → Option Nat} {ln ln1 : Nat → Nat} {cnt cnt1 rd dr ra : Nat} {r1 r2 dy : Int32} {ld : Int} {res : Er × Dr} (hB : LB la cnt P) (hx : x < cnt) (a1 : P 225 x = some rd) (a2 : P 224 x = some dr) (a3 : P 221 x = some ra) (b1 : la dr = D) (b3 : ∃ k, D = 100000 + 10 * k) (c1 : G 222 x = g 9) (c2 : G 80 rd = g 7) (c3 : G 81 rd = g 8) (hb9 : 0 ≤ (g 9).toInt ∧ (g 9).toInt ≤ 6) (hld : (G 223 x).toInt = ld) (hlb : -1 ≤ ld ∧ ld ≤ 100000) (d2 : ((g 9).toInt = 0 ∧ ld = -1) ∨ (1 ≤ (g 9).toInt ∧ (F 10 (Int32.toNatClampNeg (g 9) - 1)).toInt = ld)) (d3 : ∀ q, q < Int32.toNatClampNeg (g 9) → ∃ rf k, O 2 ra q = some rf ∧ rf < cnt ∧ la rf = 100000 + 10 * k ∧ la rf ≠ D ∧ RFC G P V O ln la cnt rf (F 10 q) (RVf F q)) (k0 : dy.toInt ≤ ld ∨ 100000 < dy.toInt → r1.toInt = -2 ∧ G1 222 x = G 222 x ∧ G1 223 x = G 223 x ∧ G1 80 rd = G 80 rd ∧ G1 81 rd = G 81 rd) (k1 : ld < dy.toInt ∧ dy.toInt ≤ 100000 → ∀ z, res.1 = some z → r1.toInt = -1 ∧ G1 222 x = G 222 x ∧ G1 223 x = G 223 x ∧ ERR (some z) (G1 80 rd) (G1 81 rd)) (k2 : ld < dy.toInt ∧ dy.toInt ≤ 100000 → res.1 = none → 6 ≤ (G 222 x).toInt → r1.toInt = -3 ∧ G1 222 x = G 222 x ∧ G1 223 x = G 223 x ∧ (G1 80 rd).toInt = 0 ∧ (G1 81 rd).toInt = -1) (k3 : ld < dy.toInt ∧ dy.toInt ≤ 100000 → res.1 = none → (G 222 x).toInt < 6 → r1.toInt = (G 222 x).toInt ∧ (G1 222 x).toInt = (G 222 x).toInt + 1 ∧ G1 223 x = dy ∧ (G1 80 rd).toInt = 0 ∧ (G1 81 rd).toInt = -1 ∧ O1 2 ra (Int32.toNatClampNeg (G 222 x)) = some dr ∧ RFC G1 P1 V1 O1 ln1 la1 cnt1 dr dy res.2) (k4 : ∃ dr1, P1 224 x = some dr1 ∧ DRF G1 P1 ln1 dr1 ∧ dr1 < cnt1 ∧ ((la1 dr1 = la dr ∧ dr1 = dr) ∨ (la1 dr1 = 100000 + 10 * dr1 ∧ cnt ≤ dr1))) (k5 : (∀ q, q ≠ Int32.toNatClampNeg (G 222 x) → O1 2 ra q = O 2 ra q) ∧ ((G1 222 x).toInt = (G 222 x).toInt → O1 2 ra = O 2 ra)) (k6 : (G1 222 x).toInt = (G 222 x).toInt + 1 → ∀ dr1, P1 224 x = some dr1 → dr1 ≠ dr) (m0 : dy.toInt ≤ ld ∨ 100000 < dy.toInt → r2.toInt = -2 ∧ (g1 9).toInt = (g 9).toInt ∧ (g1 7).toInt = (g 7).toInt ∧ (g1 8).toInt = (g 8).toInt) (m1 : ld < dy.toInt ∧ dy.toInt ≤ 100000 → ∀ z, res.1 = some z → r2.toInt = -1 ∧ (g1 9).toInt = (g 9).toInt ∧ ERR (some z) (g1 7) (g1 8)) (m2 : ld < dy.toInt ∧ dy.toInt ≤ 100000 → res.1 = none → (g 9).toInt = 6 → r2.toInt = -3 ∧ (g1 9).toInt = (g 9).toInt ∧ (g1 7).toInt = 0 ∧ (g1 8).toInt = -1) (m3 : ld < dy.toInt ∧ dy.toInt ≤ 100000 → res.1 = none → (g 9).toInt < 6 → r2.toInt = (g 9).toInt ∧ (g1 9).toInt = (g 9).toInt + 1 ∧ (g1 7).toInt = 0 ∧ (g1 8).toInt = -1 ∧ F1 10 (Int32.toNatClampNeg (g 9)) = dy ∧ RVf F1 (Int32.toNatClampNeg (g 9)) = res.2) (m4 : ∀ q, q < Int32.toNatClampNeg (g 9) → F1 10 q = F 10 q ∧ RVf F1 q = RVf F q) (hp5 : P1 225 x = P 225 x) (hp1 : P1 221 x = P 221 x) (hag : ∀ z, z < cnt → 100000 ≤ la z → (la z < D ∨ D + 5 < la z) → AGR G G1 P P1 V V1 O O1 ln ln1 z) (hle : cnt ≤ cnt1) (hla : ∀ z, z < cnt → la1 z = la z) : r1 = r2 ∧ ∃ D1, (∀ b, P1 224 x = some b → b < cnt1 ∧ la1 b = D1) ∧ 100000 ≤ D1 ∧ RLR g1 F1 la1 D1 x G1 P1 V1 O1 ln1 cnt1 := by
  have cg := clampI hb9.1
  have ci := congrArg Int32.toInt c1
  obtain ⟨dr1, u1, u2, u3, u4⟩ := k4
  obtain ⟨kD, hkD⟩ := b3
  obtain ⟨_, l4, _⟩ := hB.1 224 fl_224 x dr a2
  have hD1 : ∃ k, la1 dr1 = 100000 + 10 * k := by
    rcases u4 with ⟨u5, _⟩ | ⟨u5, _⟩
    · exact ⟨kD, by omega⟩
    · exact ⟨dr1, u5⟩
  have hpe : ∀ b, P1 224 x = some b → b < cnt1 ∧ la1 b = la1 dr1 := fun b hb => by
    rw [u1] at hb
    cases hb
    exact ⟨u3, rfl⟩
  have hge : 100000 ≤ la1 dr1 := by
    obtain ⟨k, hk⟩ := hD1
    omega
  have old : ∀ q, q < Int32.toNatClampNeg (g 9) → ∃ rf k, O1 2 ra q = some rf ∧ rf < cnt1 ∧ la1 rf = 100000 + 10 * k ∧ la1 rf ≠ la1 dr1 ∧ RFC G1 P1 V1 O1 ln1 la1 cnt1 rf (F1 10 q) (RVf F1 q) := by
    intro q hq
    obtain ⟨rf, k, y1, y2, y3, y4, y5⟩ := d3 q hq
    obtain ⟨z1, z2⟩ := m4 q hq
    have hr := hla rf y2
    refine ⟨rf, k, ?_, by omega, hr.trans y3, ?_, ?_⟩
    · rw [k5.1 q (by rw [c1]; omega)]
      exact y1
    · rcases u4 with ⟨u5, _⟩ | ⟨u5, u6⟩
      · rw [hr, u5, b1]
        exact y4
      · have := hB.2 rf y2
        omega
    · rw [z1, z2]
      exact RFC_fr y5 hB y2 (fun z hz h1 h2 _ => hag z hz (by omega) (by omega)) hle hla
  by_cases hq : dy.toInt ≤ ld ∨ 100000 < dy.toInt
  · obtain ⟨x1, x2, x3, x4, x5⟩ := k0 hq
    obtain ⟨y1, y2, y3, y4⟩ := m0 hq
    have e9 : g1 9 = g 9 := z_e y2
    refine ⟨z_e (by omega), la1 dr1, hpe, hge, rd, dr1, ra, ⟨hp5.trans a1, u1, hp1.trans a3⟩, ⟨rfl, u2, hD1⟩, ⟨by rw [x2, e9]; exact c1, by rw [x4, c2]; exact (z_e y3).symm, by rw [x5, c3]; exact (z_e y4).symm⟩, by rw [x3]; omega, ?_, by rw [e9]; exact old⟩
    rw [x3, e9, hld]
    rcases d2 with d2 | ⟨d2, d4⟩
    · exact Or.inl d2
    · exact Or.inr ⟨d2, by rw [(m4 _ (by omega)).1]; exact d4⟩
  · have hq : ld < dy.toInt ∧ dy.toInt ≤ 100000 := by omega
    by_cases hn : res.1 = none
    · by_cases h6 : (g 9).toInt = 6
      · obtain ⟨x1, x2, x3, x4, x5⟩ := k2 hq hn (by omega)
        obtain ⟨y1, y2, y3, y4⟩ := m2 hq hn h6
        have e9 : g1 9 = g 9 := z_e y2
        refine ⟨z_e (by omega), la1 dr1, hpe, hge, rd, dr1, ra, ⟨hp5.trans a1, u1, hp1.trans a3⟩, ⟨rfl, u2, hD1⟩, ⟨by rw [x2, e9]; exact c1, z_e (by omega), z_e (by omega)⟩, by rw [x3]; omega, ?_, by rw [e9]; exact old⟩
        rw [x3, e9, hld]
        rcases d2 with d2 | ⟨d2, d4⟩
        · exact Or.inl d2
        · exact Or.inr ⟨d2, by rw [(m4 _ (by omega)).1]; exact d4⟩
      · obtain ⟨x1, x2, x3, x4, x5, x6, x7⟩ := k3 hq hn (by omega)
        obtain ⟨y1, y2, y3, y4, y5, y6⟩ := m3 hq hn (by omega)
        have cg1 := clampI (x := g1 9) (by omega)
        refine ⟨z_e (by omega), la1 dr1, hpe, hge, rd, dr1, ra, ⟨hp5.trans a1, u1, hp1.trans a3⟩, ⟨rfl, u2, hD1⟩, ⟨z_e (by omega), z_e (by omega), z_e (by omega)⟩, by rw [x3]; omega, Or.inr ⟨by omega, ?_⟩, fun q hq2 => ?_⟩
        · rw [x3, show Int32.toNatClampNeg (g1 9) - 1 = Int32.toNatClampNeg (g 9) by omega, y5]
        · by_cases q9 : q = Int32.toNatClampNeg (g 9)
          · rw [q9, y5, y6]
            rw [c1] at x6
            refine ⟨dr, kD, x6, by omega, by rw [hla dr l4]; omega, ?_, x7⟩
            have hne := k6 x2 dr1 u1
            rcases u4 with ⟨_, u5⟩ | ⟨u5, u6⟩
            · exact absurd u5 hne
            · have := hB.2 dr l4
              rw [hla dr l4]
              omega
          · exact old q (by omega)
    · obtain ⟨z, hz⟩ := Option.ne_none_iff_exists'.mp hn
      obtain ⟨x1, x2, x3, x4⟩ := k1 hq z hz
      obtain ⟨y1, y2, y3⟩ := m1 hq z hz
      obtain ⟨v1, v2⟩ := err_eq x4 y3
      have e9 : g1 9 = g 9 := z_e y2
      refine ⟨z_e (by omega), la1 dr1, hpe, hge, rd, dr1, ra, ⟨hp5.trans a1, u1, hp1.trans a3⟩, ⟨rfl, u2, hD1⟩, ⟨by rw [x2, e9]; exact c1, v1, v2⟩, by rw [x3]; omega, ?_, by rw [e9]; exact old⟩
      rw [x3, e9, hld]
      rcases d2 with d2 | ⟨d2, d4⟩
      · exact Or.inl d2
      · exact Or.inr ⟨d2, by rw [(m4 _ (by omega)).1]; exact d4⟩
