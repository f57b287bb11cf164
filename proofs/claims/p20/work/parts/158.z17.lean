/-! the relation: laws that are used -/
def RTU (g : Nat → Int32) (F : Nat → Nat → Int32) (x : Nat) (P : Nat → Nat → Option Nat) (X : Nat → Nat → Nat → Int64) (O : Nat → Nat → Nat → Option Nat) : Prop := ∀ q, q < Int32.toNatClampNeg (g 9) → ∃ ra rf, P 221 x = some ra ∧ O 2 ra q = some rf ∧ TPU (P 110) (X 0) rf (RVf F q).2.1 (RVf F q).2.2
theorem RTU_one {g : Nat → Int32} {F F1 : Nat → Nat → Int32} {la : Nat → Nat} {D x : Nat} {G : Nat → Nat → Int32} {P P1 : Nat → Nat → Option Nat} {V : Nat → Nat → Nat → Int32} {X X1 : Nat → Nat → Nat → Int64} {O O1 : Nat → Nat → Nat → Option Nat} {ln : Nat → Nat} {cnt : Nat} {q : Nat} (h : RTU g F x P X O) (hR : RLR g F la D x G P V O ln cnt) (hB : LB la cnt P) (hq : q < Int32.toNatClampNeg (g 9)) (e : RVf F1 q = RVf F q) (hO : ∀ ra, P 221 x = some ra → O1 2 ra q = O 2 ra q) (p1 : P1 221 x = P 221 x) (hc : ∀ z, z < cnt → P1 110 z = P 110 z) (hv : ∀ z, z < cnt → 100000 ≤ la z → (la z < D ∨ D + 5 < la z) → X1 0 z = X 0 z) : ∃ ra rf, P1 221 x = some ra ∧ O1 2 ra q = some rf ∧ TPU (P1 110) (X1 0) rf (RVf F1 q).2.1 (RVf F1 q).2.2 := by
  obtain ⟨ra, rf, h1, h2, h3⟩ := h q hq
  obtain ⟨rd, dr, ra2, ⟨a1, a2, a3⟩, ⟨b1, b2, kD, b3⟩, _, _, _, d3⟩ := hR
  obtain ⟨rf2, k, z1, z2, z3, z4, _⟩ := d3 q hq
  have era : ra2 = ra := Option.some.inj (a3.symm.trans h1)
  rw [era, h2] at z1
  have erf : rf = rf2 := Option.some.inj z1
  rw [← erf] at z2 z3 z4
  rw [e]
  refine ⟨ra, rf, p1.trans h1, (hO ra h1).trans h2, TPU_fr h3 (hc rf z2) (fun z hz => ?_)⟩
  obtain ⟨_, c1, l1⟩ := hB.1 110 fl_110 rf z hz
  have l1 : la z = la rf + 0 := lk_110.mp l1
  exact hv z c1 (by omega) (by omega)
theorem rtu_reform {g g1 : Nat → Int32} {F1 : Nat → Nat → Int32} {x ra dr : Nat} {P1 : Nat → Nat → Option Nat} {X1 : Nat → Nat → Nat → Int64} {O1 : Nat → Nat → Nat → Option Nat} {dy r2 : Int32} {ld : Int} {res : Er × Dr} (hb9 : 0 ≤ (g 9).toInt ∧ (g 9).toInt ≤ 6) (m0 : dy.toInt ≤ ld ∨ 100000 < dy.toInt → r2.toInt = -2 ∧ (g1 9).toInt = (g 9).toInt ∧ (g1 7).toInt = (g 7).toInt ∧ (g1 8).toInt = (g 8).toInt) (m1 : ld < dy.toInt ∧ dy.toInt ≤ 100000 → ∀ z, res.1 = some z → r2.toInt = -1 ∧ (g1 9).toInt = (g 9).toInt ∧ ERR (some z) (g1 7) (g1 8)) (m2 : ld < dy.toInt ∧ dy.toInt ≤ 100000 → res.1 = none → (g 9).toInt = 6 → r2.toInt = -3 ∧ (g1 9).toInt = (g 9).toInt ∧ (g1 7).toInt = 0 ∧ (g1 8).toInt = -1) (m3 : ld < dy.toInt ∧ dy.toInt ≤ 100000 → res.1 = none → (g 9).toInt < 6 → r2.toInt = (g 9).toInt ∧ (g1 9).toInt = (g 9).toInt + 1 ∧ (g1 7).toInt = 0 ∧ (g1 8).toInt = -1 ∧ F1 10 (Int32.toNatClampNeg (g 9)) = dy ∧ RVf F1 (Int32.toNatClampNeg (g 9)) = res.2) (p1 : P1 221 x = some ra) (hn : ld < dy.toInt ∧ dy.toInt ≤ 100000 → res.1 = none → (g 9).toInt < 6 → O1 2 ra (Int32.toNatClampNeg (g 9)) = some dr ∧ TPU (P1 110) (X1 0) dr res.2.2.1 res.2.2.2) (hold : ∀ q, q < Int32.toNatClampNeg (g 9) → ∃ ra rf, P1 221 x = some ra ∧ O1 2 ra q = some rf ∧ TPU (P1 110) (X1 0) rf (RVf F1 q).2.1 (RVf F1 q).2.2) : RTU g1 F1 x P1 X1 O1 := by
  have cg := clampI hb9.1
  have same : g1 9 = g 9 → RTU g1 F1 x P1 X1 O1 := fun e q hq => hold q (by rw [e] at hq; exact hq)
  by_cases hq : dy.toInt ≤ ld ∨ 100000 < dy.toInt
  · exact same (z_e (m0 hq).2.1)
  · have hq : ld < dy.toInt ∧ dy.toInt ≤ 100000 := by omega
    by_cases hm : res.1 = none
    · by_cases h6 : (g 9).toInt = 6
      · exact same (z_e (m2 hq hm h6).2.1)
      · obtain ⟨y1, y2, y3, y4, y5, y6⟩ := m3 hq hm (by omega)
        have cg1 := clampI (x := g1 9) (by omega)
        intro q hq2
        by_cases q9 : q = Int32.toNatClampNeg (g 9)
        · obtain ⟨z1, z2⟩ := hn hq hm (by omega)
          rw [q9, y6]
          exact ⟨ra, dr, p1, z1, z2⟩
        · exact hold q (by omega)
    · obtain ⟨z, hz⟩ := Option.ne_none_iff_exists'.mp hm
      exact same (z_e (m1 hq z hz).2.1)
def RLU (g : Nat → Int32) (F : Nat → Nat → Int32) (x : Nat) (P : Nat → Nat → Option Nat) (V : Nat → Nat → Nat → Int32) (X : Nat → Nat → Nat → Int64) : Prop := ∀ bk fl lu, P 229 x = some bk → P 3 bk = some fl → P 2 bk = some lu → LUT (X 1 lu) (fun s => Int32.toNatClampNeg (V 3 fl s)) (RVf F) (FMT (RVf F) (wsR g F))
theorem RLU_keep {g g1 : Nat → Int32} {F F1 : Nat → Nat → Int32} {la : Nat → Nat} {D x : Nat} {G : Nat → Nat → Int32} {P P1 : Nat → Nat → Option Nat} {V V1 : Nat → Nat → Nat → Int32} {X X1 : Nat → Nat → Nat → Int64} {O : Nat → Nat → Nat → Option Nat} {ln : Nat → Nat} {cnt : Nat} (h : RLU g F x P V X) (hK : RBK g F la D x G P V O ln cnt) (hB : LB la cnt P) (hq : ∀ q, q < Int32.toNatClampNeg (g 9) → RVf F1 q = RVf F q) (hW : ∀ w, w < Int32.toNatClampNeg (g 48) → (wsR g1 F1)[w]? = (wsR g F)[w]?) (hfl : ∀ fl s, Int32.toNatClampNeg (V 3 fl s) ≤ Int32.toNatClampNeg (g 48)) (p9 : P1 229 x = P 229 x) (hc : ∀ z, z < cnt → P1 3 z = P 3 z ∧ P1 2 z = P 2 z) (hb : ∀ z, z < cnt → la z = 70 → V1 3 z = V 3 z ∧ X1 1 z = X 1 z) : RLU g1 F1 x P1 V1 X1 := by
  obtain ⟨bk, fa, fl, sp, lsp, ssp, ⟨h1, h2, h3, h4, h5, h6⟩, ⟨h7, h8⟩, hr, h0⟩ := hK
  intro bk9 fl9 lu e1 e2 e3
  rw [p9] at e1
  have eb : bk = bk9 := Option.some.inj (h1.symm.trans e1)
  subst eb
  obtain ⟨_, c1, l1⟩ := hB.1 229 fl_229 x bk h1
  have l1 : la bk = 70 := lk_229.mp l1
  rw [(hc bk c1).1] at e2
  rw [(hc bk c1).2] at e3
  have ef : fl = fl9 := Option.some.inj (h3.symm.trans e2)
  subst ef
  obtain ⟨_, c3, l3⟩ := hB.1 3 fl_3 bk fl h3
  have l3 : la fl = la bk + 0 := lk_3.mp l3
  obtain ⟨_, c2, l2⟩ := hB.1 2 fl_2 bk lu e3
  have l2 : la lu = la bk + 0 := lk_2.mp l2
  have ev : V1 3 fl = V 3 fl := (hb fl c3 (by omega)).1
  have ex : X1 1 lu = X 1 lu := (hb lu c2 (by omega)).2
  intro s w hs hw k hk
  have hw : w < Int32.toNatClampNeg (V1 3 fl (s + 1)) := hw
  rw [ev] at hw
  have hs9 : s + 1 ≤ Int32.toNatClampNeg (g 9) := by
    by_cases q : s + 1 ≤ Int32.toNatClampNeg (g 9)
    · exact q
    · have := h0 (s + 1) (by omega) (by omega)
      omega
  have e : FMT (RVf F1) (wsR g1 F1) s w = FMT (RVf F) (wsR g F) s w := by
    have e1 : FMT (RVf F1) (wsR g1 F1) s w = FMT (RVf F1) (wsR g F) s w := by
      unfold FMT
      rw [hW w (by have := hfl fl (s + 1); omega)]
    rw [e1]
    exact FMT_ext (fun q hq2 => hq q (by omega))
  rw [ex, e, hq s (by omega)]
  exact h bk fl lu h1 h3 e3 s w hs hw k hk
theorem RLU_fill {g g1 : Nat → Int32} {F F1 : Nat → Nat → Int32} {x : Nat} {P P1 : Nat → Nat → Option Nat} {V1 : Nat → Nat → Nat → Int32} {X1 : Nat → Nat → Nat → Int64} {bk fl lu : Nat} (hr : LUT (X1 1 lu) (fun s => Int32.toNatClampNeg (V1 3 fl s)) (RVf F) (FMT (RVf F) (wsR g F))) (h1 : P 229 x = some bk) (h3 : P 3 bk = some fl) (h2 : P 2 bk = some lu) (p9 : P1 229 x = P 229 x) (p3 : P1 3 bk = P 3 bk) (p2 : P1 2 bk = P 2 bk) (eF : ∀ j, 10 ≤ j → j ≤ 21 → F1 j = F j) (ew : wsR g1 F1 = wsR g F) : RLU g1 F1 x P1 V1 X1 := by
  intro bk9 fl9 lu9 e1 e2 e3
  rw [p9] at e1
  have eb : bk = bk9 := Option.some.inj (h1.symm.trans e1)
  subst eb
  rw [p3] at e2
  rw [p2] at e3
  have ef : fl = fl9 := Option.some.inj (h3.symm.trans e2)
  subst ef
  have el : lu = lu9 := Option.some.inj (h2.symm.trans e3)
  subst el
  have e : RVf F1 = RVf F := funext (fun q => RVf_eq eF)
  rw [e, ew]
  exact hr
