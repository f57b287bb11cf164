abbrev QF_X10_same (κ : Nat → Nat) (wd : Nat) (la : Nat → Nat) (G : Nat → Nat → Int32) (P : Nat → Nat → Option Nat) (U : Nat → Nat → Int64) (V : Nat → Nat → Nat → Int32) (X : Nat → Nat → Nat → Int64) (O : Nat → Nat → Nat → Option Nat) (kd : Nat → Nat) (ln : Nat → Nat) (cnt : Nat) (p0 : Nat) (p1 : Int32) (p2 : Nat) (p3 : Int32) (p4 : Int32) : (Int32) → Prop := (fun t => ((t.toInt ≠ 0 → 0 ≤ p1.toInt ∧ 0 ≤ p3.toInt ∧ wdl ((V 0) p0) (Int32.toNatClampNeg p1) (Int32.toNatClampNeg p4) = wdl ((V 0) p2) (Int32.toNatClampNeg p3) (Int32.toNatClampNeg p4))) ∧ ((t.toInt = 0 → 0 ≤ p1.toInt → 0 ≤ p3.toInt → 0 ≤ p4.toInt → p1.toInt + p4.toInt ≤ ((ln p0 : Nat) : Int) → p3.toInt + p4.toInt ≤ ((ln p2 : Nat) : Int) → wdl ((V 0) p0) (Int32.toNatClampNeg p1) (Int32.toNatClampNeg p4) ≠ wdl ((V 0) p2) (Int32.toNatClampNeg p3) (Int32.toNatClampNeg p4))))
set_option maxHeartbeats 4000000 in
set_option maxRecDepth 100000 in
theorem fn_X10_same (κ : Nat → Nat) (wd : Nat) (la : Nat → Nat) (G : Nat → Nat → Int32) (P : Nat → Nat → Option Nat) (U : Nat → Nat → Int64) (V : Nat → Nat → Nat → Int32) (X : Nat → Nat → Nat → Int64) (O : Nat → Nat → Nat → Option Nat) (kd : Nat → Nat) (ln : Nat → Nat) (cnt : Nat) (p0 : Nat) (p1 : Int32) (p2 : Nat) (p3 : Int32) (p4 : Int32) (hzLN : LN κ ln) (hk_p0 : κ p0 = 100) (hk_p2 : κ p2 = 100) (hB : LB la cnt P) (hlt_p0 : p0 < cnt) (hlt_p2 : p2 < cnt) : pw (f_X10_same G P U V X O kd ln cnt p0 p1 p2 p3 p4) (QF_X10_same κ wd la G P U V X O kd ln cnt p0 p1 p2 p3 p4) := by
  intro x hx
  have hq := wp_at (fx_X10_same κ wd G P U V X O kd ln cnt p0 p1 p2 p3 p4 hzLN hk_p0 hk_p2) hx
  rcases hq.2 with ⟨h1, h2⟩ | ⟨h1, h2⟩
  · obtain ⟨a1, a2, a3, a4, a5⟩ := h2
    refine ⟨fun _ => ⟨a1, a2, wdl_ext (fun j hj => a5 j ?_)⟩, fun h => absurd h (by omega)⟩
    by_cases q : 0 ≤ p4.toInt
    · have := clampI q
      omega
    · have : Int32.toNatClampNeg p4 = 0 := by show p4.toInt.toNat = 0; omega
      omega
  · refine ⟨fun h => absurd h1 h, fun _ b1 b2 b3 b4 b5 e => h2 ⟨b1, b2, by omega, by omega, fun i hi => ?_⟩⟩
    have c4 := clampI b3
    exact (wdl_inj.mp e).2 i (by omega)
