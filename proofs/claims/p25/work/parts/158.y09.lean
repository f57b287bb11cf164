abbrev QF_X1_standsAt (κ : Nat → Nat) (wd : Nat) (la : Nat → Nat) (G : Nat → Nat → Int32) (P : Nat → Nat → Option Nat) (U : Nat → Nat → Int64) (V : Nat → Nat → Nat → Int32) (X : Nat → Nat → Nat → Int64) (O : Nat → Nat → Nat → Option Nat) (kd : Nat → Nat) (ln : Nat → Nat) (cnt : Nat) (this : Nat) (p0 : Nat) (p1 : Int32) (p2 : Int32) (p3 : Nat) (p4 : Int32) (f0 : Nat) (s0 : Nat) (a0 : Nat) (b0 : Nat) (L : Lw) : (Int32) → Prop := (fun t => ((t.toInt ≠ 0 → lS L (wdl ((V 0) p0) 0 (Int32.toNatClampNeg p2)) (Int32.toNatClampNeg p1) (wdl ((V 0) p3) 0 (Int32.toNatClampNeg p4)))) ∧ ((t.toInt = 0 → ¬ lS L (wdl ((V 0) p0) 0 (Int32.toNatClampNeg p2)) (Int32.toNatClampNeg p1) (wdl ((V 0) p3) 0 (Int32.toNatClampNeg p4)))))
set_option maxHeartbeats 4000000 in
set_option maxRecDepth 100000 in
theorem fn_X1_standsAt (κ : Nat → Nat) (wd : Nat) (la : Nat → Nat) (G : Nat → Nat → Int32) (P : Nat → Nat → Option Nat) (U : Nat → Nat → Int64) (V : Nat → Nat → Nat → Int32) (X : Nat → Nat → Nat → Int64) (O : Nat → Nat → Nat → Option Nat) (kd : Nat → Nat) (ln : Nat → Nat) (cnt : Nat) (this : Nat) (p0 : Nat) (p1 : Int32) (p2 : Int32) (p3 : Nat) (p4 : Int32) (f0 : Nat) (s0 : Nat) (a0 : Nat) (b0 : Nat) (L : Lw) (hzP20 : PB κ ln wd 2 100 0 16 0 (P 20)) (hzP22 : PB κ ln wd 2 100 0 16 0 (P 22)) (hzP23 : PB κ ln wd 2 100 0 16 0 (P 23)) (hzLN : LN κ ln) (hk_this : κ this = 2) (hk_p0 : κ p0 = 100) (hk_p3 : κ p3 = 100) (hp0 : (0 ≤ p1.toInt ∧ p1.toInt ≤ 40)) (hp1 : (0 ≤ p2.toInt ∧ p2.toInt ≤ 40)) (hp2 : (0 ≤ p4.toInt ∧ p4.toInt ≤ 40)) (hB : LB la cnt P) (hlt_this : this < cnt) (hlt_p0 : p0 < cnt) (hlt_p3 : p3 < cnt) (h20 : (P 20) this = some f0) (h21 : (P 21) this = some s0) (h22 : (P 22) this = some a0) (h23 : (P 23) this = some b0) (hL : (wdl ((V 0) f0) 0 (ln f0), wdl ((V 0) s0) 0 (ln s0), wdl ((V 0) a0) 0 (ln a0), wdl ((V 0) b0) 0 (ln b0), (G 24) this, (G 25) this) = L) (hp12 : 0 ≤ p1.toInt ∧ p1.toInt ≤ p2.toInt) (hp2 : p2.toInt ≤ ((ln p0 : Nat) : Int)) (hp4 : 0 ≤ p4.toInt ∧ p4.toInt ≤ ((ln p3 : Nat) : Int)) : pw (f_X1_standsAt G P U V X O kd ln cnt this p0 p1 p2 p3 p4) (QF_X1_standsAt κ wd la G P U V X O kd ln cnt this p0 p1 p2 p3 p4 f0 s0 a0 b0 L) := by
  unfold f_X1_standsAt
  have zk0 : (0 : Int32).toInt = 0 := by decide +kernel
  have zk1 : (1 : Int32).toInt = 1 := by decide +kernel
  have r_p1 := i32r p1
  have r_p2 := i32r p2
  have r_p4 := i32r p4
  have hn1 : (P 20) this = some f0 := h20
  have lt_f02 := ((hB.1 20 fl_20) this f0 hn1).2.1
  have lb_f02 : la f0 = la this + 0 := lk_20.mp ((hB.1 20 fl_20) this f0 hn1).2.2
  have hk_f0 := ((hzP20 this).2 f0 hn1).1
  have hl1_f0 := ((hzP20 this).2 f0 hn1).2.1
  have hl2_f0 := ((hzP20 this).2 f0 hn1).2.2.1
  have hw_f0 := ((hzP20 this).2 f0 hn1).2.2.2
  have hz_f0 : (Int32.ofNat (ln f0)).toInt = ((ln f0 : Nat) : Int) := ofN_eq (by first | exact Nat.le_trans hl2_f0 (by decide) | omega)
  have hn3 : (P 21) this = some s0 := h21
  have lt_s04 := ((hB.1 21 fl_21) this s0 hn3).2.1
  have lb_s04 : la s0 = la this + 0 := lk_21.mp ((hB.1 21 fl_21) this s0 hn3).2.2
  have hn5 : (P 22) this = some a0 := h22
  have lt_a06 := ((hB.1 22 fl_22) this a0 hn5).2.1
  have lb_a06 : la a0 = la this + 0 := lk_22.mp ((hB.1 22 fl_22) this a0 hn5).2.2
  have hk_a0 := ((hzP22 this).2 a0 hn5).1
  have hl1_a0 := ((hzP22 this).2 a0 hn5).2.1
  have hl2_a0 := ((hzP22 this).2 a0 hn5).2.2.1
  have hw_a0 := ((hzP22 this).2 a0 hn5).2.2.2
  have hz_a0 : (Int32.ofNat (ln a0)).toInt = ((ln a0 : Nat) : Int) := ofN_eq (by first | exact Nat.le_trans hl2_a0 (by decide) | omega)
  have hn7 : (P 23) this = some b0 := h23
  have lt_b08 := ((hB.1 23 fl_23) this b0 hn7).2.1
  have lb_b08 : la b0 = la this + 0 := lk_23.mp ((hB.1 23 fl_23) this b0 hn7).2.2
  have hk_b0 := ((hzP23 this).2 b0 hn7).1
  have hl1_b0 := ((hzP23 this).2 b0 hn7).2.1
  have hl2_b0 := ((hzP23 this).2 b0 hn7).2.2.1
  have hw_b0 := ((hzP23 this).2 b0 hn7).2.2.2
  have hz_b0 : (Int32.ofNat (ln b0)).toInt = ((ln b0 : Nat) : Int) := ofN_eq (by first | exact Nat.le_trans hl2_b0 (by decide) | omega)
  have e1 : L.1 = wdl ((V 0) f0) 0 (ln f0) := by rw [← hL]
  have e3 : L.2.2.1 = wdl ((V 0) a0) 0 (ln a0) := by rw [← hL]
  have e4 : L.2.2.2.1 = wdl ((V 0) b0) 0 (ln b0) := by rw [← hL]
  have e5 : L.2.2.2.2.1 = (G 24) this := by rw [← hL]
  have e6 : L.2.2.2.2.2 = (G 25) this := by rw [← hL]
  have n1 : L.1.length = ln f0 := by rw [e1, wdl_len]
  have n3 : L.2.2.1.length = ln a0 := by rw [e3, wdl_len]
  have n4 : L.2.2.2.1.length = ln b0 := by rw [e4, wdl_len]
  have q1 := clampI (x := p1) (by omega)
  have q2 := clampI (x := p2) (by omega)
  have q4 := clampI (x := p4) (by omega)
  have hiff := fun (_ : Unit) => lS_iff (L := L) (f := (V 0) p0) (g := (V 0) p3) (n := Int32.toNatClampNeg p2) (p := Int32.toNatClampNeg p1) (d := Int32.toNatClampNeg p4) (by omega)
  have f9 : (p2 - p1).toInt = p2.toInt - p1.toInt := z_sub (by omega) (by omega)
  refine pw_nne hn1 ?_
  have hzb_f0 := hzLN f0 (by rw [hk_f0]; decide)
  have f10 : ((p2 - p1) - (Int32.ofNat (ln f0))).toInt = (p2 - p1).toInt - (Int32.ofNat (ln f0)).toInt := z_sub (by omega) (by omega)
  refine pw_vl (fun x9 ex9 => ?_)
  have f11 : x9.toInt = ((p2 - p1) - (Int32.ofNat (ln f0))).toInt := congrArg Int32.toInt ex9
  refine pw_jE (fun j40 ej40 => ?_)
  refine pw_ite (fun c13 => ?_) (fun c13 => ?_)
  · have c13 := (z_lt _ _).mp c13
    refine pw_j0 ej40 ?_
    have qq0 : id (((0 : Int32).toInt ≠ 0 → lS L (wdl ((V 0) p0) 0 (Int32.toNatClampNeg p2)) (Int32.toNatClampNeg p1) (wdl ((V 0) p3) 0 (Int32.toNatClampNeg p4)))) := show ((0 : Int32).toInt ≠ 0 → lS L (wdl ((V 0) p0) 0 (Int32.toNatClampNeg p2)) (Int32.toNatClampNeg p1) (wdl ((V 0) p3) 0 (Int32.toNatClampNeg p4))) from by intro h; omega
    have qq1 : id (((0 : Int32).toInt = 0 → ¬ lS L (wdl ((V 0) p0) 0 (Int32.toNatClampNeg p2)) (Int32.toNatClampNeg p1) (wdl ((V 0) p3) 0 (Int32.toNatClampNeg p4)))) := show ((0 : Int32).toInt = 0 → ¬ lS L (wdl ((V 0) p0) 0 (Int32.toNatClampNeg p2)) (Int32.toNatClampNeg p1) (wdl ((V 0) p3) 0 (Int32.toNatClampNeg p4))) from by intro _ h; obtain ⟨⟨k1, j1⟩, k2, k3, ⟨k4, j4⟩, ⟨k5, j5⟩⟩ := (hiff ()).mp h; omega
    exact pw_some ⟨qq0, qq1⟩
  · have c13 := z_nlt c13
    refine pw_jE (fun j28 ej28 => ?_)
    refine pw_ite (fun c20 => ?_) (fun c20 => ?_)
    · have c20 := congrArg Int32.toInt c20
      refine pw_j0 ej28 ?_
      refine pw_jE (fun j42 ej42 => ?_)
      refine pw_ite (fun c32 => ?_) (fun c32 => ?_)
      · have c32 := congrArg Int32.toInt c32
        refine pw_j0 ej42 ?_
        refine pw_nne hn5 ?_
        have hzb_a0 := hzLN a0 (by rw [hk_a0]; decide)
        refine pw_jE (fun j62 ej62 => ?_)
        refine pw_ite (fun c49 => ?_) (fun c49 => ?_)
        · have c49 := (z_lt _ _).mp c49
          refine pw_j0 ej62 ?_
          have qq0 : id (((0 : Int32).toInt ≠ 0 → lS L (wdl ((V 0) p0) 0 (Int32.toNatClampNeg p2)) (Int32.toNatClampNeg p1) (wdl ((V 0) p3) 0 (Int32.toNatClampNeg p4)))) := show ((0 : Int32).toInt ≠ 0 → lS L (wdl ((V 0) p0) 0 (Int32.toNatClampNeg p2)) (Int32.toNatClampNeg p1) (wdl ((V 0) p3) 0 (Int32.toNatClampNeg p4))) from by intro h; omega
          have qq1 : id (((0 : Int32).toInt = 0 → ¬ lS L (wdl ((V 0) p0) 0 (Int32.toNatClampNeg p2)) (Int32.toNatClampNeg p1) (wdl ((V 0) p3) 0 (Int32.toNatClampNeg p4)))) := show ((0 : Int32).toInt = 0 → ¬ lS L (wdl ((V 0) p0) 0 (Int32.toNatClampNeg p2)) (Int32.toNatClampNeg p1) (wdl ((V 0) p3) 0 (Int32.toNatClampNeg p4))) from by intro _ h; obtain ⟨⟨k1, j1⟩, k2, k3, ⟨k4, j4⟩, ⟨k5, j5⟩⟩ := (hiff ()).mp h; omega
          exact pw_some ⟨qq0, qq1⟩
        · have c49 := z_nlt c49
          refine pw_nne hn7 ?_
          have hzb_b0 := hzLN b0 (by rw [hk_b0]; decide)
          refine pw_ite (fun c59 => ?_) (fun c59 => ?_)
          · have c59 := (z_le _ _).mp c59
            refine pw_nne hn1 ?_
            refine pw_nne hn1 ?_
            refine pw_b1 (fun r76 hc76 => ?_)
            have hq76 := wp_at (ok_X10_same κ wd G P U V X O kd ln cnt f0 (0 : Int32) p0 p1 (Int32.ofNat (ln f0)) hzLN hk_f0 hk_p0) hc76
            have f12 : (0 ≤ r76.toInt ∧ r76.toInt ≤ 1) := hq76
            clear hq76
            have hx76 := pwq (fn_X10_same κ wd la G P U V X O kd ln cnt f0 (0 : Int32) p0 p1 (Int32.ofNat (ln f0)) hzLN hk_f0 hk_p0 hB lt_f02 hlt_p0) hc76
            obtain ⟨p76_0, p76_1⟩ : (id ((r76.toInt ≠ 0 → 0 ≤ (0 : Int32).toInt ∧ 0 ≤ p1.toInt ∧ wdl ((V 0) f0) (Int32.toNatClampNeg (0 : Int32)) (Int32.toNatClampNeg (Int32.ofNat (ln f0))) = wdl ((V 0) p0) (Int32.toNatClampNeg p1) (Int32.toNatClampNeg (Int32.ofNat (ln f0)))))) ∧ (id ((r76.toInt = 0 → 0 ≤ (0 : Int32).toInt → 0 ≤ p1.toInt → 0 ≤ (Int32.ofNat (ln f0)).toInt → (0 : Int32).toInt + (Int32.ofNat (ln f0)).toInt ≤ ((ln f0 : Nat) : Int) → p1.toInt + (Int32.ofNat (ln f0)).toInt ≤ ((ln p0 : Nat) : Int) → wdl ((V 0) f0) (Int32.toNatClampNeg (0 : Int32)) (Int32.toNatClampNeg (Int32.ofNat (ln f0))) ≠ wdl ((V 0) p0) (Int32.toNatClampNeg p1) (Int32.toNatClampNeg (Int32.ofNat (ln f0)))))) := hx76
            have w76 : Int32.toNatClampNeg (Int32.ofNat (ln f0)) = ln f0 := by have z := clampI (x := Int32.ofNat (ln f0)) (by omega); omega
            rw [w76, show Int32.toNatClampNeg (0 : Int32) = 0 from rfl] at p76_0 p76_1
            refine pw_jE (fun j137 ej137 => ?_)
            refine pw_jE (fun j136 ej136 => ?_)
            refine pw_ite (fun c79 => ?_) (fun c79 => ?_)
            · have c79 := congrArg Int32.toInt c79
              refine pw_j0 ej136 ?_
              refine pw_j1 ej137 (fun t137_0 et137_0 => ?_)
              have et137_0 := et137_0.symm
              have f_t137_0 : t137_0.toInt = 0 := by rw [et137_0]; decide +kernel
              refine pw_if (fun hb137 => ?_)
              obtain ⟨hbl137, hbr137⟩ := hb137
              have qq0 : id ((t137_0.toInt ≠ 0 → lS L (wdl ((V 0) p0) 0 (Int32.toNatClampNeg p2)) (Int32.toNatClampNeg p1) (wdl ((V 0) p3) 0 (Int32.toNatClampNeg p4)))) := show (t137_0.toInt ≠ 0 → lS L (wdl ((V 0) p0) 0 (Int32.toNatClampNeg p2)) (Int32.toNatClampNeg p1) (wdl ((V 0) p3) 0 (Int32.toNatClampNeg p4))) from by intro h; omega
              have qq1 : id ((t137_0.toInt = 0 → ¬ lS L (wdl ((V 0) p0) 0 (Int32.toNatClampNeg p2)) (Int32.toNatClampNeg p1) (wdl ((V 0) p3) 0 (Int32.toNatClampNeg p4)))) := show (t137_0.toInt = 0 → ¬ lS L (wdl ((V 0) p0) 0 (Int32.toNatClampNeg p2)) (Int32.toNatClampNeg p1) (wdl ((V 0) p3) 0 (Int32.toNatClampNeg p4))) from by intro _ h; obtain ⟨⟨k1, j1⟩, k2, k3, ⟨k4, j4⟩, ⟨k5, j5⟩⟩ := (hiff ()).mp h; rw [n1, e1] at j1; exact p76_1 (by omega) (by omega) (by omega) (by omega) (by omega) (by omega) j1.symm
              exact pw_some ⟨qq0, qq1⟩
            · have c79 : r76.toInt = 1 := by have z9 := z_ne c79; omega
              refine pw_nne hn5 ?_
              refine pw_nne hn5 ?_
              have f13 : (p4 - (Int32.ofNat (ln a0))).toInt = p4.toInt - (Int32.ofNat (ln a0)).toInt := z_sub (by omega) (by omega)
              refine pw_nne hn5 ?_
              refine pw_b1 (fun r102 hc102 => ?_)
              have hq102 := wp_at (ok_X10_same κ wd G P U V X O kd ln cnt a0 (0 : Int32) p3 (p4 - (Int32.ofNat (ln a0))) (Int32.ofNat (ln a0)) hzLN hk_a0 hk_p3) hc102
              have f14 : (0 ≤ r102.toInt ∧ r102.toInt ≤ 1) := hq102
              clear hq102
              have hx102 := pwq (fn_X10_same κ wd la G P U V X O kd ln cnt a0 (0 : Int32) p3 (p4 - (Int32.ofNat (ln a0))) (Int32.ofNat (ln a0)) hzLN hk_a0 hk_p3 hB lt_a06 hlt_p3) hc102
              obtain ⟨p102_0, p102_1⟩ : (id ((r102.toInt ≠ 0 → 0 ≤ (0 : Int32).toInt ∧ 0 ≤ (p4 - (Int32.ofNat (ln a0))).toInt ∧ wdl ((V 0) a0) (Int32.toNatClampNeg (0 : Int32)) (Int32.toNatClampNeg (Int32.ofNat (ln a0))) = wdl ((V 0) p3) (Int32.toNatClampNeg (p4 - (Int32.ofNat (ln a0)))) (Int32.toNatClampNeg (Int32.ofNat (ln a0)))))) ∧ (id ((r102.toInt = 0 → 0 ≤ (0 : Int32).toInt → 0 ≤ (p4 - (Int32.ofNat (ln a0))).toInt → 0 ≤ (Int32.ofNat (ln a0)).toInt → (0 : Int32).toInt + (Int32.ofNat (ln a0)).toInt ≤ ((ln a0 : Nat) : Int) → (p4 - (Int32.ofNat (ln a0))).toInt + (Int32.ofNat (ln a0)).toInt ≤ ((ln p3 : Nat) : Int) → wdl ((V 0) a0) (Int32.toNatClampNeg (0 : Int32)) (Int32.toNatClampNeg (Int32.ofNat (ln a0))) ≠ wdl ((V 0) p3) (Int32.toNatClampNeg (p4 - (Int32.ofNat (ln a0)))) (Int32.toNatClampNeg (Int32.ofNat (ln a0)))))) := hx102
              have w102 : Int32.toNatClampNeg (Int32.ofNat (ln a0)) = ln a0 := by have z := clampI (x := Int32.ofNat (ln a0)) (by omega); omega
              have u102 : Int32.toNatClampNeg (p4 - (Int32.ofNat (ln a0))) = Int32.toNatClampNeg p4 - ln a0 := by have z := clampI (x := p4 - (Int32.ofNat (ln a0))) (by omega); omega
              rw [w102, u102, show Int32.toNatClampNeg (0 : Int32) = 0 from rfl] at p102_0 p102_1
              refine pw_ite (fun c105 => ?_) (fun c105 => ?_)
              · have c105 := congrArg Int32.toInt c105
                refine pw_j0 ej136 ?_
                refine pw_j1 ej137 (fun t137_0 et137_0 => ?_)
                have et137_0 := et137_0.symm
                have f_t137_0 : t137_0.toInt = 0 := by rw [et137_0]; decide +kernel
                refine pw_if (fun hb137 => ?_)
                obtain ⟨hbl137, hbr137⟩ := hb137
                have qq0 : id ((t137_0.toInt ≠ 0 → lS L (wdl ((V 0) p0) 0 (Int32.toNatClampNeg p2)) (Int32.toNatClampNeg p1) (wdl ((V 0) p3) 0 (Int32.toNatClampNeg p4)))) := show (t137_0.toInt ≠ 0 → lS L (wdl ((V 0) p0) 0 (Int32.toNatClampNeg p2)) (Int32.toNatClampNeg p1) (wdl ((V 0) p3) 0 (Int32.toNatClampNeg p4))) from by intro h; omega
                have qq1 : id ((t137_0.toInt = 0 → ¬ lS L (wdl ((V 0) p0) 0 (Int32.toNatClampNeg p2)) (Int32.toNatClampNeg p1) (wdl ((V 0) p3) 0 (Int32.toNatClampNeg p4)))) := show (t137_0.toInt = 0 → ¬ lS L (wdl ((V 0) p0) 0 (Int32.toNatClampNeg p2)) (Int32.toNatClampNeg p1) (wdl ((V 0) p3) 0 (Int32.toNatClampNeg p4))) from by intro _ h; obtain ⟨⟨k1, j1⟩, k2, k3, ⟨k4, j4⟩, ⟨k5, j5⟩⟩ := (hiff ()).mp h; rw [n3, e3] at j4; exact p102_1 (by omega) (by omega) (by omega) (by omega) (by omega) (by omega) j4.symm
                exact pw_some ⟨qq0, qq1⟩
              · have c105 : r102.toInt = 1 := by have z9 := z_ne c105; omega
                refine pw_nne hn7 ?_
                refine pw_nne hn1 ?_
                have f15 : (p1 + (Int32.ofNat (ln f0))).toInt = p1.toInt + (Int32.ofNat (ln f0)).toInt := z_add (by omega) (by omega)
                refine pw_nne hn7 ?_
                refine pw_b1 (fun r126 hc126 => ?_)
                have hq126 := wp_at (ok_X10_same κ wd G P U V X O kd ln cnt b0 (0 : Int32) p0 (p1 + (Int32.ofNat (ln f0))) (Int32.ofNat (ln b0)) hzLN hk_b0 hk_p0) hc126
                have f16 : (0 ≤ r126.toInt ∧ r126.toInt ≤ 1) := hq126
                clear hq126
                have hx126 := pwq (fn_X10_same κ wd la G P U V X O kd ln cnt b0 (0 : Int32) p0 (p1 + (Int32.ofNat (ln f0))) (Int32.ofNat (ln b0)) hzLN hk_b0 hk_p0 hB lt_b08 hlt_p0) hc126
                obtain ⟨p126_0, p126_1⟩ : (id ((r126.toInt ≠ 0 → 0 ≤ (0 : Int32).toInt ∧ 0 ≤ (p1 + (Int32.ofNat (ln f0))).toInt ∧ wdl ((V 0) b0) (Int32.toNatClampNeg (0 : Int32)) (Int32.toNatClampNeg (Int32.ofNat (ln b0))) = wdl ((V 0) p0) (Int32.toNatClampNeg (p1 + (Int32.ofNat (ln f0)))) (Int32.toNatClampNeg (Int32.ofNat (ln b0)))))) ∧ (id ((r126.toInt = 0 → 0 ≤ (0 : Int32).toInt → 0 ≤ (p1 + (Int32.ofNat (ln f0))).toInt → 0 ≤ (Int32.ofNat (ln b0)).toInt → (0 : Int32).toInt + (Int32.ofNat (ln b0)).toInt ≤ ((ln b0 : Nat) : Int) → (p1 + (Int32.ofNat (ln f0))).toInt + (Int32.ofNat (ln b0)).toInt ≤ ((ln p0 : Nat) : Int) → wdl ((V 0) b0) (Int32.toNatClampNeg (0 : Int32)) (Int32.toNatClampNeg (Int32.ofNat (ln b0))) ≠ wdl ((V 0) p0) (Int32.toNatClampNeg (p1 + (Int32.ofNat (ln f0)))) (Int32.toNatClampNeg (Int32.ofNat (ln b0)))))) := hx126
                have w126 : Int32.toNatClampNeg (Int32.ofNat (ln b0)) = ln b0 := by have z := clampI (x := Int32.ofNat (ln b0)) (by omega); omega
                have u126 : Int32.toNatClampNeg (p1 + (Int32.ofNat (ln f0))) = Int32.toNatClampNeg p1 + ln f0 := by have z := clampI (x := p1 + (Int32.ofNat (ln f0))) (by omega); omega
                rw [w126, u126, show Int32.toNatClampNeg (0 : Int32) = 0 from rfl] at p126_0 p126_1
                refine pw_ite (fun c129 => ?_) (fun c129 => ?_)
                · have c129 := congrArg Int32.toInt c129
                  refine pw_j0 ej136 ?_
                  refine pw_j1 ej137 (fun t137_0 et137_0 => ?_)
                  have et137_0 := et137_0.symm
                  have f_t137_0 : t137_0.toInt = 0 := by rw [et137_0]; decide +kernel
                  refine pw_if (fun hb137 => ?_)
                  obtain ⟨hbl137, hbr137⟩ := hb137
                  have qq0 : id ((t137_0.toInt ≠ 0 → lS L (wdl ((V 0) p0) 0 (Int32.toNatClampNeg p2)) (Int32.toNatClampNeg p1) (wdl ((V 0) p3) 0 (Int32.toNatClampNeg p4)))) := show (t137_0.toInt ≠ 0 → lS L (wdl ((V 0) p0) 0 (Int32.toNatClampNeg p2)) (Int32.toNatClampNeg p1) (wdl ((V 0) p3) 0 (Int32.toNatClampNeg p4))) from by intro h; omega
                  have qq1 : id ((t137_0.toInt = 0 → ¬ lS L (wdl ((V 0) p0) 0 (Int32.toNatClampNeg p2)) (Int32.toNatClampNeg p1) (wdl ((V 0) p3) 0 (Int32.toNatClampNeg p4)))) := show (t137_0.toInt = 0 → ¬ lS L (wdl ((V 0) p0) 0 (Int32.toNatClampNeg p2)) (Int32.toNatClampNeg p1) (wdl ((V 0) p3) 0 (Int32.toNatClampNeg p4))) from by intro _ h; obtain ⟨⟨k1, j1⟩, k2, k3, ⟨k4, j4⟩, ⟨k5, j5⟩⟩ := (hiff ()).mp h; rw [n1, n4, e4] at j5; exact p126_1 (by omega) (by omega) (by omega) (by omega) (by omega) (by omega) j5.symm
                  exact pw_some ⟨qq0, qq1⟩
                · have c129 : r126.toInt = 1 := by have z9 := z_ne c129; omega
                  refine pw_j1 ej137 (fun t137_0 et137_0 => ?_)
                  have et137_0 := et137_0.symm
                  have f_t137_0 : t137_0.toInt = 1 := by rw [et137_0]; decide +kernel
                  refine pw_if (fun hb137 => ?_)
                  obtain ⟨hbl137, hbr137⟩ := hb137
                  have qq0 : id ((t137_0.toInt ≠ 0 → lS L (wdl ((V 0) p0) 0 (Int32.toNatClampNeg p2)) (Int32.toNatClampNeg p1) (wdl ((V 0) p3) 0 (Int32.toNatClampNeg p4)))) := show (t137_0.toInt ≠ 0 → lS L (wdl ((V 0) p0) 0 (Int32.toNatClampNeg p2)) (Int32.toNatClampNeg p1) (wdl ((V 0) p3) 0 (Int32.toNatClampNeg p4))) from by intro _; exact (hiff ()).mpr ⟨⟨by omega, by rw [n1, e1]; exact (p76_0 (by omega)).2.2.symm⟩, fun q => (by first | omega | exact absurd (z_e (by rw [e5]; omega)) q), fun q => (by first | omega | exact absurd (z_e (by rw [e6]; omega)) q), ⟨by omega, by rw [n3, e3]; exact (p102_0 (by omega)).2.2.symm⟩, ⟨by omega, by rw [n1, n4, e4]; exact (p126_0 (by omega)).2.2.symm⟩⟩
                  have qq1 : id ((t137_0.toInt = 0 → ¬ lS L (wdl ((V 0) p0) 0 (Int32.toNatClampNeg p2)) (Int32.toNatClampNeg p1) (wdl ((V 0) p3) 0 (Int32.toNatClampNeg p4)))) := show (t137_0.toInt = 0 → ¬ lS L (wdl ((V 0) p0) 0 (Int32.toNatClampNeg p2)) (Int32.toNatClampNeg p1) (wdl ((V 0) p3) 0 (Int32.toNatClampNeg p4))) from by intro h; omega
                  exact pw_some ⟨qq0, qq1⟩
          · have c59 := z_nle c59
            refine pw_j0 ej62 ?_
            have qq0 : id (((0 : Int32).toInt ≠ 0 → lS L (wdl ((V 0) p0) 0 (Int32.toNatClampNeg p2)) (Int32.toNatClampNeg p1) (wdl ((V 0) p3) 0 (Int32.toNatClampNeg p4)))) := show ((0 : Int32).toInt ≠ 0 → lS L (wdl ((V 0) p0) 0 (Int32.toNatClampNeg p2)) (Int32.toNatClampNeg p1) (wdl ((V 0) p3) 0 (Int32.toNatClampNeg p4))) from by intro h; omega
            have qq1 : id (((0 : Int32).toInt = 0 → ¬ lS L (wdl ((V 0) p0) 0 (Int32.toNatClampNeg p2)) (Int32.toNatClampNeg p1) (wdl ((V 0) p3) 0 (Int32.toNatClampNeg p4)))) := show ((0 : Int32).toInt = 0 → ¬ lS L (wdl ((V 0) p0) 0 (Int32.toNatClampNeg p2)) (Int32.toNatClampNeg p1) (wdl ((V 0) p3) 0 (Int32.toNatClampNeg p4))) from by intro _ h; obtain ⟨⟨k1, j1⟩, k2, k3, ⟨k4, j4⟩, ⟨k5, j5⟩⟩ := (hiff ()).mp h; omega
            exact pw_some ⟨qq0, qq1⟩
      · have c32 := z_ne c32
        refine pw_ite (fun c37 => ?_) (fun c37 => ?_)
        · have c37 := (z_le _ _).mp c37
          refine pw_j0 ej42 ?_
          refine pw_nne hn5 ?_
          have hzb_a0 := hzLN a0 (by rw [hk_a0]; decide)
          refine pw_jE (fun j62 ej62 => ?_)
          refine pw_ite (fun c49 => ?_) (fun c49 => ?_)
          · have c49 := (z_lt _ _).mp c49
            refine pw_j0 ej62 ?_
            have qq0 : id (((0 : Int32).toInt ≠ 0 → lS L (wdl ((V 0) p0) 0 (Int32.toNatClampNeg p2)) (Int32.toNatClampNeg p1) (wdl ((V 0) p3) 0 (Int32.toNatClampNeg p4)))) := show ((0 : Int32).toInt ≠ 0 → lS L (wdl ((V 0) p0) 0 (Int32.toNatClampNeg p2)) (Int32.toNatClampNeg p1) (wdl ((V 0) p3) 0 (Int32.toNatClampNeg p4))) from by intro h; omega
            have qq1 : id (((0 : Int32).toInt = 0 → ¬ lS L (wdl ((V 0) p0) 0 (Int32.toNatClampNeg p2)) (Int32.toNatClampNeg p1) (wdl ((V 0) p3) 0 (Int32.toNatClampNeg p4)))) := show ((0 : Int32).toInt = 0 → ¬ lS L (wdl ((V 0) p0) 0 (Int32.toNatClampNeg p2)) (Int32.toNatClampNeg p1) (wdl ((V 0) p3) 0 (Int32.toNatClampNeg p4))) from by intro _ h; obtain ⟨⟨k1, j1⟩, k2, k3, ⟨k4, j4⟩, ⟨k5, j5⟩⟩ := (hiff ()).mp h; omega
            exact pw_some ⟨qq0, qq1⟩
          · have c49 := z_nlt c49
            refine pw_nne hn7 ?_
            have hzb_b0 := hzLN b0 (by rw [hk_b0]; decide)
            refine pw_ite (fun c59 => ?_) (fun c59 => ?_)
            · have c59 := (z_le _ _).mp c59
              refine pw_nne hn1 ?_
              refine pw_nne hn1 ?_
              refine pw_b1 (fun r76 hc76 => ?_)
              have hq76 := wp_at (ok_X10_same κ wd G P U V X O kd ln cnt f0 (0 : Int32) p0 p1 (Int32.ofNat (ln f0)) hzLN hk_f0 hk_p0) hc76
              have f17 : (0 ≤ r76.toInt ∧ r76.toInt ≤ 1) := hq76
              clear hq76
              have hx76 := pwq (fn_X10_same κ wd la G P U V X O kd ln cnt f0 (0 : Int32) p0 p1 (Int32.ofNat (ln f0)) hzLN hk_f0 hk_p0 hB lt_f02 hlt_p0) hc76
              obtain ⟨p76_0, p76_1⟩ : (id ((r76.toInt ≠ 0 → 0 ≤ (0 : Int32).toInt ∧ 0 ≤ p1.toInt ∧ wdl ((V 0) f0) (Int32.toNatClampNeg (0 : Int32)) (Int32.toNatClampNeg (Int32.ofNat (ln f0))) = wdl ((V 0) p0) (Int32.toNatClampNeg p1) (Int32.toNatClampNeg (Int32.ofNat (ln f0)))))) ∧ (id ((r76.toInt = 0 → 0 ≤ (0 : Int32).toInt → 0 ≤ p1.toInt → 0 ≤ (Int32.ofNat (ln f0)).toInt → (0 : Int32).toInt + (Int32.ofNat (ln f0)).toInt ≤ ((ln f0 : Nat) : Int) → p1.toInt + (Int32.ofNat (ln f0)).toInt ≤ ((ln p0 : Nat) : Int) → wdl ((V 0) f0) (Int32.toNatClampNeg (0 : Int32)) (Int32.toNatClampNeg (Int32.ofNat (ln f0))) ≠ wdl ((V 0) p0) (Int32.toNatClampNeg p1) (Int32.toNatClampNeg (Int32.ofNat (ln f0)))))) := hx76
              have w76 : Int32.toNatClampNeg (Int32.ofNat (ln f0)) = ln f0 := by have z := clampI (x := Int32.ofNat (ln f0)) (by omega); omega
              rw [w76, show Int32.toNatClampNeg (0 : Int32) = 0 from rfl] at p76_0 p76_1
              refine pw_jE (fun j137 ej137 => ?_)
              refine pw_jE (fun j136 ej136 => ?_)
              refine pw_ite (fun c79 => ?_) (fun c79 => ?_)
              · have c79 := congrArg Int32.toInt c79
                refine pw_j0 ej136 ?_
                refine pw_j1 ej137 (fun t137_0 et137_0 => ?_)
                have et137_0 := et137_0.symm
                have f_t137_0 : t137_0.toInt = 0 := by rw [et137_0]; decide +kernel
                refine pw_if (fun hb137 => ?_)
                obtain ⟨hbl137, hbr137⟩ := hb137
                have qq0 : id ((t137_0.toInt ≠ 0 → lS L (wdl ((V 0) p0) 0 (Int32.toNatClampNeg p2)) (Int32.toNatClampNeg p1) (wdl ((V 0) p3) 0 (Int32.toNatClampNeg p4)))) := show (t137_0.toInt ≠ 0 → lS L (wdl ((V 0) p0) 0 (Int32.toNatClampNeg p2)) (Int32.toNatClampNeg p1) (wdl ((V 0) p3) 0 (Int32.toNatClampNeg p4))) from by intro h; omega
                have qq1 : id ((t137_0.toInt = 0 → ¬ lS L (wdl ((V 0) p0) 0 (Int32.toNatClampNeg p2)) (Int32.toNatClampNeg p1) (wdl ((V 0) p3) 0 (Int32.toNatClampNeg p4)))) := show (t137_0.toInt = 0 → ¬ lS L (wdl ((V 0) p0) 0 (Int32.toNatClampNeg p2)) (Int32.toNatClampNeg p1) (wdl ((V 0) p3) 0 (Int32.toNatClampNeg p4))) from by intro _ h; obtain ⟨⟨k1, j1⟩, k2, k3, ⟨k4, j4⟩, ⟨k5, j5⟩⟩ := (hiff ()).mp h; rw [n1, e1] at j1; exact p76_1 (by omega) (by omega) (by omega) (by omega) (by omega) (by omega) j1.symm
                exact pw_some ⟨qq0, qq1⟩
              · have c79 : r76.toInt = 1 := by have z9 := z_ne c79; omega
                refine pw_nne hn5 ?_
                refine pw_nne hn5 ?_
                have f18 : (p4 - (Int32.ofNat (ln a0))).toInt = p4.toInt - (Int32.ofNat (ln a0)).toInt := z_sub (by omega) (by omega)
                refine pw_nne hn5 ?_
                refine pw_b1 (fun r102 hc102 => ?_)
                have hq102 := wp_at (ok_X10_same κ wd G P U V X O kd ln cnt a0 (0 : Int32) p3 (p4 - (Int32.ofNat (ln a0))) (Int32.ofNat (ln a0)) hzLN hk_a0 hk_p3) hc102
                have f19 : (0 ≤ r102.toInt ∧ r102.toInt ≤ 1) := hq102
                clear hq102
                have hx102 := pwq (fn_X10_same κ wd la G P U V X O kd ln cnt a0 (0 : Int32) p3 (p4 - (Int32.ofNat (ln a0))) (Int32.ofNat (ln a0)) hzLN hk_a0 hk_p3 hB lt_a06 hlt_p3) hc102
                obtain ⟨p102_0, p102_1⟩ : (id ((r102.toInt ≠ 0 → 0 ≤ (0 : Int32).toInt ∧ 0 ≤ (p4 - (Int32.ofNat (ln a0))).toInt ∧ wdl ((V 0) a0) (Int32.toNatClampNeg (0 : Int32)) (Int32.toNatClampNeg (Int32.ofNat (ln a0))) = wdl ((V 0) p3) (Int32.toNatClampNeg (p4 - (Int32.ofNat (ln a0)))) (Int32.toNatClampNeg (Int32.ofNat (ln a0)))))) ∧ (id ((r102.toInt = 0 → 0 ≤ (0 : Int32).toInt → 0 ≤ (p4 - (Int32.ofNat (ln a0))).toInt → 0 ≤ (Int32.ofNat (ln a0)).toInt → (0 : Int32).toInt + (Int32.ofNat (ln a0)).toInt ≤ ((ln a0 : Nat) : Int) → (p4 - (Int32.ofNat (ln a0))).toInt + (Int32.ofNat (ln a0)).toInt ≤ ((ln p3 : Nat) : Int) → wdl ((V 0) a0) (Int32.toNatClampNeg (0 : Int32)) (Int32.toNatClampNeg (Int32.ofNat (ln a0))) ≠ wdl ((V 0) p3) (Int32.toNatClampNeg (p4 - (Int32.ofNat (ln a0)))) (Int32.toNatClampNeg (Int32.ofNat (ln a0)))))) := hx102
                have w102 : Int32.toNatClampNeg (Int32.ofNat (ln a0)) = ln a0 := by have z := clampI (x := Int32.ofNat (ln a0)) (by omega); omega
                have u102 : Int32.toNatClampNeg (p4 - (Int32.ofNat (ln a0))) = Int32.toNatClampNeg p4 - ln a0 := by have z := clampI (x := p4 - (Int32.ofNat (ln a0))) (by omega); omega
                rw [w102, u102, show Int32.toNatClampNeg (0 : Int32) = 0 from rfl] at p102_0 p102_1
                refine pw_ite (fun c105 => ?_) (fun c105 => ?_)
                · have c105 := congrArg Int32.toInt c105
                  refine pw_j0 ej136 ?_
                  refine pw_j1 ej137 (fun t137_0 et137_0 => ?_)
                  have et137_0 := et137_0.symm
                  have f_t137_0 : t137_0.toInt = 0 := by rw [et137_0]; decide +kernel
                  refine pw_if (fun hb137 => ?_)
                  obtain ⟨hbl137, hbr137⟩ := hb137
                  have qq0 : id ((t137_0.toInt ≠ 0 → lS L (wdl ((V 0) p0) 0 (Int32.toNatClampNeg p2)) (Int32.toNatClampNeg p1) (wdl ((V 0) p3) 0 (Int32.toNatClampNeg p4)))) := show (t137_0.toInt ≠ 0 → lS L (wdl ((V 0) p0) 0 (Int32.toNatClampNeg p2)) (Int32.toNatClampNeg p1) (wdl ((V 0) p3) 0 (Int32.toNatClampNeg p4))) from by intro h; omega
                  have qq1 : id ((t137_0.toInt = 0 → ¬ lS L (wdl ((V 0) p0) 0 (Int32.toNatClampNeg p2)) (Int32.toNatClampNeg p1) (wdl ((V 0) p3) 0 (Int32.toNatClampNeg p4)))) := show (t137_0.toInt = 0 → ¬ lS L (wdl ((V 0) p0) 0 (Int32.toNatClampNeg p2)) (Int32.toNatClampNeg p1) (wdl ((V 0) p3) 0 (Int32.toNatClampNeg p4))) from by intro _ h; obtain ⟨⟨k1, j1⟩, k2, k3, ⟨k4, j4⟩, ⟨k5, j5⟩⟩ := (hiff ()).mp h; rw [n3, e3] at j4; exact p102_1 (by omega) (by omega) (by omega) (by omega) (by omega) (by omega) j4.symm
                  exact pw_some ⟨qq0, qq1⟩
                · have c105 : r102.toInt = 1 := by have z9 := z_ne c105; omega
                  refine pw_nne hn7 ?_
                  refine pw_nne hn1 ?_
                  have f20 : (p1 + (Int32.ofNat (ln f0))).toInt = p1.toInt + (Int32.ofNat (ln f0)).toInt := z_add (by omega) (by omega)
                  refine pw_nne hn7 ?_
                  refine pw_b1 (fun r126 hc126 => ?_)
                  have hq126 := wp_at (ok_X10_same κ wd G P U V X O kd ln cnt b0 (0 : Int32) p0 (p1 + (Int32.ofNat (ln f0))) (Int32.ofNat (ln b0)) hzLN hk_b0 hk_p0) hc126
                  have f21 : (0 ≤ r126.toInt ∧ r126.toInt ≤ 1) := hq126
                  clear hq126
                  have hx126 := pwq (fn_X10_same κ wd la G P U V X O kd ln cnt b0 (0 : Int32) p0 (p1 + (Int32.ofNat (ln f0))) (Int32.ofNat (ln b0)) hzLN hk_b0 hk_p0 hB lt_b08 hlt_p0) hc126
                  obtain ⟨p126_0, p126_1⟩ : (id ((r126.toInt ≠ 0 → 0 ≤ (0 : Int32).toInt ∧ 0 ≤ (p1 + (Int32.ofNat (ln f0))).toInt ∧ wdl ((V 0) b0) (Int32.toNatClampNeg (0 : Int32)) (Int32.toNatClampNeg (Int32.ofNat (ln b0))) = wdl ((V 0) p0) (Int32.toNatClampNeg (p1 + (Int32.ofNat (ln f0)))) (Int32.toNatClampNeg (Int32.ofNat (ln b0)))))) ∧ (id ((r126.toInt = 0 → 0 ≤ (0 : Int32).toInt → 0 ≤ (p1 + (Int32.ofNat (ln f0))).toInt → 0 ≤ (Int32.ofNat (ln b0)).toInt → (0 : Int32).toInt + (Int32.ofNat (ln b0)).toInt ≤ ((ln b0 : Nat) : Int) → (p1 + (Int32.ofNat (ln f0))).toInt + (Int32.ofNat (ln b0)).toInt ≤ ((ln p0 : Nat) : Int) → wdl ((V 0) b0) (Int32.toNatClampNeg (0 : Int32)) (Int32.toNatClampNeg (Int32.ofNat (ln b0))) ≠ wdl ((V 0) p0) (Int32.toNatClampNeg (p1 + (Int32.ofNat (ln f0)))) (Int32.toNatClampNeg (Int32.ofNat (ln b0)))))) := hx126
                  have w126 : Int32.toNatClampNeg (Int32.ofNat (ln b0)) = ln b0 := by have z := clampI (x := Int32.ofNat (ln b0)) (by omega); omega
                  have u126 : Int32.toNatClampNeg (p1 + (Int32.ofNat (ln f0))) = Int32.toNatClampNeg p1 + ln f0 := by have z := clampI (x := p1 + (Int32.ofNat (ln f0))) (by omega); omega
                  rw [w126, u126, show Int32.toNatClampNeg (0 : Int32) = 0 from rfl] at p126_0 p126_1
                  refine pw_ite (fun c129 => ?_) (fun c129 => ?_)
                  · have c129 := congrArg Int32.toInt c129
                    refine pw_j0 ej136 ?_
                    refine pw_j1 ej137 (fun t137_0 et137_0 => ?_)
                    have et137_0 := et137_0.symm
                    have f_t137_0 : t137_0.toInt = 0 := by rw [et137_0]; decide +kernel
                    refine pw_if (fun hb137 => ?_)
                    obtain ⟨hbl137, hbr137⟩ := hb137
                    have qq0 : id ((t137_0.toInt ≠ 0 → lS L (wdl ((V 0) p0) 0 (Int32.toNatClampNeg p2)) (Int32.toNatClampNeg p1) (wdl ((V 0) p3) 0 (Int32.toNatClampNeg p4)))) := show (t137_0.toInt ≠ 0 → lS L (wdl ((V 0) p0) 0 (Int32.toNatClampNeg p2)) (Int32.toNatClampNeg p1) (wdl ((V 0) p3) 0 (Int32.toNatClampNeg p4))) from by intro h; omega
                    have qq1 : id ((t137_0.toInt = 0 → ¬ lS L (wdl ((V 0) p0) 0 (Int32.toNatClampNeg p2)) (Int32.toNatClampNeg p1) (wdl ((V 0) p3) 0 (Int32.toNatClampNeg p4)))) := show (t137_0.toInt = 0 → ¬ lS L (wdl ((V 0) p0) 0 (Int32.toNatClampNeg p2)) (Int32.toNatClampNeg p1) (wdl ((V 0) p3) 0 (Int32.toNatClampNeg p4))) from by intro _ h; obtain ⟨⟨k1, j1⟩, k2, k3, ⟨k4, j4⟩, ⟨k5, j5⟩⟩ := (hiff ()).mp h; rw [n1, n4, e4] at j5; exact p126_1 (by omega) (by omega) (by omega) (by omega) (by omega) (by omega) j5.symm
                    exact pw_some ⟨qq0, qq1⟩
                  · have c129 : r126.toInt = 1 := by have z9 := z_ne c129; omega
                    refine pw_j1 ej137 (fun t137_0 et137_0 => ?_)
                    have et137_0 := et137_0.symm
                    have f_t137_0 : t137_0.toInt = 1 := by rw [et137_0]; decide +kernel
                    refine pw_if (fun hb137 => ?_)
                    obtain ⟨hbl137, hbr137⟩ := hb137
                    have qq0 : id ((t137_0.toInt ≠ 0 → lS L (wdl ((V 0) p0) 0 (Int32.toNatClampNeg p2)) (Int32.toNatClampNeg p1) (wdl ((V 0) p3) 0 (Int32.toNatClampNeg p4)))) := show (t137_0.toInt ≠ 0 → lS L (wdl ((V 0) p0) 0 (Int32.toNatClampNeg p2)) (Int32.toNatClampNeg p1) (wdl ((V 0) p3) 0 (Int32.toNatClampNeg p4))) from by intro _; exact (hiff ()).mpr ⟨⟨by omega, by rw [n1, e1]; exact (p76_0 (by omega)).2.2.symm⟩, fun q => (by first | omega | exact absurd (z_e (by rw [e5]; omega)) q), fun q => (by first | omega | exact absurd (z_e (by rw [e6]; omega)) q), ⟨by omega, by rw [n3, e3]; exact (p102_0 (by omega)).2.2.symm⟩, ⟨by omega, by rw [n1, n4, e4]; exact (p126_0 (by omega)).2.2.symm⟩⟩
                    have qq1 : id ((t137_0.toInt = 0 → ¬ lS L (wdl ((V 0) p0) 0 (Int32.toNatClampNeg p2)) (Int32.toNatClampNeg p1) (wdl ((V 0) p3) 0 (Int32.toNatClampNeg p4)))) := show (t137_0.toInt = 0 → ¬ lS L (wdl ((V 0) p0) 0 (Int32.toNatClampNeg p2)) (Int32.toNatClampNeg p1) (wdl ((V 0) p3) 0 (Int32.toNatClampNeg p4))) from by intro h; omega
                    exact pw_some ⟨qq0, qq1⟩
            · have c59 := z_nle c59
              refine pw_j0 ej62 ?_
              have qq0 : id (((0 : Int32).toInt ≠ 0 → lS L (wdl ((V 0) p0) 0 (Int32.toNatClampNeg p2)) (Int32.toNatClampNeg p1) (wdl ((V 0) p3) 0 (Int32.toNatClampNeg p4)))) := show ((0 : Int32).toInt ≠ 0 → lS L (wdl ((V 0) p0) 0 (Int32.toNatClampNeg p2)) (Int32.toNatClampNeg p1) (wdl ((V 0) p3) 0 (Int32.toNatClampNeg p4))) from by intro h; omega
              have qq1 : id (((0 : Int32).toInt = 0 → ¬ lS L (wdl ((V 0) p0) 0 (Int32.toNatClampNeg p2)) (Int32.toNatClampNeg p1) (wdl ((V 0) p3) 0 (Int32.toNatClampNeg p4)))) := show ((0 : Int32).toInt = 0 → ¬ lS L (wdl ((V 0) p0) 0 (Int32.toNatClampNeg p2)) (Int32.toNatClampNeg p1) (wdl ((V 0) p3) 0 (Int32.toNatClampNeg p4))) from by intro _ h; obtain ⟨⟨k1, j1⟩, k2, k3, ⟨k4, j4⟩, ⟨k5, j5⟩⟩ := (hiff ()).mp h; omega
              exact pw_some ⟨qq0, qq1⟩
        · have c37 := z_nle c37
          refine pw_j0 ej40 ?_
          have qq0 : id (((0 : Int32).toInt ≠ 0 → lS L (wdl ((V 0) p0) 0 (Int32.toNatClampNeg p2)) (Int32.toNatClampNeg p1) (wdl ((V 0) p3) 0 (Int32.toNatClampNeg p4)))) := show ((0 : Int32).toInt ≠ 0 → lS L (wdl ((V 0) p0) 0 (Int32.toNatClampNeg p2)) (Int32.toNatClampNeg p1) (wdl ((V 0) p3) 0 (Int32.toNatClampNeg p4))) from by intro h; omega
          have qq1 : id (((0 : Int32).toInt = 0 → ¬ lS L (wdl ((V 0) p0) 0 (Int32.toNatClampNeg p2)) (Int32.toNatClampNeg p1) (wdl ((V 0) p3) 0 (Int32.toNatClampNeg p4)))) := show ((0 : Int32).toInt = 0 → ¬ lS L (wdl ((V 0) p0) 0 (Int32.toNatClampNeg p2)) (Int32.toNatClampNeg p1) (wdl ((V 0) p3) 0 (Int32.toNatClampNeg p4))) from by intro _ h; obtain ⟨⟨k1, j1⟩, k2, k3, ⟨k4, j4⟩, ⟨k5, j5⟩⟩ := (hiff ()).mp h; have k9 := k3 (fun q => by have q9 := congrArg Int32.toInt q; rw [e6] at q9; omega); omega
          exact pw_some ⟨qq0, qq1⟩
    · have c20 := z_ne c20
      refine pw_ite (fun c25 => ?_) (fun c25 => ?_)
      · have c25 := (z_lt _ _).mp c25
        refine pw_j0 ej40 ?_
        have qq0 : id (((0 : Int32).toInt ≠ 0 → lS L (wdl ((V 0) p0) 0 (Int32.toNatClampNeg p2)) (Int32.toNatClampNeg p1) (wdl ((V 0) p3) 0 (Int32.toNatClampNeg p4)))) := show ((0 : Int32).toInt ≠ 0 → lS L (wdl ((V 0) p0) 0 (Int32.toNatClampNeg p2)) (Int32.toNatClampNeg p1) (wdl ((V 0) p3) 0 (Int32.toNatClampNeg p4))) from by intro h; omega
        have qq1 : id (((0 : Int32).toInt = 0 → ¬ lS L (wdl ((V 0) p0) 0 (Int32.toNatClampNeg p2)) (Int32.toNatClampNeg p1) (wdl ((V 0) p3) 0 (Int32.toNatClampNeg p4)))) := show ((0 : Int32).toInt = 0 → ¬ lS L (wdl ((V 0) p0) 0 (Int32.toNatClampNeg p2)) (Int32.toNatClampNeg p1) (wdl ((V 0) p3) 0 (Int32.toNatClampNeg p4))) from by intro _ h; obtain ⟨⟨k1, j1⟩, k2, k3, ⟨k4, j4⟩, ⟨k5, j5⟩⟩ := (hiff ()).mp h; have k9 := k2 (fun q => by have q9 := congrArg Int32.toInt q; rw [e5] at q9; omega); omega
        exact pw_some ⟨qq0, qq1⟩
      · have c25 := z_nlt c25
        refine pw_j0 ej28 ?_
        refine pw_jE (fun j42 ej42 => ?_)
        refine pw_ite (fun c32 => ?_) (fun c32 => ?_)
        · have c32 := congrArg Int32.toInt c32
          refine pw_j0 ej42 ?_
          refine pw_nne hn5 ?_
          have hzb_a0 := hzLN a0 (by rw [hk_a0]; decide)
          refine pw_jE (fun j62 ej62 => ?_)
          refine pw_ite (fun c49 => ?_) (fun c49 => ?_)
          · have c49 := (z_lt _ _).mp c49
            refine pw_j0 ej62 ?_
            have qq0 : id (((0 : Int32).toInt ≠ 0 → lS L (wdl ((V 0) p0) 0 (Int32.toNatClampNeg p2)) (Int32.toNatClampNeg p1) (wdl ((V 0) p3) 0 (Int32.toNatClampNeg p4)))) := show ((0 : Int32).toInt ≠ 0 → lS L (wdl ((V 0) p0) 0 (Int32.toNatClampNeg p2)) (Int32.toNatClampNeg p1) (wdl ((V 0) p3) 0 (Int32.toNatClampNeg p4))) from by intro h; omega
            have qq1 : id (((0 : Int32).toInt = 0 → ¬ lS L (wdl ((V 0) p0) 0 (Int32.toNatClampNeg p2)) (Int32.toNatClampNeg p1) (wdl ((V 0) p3) 0 (Int32.toNatClampNeg p4)))) := show ((0 : Int32).toInt = 0 → ¬ lS L (wdl ((V 0) p0) 0 (Int32.toNatClampNeg p2)) (Int32.toNatClampNeg p1) (wdl ((V 0) p3) 0 (Int32.toNatClampNeg p4))) from by intro _ h; obtain ⟨⟨k1, j1⟩, k2, k3, ⟨k4, j4⟩, ⟨k5, j5⟩⟩ := (hiff ()).mp h; omega
            exact pw_some ⟨qq0, qq1⟩
          · have c49 := z_nlt c49
            refine pw_nne hn7 ?_
            have hzb_b0 := hzLN b0 (by rw [hk_b0]; decide)
            refine pw_ite (fun c59 => ?_) (fun c59 => ?_)
            · have c59 := (z_le _ _).mp c59
              refine pw_nne hn1 ?_
              refine pw_nne hn1 ?_
              refine pw_b1 (fun r76 hc76 => ?_)
              have hq76 := wp_at (ok_X10_same κ wd G P U V X O kd ln cnt f0 (0 : Int32) p0 p1 (Int32.ofNat (ln f0)) hzLN hk_f0 hk_p0) hc76
              have f22 : (0 ≤ r76.toInt ∧ r76.toInt ≤ 1) := hq76
              clear hq76
              have hx76 := pwq (fn_X10_same κ wd la G P U V X O kd ln cnt f0 (0 : Int32) p0 p1 (Int32.ofNat (ln f0)) hzLN hk_f0 hk_p0 hB lt_f02 hlt_p0) hc76
              obtain ⟨p76_0, p76_1⟩ : (id ((r76.toInt ≠ 0 → 0 ≤ (0 : Int32).toInt ∧ 0 ≤ p1.toInt ∧ wdl ((V 0) f0) (Int32.toNatClampNeg (0 : Int32)) (Int32.toNatClampNeg (Int32.ofNat (ln f0))) = wdl ((V 0) p0) (Int32.toNatClampNeg p1) (Int32.toNatClampNeg (Int32.ofNat (ln f0)))))) ∧ (id ((r76.toInt = 0 → 0 ≤ (0 : Int32).toInt → 0 ≤ p1.toInt → 0 ≤ (Int32.ofNat (ln f0)).toInt → (0 : Int32).toInt + (Int32.ofNat (ln f0)).toInt ≤ ((ln f0 : Nat) : Int) → p1.toInt + (Int32.ofNat (ln f0)).toInt ≤ ((ln p0 : Nat) : Int) → wdl ((V 0) f0) (Int32.toNatClampNeg (0 : Int32)) (Int32.toNatClampNeg (Int32.ofNat (ln f0))) ≠ wdl ((V 0) p0) (Int32.toNatClampNeg p1) (Int32.toNatClampNeg (Int32.ofNat (ln f0)))))) := hx76
              have w76 : Int32.toNatClampNeg (Int32.ofNat (ln f0)) = ln f0 := by have z := clampI (x := Int32.ofNat (ln f0)) (by omega); omega
              rw [w76, show Int32.toNatClampNeg (0 : Int32) = 0 from rfl] at p76_0 p76_1
              refine pw_jE (fun j137 ej137 => ?_)
              refine pw_jE (fun j136 ej136 => ?_)
              refine pw_ite (fun c79 => ?_) (fun c79 => ?_)
              · have c79 := congrArg Int32.toInt c79
                refine pw_j0 ej136 ?_
                refine pw_j1 ej137 (fun t137_0 et137_0 => ?_)
                have et137_0 := et137_0.symm
                have f_t137_0 : t137_0.toInt = 0 := by rw [et137_0]; decide +kernel
                refine pw_if (fun hb137 => ?_)
                obtain ⟨hbl137, hbr137⟩ := hb137
                have qq0 : id ((t137_0.toInt ≠ 0 → lS L (wdl ((V 0) p0) 0 (Int32.toNatClampNeg p2)) (Int32.toNatClampNeg p1) (wdl ((V 0) p3) 0 (Int32.toNatClampNeg p4)))) := show (t137_0.toInt ≠ 0 → lS L (wdl ((V 0) p0) 0 (Int32.toNatClampNeg p2)) (Int32.toNatClampNeg p1) (wdl ((V 0) p3) 0 (Int32.toNatClampNeg p4))) from by intro h; omega
                have qq1 : id ((t137_0.toInt = 0 → ¬ lS L (wdl ((V 0) p0) 0 (Int32.toNatClampNeg p2)) (Int32.toNatClampNeg p1) (wdl ((V 0) p3) 0 (Int32.toNatClampNeg p4)))) := show (t137_0.toInt = 0 → ¬ lS L (wdl ((V 0) p0) 0 (Int32.toNatClampNeg p2)) (Int32.toNatClampNeg p1) (wdl ((V 0) p3) 0 (Int32.toNatClampNeg p4))) from by intro _ h; obtain ⟨⟨k1, j1⟩, k2, k3, ⟨k4, j4⟩, ⟨k5, j5⟩⟩ := (hiff ()).mp h; rw [n1, e1] at j1; exact p76_1 (by omega) (by omega) (by omega) (by omega) (by omega) (by omega) j1.symm
                exact pw_some ⟨qq0, qq1⟩
              · have c79 : r76.toInt = 1 := by have z9 := z_ne c79; omega
                refine pw_nne hn5 ?_
                refine pw_nne hn5 ?_
                have f23 : (p4 - (Int32.ofNat (ln a0))).toInt = p4.toInt - (Int32.ofNat (ln a0)).toInt := z_sub (by omega) (by omega)
                refine pw_nne hn5 ?_
                refine pw_b1 (fun r102 hc102 => ?_)
                have hq102 := wp_at (ok_X10_same κ wd G P U V X O kd ln cnt a0 (0 : Int32) p3 (p4 - (Int32.ofNat (ln a0))) (Int32.ofNat (ln a0)) hzLN hk_a0 hk_p3) hc102
                have f24 : (0 ≤ r102.toInt ∧ r102.toInt ≤ 1) := hq102
                clear hq102
                have hx102 := pwq (fn_X10_same κ wd la G P U V X O kd ln cnt a0 (0 : Int32) p3 (p4 - (Int32.ofNat (ln a0))) (Int32.ofNat (ln a0)) hzLN hk_a0 hk_p3 hB lt_a06 hlt_p3) hc102
                obtain ⟨p102_0, p102_1⟩ : (id ((r102.toInt ≠ 0 → 0 ≤ (0 : Int32).toInt ∧ 0 ≤ (p4 - (Int32.ofNat (ln a0))).toInt ∧ wdl ((V 0) a0) (Int32.toNatClampNeg (0 : Int32)) (Int32.toNatClampNeg (Int32.ofNat (ln a0))) = wdl ((V 0) p3) (Int32.toNatClampNeg (p4 - (Int32.ofNat (ln a0)))) (Int32.toNatClampNeg (Int32.ofNat (ln a0)))))) ∧ (id ((r102.toInt = 0 → 0 ≤ (0 : Int32).toInt → 0 ≤ (p4 - (Int32.ofNat (ln a0))).toInt → 0 ≤ (Int32.ofNat (ln a0)).toInt → (0 : Int32).toInt + (Int32.ofNat (ln a0)).toInt ≤ ((ln a0 : Nat) : Int) → (p4 - (Int32.ofNat (ln a0))).toInt + (Int32.ofNat (ln a0)).toInt ≤ ((ln p3 : Nat) : Int) → wdl ((V 0) a0) (Int32.toNatClampNeg (0 : Int32)) (Int32.toNatClampNeg (Int32.ofNat (ln a0))) ≠ wdl ((V 0) p3) (Int32.toNatClampNeg (p4 - (Int32.ofNat (ln a0)))) (Int32.toNatClampNeg (Int32.ofNat (ln a0)))))) := hx102
                have w102 : Int32.toNatClampNeg (Int32.ofNat (ln a0)) = ln a0 := by have z := clampI (x := Int32.ofNat (ln a0)) (by omega); omega
                have u102 : Int32.toNatClampNeg (p4 - (Int32.ofNat (ln a0))) = Int32.toNatClampNeg p4 - ln a0 := by have z := clampI (x := p4 - (Int32.ofNat (ln a0))) (by omega); omega
                rw [w102, u102, show Int32.toNatClampNeg (0 : Int32) = 0 from rfl] at p102_0 p102_1
                refine pw_ite (fun c105 => ?_) (fun c105 => ?_)
                · have c105 := congrArg Int32.toInt c105
                  refine pw_j0 ej136 ?_
                  refine pw_j1 ej137 (fun t137_0 et137_0 => ?_)
                  have et137_0 := et137_0.symm
                  have f_t137_0 : t137_0.toInt = 0 := by rw [et137_0]; decide +kernel
                  refine pw_if (fun hb137 => ?_)
                  obtain ⟨hbl137, hbr137⟩ := hb137
                  have qq0 : id ((t137_0.toInt ≠ 0 → lS L (wdl ((V 0) p0) 0 (Int32.toNatClampNeg p2)) (Int32.toNatClampNeg p1) (wdl ((V 0) p3) 0 (Int32.toNatClampNeg p4)))) := show (t137_0.toInt ≠ 0 → lS L (wdl ((V 0) p0) 0 (Int32.toNatClampNeg p2)) (Int32.toNatClampNeg p1) (wdl ((V 0) p3) 0 (Int32.toNatClampNeg p4))) from by intro h; omega
                  have qq1 : id ((t137_0.toInt = 0 → ¬ lS L (wdl ((V 0) p0) 0 (Int32.toNatClampNeg p2)) (Int32.toNatClampNeg p1) (wdl ((V 0) p3) 0 (Int32.toNatClampNeg p4)))) := show (t137_0.toInt = 0 → ¬ lS L (wdl ((V 0) p0) 0 (Int32.toNatClampNeg p2)) (Int32.toNatClampNeg p1) (wdl ((V 0) p3) 0 (Int32.toNatClampNeg p4))) from by intro _ h; obtain ⟨⟨k1, j1⟩, k2, k3, ⟨k4, j4⟩, ⟨k5, j5⟩⟩ := (hiff ()).mp h; rw [n3, e3] at j4; exact p102_1 (by omega) (by omega) (by omega) (by omega) (by omega) (by omega) j4.symm
                  exact pw_some ⟨qq0, qq1⟩
                · have c105 : r102.toInt = 1 := by have z9 := z_ne c105; omega
                  refine pw_nne hn7 ?_
                  refine pw_nne hn1 ?_
                  have f25 : (p1 + (Int32.ofNat (ln f0))).toInt = p1.toInt + (Int32.ofNat (ln f0)).toInt := z_add (by omega) (by omega)
                  refine pw_nne hn7 ?_
                  refine pw_b1 (fun r126 hc126 => ?_)
                  have hq126 := wp_at (ok_X10_same κ wd G P U V X O kd ln cnt b0 (0 : Int32) p0 (p1 + (Int32.ofNat (ln f0))) (Int32.ofNat (ln b0)) hzLN hk_b0 hk_p0) hc126
                  have f26 : (0 ≤ r126.toInt ∧ r126.toInt ≤ 1) := hq126
                  clear hq126
                  have hx126 := pwq (fn_X10_same κ wd la G P U V X O kd ln cnt b0 (0 : Int32) p0 (p1 + (Int32.ofNat (ln f0))) (Int32.ofNat (ln b0)) hzLN hk_b0 hk_p0 hB lt_b08 hlt_p0) hc126
                  obtain ⟨p126_0, p126_1⟩ : (id ((r126.toInt ≠ 0 → 0 ≤ (0 : Int32).toInt ∧ 0 ≤ (p1 + (Int32.ofNat (ln f0))).toInt ∧ wdl ((V 0) b0) (Int32.toNatClampNeg (0 : Int32)) (Int32.toNatClampNeg (Int32.ofNat (ln b0))) = wdl ((V 0) p0) (Int32.toNatClampNeg (p1 + (Int32.ofNat (ln f0)))) (Int32.toNatClampNeg (Int32.ofNat (ln b0)))))) ∧ (id ((r126.toInt = 0 → 0 ≤ (0 : Int32).toInt → 0 ≤ (p1 + (Int32.ofNat (ln f0))).toInt → 0 ≤ (Int32.ofNat (ln b0)).toInt → (0 : Int32).toInt + (Int32.ofNat (ln b0)).toInt ≤ ((ln b0 : Nat) : Int) → (p1 + (Int32.ofNat (ln f0))).toInt + (Int32.ofNat (ln b0)).toInt ≤ ((ln p0 : Nat) : Int) → wdl ((V 0) b0) (Int32.toNatClampNeg (0 : Int32)) (Int32.toNatClampNeg (Int32.ofNat (ln b0))) ≠ wdl ((V 0) p0) (Int32.toNatClampNeg (p1 + (Int32.ofNat (ln f0)))) (Int32.toNatClampNeg (Int32.ofNat (ln b0)))))) := hx126
                  have w126 : Int32.toNatClampNeg (Int32.ofNat (ln b0)) = ln b0 := by have z := clampI (x := Int32.ofNat (ln b0)) (by omega); omega
                  have u126 : Int32.toNatClampNeg (p1 + (Int32.ofNat (ln f0))) = Int32.toNatClampNeg p1 + ln f0 := by have z := clampI (x := p1 + (Int32.ofNat (ln f0))) (by omega); omega
                  rw [w126, u126, show Int32.toNatClampNeg (0 : Int32) = 0 from rfl] at p126_0 p126_1
                  refine pw_ite (fun c129 => ?_) (fun c129 => ?_)
                  · have c129 := congrArg Int32.toInt c129
                    refine pw_j0 ej136 ?_
                    refine pw_j1 ej137 (fun t137_0 et137_0 => ?_)
                    have et137_0 := et137_0.symm
                    have f_t137_0 : t137_0.toInt = 0 := by rw [et137_0]; decide +kernel
                    refine pw_if (fun hb137 => ?_)
                    obtain ⟨hbl137, hbr137⟩ := hb137
                    have qq0 : id ((t137_0.toInt ≠ 0 → lS L (wdl ((V 0) p0) 0 (Int32.toNatClampNeg p2)) (Int32.toNatClampNeg p1) (wdl ((V 0) p3) 0 (Int32.toNatClampNeg p4)))) := show (t137_0.toInt ≠ 0 → lS L (wdl ((V 0) p0) 0 (Int32.toNatClampNeg p2)) (Int32.toNatClampNeg p1) (wdl ((V 0) p3) 0 (Int32.toNatClampNeg p4))) from by intro h; omega
                    have qq1 : id ((t137_0.toInt = 0 → ¬ lS L (wdl ((V 0) p0) 0 (Int32.toNatClampNeg p2)) (Int32.toNatClampNeg p1) (wdl ((V 0) p3) 0 (Int32.toNatClampNeg p4)))) := show (t137_0.toInt = 0 → ¬ lS L (wdl ((V 0) p0) 0 (Int32.toNatClampNeg p2)) (Int32.toNatClampNeg p1) (wdl ((V 0) p3) 0 (Int32.toNatClampNeg p4))) from by intro _ h; obtain ⟨⟨k1, j1⟩, k2, k3, ⟨k4, j4⟩, ⟨k5, j5⟩⟩ := (hiff ()).mp h; rw [n1, n4, e4] at j5; exact p126_1 (by omega) (by omega) (by omega) (by omega) (by omega) (by omega) j5.symm
                    exact pw_some ⟨qq0, qq1⟩
                  · have c129 : r126.toInt = 1 := by have z9 := z_ne c129; omega
                    refine pw_j1 ej137 (fun t137_0 et137_0 => ?_)
                    have et137_0 := et137_0.symm
                    have f_t137_0 : t137_0.toInt = 1 := by rw [et137_0]; decide +kernel
                    refine pw_if (fun hb137 => ?_)
                    obtain ⟨hbl137, hbr137⟩ := hb137
                    have qq0 : id ((t137_0.toInt ≠ 0 → lS L (wdl ((V 0) p0) 0 (Int32.toNatClampNeg p2)) (Int32.toNatClampNeg p1) (wdl ((V 0) p3) 0 (Int32.toNatClampNeg p4)))) := show (t137_0.toInt ≠ 0 → lS L (wdl ((V 0) p0) 0 (Int32.toNatClampNeg p2)) (Int32.toNatClampNeg p1) (wdl ((V 0) p3) 0 (Int32.toNatClampNeg p4))) from by intro _; exact (hiff ()).mpr ⟨⟨by omega, by rw [n1, e1]; exact (p76_0 (by omega)).2.2.symm⟩, fun q => (by first | omega | exact absurd (z_e (by rw [e5]; omega)) q), fun q => (by first | omega | exact absurd (z_e (by rw [e6]; omega)) q), ⟨by omega, by rw [n3, e3]; exact (p102_0 (by omega)).2.2.symm⟩, ⟨by omega, by rw [n1, n4, e4]; exact (p126_0 (by omega)).2.2.symm⟩⟩
                    have qq1 : id ((t137_0.toInt = 0 → ¬ lS L (wdl ((V 0) p0) 0 (Int32.toNatClampNeg p2)) (Int32.toNatClampNeg p1) (wdl ((V 0) p3) 0 (Int32.toNatClampNeg p4)))) := show (t137_0.toInt = 0 → ¬ lS L (wdl ((V 0) p0) 0 (Int32.toNatClampNeg p2)) (Int32.toNatClampNeg p1) (wdl ((V 0) p3) 0 (Int32.toNatClampNeg p4))) from by intro h; omega
                    exact pw_some ⟨qq0, qq1⟩
            · have c59 := z_nle c59
              refine pw_j0 ej62 ?_
              have qq0 : id (((0 : Int32).toInt ≠ 0 → lS L (wdl ((V 0) p0) 0 (Int32.toNatClampNeg p2)) (Int32.toNatClampNeg p1) (wdl ((V 0) p3) 0 (Int32.toNatClampNeg p4)))) := show ((0 : Int32).toInt ≠ 0 → lS L (wdl ((V 0) p0) 0 (Int32.toNatClampNeg p2)) (Int32.toNatClampNeg p1) (wdl ((V 0) p3) 0 (Int32.toNatClampNeg p4))) from by intro h; omega
              have qq1 : id (((0 : Int32).toInt = 0 → ¬ lS L (wdl ((V 0) p0) 0 (Int32.toNatClampNeg p2)) (Int32.toNatClampNeg p1) (wdl ((V 0) p3) 0 (Int32.toNatClampNeg p4)))) := show ((0 : Int32).toInt = 0 → ¬ lS L (wdl ((V 0) p0) 0 (Int32.toNatClampNeg p2)) (Int32.toNatClampNeg p1) (wdl ((V 0) p3) 0 (Int32.toNatClampNeg p4))) from by intro _ h; obtain ⟨⟨k1, j1⟩, k2, k3, ⟨k4, j4⟩, ⟨k5, j5⟩⟩ := (hiff ()).mp h; omega
              exact pw_some ⟨qq0, qq1⟩
        · have c32 := z_ne c32
          refine pw_ite (fun c37 => ?_) (fun c37 => ?_)
          · have c37 := (z_le _ _).mp c37
            refine pw_j0 ej42 ?_
            refine pw_nne hn5 ?_
            have hzb_a0 := hzLN a0 (by rw [hk_a0]; decide)
            refine pw_jE (fun j62 ej62 => ?_)
            refine pw_ite (fun c49 => ?_) (fun c49 => ?_)
            · have c49 := (z_lt _ _).mp c49
              refine pw_j0 ej62 ?_
              have qq0 : id (((0 : Int32).toInt ≠ 0 → lS L (wdl ((V 0) p0) 0 (Int32.toNatClampNeg p2)) (Int32.toNatClampNeg p1) (wdl ((V 0) p3) 0 (Int32.toNatClampNeg p4)))) := show ((0 : Int32).toInt ≠ 0 → lS L (wdl ((V 0) p0) 0 (Int32.toNatClampNeg p2)) (Int32.toNatClampNeg p1) (wdl ((V 0) p3) 0 (Int32.toNatClampNeg p4))) from by intro h; omega
              have qq1 : id (((0 : Int32).toInt = 0 → ¬ lS L (wdl ((V 0) p0) 0 (Int32.toNatClampNeg p2)) (Int32.toNatClampNeg p1) (wdl ((V 0) p3) 0 (Int32.toNatClampNeg p4)))) := show ((0 : Int32).toInt = 0 → ¬ lS L (wdl ((V 0) p0) 0 (Int32.toNatClampNeg p2)) (Int32.toNatClampNeg p1) (wdl ((V 0) p3) 0 (Int32.toNatClampNeg p4))) from by intro _ h; obtain ⟨⟨k1, j1⟩, k2, k3, ⟨k4, j4⟩, ⟨k5, j5⟩⟩ := (hiff ()).mp h; omega
              exact pw_some ⟨qq0, qq1⟩
            · have c49 := z_nlt c49
              refine pw_nne hn7 ?_
              have hzb_b0 := hzLN b0 (by rw [hk_b0]; decide)
              refine pw_ite (fun c59 => ?_) (fun c59 => ?_)
              · have c59 := (z_le _ _).mp c59
                refine pw_nne hn1 ?_
                refine pw_nne hn1 ?_
                refine pw_b1 (fun r76 hc76 => ?_)
                have hq76 := wp_at (ok_X10_same κ wd G P U V X O kd ln cnt f0 (0 : Int32) p0 p1 (Int32.ofNat (ln f0)) hzLN hk_f0 hk_p0) hc76
                have f27 : (0 ≤ r76.toInt ∧ r76.toInt ≤ 1) := hq76
                clear hq76
                have hx76 := pwq (fn_X10_same κ wd la G P U V X O kd ln cnt f0 (0 : Int32) p0 p1 (Int32.ofNat (ln f0)) hzLN hk_f0 hk_p0 hB lt_f02 hlt_p0) hc76
                obtain ⟨p76_0, p76_1⟩ : (id ((r76.toInt ≠ 0 → 0 ≤ (0 : Int32).toInt ∧ 0 ≤ p1.toInt ∧ wdl ((V 0) f0) (Int32.toNatClampNeg (0 : Int32)) (Int32.toNatClampNeg (Int32.ofNat (ln f0))) = wdl ((V 0) p0) (Int32.toNatClampNeg p1) (Int32.toNatClampNeg (Int32.ofNat (ln f0)))))) ∧ (id ((r76.toInt = 0 → 0 ≤ (0 : Int32).toInt → 0 ≤ p1.toInt → 0 ≤ (Int32.ofNat (ln f0)).toInt → (0 : Int32).toInt + (Int32.ofNat (ln f0)).toInt ≤ ((ln f0 : Nat) : Int) → p1.toInt + (Int32.ofNat (ln f0)).toInt ≤ ((ln p0 : Nat) : Int) → wdl ((V 0) f0) (Int32.toNatClampNeg (0 : Int32)) (Int32.toNatClampNeg (Int32.ofNat (ln f0))) ≠ wdl ((V 0) p0) (Int32.toNatClampNeg p1) (Int32.toNatClampNeg (Int32.ofNat (ln f0)))))) := hx76
                have w76 : Int32.toNatClampNeg (Int32.ofNat (ln f0)) = ln f0 := by have z := clampI (x := Int32.ofNat (ln f0)) (by omega); omega
                rw [w76, show Int32.toNatClampNeg (0 : Int32) = 0 from rfl] at p76_0 p76_1
                refine pw_jE (fun j137 ej137 => ?_)
                refine pw_jE (fun j136 ej136 => ?_)
                refine pw_ite (fun c79 => ?_) (fun c79 => ?_)
                · have c79 := congrArg Int32.toInt c79
                  refine pw_j0 ej136 ?_
                  refine pw_j1 ej137 (fun t137_0 et137_0 => ?_)
                  have et137_0 := et137_0.symm
                  have f_t137_0 : t137_0.toInt = 0 := by rw [et137_0]; decide +kernel
                  refine pw_if (fun hb137 => ?_)
                  obtain ⟨hbl137, hbr137⟩ := hb137
                  have qq0 : id ((t137_0.toInt ≠ 0 → lS L (wdl ((V 0) p0) 0 (Int32.toNatClampNeg p2)) (Int32.toNatClampNeg p1) (wdl ((V 0) p3) 0 (Int32.toNatClampNeg p4)))) := show (t137_0.toInt ≠ 0 → lS L (wdl ((V 0) p0) 0 (Int32.toNatClampNeg p2)) (Int32.toNatClampNeg p1) (wdl ((V 0) p3) 0 (Int32.toNatClampNeg p4))) from by intro h; omega
                  have qq1 : id ((t137_0.toInt = 0 → ¬ lS L (wdl ((V 0) p0) 0 (Int32.toNatClampNeg p2)) (Int32.toNatClampNeg p1) (wdl ((V 0) p3) 0 (Int32.toNatClampNeg p4)))) := show (t137_0.toInt = 0 → ¬ lS L (wdl ((V 0) p0) 0 (Int32.toNatClampNeg p2)) (Int32.toNatClampNeg p1) (wdl ((V 0) p3) 0 (Int32.toNatClampNeg p4))) from by intro _ h; obtain ⟨⟨k1, j1⟩, k2, k3, ⟨k4, j4⟩, ⟨k5, j5⟩⟩ := (hiff ()).mp h; rw [n1, e1] at j1; exact p76_1 (by omega) (by omega) (by omega) (by omega) (by omega) (by omega) j1.symm
                  exact pw_some ⟨qq0, qq1⟩
                · have c79 : r76.toInt = 1 := by have z9 := z_ne c79; omega
                  refine pw_nne hn5 ?_
                  refine pw_nne hn5 ?_
                  have f28 : (p4 - (Int32.ofNat (ln a0))).toInt = p4.toInt - (Int32.ofNat (ln a0)).toInt := z_sub (by omega) (by omega)
                  refine pw_nne hn5 ?_
                  refine pw_b1 (fun r102 hc102 => ?_)
                  have hq102 := wp_at (ok_X10_same κ wd G P U V X O kd ln cnt a0 (0 : Int32) p3 (p4 - (Int32.ofNat (ln a0))) (Int32.ofNat (ln a0)) hzLN hk_a0 hk_p3) hc102
                  have f29 : (0 ≤ r102.toInt ∧ r102.toInt ≤ 1) := hq102
                  clear hq102
                  have hx102 := pwq (fn_X10_same κ wd la G P U V X O kd ln cnt a0 (0 : Int32) p3 (p4 - (Int32.ofNat (ln a0))) (Int32.ofNat (ln a0)) hzLN hk_a0 hk_p3 hB lt_a06 hlt_p3) hc102
                  obtain ⟨p102_0, p102_1⟩ : (id ((r102.toInt ≠ 0 → 0 ≤ (0 : Int32).toInt ∧ 0 ≤ (p4 - (Int32.ofNat (ln a0))).toInt ∧ wdl ((V 0) a0) (Int32.toNatClampNeg (0 : Int32)) (Int32.toNatClampNeg (Int32.ofNat (ln a0))) = wdl ((V 0) p3) (Int32.toNatClampNeg (p4 - (Int32.ofNat (ln a0)))) (Int32.toNatClampNeg (Int32.ofNat (ln a0)))))) ∧ (id ((r102.toInt = 0 → 0 ≤ (0 : Int32).toInt → 0 ≤ (p4 - (Int32.ofNat (ln a0))).toInt → 0 ≤ (Int32.ofNat (ln a0)).toInt → (0 : Int32).toInt + (Int32.ofNat (ln a0)).toInt ≤ ((ln a0 : Nat) : Int) → (p4 - (Int32.ofNat (ln a0))).toInt + (Int32.ofNat (ln a0)).toInt ≤ ((ln p3 : Nat) : Int) → wdl ((V 0) a0) (Int32.toNatClampNeg (0 : Int32)) (Int32.toNatClampNeg (Int32.ofNat (ln a0))) ≠ wdl ((V 0) p3) (Int32.toNatClampNeg (p4 - (Int32.ofNat (ln a0)))) (Int32.toNatClampNeg (Int32.ofNat (ln a0)))))) := hx102
                  have w102 : Int32.toNatClampNeg (Int32.ofNat (ln a0)) = ln a0 := by have z := clampI (x := Int32.ofNat (ln a0)) (by omega); omega
                  have u102 : Int32.toNatClampNeg (p4 - (Int32.ofNat (ln a0))) = Int32.toNatClampNeg p4 - ln a0 := by have z := clampI (x := p4 - (Int32.ofNat (ln a0))) (by omega); omega
                  rw [w102, u102, show Int32.toNatClampNeg (0 : Int32) = 0 from rfl] at p102_0 p102_1
                  refine pw_ite (fun c105 => ?_) (fun c105 => ?_)
                  · have c105 := congrArg Int32.toInt c105
                    refine pw_j0 ej136 ?_
                    refine pw_j1 ej137 (fun t137_0 et137_0 => ?_)
                    have et137_0 := et137_0.symm
                    have f_t137_0 : t137_0.toInt = 0 := by rw [et137_0]; decide +kernel
                    refine pw_if (fun hb137 => ?_)
                    obtain ⟨hbl137, hbr137⟩ := hb137
                    have qq0 : id ((t137_0.toInt ≠ 0 → lS L (wdl ((V 0) p0) 0 (Int32.toNatClampNeg p2)) (Int32.toNatClampNeg p1) (wdl ((V 0) p3) 0 (Int32.toNatClampNeg p4)))) := show (t137_0.toInt ≠ 0 → lS L (wdl ((V 0) p0) 0 (Int32.toNatClampNeg p2)) (Int32.toNatClampNeg p1) (wdl ((V 0) p3) 0 (Int32.toNatClampNeg p4))) from by intro h; omega
                    have qq1 : id ((t137_0.toInt = 0 → ¬ lS L (wdl ((V 0) p0) 0 (Int32.toNatClampNeg p2)) (Int32.toNatClampNeg p1) (wdl ((V 0) p3) 0 (Int32.toNatClampNeg p4)))) := show (t137_0.toInt = 0 → ¬ lS L (wdl ((V 0) p0) 0 (Int32.toNatClampNeg p2)) (Int32.toNatClampNeg p1) (wdl ((V 0) p3) 0 (Int32.toNatClampNeg p4))) from by intro _ h; obtain ⟨⟨k1, j1⟩, k2, k3, ⟨k4, j4⟩, ⟨k5, j5⟩⟩ := (hiff ()).mp h; rw [n3, e3] at j4; exact p102_1 (by omega) (by omega) (by omega) (by omega) (by omega) (by omega) j4.symm
                    exact pw_some ⟨qq0, qq1⟩
                  · have c105 : r102.toInt = 1 := by have z9 := z_ne c105; omega
                    refine pw_nne hn7 ?_
                    refine pw_nne hn1 ?_
                    have f30 : (p1 + (Int32.ofNat (ln f0))).toInt = p1.toInt + (Int32.ofNat (ln f0)).toInt := z_add (by omega) (by omega)
                    refine pw_nne hn7 ?_
                    refine pw_b1 (fun r126 hc126 => ?_)
                    have hq126 := wp_at (ok_X10_same κ wd G P U V X O kd ln cnt b0 (0 : Int32) p0 (p1 + (Int32.ofNat (ln f0))) (Int32.ofNat (ln b0)) hzLN hk_b0 hk_p0) hc126
                    have f31 : (0 ≤ r126.toInt ∧ r126.toInt ≤ 1) := hq126
                    clear hq126
                    have hx126 := pwq (fn_X10_same κ wd la G P U V X O kd ln cnt b0 (0 : Int32) p0 (p1 + (Int32.ofNat (ln f0))) (Int32.ofNat (ln b0)) hzLN hk_b0 hk_p0 hB lt_b08 hlt_p0) hc126
                    obtain ⟨p126_0, p126_1⟩ : (id ((r126.toInt ≠ 0 → 0 ≤ (0 : Int32).toInt ∧ 0 ≤ (p1 + (Int32.ofNat (ln f0))).toInt ∧ wdl ((V 0) b0) (Int32.toNatClampNeg (0 : Int32)) (Int32.toNatClampNeg (Int32.ofNat (ln b0))) = wdl ((V 0) p0) (Int32.toNatClampNeg (p1 + (Int32.ofNat (ln f0)))) (Int32.toNatClampNeg (Int32.ofNat (ln b0)))))) ∧ (id ((r126.toInt = 0 → 0 ≤ (0 : Int32).toInt → 0 ≤ (p1 + (Int32.ofNat (ln f0))).toInt → 0 ≤ (Int32.ofNat (ln b0)).toInt → (0 : Int32).toInt + (Int32.ofNat (ln b0)).toInt ≤ ((ln b0 : Nat) : Int) → (p1 + (Int32.ofNat (ln f0))).toInt + (Int32.ofNat (ln b0)).toInt ≤ ((ln p0 : Nat) : Int) → wdl ((V 0) b0) (Int32.toNatClampNeg (0 : Int32)) (Int32.toNatClampNeg (Int32.ofNat (ln b0))) ≠ wdl ((V 0) p0) (Int32.toNatClampNeg (p1 + (Int32.ofNat (ln f0)))) (Int32.toNatClampNeg (Int32.ofNat (ln b0)))))) := hx126
                    have w126 : Int32.toNatClampNeg (Int32.ofNat (ln b0)) = ln b0 := by have z := clampI (x := Int32.ofNat (ln b0)) (by omega); omega
                    have u126 : Int32.toNatClampNeg (p1 + (Int32.ofNat (ln f0))) = Int32.toNatClampNeg p1 + ln f0 := by have z := clampI (x := p1 + (Int32.ofNat (ln f0))) (by omega); omega
                    rw [w126, u126, show Int32.toNatClampNeg (0 : Int32) = 0 from rfl] at p126_0 p126_1
                    refine pw_ite (fun c129 => ?_) (fun c129 => ?_)
                    · have c129 := congrArg Int32.toInt c129
                      refine pw_j0 ej136 ?_
                      refine pw_j1 ej137 (fun t137_0 et137_0 => ?_)
                      have et137_0 := et137_0.symm
                      have f_t137_0 : t137_0.toInt = 0 := by rw [et137_0]; decide +kernel
                      refine pw_if (fun hb137 => ?_)
                      obtain ⟨hbl137, hbr137⟩ := hb137
                      have qq0 : id ((t137_0.toInt ≠ 0 → lS L (wdl ((V 0) p0) 0 (Int32.toNatClampNeg p2)) (Int32.toNatClampNeg p1) (wdl ((V 0) p3) 0 (Int32.toNatClampNeg p4)))) := show (t137_0.toInt ≠ 0 → lS L (wdl ((V 0) p0) 0 (Int32.toNatClampNeg p2)) (Int32.toNatClampNeg p1) (wdl ((V 0) p3) 0 (Int32.toNatClampNeg p4))) from by intro h; omega
                      have qq1 : id ((t137_0.toInt = 0 → ¬ lS L (wdl ((V 0) p0) 0 (Int32.toNatClampNeg p2)) (Int32.toNatClampNeg p1) (wdl ((V 0) p3) 0 (Int32.toNatClampNeg p4)))) := show (t137_0.toInt = 0 → ¬ lS L (wdl ((V 0) p0) 0 (Int32.toNatClampNeg p2)) (Int32.toNatClampNeg p1) (wdl ((V 0) p3) 0 (Int32.toNatClampNeg p4))) from by intro _ h; obtain ⟨⟨k1, j1⟩, k2, k3, ⟨k4, j4⟩, ⟨k5, j5⟩⟩ := (hiff ()).mp h; rw [n1, n4, e4] at j5; exact p126_1 (by omega) (by omega) (by omega) (by omega) (by omega) (by omega) j5.symm
                      exact pw_some ⟨qq0, qq1⟩
                    · have c129 : r126.toInt = 1 := by have z9 := z_ne c129; omega
                      refine pw_j1 ej137 (fun t137_0 et137_0 => ?_)
                      have et137_0 := et137_0.symm
                      have f_t137_0 : t137_0.toInt = 1 := by rw [et137_0]; decide +kernel
                      refine pw_if (fun hb137 => ?_)
                      obtain ⟨hbl137, hbr137⟩ := hb137
                      have qq0 : id ((t137_0.toInt ≠ 0 → lS L (wdl ((V 0) p0) 0 (Int32.toNatClampNeg p2)) (Int32.toNatClampNeg p1) (wdl ((V 0) p3) 0 (Int32.toNatClampNeg p4)))) := show (t137_0.toInt ≠ 0 → lS L (wdl ((V 0) p0) 0 (Int32.toNatClampNeg p2)) (Int32.toNatClampNeg p1) (wdl ((V 0) p3) 0 (Int32.toNatClampNeg p4))) from by intro _; exact (hiff ()).mpr ⟨⟨by omega, by rw [n1, e1]; exact (p76_0 (by omega)).2.2.symm⟩, fun q => (by first | omega | exact absurd (z_e (by rw [e5]; omega)) q), fun q => (by first | omega | exact absurd (z_e (by rw [e6]; omega)) q), ⟨by omega, by rw [n3, e3]; exact (p102_0 (by omega)).2.2.symm⟩, ⟨by omega, by rw [n1, n4, e4]; exact (p126_0 (by omega)).2.2.symm⟩⟩
                      have qq1 : id ((t137_0.toInt = 0 → ¬ lS L (wdl ((V 0) p0) 0 (Int32.toNatClampNeg p2)) (Int32.toNatClampNeg p1) (wdl ((V 0) p3) 0 (Int32.toNatClampNeg p4)))) := show (t137_0.toInt = 0 → ¬ lS L (wdl ((V 0) p0) 0 (Int32.toNatClampNeg p2)) (Int32.toNatClampNeg p1) (wdl ((V 0) p3) 0 (Int32.toNatClampNeg p4))) from by intro h; omega
                      exact pw_some ⟨qq0, qq1⟩
              · have c59 := z_nle c59
                refine pw_j0 ej62 ?_
                have qq0 : id (((0 : Int32).toInt ≠ 0 → lS L (wdl ((V 0) p0) 0 (Int32.toNatClampNeg p2)) (Int32.toNatClampNeg p1) (wdl ((V 0) p3) 0 (Int32.toNatClampNeg p4)))) := show ((0 : Int32).toInt ≠ 0 → lS L (wdl ((V 0) p0) 0 (Int32.toNatClampNeg p2)) (Int32.toNatClampNeg p1) (wdl ((V 0) p3) 0 (Int32.toNatClampNeg p4))) from by intro h; omega
                have qq1 : id (((0 : Int32).toInt = 0 → ¬ lS L (wdl ((V 0) p0) 0 (Int32.toNatClampNeg p2)) (Int32.toNatClampNeg p1) (wdl ((V 0) p3) 0 (Int32.toNatClampNeg p4)))) := show ((0 : Int32).toInt = 0 → ¬ lS L (wdl ((V 0) p0) 0 (Int32.toNatClampNeg p2)) (Int32.toNatClampNeg p1) (wdl ((V 0) p3) 0 (Int32.toNatClampNeg p4))) from by intro _ h; obtain ⟨⟨k1, j1⟩, k2, k3, ⟨k4, j4⟩, ⟨k5, j5⟩⟩ := (hiff ()).mp h; omega
                exact pw_some ⟨qq0, qq1⟩
          · have c37 := z_nle c37
            refine pw_j0 ej40 ?_
            have qq0 : id (((0 : Int32).toInt ≠ 0 → lS L (wdl ((V 0) p0) 0 (Int32.toNatClampNeg p2)) (Int32.toNatClampNeg p1) (wdl ((V 0) p3) 0 (Int32.toNatClampNeg p4)))) := show ((0 : Int32).toInt ≠ 0 → lS L (wdl ((V 0) p0) 0 (Int32.toNatClampNeg p2)) (Int32.toNatClampNeg p1) (wdl ((V 0) p3) 0 (Int32.toNatClampNeg p4))) from by intro h; omega
            have qq1 : id (((0 : Int32).toInt = 0 → ¬ lS L (wdl ((V 0) p0) 0 (Int32.toNatClampNeg p2)) (Int32.toNatClampNeg p1) (wdl ((V 0) p3) 0 (Int32.toNatClampNeg p4)))) := show ((0 : Int32).toInt = 0 → ¬ lS L (wdl ((V 0) p0) 0 (Int32.toNatClampNeg p2)) (Int32.toNatClampNeg p1) (wdl ((V 0) p3) 0 (Int32.toNatClampNeg p4))) from by intro _ h; obtain ⟨⟨k1, j1⟩, k2, k3, ⟨k4, j4⟩, ⟨k5, j5⟩⟩ := (hiff ()).mp h; have k9 := k3 (fun q => by have q9 := congrArg Int32.toInt q; rw [e6] at q9; omega); omega
            exact pw_some ⟨qq0, qq1⟩
