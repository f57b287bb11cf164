abbrev QF_X11_reformAt (κ : Nat → Nat) (wd : Nat) (la : Nat → Nat) (G : Nat → Nat → Int32) (P : Nat → Nat → Option Nat) (U : Nat → Nat → Int64) (V : Nat → Nat → Nat → Int32) (X : Nat → Nat → Nat → Int64) (O : Nat → Nat → Nat → Option Nat) (kd : Nat → Nat) (ln : Nat → Nat) (cnt : Nat) (this : Nat) (p0 : Int32) (ra : Nat) : (Option Nat) → Prop := (fun t => ((p0.toInt < 0 ∨ ((G 222) this).toInt ≤ p0.toInt → (t : Option Nat) = none)) ∧ ((0 ≤ p0.toInt → p0.toInt < ((G 222) this).toInt → t = (O 2) ra (Int32.toNatClampNeg p0))))
set_option maxHeartbeats 4000000 in
set_option maxRecDepth 100000 in
theorem fn_X11_reformAt (κ : Nat → Nat) (wd : Nat) (la : Nat → Nat) (G : Nat → Nat → Int32) (P : Nat → Nat → Option Nat) (U : Nat → Nat → Int64) (V : Nat → Nat → Nat → Int32) (X : Nat → Nat → Nat → Int64) (O : Nat → Nat → Nat → Option Nat) (kd : Nat → Nat) (ln : Nat → Nat) (cnt : Nat) (this : Nat) (p0 : Int32) (ra : Nat) (hzG222 : rng (0) 6 (G 222)) (hzP221 : PB κ ln wd 12 302 6 6 0 (P 221)) (hzO2 : OB κ 6 (O 2)) (hzLN : LN κ ln) (hk_this : κ this = 12) (hB : LB la cnt P) (hlt_this : this < cnt) (h221 : (P 221) this = some ra) : pw (f_X11_reformAt G P U V X O kd ln cnt this p0) (QF_X11_reformAt κ wd la G P U V X O kd ln cnt this p0 ra) := by
  unfold f_X11_reformAt
  have zk0 : (0 : Int32).toInt = 0 := by decide +kernel
  have r_p0 := i32r p0
  have hn1 : (P 221) this = some ra := h221
  have lt_ra2 := ((hB.1 221 fl_221) this ra hn1).2.1
  have lb_ra2 : la ra = la this + 3 := lk_221.mp ((hB.1 221 fl_221) this ra hn1).2.2
  have hk_ra := ((hzP221 this).2 ra hn1).1
  have hl1_ra := ((hzP221 this).2 ra hn1).2.1
  have hl2_ra := ((hzP221 this).2 ra hn1).2.2.1
  have hw_ra := ((hzP221 this).2 ra hn1).2.2.2
  have hz_ra : (Int32.ofNat (ln ra)).toInt = ((ln ra : Nat) : Int) := ofN_eq (by first | exact Nat.le_trans hl2_ra (by decide) | omega)
  refine pw_jE (fun j22 ej22 => ?_)
  refine pw_jE (fun j12 ej12 => ?_)
  refine pw_ite (fun c1 => ?_) (fun c1 => ?_)
  · have c1 := (z_lt _ _).mp c1
    refine pw_j0 ej12 ?_
    refine pw_j1 ej22 (fun z22_0 ez22_0 => ?_)
    subst ez22_0
    have qq0 : (p0.toInt < 0 ∨ ((G 222) this).toInt ≤ p0.toInt → (none : Option Nat) = none) := by intro _; rfl
    have qq1 : (0 ≤ p0.toInt → p0.toInt < ((G 222) this).toInt → none = (O 2) ra (Int32.toNatClampNeg p0)) := by intro h1 h2; exfalso; omega
    exact pw_some ⟨qq0, qq1⟩
  · have c1 := z_nlt c1
    have b3 := hzG222 this
    refine pw_ite (fun c9 => ?_) (fun c9 => ?_)
    · have c9 := (z_lt _ _).mp c9
      refine pw_nne hn1 ?_
      refine pw_if (fun hb21 => ?_)
      obtain ⟨hbl21, hbr21⟩ := hb21
      refine pw_vl (fun o21 eo21 => ?_)
      have hk_o21 : ∀ b, o21 = some b → κ b = 6 := fun b hq => hzO2 _ _ b (eo21.symm.trans hq)
      refine pw_j1 ej22 (fun z22_0 ez22_0 => ?_)
      subst ez22_0
      have qq0 : (p0.toInt < 0 ∨ ((G 222) this).toInt ≤ p0.toInt → (o21 : Option Nat) = none) := by intro h; exfalso; omega
      have qq1 : (0 ≤ p0.toInt → p0.toInt < ((G 222) this).toInt → o21 = (O 2) ra (Int32.toNatClampNeg p0)) := by intro _ _; exact eo21
      exact pw_some ⟨qq0, qq1⟩
    · have c9 := z_nlt c9
      refine pw_j0 ej12 ?_
      refine pw_j1 ej22 (fun z22_0 ez22_0 => ?_)
      subst ez22_0
      have qq0 : (p0.toInt < 0 ∨ ((G 222) this).toInt ≤ p0.toInt → (none : Option Nat) = none) := by intro _; rfl
      have qq1 : (0 ≤ p0.toInt → p0.toInt < ((G 222) this).toInt → none = (O 2) ra (Int32.toNatClampNeg p0)) := by intro h1 h2; exfalso; omega
      exact pw_some ⟨qq0, qq1⟩
abbrev QF_X11_about (κ : Nat → Nat) (wd : Nat) (la : Nat → Nat) (G : Nat → Nat → Int32) (P : Nat → Nat → Option Nat) (U : Nat → Nat → Int64) (V : Nat → Nat → Nat → Int32) (X : Nat → Nat → Nat → Int64) (O : Nat → Nat → Nat → Option Nat) (kd : Nat → Nat) (ln : Nat → Nat) (cnt : Nat) (this : Nat) (p0 : Int32) (p1 : Int32) (ra : Nat) : (Int32) → Prop := (fun t => ((p0.toInt < 0 ∨ ((G 222) this).toInt ≤ p0.toInt → t.toInt = -1)) ∧ ((0 ≤ p0.toInt → p0.toInt < ((G 222) this).toInt → ∀ rf pr er, (O 2) ra (Int32.toNatClampNeg p0) = some rf → (P 103) rf = some pr → (P 104) rf = some er → 0 ≤ ((G 107) rf).toInt → ((G 107) rf).toInt ≤ 100 → ABT p1.toInt t.toInt ((G 100) rf).toInt ((G 102) rf).toInt ((G 203) pr).toInt ((G 107) rf).toInt ((G 203) er).toInt)))
set_option maxHeartbeats 4000000 in
set_option maxRecDepth 100000 in
theorem fn_X11_about (κ : Nat → Nat) (wd : Nat) (la : Nat → Nat) (G : Nat → Nat → Int32) (P : Nat → Nat → Option Nat) (U : Nat → Nat → Int64) (V : Nat → Nat → Nat → Int32) (X : Nat → Nat → Nat → Int64) (O : Nat → Nat → Nat → Option Nat) (kd : Nat → Nat) (ln : Nat → Nat) (cnt : Nat) (this : Nat) (p0 : Int32) (p1 : Int32) (ra : Nat) (hzG102 : rng (0) 40 (G 102)) (hzG200 : rng (0) 24 (G 200)) (hzG203 : rng (0) 100 (G 203)) (hzG222 : rng (0) 6 (G 222)) (hzP103 : PB κ ln wd 6 11 0 2500 1 (P 103)) (hzP104 : PB κ ln wd 6 11 0 2500 1 (P 104)) (hzP201 : PB κ ln wd 11 100 0 2400 0 (P 201)) (hzP202 : PB κ ln wd 11 101 0 100 0 (P 202)) (hzP221 : PB κ ln wd 12 302 6 6 0 (P 221)) (hzV1 : rng2 (0) 24 (V 1)) (hzO2 : OB κ 6 (O 2)) (hzRA : RA κ ln (G 200) (P 201) (P 202)) (hzRB : RB κ ln (G 200) (G 203) (P 202) (V 1)) (hzRI : RI (P 202)) (hzRM103 : RM ln 40 (P 103) (P 202)) (hzRM104 : RM ln 40 (P 104) (P 202)) (hzLN : LN κ ln) (hk_this : κ this = 12) (hB : LB la cnt P) (hlt_this : this < cnt) (h221 : (P 221) this = some ra) : pw (f_X11_about G P U V X O kd ln cnt this p0 p1) (QF_X11_about κ wd la G P U V X O kd ln cnt this p0 p1 ra) := by
  unfold f_X11_about
  have zkm1 : (-1 : Int32).toInt = -1 := by decide +kernel
  have zk0 : (0 : Int32).toInt = 0 := by decide +kernel
  have zk1 : (1 : Int32).toInt = 1 := by decide +kernel
  have zk2 : (2 : Int32).toInt = 2 := by decide +kernel
  have zk3 : (3 : Int32).toInt = 3 := by decide +kernel
  have zk4 : (4 : Int32).toInt = 4 := by decide +kernel
  have r_p0 := i32r p0
  have r_p1 := i32r p1
  refine pw_b1 (fun r2 hc2 => ?_)
  have hq2 := wp_at (ok_X11_reformAt κ wd G P U V X O kd ln cnt this p0 hzG222 hzP221 hzO2 hzLN hk_this) hc2
  obtain ⟨hk1, f2⟩ : ((∀ b, r2 = some b → κ b = 6)) ∧ ((∀ b, r2 = some b → 0 ≤ p0.toInt ∧ p0.toInt < ((G 222) this).toInt)) := hq2
  have h82_h221 : (P 221) this = some ra := by exact h221
  have hx2 := pwq (fn_X11_reformAt κ wd la G P U V X O kd ln cnt this p0 (ra) hzG222 hzP221 hzO2 hzLN hk_this hB hlt_this h82_h221) hc2
  obtain ⟨p2_0, p2_1⟩ : ((p0.toInt < 0 ∨ ((G 222) this).toInt ≤ p0.toInt → (r2 : Option Nat) = none)) ∧ ((0 ≤ p0.toInt → p0.toInt < ((G 222) this).toInt → r2 = (O 2) ra (Int32.toNatClampNeg p0))) := hx2
  refine pw_oc (fun c7 => ?_) (fun b7 c7 => ?_)
  · skip
    have qq0 : (p0.toInt < 0 ∨ ((G 222) this).toInt ≤ p0.toInt → (-1 : Int32).toInt = -1) := by intro _; omega
    have qq1 : (0 ≤ p0.toInt → p0.toInt < ((G 222) this).toInt → ∀ rf pr er, (O 2) ra (Int32.toNatClampNeg p0) = some rf → (P 103) rf = some pr → (P 104) rf = some er → 0 ≤ ((G 107) rf).toInt → ((G 107) rf).toInt ≤ 100 → ABT p1.toInt (-1 : Int32).toInt ((G 100) rf).toInt ((G 102) rf).toInt ((G 203) pr).toInt ((G 107) rf).toInt ((G 203) er).toInt) := by intro h1 h2 rf pr er h3; exfalso; rw [p2_1 h1 h2, h3] at c7; cases c7
    exact pw_some ⟨qq0, qq1⟩
  · skip
    have hk_b7 := hk1 b7 c7
    refine pw_ite (fun c13_0 => ?_) (fun c13_0 => ?_)
    · have c13_0 := congrArg Int32.toInt c13_0
      have qq0 : (p0.toInt < 0 ∨ ((G 222) this).toInt ≤ p0.toInt → ((G 100) b7).toInt = -1) := by intro h; exfalso; rw [p2_0 h] at c7; cases c7
      have qq1 : (0 ≤ p0.toInt → p0.toInt < ((G 222) this).toInt → ∀ rf pr er, (O 2) ra (Int32.toNatClampNeg p0) = some rf → (P 103) rf = some pr → (P 104) rf = some er → 0 ≤ ((G 107) rf).toInt → ((G 107) rf).toInt ≤ 100 → ABT p1.toInt ((G 100) b7).toInt ((G 100) rf).toInt ((G 102) rf).toInt ((G 203) pr).toInt ((G 107) rf).toInt ((G 203) er).toInt) := by intro h1 h2 rf pr er h3 h4 h5 h6 h7; rw [p2_1 h1 h2, h3] at c7; cases c7; exact ⟨fun h => by omega, fun h => by omega, fun h => by omega, fun h => by omega, fun h => by omega, fun h => by omega⟩
      exact pw_some ⟨qq0, qq1⟩
    · have c13_0 := z_ne c13_0
      refine pw_ite (fun c13_1 => ?_) (fun c13_1 => ?_)
      · have c13_1 := congrArg Int32.toInt c13_1
        have bx3 := hzG102 b7
        have qq0 : (p0.toInt < 0 ∨ ((G 222) this).toInt ≤ p0.toInt → ((G 102) b7).toInt = -1) := by intro h; exfalso; rw [p2_0 h] at c7; cases c7
        have qq1 : (0 ≤ p0.toInt → p0.toInt < ((G 222) this).toInt → ∀ rf pr er, (O 2) ra (Int32.toNatClampNeg p0) = some rf → (P 103) rf = some pr → (P 104) rf = some er → 0 ≤ ((G 107) rf).toInt → ((G 107) rf).toInt ≤ 100 → ABT p1.toInt ((G 102) b7).toInt ((G 100) rf).toInt ((G 102) rf).toInt ((G 203) pr).toInt ((G 107) rf).toInt ((G 203) er).toInt) := by intro h1 h2 rf pr er h3 h4 h5 h6 h7; rw [p2_1 h1 h2, h3] at c7; cases c7; exact ⟨fun h => by omega, fun h => by omega, fun h => by omega, fun h => by omega, fun h => by omega, fun h => by omega⟩
        exact pw_some ⟨qq0, qq1⟩
      · have c13_1 := z_ne c13_1
        refine pw_ite (fun c13_2 => ?_) (fun c13_2 => ?_)
        · have c13_2 := congrArg Int32.toInt c13_2
          refine pw_nn (fun a59 hn_a59 => ?_)
          have lt_a594 := ((hB.1 103 fl_103) b7 a59 hn_a59).2.1
          have lb_a594 : la a59 = la b7 + 1 := lk_103.mp ((hB.1 103 fl_103) b7 a59 hn_a59).2.2
          have hk_a59 := ((hzP103 b7).2 a59 hn_a59).1
          have hl1_a59 := ((hzP103 b7).2 a59 hn_a59).2.1
          have hl2_a59 := ((hzP103 b7).2 a59 hn_a59).2.2.1
          have hw_a59 := ((hzP103 b7).2 a59 hn_a59).2.2.2
          have bx5 := hzG203 a59
          have qq0 : (p0.toInt < 0 ∨ ((G 222) this).toInt ≤ p0.toInt → ((G 203) a59).toInt = -1) := by intro h; exfalso; rw [p2_0 h] at c7; cases c7
          have qq1 : (0 ≤ p0.toInt → p0.toInt < ((G 222) this).toInt → ∀ rf pr er, (O 2) ra (Int32.toNatClampNeg p0) = some rf → (P 103) rf = some pr → (P 104) rf = some er → 0 ≤ ((G 107) rf).toInt → ((G 107) rf).toInt ≤ 100 → ABT p1.toInt ((G 203) a59).toInt ((G 100) rf).toInt ((G 102) rf).toInt ((G 203) pr).toInt ((G 107) rf).toInt ((G 203) er).toInt) := by intro h1 h2 rf pr er h3 h4 h5 h6 h7; rw [p2_1 h1 h2, h3] at c7; cases c7; obtain rfl : a59 = pr := Option.some.inj (hn_a59.symm.trans h4); exact ⟨fun h => by omega, fun h => by omega, fun h => by omega, fun h => by omega, fun h => by omega, fun h => by omega⟩
          exact pw_some ⟨qq0, qq1⟩
        · have c13_2 := z_ne c13_2
          refine pw_ite (fun c13_3 => ?_) (fun c13_3 => ?_)
          · have c13_3 := congrArg Int32.toInt c13_3
            have qq0 : (p0.toInt < 0 ∨ ((G 222) this).toInt ≤ p0.toInt → ((G 107) b7).toInt = -1) := by intro h; exfalso; rw [p2_0 h] at c7; cases c7
            have qq1 : (0 ≤ p0.toInt → p0.toInt < ((G 222) this).toInt → ∀ rf pr er, (O 2) ra (Int32.toNatClampNeg p0) = some rf → (P 103) rf = some pr → (P 104) rf = some er → 0 ≤ ((G 107) rf).toInt → ((G 107) rf).toInt ≤ 100 → ABT p1.toInt ((G 107) b7).toInt ((G 100) rf).toInt ((G 102) rf).toInt ((G 203) pr).toInt ((G 107) rf).toInt ((G 203) er).toInt) := by intro h1 h2 rf pr er h3 h4 h5 h6 h7; rw [p2_1 h1 h2, h3] at c7; cases c7; exact ⟨fun h => by omega, fun h => by omega, fun h => by omega, fun h => by omega, fun h => by omega, fun h => by omega⟩
            exact pw_some ⟨qq0, qq1⟩
          · have c13_3 := z_ne c13_3
            refine pw_ite (fun c13_4 => ?_) (fun c13_4 => ?_)
            · have c13_4 := congrArg Int32.toInt c13_4
              refine pw_nn (fun a72 hn_a72 => ?_)
              have lt_a726 := ((hB.1 104 fl_104) b7 a72 hn_a72).2.1
              have lb_a726 : la a72 = la b7 + 2 := lk_104.mp ((hB.1 104 fl_104) b7 a72 hn_a72).2.2
              have hk_a72 := ((hzP104 b7).2 a72 hn_a72).1
              have hl1_a72 := ((hzP104 b7).2 a72 hn_a72).2.1
              have hl2_a72 := ((hzP104 b7).2 a72 hn_a72).2.2.1
              have hw_a72 := ((hzP104 b7).2 a72 hn_a72).2.2.2
              have bx7 := hzG203 a72
              have qq0 : (p0.toInt < 0 ∨ ((G 222) this).toInt ≤ p0.toInt → (((G 203) a72) - ((G 107) b7)).toInt = -1) := by intro h; exfalso; rw [p2_0 h] at c7; cases c7
              have qq1 : (0 ≤ p0.toInt → p0.toInt < ((G 222) this).toInt → ∀ rf pr er, (O 2) ra (Int32.toNatClampNeg p0) = some rf → (P 103) rf = some pr → (P 104) rf = some er → 0 ≤ ((G 107) rf).toInt → ((G 107) rf).toInt ≤ 100 → ABT p1.toInt (((G 203) a72) - ((G 107) b7)).toInt ((G 100) rf).toInt ((G 102) rf).toInt ((G 203) pr).toInt ((G 107) rf).toInt ((G 203) er).toInt) := by intro h1 h2 rf pr er h3 h4 h5 h6 h7; rw [p2_1 h1 h2, h3] at c7; cases c7; obtain rfl : a72 = er := Option.some.inj (hn_a72.symm.trans h5); have hz := z_sub (a := (G 203) a72) (b := (G 107) b7) (by omega) (by omega); exact ⟨fun h => by omega, fun h => by omega, fun h => by omega, fun h => by omega, fun h => by omega, fun h => by omega⟩
              exact pw_some ⟨qq0, qq1⟩
            · have c13_4 := z_ne c13_4
              have qq0 : (p0.toInt < 0 ∨ ((G 222) this).toInt ≤ p0.toInt → (-1 : Int32).toInt = -1) := by intro h; exfalso; rw [p2_0 h] at c7; cases c7
              have qq1 : (0 ≤ p0.toInt → p0.toInt < ((G 222) this).toInt → ∀ rf pr er, (O 2) ra (Int32.toNatClampNeg p0) = some rf → (P 103) rf = some pr → (P 104) rf = some er → 0 ≤ ((G 107) rf).toInt → ((G 107) rf).toInt ≤ 100 → ABT p1.toInt (-1 : Int32).toInt ((G 100) rf).toInt ((G 102) rf).toInt ((G 203) pr).toInt ((G 107) rf).toInt ((G 203) er).toInt) := by intro h1 h2 rf pr er h3 h4 h5 h6 h7; rw [p2_1 h1 h2, h3] at c7; cases c7; exact ⟨fun h => by omega, fun h => by omega, fun h => by omega, fun h => by omega, fun h => by omega, fun h => by omega⟩
              exact pw_some ⟨qq0, qq1⟩
