abbrev QF_X5_isKept (κ : Nat → Nat) (wd : Nat) (la : Nat → Nat) (G : Nat → Nat → Int32) (P : Nat → Nat → Option Nat) (U : Nat → Nat → Int64) (V : Nat → Nat → Nat → Int32) (X : Nat → Nat → Nat → Int64) (O : Nat → Nat → Nat → Option Nat) (kd : Nat → Nat) (ln : Nat → Nat) (cnt : Nat) (this : Nat) (p0 : Int32) (kp : Nat) : (Int32) → Prop := (fun t => ((t.toInt ≠ 0 → 0 ≤ p0.toInt ∧ p0.toInt < 40 ∧ (((V 10) kp) (Int32.toNatClampNeg p0)).toInt ≠ 0)) ∧ ((t.toInt = 0 → 0 ≤ p0.toInt → p0.toInt < 40 → (((V 10) kp) (Int32.toNatClampNeg p0)).toInt = 0)))
set_option maxHeartbeats 4000000 in
set_option maxRecDepth 100000 in
theorem fn_X5_isKept (κ : Nat → Nat) (wd : Nat) (la : Nat → Nat) (G : Nat → Nat → Int32) (P : Nat → Nat → Option Nat) (U : Nat → Nat → Int64) (V : Nat → Nat → Nat → Int32) (X : Nat → Nat → Nat → Int64) (O : Nat → Nat → Nat → Option Nat) (kd : Nat → Nat) (ln : Nat → Nat) (cnt : Nat) (this : Nat) (p0 : Int32) (kp : Nat) (hzP106 : PB κ ln wd 6 110 40 40 0 (P 106)) (hzLN : LN κ ln) (hk_this : κ this = 6) (hB : LB la cnt P) (hlt_this : this < cnt) (hkp : (P 106) this = some kp) : pw (f_X5_isKept G P U V X O kd ln cnt this p0) (QF_X5_isKept κ wd la G P U V X O kd ln cnt this p0 kp) := by
  unfold f_X5_isKept
  have zk0 : (0 : Int32).toInt = 0 := by decide +kernel
  have zk1 : (1 : Int32).toInt = 1 := by decide +kernel
  have zk40 : (40 : Int32).toInt = 40 := by decide +kernel
  have r_p0 := i32r p0
  have hn1 : (P 106) this = some kp := hkp
  have lt_kp2 := ((hB.1 106 fl_106) this kp hn1).2.1
  have lb_kp2 : la kp = la this + 0 := lk_106.mp ((hB.1 106 fl_106) this kp hn1).2.2
  have hk_kp := ((hzP106 this).2 kp hn1).1
  have hl1_kp := ((hzP106 this).2 kp hn1).2.1
  have hl2_kp := ((hzP106 this).2 kp hn1).2.2.1
  have hw_kp := ((hzP106 this).2 kp hn1).2.2.2
  have hz_kp : (Int32.ofNat (ln kp)).toInt = ((ln kp : Nat) : Int) := ofN_eq (by first | exact Nat.le_trans hl2_kp (by decide) | omega)
  refine pw_jE (fun j24 ej24 => ?_)
  refine pw_jE (fun j23 ej23 => ?_)
  refine pw_ite (fun c1 => ?_) (fun c1 => ?_)
  · have c1 := (z_lt _ _).mp c1
    refine pw_j0 ej23 ?_
    refine pw_j1 ej24 (fun t24_0 et24_0 => ?_)
    have et24_0 := et24_0.symm
    have f_t24_0 : t24_0.toInt = 0 := by rw [et24_0]; decide +kernel
    refine pw_if (fun hb24 => ?_)
    obtain ⟨hbl24, hbr24⟩ := hb24
    have qq0 : (t24_0.toInt ≠ 0 → 0 ≤ p0.toInt ∧ p0.toInt < 40 ∧ (((V 10) kp) (Int32.toNatClampNeg p0)).toInt ≠ 0) := by intro h; omega
    have qq1 : (t24_0.toInt = 0 → 0 ≤ p0.toInt → p0.toInt < 40 → (((V 10) kp) (Int32.toNatClampNeg p0)).toInt = 0) := by intro _ h1 h2; exfalso; omega
    exact pw_some ⟨qq0, qq1⟩
  · have c1 := z_nlt c1
    refine pw_ite (fun c7 => ?_) (fun c7 => ?_)
    · have c7 := (z_le _ _).mp c7
      refine pw_j0 ej23 ?_
      refine pw_j1 ej24 (fun t24_0 et24_0 => ?_)
      have et24_0 := et24_0.symm
      have f_t24_0 : t24_0.toInt = 0 := by rw [et24_0]; decide +kernel
      refine pw_if (fun hb24 => ?_)
      obtain ⟨hbl24, hbr24⟩ := hb24
      have qq0 : (t24_0.toInt ≠ 0 → 0 ≤ p0.toInt ∧ p0.toInt < 40 ∧ (((V 10) kp) (Int32.toNatClampNeg p0)).toInt ≠ 0) := by intro h; omega
      have qq1 : (t24_0.toInt = 0 → 0 ≤ p0.toInt → p0.toInt < 40 → (((V 10) kp) (Int32.toNatClampNeg p0)).toInt = 0) := by intro _ h1 h2; exfalso; omega
      exact pw_some ⟨qq0, qq1⟩
    · have c7 := z_nle c7
      refine pw_nne hn1 ?_
      refine pw_if (fun hb15 => ?_)
      obtain ⟨hbl15, hbr15⟩ := hb15
      refine pw_ite (fun c16 => ?_) (fun c16 => ?_)
      · have c16 := congrArg Int32.toInt c16
        refine pw_j0 ej23 ?_
        refine pw_j1 ej24 (fun t24_0 et24_0 => ?_)
        have et24_0 := et24_0.symm
        have f_t24_0 : t24_0.toInt = 0 := by rw [et24_0]; decide +kernel
        refine pw_if (fun hb24 => ?_)
        obtain ⟨hbl24, hbr24⟩ := hb24
        have qq0 : (t24_0.toInt ≠ 0 → 0 ≤ p0.toInt ∧ p0.toInt < 40 ∧ (((V 10) kp) (Int32.toNatClampNeg p0)).toInt ≠ 0) := by intro h; omega
        have qq1 : (t24_0.toInt = 0 → 0 ≤ p0.toInt → p0.toInt < 40 → (((V 10) kp) (Int32.toNatClampNeg p0)).toInt = 0) := by intro _ _ _; omega
        exact pw_some ⟨qq0, qq1⟩
      · have c16 := z_ne c16
        refine pw_j1 ej24 (fun t24_0 et24_0 => ?_)
        have et24_0 := et24_0.symm
        have f_t24_0 : t24_0.toInt = 1 := by rw [et24_0]; decide +kernel
        refine pw_if (fun hb24 => ?_)
        obtain ⟨hbl24, hbr24⟩ := hb24
        have qq0 : (t24_0.toInt ≠ 0 → 0 ≤ p0.toInt ∧ p0.toInt < 40 ∧ (((V 10) kp) (Int32.toNatClampNeg p0)).toInt ≠ 0) := by intro _; exact ⟨by omega, by omega, by omega⟩
        have qq1 : (t24_0.toInt = 0 → 0 ≤ p0.toInt → p0.toInt < 40 → (((V 10) kp) (Int32.toNatClampNeg p0)).toInt = 0) := by intro h; omega
        exact pw_some ⟨qq0, qq1⟩
