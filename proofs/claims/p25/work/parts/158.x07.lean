abbrev QF_X3_pick (κ : Nat → Nat) (wd : Nat) (la : Nat → Nat) (G : Nat → Nat → Int32) (P : Nat → Nat → Option Nat) (U : Nat → Nat → Int64) (V : Nat → Nat → Nat → Int32) (X : Nat → Nat → Nat → Int64) (O : Nat → Nat → Nat → Option Nat) (kd : Nat → Nat) (ln : Nat → Nat) (cnt : Nat) (this : Nat) (p0 : Int32) (p1 : Int32) (pk : Nat) (sz : Nat) (Pd : Wd → Int32 → Prop) (R : List (List Wd)) : (Int32) → Prop := (fun t => ((∀ w x, 0 ≤ p0.toInt → R[Int32.toNatClampNeg p0]? = some w → 0 ≤ p1.toInt → w[Int32.toNatClampNeg p1]? = some x → Pd x t)) ∧ ((∀ w, 0 ≤ p0.toInt → R[Int32.toNatClampNeg p0]? = some w → (p1.toInt < 0 ∨ ((w.length : Nat) : Int) ≤ p1.toInt) → t.toInt = -1)))
set_option maxHeartbeats 4000000 in
set_option maxRecDepth 100000 in
theorem fn_X3_pick (κ : Nat → Nat) (wd : Nat) (la : Nat → Nat) (G : Nat → Nat → Int32) (P : Nat → Nat → Option Nat) (U : Nat → Nat → Int64) (V : Nat → Nat → Nat → Int32) (X : Nat → Nat → Nat → Int64) (O : Nat → Nat → Nat → Option Nat) (kd : Nat → Nat) (ln : Nat → Nat) (cnt : Nat) (this : Nat) (p0 : Int32) (p1 : Int32) (pk : Nat) (sz : Nat) (Pd : Wd → Int32 → Prop) (R : List (List Wd)) (hzG60 : rng (0) 30 (G 60)) (hzP61 : PB κ ln wd 4 102 30 30 0 (P 61)) (hzP62 : PB κ ln wd 4 100 720 720 0 (P 62)) (hzV2 : rng2 (0) 24 (V 2)) (hzLN : LN κ ln) (hk_this : κ this = 4) (hB : LB la cnt P) (hlt_this : this < cnt) (hpk : (P 62) this = some pk) (hsz : (P 61) this = some sz) (hR : RWS Pd ((G 60) this).toInt ((V 2) sz) ((V 0) pk) R) : pw (f_X3_pick G P U V X O kd ln cnt this p0 p1) (QF_X3_pick κ wd la G P U V X O kd ln cnt this p0 p1 pk sz Pd R) := by
  unfold f_X3_pick
  have zkm1 : (-1 : Int32).toInt = -1 := by decide +kernel
  have zk0 : (0 : Int32).toInt = 0 := by decide +kernel
  have zk24 : (24 : Int32).toInt = 24 := by decide +kernel
  have r_p0 := i32r p0
  have r_p1 := i32r p1
  have hn1 : (P 62) this = some pk := hpk
  have lt_pk2 := ((hB.1 62 fl_62) this pk hn1).2.1
  have lb_pk2 : la pk = la this + 0 := lk_62.mp ((hB.1 62 fl_62) this pk hn1).2.2
  have hk_pk := ((hzP62 this).2 pk hn1).1
  have hl1_pk := ((hzP62 this).2 pk hn1).2.1
  have hl2_pk := ((hzP62 this).2 pk hn1).2.2.1
  have hw_pk := ((hzP62 this).2 pk hn1).2.2.2
  have hz_pk : (Int32.ofNat (ln pk)).toInt = ((ln pk : Nat) : Int) := ofN_eq (by first | exact Nat.le_trans hl2_pk (by decide) | omega)
  have hn3 : (P 61) this = some sz := hsz
  have lt_sz4 := ((hB.1 61 fl_61) this sz hn3).2.1
  have lb_sz4 : la sz = la this + 0 := lk_61.mp ((hB.1 61 fl_61) this sz hn3).2.2
  have hk_sz := ((hzP61 this).2 sz hn3).1
  have hl1_sz := ((hzP61 this).2 sz hn3).2.1
  have hl2_sz := ((hzP61 this).2 sz hn3).2.2.1
  have hw_sz := ((hzP61 this).2 sz hn3).2.2.2
  have hz_sz : (Int32.ofNat (ln sz)).toInt = ((ln sz : Nat) : Int) := ofN_eq (by first | exact Nat.le_trans hl2_sz (by decide) | omega)
  obtain ⟨hr1, hr2⟩ := hR.1
  refine pw_jE (fun j26 ej26 => ?_)
  refine pw_ite (fun c1 => ?_) (fun c1 => ?_)
  · have c1 := (z_lt _ _).mp c1
    refine pw_j0 ej26 ?_
    have qq0 : (∀ w x, 0 ≤ p0.toInt → R[Int32.toNatClampNeg p0]? = some w → 0 ≤ p1.toInt → w[Int32.toNatClampNeg p1]? = some x → Pd x (-1 : Int32)) := by intro w x h0; omega
    have qq1 : (∀ w, 0 ≤ p0.toInt → R[Int32.toNatClampNeg p0]? = some w → (p1.toInt < 0 ∨ ((w.length : Nat) : Int) ≤ p1.toInt) → (-1 : Int32).toInt = -1) := by intro w _ _ _; omega
    exact pw_some ⟨qq0, qq1⟩
  · have c1 := z_nlt c1
    have b5 := hzG60 this
    refine pw_ite (fun c9 => ?_) (fun c9 => ?_)
    · have c9 := (z_le _ _).mp c9
      refine pw_j0 ej26 ?_
      have qq0 : (∀ w x, 0 ≤ p0.toInt → R[Int32.toNatClampNeg p0]? = some w → 0 ≤ p1.toInt → w[Int32.toNatClampNeg p1]? = some x → Pd x (-1 : Int32)) := by intro w x h0 hw; have cp0 := clampI (x := p0) (by omega); have hk := get_lt hw; obtain ⟨s1, s2, s3⟩ := hR.2 _ _ hw; omega
      have qq1 : (∀ w, 0 ≤ p0.toInt → R[Int32.toNatClampNeg p0]? = some w → (p1.toInt < 0 ∨ ((w.length : Nat) : Int) ≤ p1.toInt) → (-1 : Int32).toInt = -1) := by intro w _ _ _; omega
      exact pw_some ⟨qq0, qq1⟩
    · have c9 := z_nle c9
      refine pw_ite (fun c13 => ?_) (fun c13 => ?_)
      · have c13 := (z_lt _ _).mp c13
        refine pw_j0 ej26 ?_
        have qq0 : (∀ w x, 0 ≤ p0.toInt → R[Int32.toNatClampNeg p0]? = some w → 0 ≤ p1.toInt → w[Int32.toNatClampNeg p1]? = some x → Pd x (-1 : Int32)) := by intro w x h0 hw h1; omega
        have qq1 : (∀ w, 0 ≤ p0.toInt → R[Int32.toNatClampNeg p0]? = some w → (p1.toInt < 0 ∨ ((w.length : Nat) : Int) ≤ p1.toInt) → (-1 : Int32).toInt = -1) := by intro w _ _ _; omega
        exact pw_some ⟨qq0, qq1⟩
      · have c13 := z_nlt c13
        refine pw_nne hn3 ?_
        refine pw_if (fun hb22 => ?_)
        obtain ⟨hbl22, hbr22⟩ := hb22
        have b6 := hzV2 sz (Int32.toNatClampNeg p0)
        refine pw_ite (fun c23 => ?_) (fun c23 => ?_)
        · have c23 := (z_lt _ _).mp c23
          refine pw_nne hn1 ?_
          have f7 : (p0 * 24).toInt = p0.toInt * 24 := z_mulc (by decide +kernel) (by omega) (by omega)
          have f8 : ((p0 * 24) + p1).toInt = (p0 * 24).toInt + p1.toInt := z_add (by omega) (by omega)
          refine pw_if (fun hb38 => ?_)
          obtain ⟨hbl38, hbr38⟩ := hb38
          have qq0 : (∀ w x, 0 ≤ p0.toInt → R[Int32.toNatClampNeg p0]? = some w → 0 ≤ p1.toInt → w[Int32.toNatClampNeg p1]? = some x → Pd x (((V 0) pk) (Int32.toNatClampNeg ((p0 * 24) + p1)))) := by intro w x h0 hw h1 hx; have cp0 := clampI (x := p0) (by omega); have hk := get_lt hw; obtain ⟨s1, s2, s3⟩ := hR.2 _ _ hw; have cp1 := clampI (x := p1) h1; have ci := clampI (x := (p0 * 24) + p1) (by omega); rw [show Int32.toNatClampNeg ((p0 * 24) + p1) = 24 * Int32.toNatClampNeg p0 + Int32.toNatClampNeg p1 by omega]; exact s3 _ _ hx
          have qq1 : (∀ w, 0 ≤ p0.toInt → R[Int32.toNatClampNeg p0]? = some w → (p1.toInt < 0 ∨ ((w.length : Nat) : Int) ≤ p1.toInt) → (((V 0) pk) (Int32.toNatClampNeg ((p0 * 24) + p1))).toInt = -1) := by intro w h0 hw h1; have cp0 := clampI (x := p0) (by omega); have hk := get_lt hw; obtain ⟨s1, s2, s3⟩ := hR.2 _ _ hw; exfalso; omega
          exact pw_some ⟨qq0, qq1⟩
        · have c23 := z_nlt c23
          refine pw_j0 ej26 ?_
          have qq0 : (∀ w x, 0 ≤ p0.toInt → R[Int32.toNatClampNeg p0]? = some w → 0 ≤ p1.toInt → w[Int32.toNatClampNeg p1]? = some x → Pd x (-1 : Int32)) := by intro w x h0 hw h1 hx; have cp0 := clampI (x := p0) (by omega); have hk := get_lt hw; obtain ⟨s1, s2, s3⟩ := hR.2 _ _ hw; have cp1 := clampI (x := p1) h1; have hk2 := get_lt hx; exfalso; omega
          have qq1 : (∀ w, 0 ≤ p0.toInt → R[Int32.toNatClampNeg p0]? = some w → (p1.toInt < 0 ∨ ((w.length : Nat) : Int) ≤ p1.toInt) → (-1 : Int32).toInt = -1) := by intro w _ _ _; omega
          exact pw_some ⟨qq0, qq1⟩
abbrev QF_X5_isKept (κ : Nat → Nat) (wd : Nat) (la : Nat → Nat) (G : Nat → Nat → Int32) (P : Nat → Nat → Option Nat) (U : Nat → Nat → Int64) (V : Nat → Nat → Nat → Int32) (X : Nat → Nat → Nat → Int64) (O : Nat → Nat → Nat → Option Nat) (kd : Nat → Nat) (ln : Nat → Nat) (cnt : Nat) (this : Nat) (p0 : Int32) (kp : Nat) : (Int32) → Prop := (fun t => ((t.toInt ≠ 0 → 0 ≤ p0.toInt ∧ p0.toInt < 40 ∧ (((V 10) kp) (Int32.toNatClampNeg p0)).toInt ≠ 0)) ∧ ((t.toInt = 0 → 0 ≤ p0.toInt → p0.toInt < 40 → (((V 10) kp) (Int32.toNatClampNeg p0)).toInt = 0)))
set_option maxHeartbeats 4000000 in
set_option maxRecDepth 100000 in
theorem fn_X5_isKept (κ : Nat → Nat) (wd : Nat) (la : Nat → Nat) (G : Nat → Nat → Int32) (P : Nat → Nat → Option Nat) (U : Nat → Nat → Int64) (V : Nat → Nat → Nat → Int32) (X : Nat → Nat → Nat → Int64) (O : Nat → Nat → Nat → Option Nat) (kd : Nat → Nat) (ln : Nat → Nat) (cnt : Nat) (this : Nat) (p0 : Int32) (kp : Nat) (hzP106 : PB κ ln wd 6 110 40 40 0 (P 106)) (hzLN : LN κ ln) (hk_this : κ this = 6) (hB : LB la cnt P) (hlt_this : this < cnt) (hkp : (P 106) this = some kp) : pw (f_X5_isKept G P U V X O kd ln cnt this p0) (QF_X5_isKept κ wd la G P U V X O kd ln cnt this p0 kp) := by
  unfold f_X5_isKept
  have zk0 : (0 : Int32).toInt = 0 := by decide +kernel
  have zk1 : (1 : Int32).toInt = 1 := by decide +kernel
  have zk40 : (40 : Int32).toInt = 40 := by decide +kernel
  have r_p0 := i32r p0
  have hn1 : (P 106) this = some kp := hkp
  have lt_kp2 := ((hB.1 106 fl_106) this kp hn1).2.1
  have lb_kp2 : la kp = la this + 0 := lk_106.mp ((hB.1 106 fl_106) this kp hn1).2.2
  have hk_kp := ((hzP106 this).2 kp hn1).1
  have hl1_kp := ((hzP106 this).2 kp hn1).2.1
  have hl2_kp := ((hzP106 this).2 kp hn1).2.2.1
  have hw_kp := ((hzP106 this).2 kp hn1).2.2.2
  have hz_kp : (Int32.ofNat (ln kp)).toInt = ((ln kp : Nat) : Int) := ofN_eq (by first | exact Nat.le_trans hl2_kp (by decide) | omega)
  refine pw_jE (fun j24 ej24 => ?_)
  refine pw_jE (fun j23 ej23 => ?_)
  refine pw_ite (fun c1 => ?_) (fun c1 => ?_)
  · have c1 := (z_lt _ _).mp c1
    refine pw_j0 ej23 ?_
    refine pw_j1 ej24 (fun t24_0 et24_0 => ?_)
    have et24_0 := et24_0.symm
    have f_t24_0 : t24_0.toInt = 0 := by rw [et24_0]; decide +kernel
    refine pw_if (fun hb24 => ?_)
    obtain ⟨hbl24, hbr24⟩ := hb24
    have qq0 : (t24_0.toInt ≠ 0 → 0 ≤ p0.toInt ∧ p0.toInt < 40 ∧ (((V 10) kp) (Int32.toNatClampNeg p0)).toInt ≠ 0) := by intro h; omega
    have qq1 : (t24_0.toInt = 0 → 0 ≤ p0.toInt → p0.toInt < 40 → (((V 10) kp) (Int32.toNatClampNeg p0)).toInt = 0) := by intro _ h1 h2; exfalso; omega
    exact pw_some ⟨qq0, qq1⟩
  · have c1 := z_nlt c1
    refine pw_ite (fun c7 => ?_) (fun c7 => ?_)
    · have c7 := (z_le _ _).mp c7
      refine pw_j0 ej23 ?_
      refine pw_j1 ej24 (fun t24_0 et24_0 => ?_)
      have et24_0 := et24_0.symm
      have f_t24_0 : t24_0.toInt = 0 := by rw [et24_0]; decide +kernel
      refine pw_if (fun hb24 => ?_)
      obtain ⟨hbl24, hbr24⟩ := hb24
      have qq0 : (t24_0.toInt ≠ 0 → 0 ≤ p0.toInt ∧ p0.toInt < 40 ∧ (((V 10) kp) (Int32.toNatClampNeg p0)).toInt ≠ 0) := by intro h; omega
      have qq1 : (t24_0.toInt = 0 → 0 ≤ p0.toInt → p0.toInt < 40 → (((V 10) kp) (Int32.toNatClampNeg p0)).toInt = 0) := by intro _ h1 h2; exfalso; omega
      exact pw_some ⟨qq0, qq1⟩
    · have c7 := z_nle c7
      refine pw_nne hn1 ?_
      refine pw_if (fun hb15 => ?_)
      obtain ⟨hbl15, hbr15⟩ := hb15
      refine pw_ite (fun c16 => ?_) (fun c16 => ?_)
      · have c16 := congrArg Int32.toInt c16
        refine pw_j0 ej23 ?_
        refine pw_j1 ej24 (fun t24_0 et24_0 => ?_)
        have et24_0 := et24_0.symm
        have f_t24_0 : t24_0.toInt = 0 := by rw [et24_0]; decide +kernel
        refine pw_if (fun hb24 => ?_)
        obtain ⟨hbl24, hbr24⟩ := hb24
        have qq0 : (t24_0.toInt ≠ 0 → 0 ≤ p0.toInt ∧ p0.toInt < 40 ∧ (((V 10) kp) (Int32.toNatClampNeg p0)).toInt ≠ 0) := by intro h; omega
        have qq1 : (t24_0.toInt = 0 → 0 ≤ p0.toInt → p0.toInt < 40 → (((V 10) kp) (Int32.toNatClampNeg p0)).toInt = 0) := by intro _ _ _; omega
        exact pw_some ⟨qq0, qq1⟩
      · have c16 := z_ne c16
        refine pw_j1 ej24 (fun t24_0 et24_0 => ?_)
        have et24_0 := et24_0.symm
        have f_t24_0 : t24_0.toInt = 1 := by rw [et24_0]; decide +kernel
        refine pw_if (fun hb24 => ?_)
        obtain ⟨hbl24, hbr24⟩ := hb24
        have qq0 : (t24_0.toInt ≠ 0 → 0 ≤ p0.toInt ∧ p0.toInt < 40 ∧ (((V 10) kp) (Int32.toNatClampNeg p0)).toInt ≠ 0) := by intro _; exact ⟨by omega, by omega, by omega⟩
        have qq1 : (t24_0.toInt = 0 → 0 ≤ p0.toInt → p0.toInt < 40 → (((V 10) kp) (Int32.toNatClampNeg p0)).toInt = 0) := by intro h; omega
        exact pw_some ⟨qq0, qq1⟩
