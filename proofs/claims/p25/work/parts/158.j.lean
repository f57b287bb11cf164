abbrev QF_X10_isSmall (κ : Nat → Nat) (wd : Nat) (G : Nat → Nat → Int32) (P : Nat → Nat → Option Nat) (U : Nat → Nat → Int64) (V : Nat → Nat → Nat → Int32) (X : Nat → Nat → Nat → Int64) (O : Nat → Nat → Nat → Option Nat) (kd : Nat → Nat) (ln : Nat → Nat) (cnt : Nat) (p0 : Int32) : (Int32) → Prop := (fun t => ((t.toInt ≠ 0 → 97 ≤ p0.toInt ∧ p0.toInt ≤ 122)) ∧ ((t.toInt = 0 → ¬ (97 ≤ p0.toInt ∧ p0.toInt ≤ 122))))
set_option maxHeartbeats 4000000 in
set_option maxRecDepth 100000 in
theorem fn_X10_isSmall (κ : Nat → Nat) (wd : Nat) (G : Nat → Nat → Int32) (P : Nat → Nat → Option Nat) (U : Nat → Nat → Int64) (V : Nat → Nat → Nat → Int32) (X : Nat → Nat → Nat → Int64) (O : Nat → Nat → Nat → Option Nat) (kd : Nat → Nat) (ln : Nat → Nat) (cnt : Nat) (p0 : Int32) (hzLN : LN κ ln) : pw (f_X10_isSmall G P U V X O kd ln cnt p0) (QF_X10_isSmall κ wd G P U V X O kd ln cnt p0) := by
  unfold f_X10_isSmall
  have zk0 : (0 : Int32).toInt = 0 := by decide +kernel
  have zk1 : (1 : Int32).toInt = 1 := by decide +kernel
  have zk97 : (97 : Int32).toInt = 97 := by decide +kernel
  have zk122 : (122 : Int32).toInt = 122 := by decide +kernel
  have r_p0 := i32r p0
  refine pw_jE (fun j17 ej17 => ?_)
  refine pw_jE (fun j16 ej16 => ?_)
  refine pw_ite (fun c3 => ?_) (fun c3 => ?_)
  · have c3 := (z_lt _ _).mp c3
    refine pw_j0 ej16 ?_
    refine pw_j1 ej17 (fun t17_0 et17_0 => ?_)
    have et17_0 := et17_0.symm
    have f_t17_0 : t17_0.toInt = 0 := by rw [et17_0]; decide +kernel
    refine pw_if (fun hb17 => ?_)
    obtain ⟨hbl17, hbr17⟩ := hb17
    have qq0 : (t17_0.toInt ≠ 0 → 97 ≤ p0.toInt ∧ p0.toInt ≤ 122) := by omega
    have qq1 : (t17_0.toInt = 0 → ¬ (97 ≤ p0.toInt ∧ p0.toInt ≤ 122)) := by omega
    exact pw_some ⟨qq0, qq1⟩
  · have c3 := z_nlt c3
    refine pw_ite (fun c9 => ?_) (fun c9 => ?_)
    · have c9 := (z_lt _ _).mp c9
      refine pw_j0 ej16 ?_
      refine pw_j1 ej17 (fun t17_0 et17_0 => ?_)
      have et17_0 := et17_0.symm
      have f_t17_0 : t17_0.toInt = 0 := by rw [et17_0]; decide +kernel
      refine pw_if (fun hb17 => ?_)
      obtain ⟨hbl17, hbr17⟩ := hb17
      have qq0 : (t17_0.toInt ≠ 0 → 97 ≤ p0.toInt ∧ p0.toInt ≤ 122) := by omega
      have qq1 : (t17_0.toInt = 0 → ¬ (97 ≤ p0.toInt ∧ p0.toInt ≤ 122)) := by omega
      exact pw_some ⟨qq0, qq1⟩
    · have c9 := z_nlt c9
      refine pw_j1 ej17 (fun t17_0 et17_0 => ?_)
      have et17_0 := et17_0.symm
      have f_t17_0 : t17_0.toInt = 1 := by rw [et17_0]; decide +kernel
      refine pw_if (fun hb17 => ?_)
      obtain ⟨hbl17, hbr17⟩ := hb17
      have qq0 : (t17_0.toInt ≠ 0 → 97 ≤ p0.toInt ∧ p0.toInt ≤ 122) := by omega
      have qq1 : (t17_0.toInt = 0 → ¬ (97 ≤ p0.toInt ∧ p0.toInt ≤ 122)) := by omega
      exact pw_some ⟨qq0, qq1⟩
abbrev QF_X4_scanRun (κ : Nat → Nat) (wd : Nat) (la : Nat → Nat) (G : Nat → Nat → Int32) (P : Nat → Nat → Option Nat) (U : Nat → Nat → Int64) (V : Nat → Nat → Nat → Int32) (X : Nat → Nat → Nat → Int64) (O : Nat → Nat → Nat → Option Nat) (kd : Nat → Nat) (ln : Nat → Nat) (cnt : Nat) (this : Nat) (p0 : Int32) (tx : Nat) (f : Nat → Int32) (n : Nat) (e : Nat) : ((Nat → Int32) × (Nat → Int32) × (Nat → Int32)) → Prop := (fun t => (((t.2.2) this).toInt ≤ ((tRn f n e : Nat) : Int)) ∧ ((((t.2.2) this).toInt = ((tRn f n e : Nat) : Int) ∨ ((t.2.2) this).toInt = p0.toInt)))
set_option maxHeartbeats 4000000 in
set_option maxRecDepth 100000 in
theorem fn_X4_scanRun (κ : Nat → Nat) (wd : Nat) (la : Nat → Nat) (G : Nat → Nat → Int32) (P : Nat → Nat → Option Nat) (U : Nat → Nat → Int64) (V : Nat → Nat → Nat → Int32) (X : Nat → Nat → Nat → Int64) (O : Nat → Nat → Nat → Option Nat) (kd : Nat → Nat) (ln : Nat → Nat) (cnt : Nat) (this : Nat) (p0 : Int32) (tx : Nat) (f : Nat → Int32) (n : Nat) (e : Nat) (hzG83 : rng (0) 2000 (G 83)) (hzG84 : rng (0) 2001 (G 84)) (hzG87 : rng (0) 2001 (G 87)) (hzG88 : rng (0) 2000 (G 88)) (hzP82 : PB κ ln wd 5 100 0 2000 0 (P 82)) (hzLN : LN κ ln) (hk_this : κ this = 5) (hp0 : (∀ tx, (P 82) this = some tx → ((G 83) this).toInt ≤ ((ln tx : Nat) : Int))) (hp1 : ((G 84) this).toInt ≤ ((G 83) this).toInt) (hp2 : ((G 88) this).toInt = 0) (hp3 : (0 ≤ p0.toInt ∧ p0.toInt ≤ 2000)) (hB : LB la cnt P) (hlt_this : this < cnt) (htx : (P 82) this = some tx) (hf : (V 0) tx = f) (hn : Int32.toNatClampNeg ((G 83) this) = n) (he : Int32.toNatClampNeg ((G 84) this) = e) : pw (f_X4_scanRun G P U V X O kd ln cnt this p0) (QF_X4_scanRun κ wd la G P U V X O kd ln cnt this p0 tx f n e) := by
  unfold f_X4_scanRun
  have zk0 : (0 : Int32).toInt = 0 := by decide +kernel
  have zk1 : (1 : Int32).toInt = 1 := by decide +kernel
  have r_p0 := i32r p0
  have hn1 : (P 82) this = some tx := htx
  have lt_tx2 := ((hB.1 82 fl_82) this tx hn1).2.1
  have hk_tx := ((hzP82 this).2 tx hn1).1
  have hl1_tx := ((hzP82 this).2 tx hn1).2.1
  have hl2_tx := ((hzP82 this).2 tx hn1).2.2.1
  have hw_tx := ((hzP82 this).2 tx hn1).2.2.2
  have hz_tx : (Int32.ofNat (ln tx)).toInt = ((ln tx : Nat) : Int) := ofN_eq (by first | exact Nat.le_trans hl2_tx (by decide) | omega)
  have hsz := hp0 _ htx
  have hb83 := hzG83 this
  have ec83 := clampI (x := (G 83) this) (by omega)
  have hb84 := hzG84 this
  have ec84 := clampI (x := (G 84) this) (by omega)
  have b3 := hzG84 this
  refine pw_vl (fun x5 ex5 => ?_)
  have f4 : x5.toInt = ((G 84) this).toInt := congrArg Int32.toInt ex5
  refine pw_vl (fun m5 em5 => ?_)
  have hfr5 : ∀ z, ((la z < la this ∨ la this < la z)) → m5 z = (G 87) z := fr_up (e0 := (G 87)) (fun _ _ => rfl) em5 (show ¬ ((la this < la this ∨ la this < la this)) from by omega)
  have hg6 : rng (0) 2001 m5 := by rw [em5]; exact rng_vup hzG87 (by omega) (by omega)
  have sm5 : (m5 this).toInt = x5.toInt := by rw [em5, va_up_self]
  have b7 := hg6 this
  refine pw_jE (fun k65 ek65 => ?_)
  have lp8 : ∀ (n8 : Nat) (d8_G84 : Nat → Int32) (d8_G88 : Nat → Int32), rng (0) 2001 d8_G84 → rng (0) 2000 d8_G88 → (∀ z, ((la z < la this ∨ la this < la z)) → d8_G84 z = (G 84) z) → (∀ z, ((la z < la this ∨ la this < la z)) → d8_G88 z = (G 88) z) → (d8_G84 this).toInt = (m5 this).toInt + (d8_G88 this).toInt → (d8_G84 this).toInt ≤ ((G 83) this).toInt → (d8_G88 this).toInt ≤ p0.toInt → (((tRn f n e : Nat) : Int) = (d8_G88 this).toInt + ((tRn f n (Int32.toNatClampNeg (d8_G84 this)) : Nat) : Int)) → pw (L_X4_scanRun_8 G P U V X O kd ln cnt this p0 m5 k65 n8 d8_G84 d8_G88) (QF_X4_scanRun κ wd la G P U V X O kd ln cnt this p0 tx f n e) := by
    intro n8
    induction n8 with
    | zero => intros; exact pw_none
    | succ n8 ih8 =>
      intro d8_G84 d8_G88 hg8 hg9 hfr10 hfr11 f12 f13 f14 ir8
      show pw (B_X4_scanRun_8 G P U V X O kd ln cnt this p0 m5 k65 (L_X4_scanRun_8 G P U V X O kd ln cnt this p0 m5 k65 n8) d8_G84 d8_G88) _
      unfold B_X4_scanRun_8
      have hd84 := hg8 this
      have ed84 := clampI (x := d8_G84 this) (by omega)
      have b15 := hg8 this
      have b16 := hzG83 this
      refine pw_ite (fun c16 => ?_) (fun c16 => ?_)
      · have c16 := (z_le _ _).mp c16
        refine pw_j2 ek65 (fun z65_0 ez65_0 z65_1 ez65_1 => ?_)
        subst ez65_0 ez65_1
        have qq0 : (d8_G88 this).toInt ≤ ((tRn f n e : Nat) : Int) := by have h := ir8; have h2 := tRn_stop (f := f) (n := n) (s := Int32.toNatClampNeg (d8_G84 this)) (fun q => by have h3 := q.1; omega); omega
        have qq1 : ((d8_G88 this).toInt = ((tRn f n e : Nat) : Int) ∨ (d8_G88 this).toInt = p0.toInt) := by have h := ir8; have h2 := tRn_stop (f := f) (n := n) (s := Int32.toNatClampNeg (d8_G84 this)) (fun q => by have h3 := q.1; omega); omega
        exact pw_some ⟨qq0, qq1⟩
      · have c16 := z_nle c16
        have b17 := hg9 this
        refine pw_ite (fun c24 => ?_) (fun c24 => ?_)
        · have c24 := (z_le _ _).mp c24
          refine pw_j2 ek65 (fun z65_0 ez65_0 z65_1 ez65_1 => ?_)
          subst ez65_0 ez65_1
          have qq0 : (d8_G88 this).toInt ≤ ((tRn f n e : Nat) : Int) := by have h := ir8; omega
          have qq1 : ((d8_G88 this).toInt = ((tRn f n e : Nat) : Int) ∨ (d8_G88 this).toInt = p0.toInt) := by have h := ir8; omega
          exact pw_some ⟨qq0, qq1⟩
        · have c24 := z_nle c24
          refine pw_nne hn1 ?_
          refine pw_if (fun hb35 => ?_)
          obtain ⟨hbl35, hbr35⟩ := hb35
          have hv35 : ((((V 0) tx) (Int32.toNatClampNeg (d8_G84 this))).toInt) = (f (Int32.toNatClampNeg (d8_G84 this))).toInt := by rw [hf]
          refine pw_b1 (fun r36 hc36 => ?_)
          have hq36 := wp_at (ok_X10_isSmall κ wd (va_up (va_up (va_up G 84 d8_G84) 87 m5) 88 d8_G88) P U V X O kd ln cnt (((V 0) tx) (Int32.toNatClampNeg (d8_G84 this))) hzLN) hc36
          have f19 : (0 ≤ r36.toInt ∧ r36.toInt ≤ 1) := hq36
          clear hq36
          have hx36 := pwq (fn_X10_isSmall κ wd (va_up (va_up (va_up G 84 d8_G84) 87 m5) 88 d8_G88) P U V X O kd ln cnt (((V 0) tx) (Int32.toNatClampNeg (d8_G84 this))) hzLN) hc36
          obtain ⟨p36_0, p36_1⟩ : ((r36.toInt ≠ 0 → 97 ≤ (((V 0) tx) (Int32.toNatClampNeg (d8_G84 this))).toInt ∧ (((V 0) tx) (Int32.toNatClampNeg (d8_G84 this))).toInt ≤ 122)) ∧ ((r36.toInt = 0 → ¬ (97 ≤ (((V 0) tx) (Int32.toNatClampNeg (d8_G84 this))).toInt ∧ (((V 0) tx) (Int32.toNatClampNeg (d8_G84 this))).toInt ≤ 122))) := hx36
          refine pw_ite (fun c39 => ?_) (fun c39 => ?_)
          · have c39 := congrArg Int32.toInt c39
            refine pw_j2 ek65 (fun z65_0 ez65_0 z65_1 ez65_1 => ?_)
            subst ez65_0 ez65_1
            have qq0 : (d8_G88 this).toInt ≤ ((tRn f n e : Nat) : Int) := by have h := ir8; have h2 := tRn_stop (f := f) (n := n) (s := Int32.toNatClampNeg (d8_G84 this)) (fun q => by have h4 := q.2.1; have h5 := q.2.2; omega); omega
            have qq1 : ((d8_G88 this).toInt = ((tRn f n e : Nat) : Int) ∨ (d8_G88 this).toInt = p0.toInt) := by have h := ir8; have h2 := tRn_stop (f := f) (n := n) (s := Int32.toNatClampNeg (d8_G84 this)) (fun q => by have h4 := q.2.1; have h5 := q.2.2; omega); omega
            exact pw_some ⟨qq0, qq1⟩
          · have c39 := z_ne c39
            have f21 : ((d8_G88 this) + 1).toInt = (d8_G88 this).toInt + 1 := z_addc (by decide +kernel) (by omega) (by omega)
            refine pw_vl (fun x49 ex49 => ?_)
            have f22 : x49.toInt = ((d8_G88 this) + 1).toInt := congrArg Int32.toInt ex49
            refine pw_vl (fun m49 em49 => ?_)
            have hfr23 : ∀ z, ((la z < la this ∨ la this < la z)) → m49 z = (G 88) z := fr_up (e0 := (G 88)) hfr11 em49 (show ¬ ((la this < la this ∨ la this < la this)) from by omega)
            have hg24 : rng (0) 2000 m49 := by rw [em49]; exact rng_vup hg9 (by omega) (by omega)
            have sm49 : (m49 this).toInt = x49.toInt := by rw [em49, va_up_self]
            have b25 := hg24 this
            have f27 : ((d8_G84 this) + 1).toInt = (d8_G84 this).toInt + 1 := z_addc (by decide +kernel) (by omega) (by omega)
            refine pw_vl (fun x59 ex59 => ?_)
            have f28 : x59.toInt = ((d8_G84 this) + 1).toInt := congrArg Int32.toInt ex59
            refine pw_vl (fun m59 em59 => ?_)
            have hfr29 : ∀ z, ((la z < la this ∨ la this < la z)) → m59 z = (G 84) z := fr_up (e0 := (G 84)) hfr10 em59 (show ¬ ((la this < la this ∨ la this < la this)) from by omega)
            have hg30 : rng (0) 2001 m59 := by rw [em59]; exact rng_vup hg8 (by omega) (by omega)
            have sm59 : (m59 this).toInt = x59.toInt := by rw [em59, va_up_self]
            have b31 := hg30 this
            have iv8_0 : (m59 this).toInt = (m5 this).toInt + (m49 this).toInt := by omega
            have iv8_1 : (m59 this).toInt ≤ ((G 83) this).toInt := by omega
            have iv8_2 : (m49 this).toInt ≤ p0.toInt := by omega
            have iv8_3 : (((tRn f n e : Nat) : Int) = (m49 this).toInt + ((tRn f n (Int32.toNatClampNeg (m59 this)) : Nat) : Int)) := by have h := ir8; have h2 := tRn_step (f := f) (n := n) (s := Int32.toNatClampNeg (d8_G84 this)) (by omega) ⟨by omega, by omega⟩; have e2 := clampI (x := m59 this) (by omega); rw [show Int32.toNatClampNeg (m59 this) = Int32.toNatClampNeg (d8_G84 this) + 1 by omega]; omega
            exact ih8 m59 m49 hg30 hg24 hfr29 hfr23 iv8_0 iv8_1 iv8_2 iv8_3
  exact lp8 NN (G 84) (G 88) hzG84 hzG88 (fun _ _ => rfl) (fun _ _ => rfl) (show ((G 84) this).toInt = (m5 this).toInt + ((G 88) this).toInt from by omega) (show ((G 84) this).toInt ≤ ((G 83) this).toInt from by omega) (show ((G 88) this).toInt ≤ p0.toInt from by omega) (show (((tRn f n e : Nat) : Int) = ((G 88) this).toInt + ((tRn f n (Int32.toNatClampNeg ((G 84) this)) : Nat) : Int)) from by rw [he]; omega)
abbrev QF_X4_nextToken (κ : Nat → Nat) (wd : Nat) (la : Nat → Nat) (G : Nat → Nat → Int32) (P : Nat → Nat → Option Nat) (U : Nat → Nat → Int64) (V : Nat → Nat → Nat → Int32) (X : Nat → Nat → Nat → Int64) (O : Nat → Nat → Nat → Option Nat) (kd : Nat → Nat) (ln : Nat → Nat) (cnt : Nat) (this : Nat) (tx : Nat) (f : Nat → Int32) (n : Nat) (e : Nat) : ((Nat → Int32) × (Nat → Int32) × (Nat → Int32) × (Nat → Int32) × (Nat → Int32)) → Prop := (fun t => (TKC f n e ((t.2.1) this).toInt ((t.2.2.1) this).toInt ((t.2.2.2.1) this).toInt ((t.2.2.2.2) this).toInt ((t.1) this).toInt))
set_option maxHeartbeats 4000000 in
set_option maxRecDepth 100000 in
theorem fn_X4_nextToken (κ : Nat → Nat) (wd : Nat) (la : Nat → Nat) (G : Nat → Nat → Int32) (P : Nat → Nat → Option Nat) (U : Nat → Nat → Int64) (V : Nat → Nat → Nat → Int32) (X : Nat → Nat → Nat → Int64) (O : Nat → Nat → Nat → Option Nat) (kd : Nat → Nat) (ln : Nat → Nat) (cnt : Nat) (this : Nat) (tx : Nat) (f : Nat → Int32) (n : Nat) (e : Nat) (hzG83 : rng (0) 2000 (G 83)) (hzG84 : rng (0) 2001 (G 84)) (hzG85 : rng (0) 4 (G 85)) (hzG87 : rng (0) 2001 (G 87)) (hzG88 : rng (0) 2000 (G 88)) (hzP82 : PB κ ln wd 5 100 0 2000 0 (P 82)) (hzLN : LN κ ln) (hk_this : κ this = 5) (hp0 : (∀ tx, (P 82) this = some tx → ((G 83) this).toInt ≤ ((ln tx : Nat) : Int))) (hp1 : ((G 84) this).toInt ≤ ((G 83) this).toInt + 1) (hB : LB la cnt P) (hlt_this : this < cnt) (htx : (P 82) this = some tx) (hf : (V 0) tx = f) (hn : Int32.toNatClampNeg ((G 83) this) = n) (he : Int32.toNatClampNeg ((G 84) this) = e) : pw (f_X4_nextToken G P U V X O kd ln cnt this) (QF_X4_nextToken κ wd la G P U V X O kd ln cnt this tx f n e) := by
  unfold f_X4_nextToken
  have zk0 : (0 : Int32).toInt = 0 := by decide +kernel
  have zk1 : (1 : Int32).toInt = 1 := by decide +kernel
  have zk2 : (2 : Int32).toInt = 2 := by decide +kernel
  have zk3 : (3 : Int32).toInt = 3 := by decide +kernel
  have zk4 : (4 : Int32).toInt = 4 := by decide +kernel
  have zk10 : (10 : Int32).toInt = 10 := by decide +kernel
  have zk16 : (16 : Int32).toInt = 16 := by decide +kernel
  have zk32 : (32 : Int32).toInt = 32 := by decide +kernel
  have zk39 : (39 : Int32).toInt = 39 := by decide +kernel
  have zk59 : (59 : Int32).toInt = 59 := by decide +kernel
  have hn1 : (P 82) this = some tx := htx
  have lt_tx2 := ((hB.1 82 fl_82) this tx hn1).2.1
  have hk_tx := ((hzP82 this).2 tx hn1).1
  have hl1_tx := ((hzP82 this).2 tx hn1).2.1
  have hl2_tx := ((hzP82 this).2 tx hn1).2.2.1
  have hw_tx := ((hzP82 this).2 tx hn1).2.2.2
  have hz_tx : (Int32.ofNat (ln tx)).toInt = ((ln tx : Nat) : Int) := ofN_eq (by first | exact Nat.le_trans hl2_tx (by decide) | omega)
  have hsz := hp0 _ htx
  have hb0 := hzG84 this
  have hb83 := hzG83 this
  have ec83 := clampI (x := (G 83) this) (by omega)
  have hb84 := hzG84 this
  have ec84 := clampI (x := (G 84) this) (by omega)
  refine pw_jE (fun k52 ek52 => ?_)
  have lp0 : ∀ (n0 : Nat) (d0_G84 : Nat → Int32), rng (0) 2001 d0_G84 → (∀ z, ((la z < la this ∨ la this < la z)) → d0_G84 z = (G 84) z) → ((G 84) this).toInt ≤ (d0_G84 this).toInt → (d0_G84 this).toInt ≤ ((G 83) this).toInt + 1 → (tP f n e = tP f n (Int32.toNatClampNeg (d0_G84 this))) → pw (L_X4_nextToken_0 G P V ln this k52 n0 d0_G84) (QF_X4_nextToken κ wd la G P U V X O kd ln cnt this tx f n e) := by
    intro n0
    induction n0 with
    | zero => intros; exact pw_none
    | succ n0 ih0 =>
      intro d0_G84 hg3 hfr4 f5 f6 is0
      show pw (B_X4_nextToken_0 G P V ln this k52 (L_X4_nextToken_0 G P V ln this k52 n0) d0_G84) _
      unfold B_X4_nextToken_0
      have hd84 := hg3 this
      have ed84 := clampI (x := d0_G84 this) (by omega)
      have b7 := hg3 this
      have b8 := hzG83 this
      refine pw_ite (fun c8 => ?_) (fun c8 => ?_)
      · have c8 := (z_le _ _).mp c8
        refine pw_j1 ek52 (fun z52_0 ez52_0 => ?_)
        subst ez52_0
        have hP : tP f n e = Int32.toNatClampNeg (d0_G84 this) := by rw [is0]; exact tP_stop (fun q => by have h1 := q.1; have h2 : _ ∨ _ := q.2; omega)
        refine pw_vl (fun x57 ex57 => ?_)
        have f10 : x57.toInt = (d0_G84 this).toInt := congrArg Int32.toInt ex57
        refine pw_vl (fun m57 em57 => ?_)
        have hfr11 : ∀ z, ((la z < la this ∨ la this < la z)) → m57 z = (G 86) z := fr_up (e0 := (G 86)) (fun _ _ => rfl) em57 (show ¬ ((la this < la this ∨ la this < la this)) from by omega)
        have sm57 : (m57 this).toInt = x57.toInt := by rw [em57, va_up_self]
        refine pw_vl (fun m62 em62 => ?_)
        have hfr12 : ∀ z, ((la z < la this ∨ la this < la z)) → m62 z = (G 88) z := fr_up (e0 := (G 88)) (fun _ _ => rfl) em62 (show ¬ ((la this < la this ∨ la this < la this)) from by omega)
        have hg13 : rng (0) 2000 m62 := by rw [em62]; exact rng_vup hzG88 (by omega) (by omega)
        have sm62 : (m62 this).toInt = 0 := by rw [em62, va_up_self]; decide +kernel
        have b14 := hg13 this
        refine pw_jE (fun j217 ej217 => ?_)
        refine pw_ite (fun c73 => ?_) (fun c73 => ?_)
        · have c73 := (z_lt _ _).mp c73
          refine pw_nne hn1 ?_
          refine pw_if (fun hb92 => ?_)
          obtain ⟨hbl92, hbr92⟩ := hb92
          have hv92 : ((((V 0) tx) (Int32.toNatClampNeg (d0_G84 this))).toInt) = (f (Int32.toNatClampNeg (d0_G84 this))).toInt := by rw [hf]
          refine pw_ite (fun c95 => ?_) (fun c95 => ?_)
          · have c95 := congrArg Int32.toInt c95
            refine pw_vl (fun m100 em100 => ?_)
            have hfr18 : ∀ z, ((la z < la this ∨ la this < la z)) → m100 z = (G 85) z := fr_up (e0 := (G 85)) (fun _ _ => rfl) em100 (show ¬ ((la this < la this ∨ la this < la this)) from by omega)
            have hg19 : rng (0) 4 m100 := by rw [em100]; exact rng_vup hzG85 (by omega) (by omega)
            have sm100 : (m100 this).toInt = 3 := by rw [em100, va_up_self]; decide +kernel
            have b20 := hg19 this
            have f22 : ((d0_G84 this) + 1).toInt = (d0_G84 this).toInt + 1 := z_addc (by decide +kernel) (by omega) (by omega)
            refine pw_vl (fun x110 ex110 => ?_)
            have f23 : x110.toInt = ((d0_G84 this) + 1).toInt := congrArg Int32.toInt ex110
            refine pw_vl (fun m110 em110 => ?_)
            have hfr24 : ∀ z, ((la z < la this ∨ la this < la z)) → m110 z = (G 84) z := fr_up (e0 := (G 84)) hfr4 em110 (show ¬ ((la this < la this ∨ la this < la this)) from by omega)
            have hg25 : rng (0) 2001 m110 := by rw [em110]; exact rng_vup hg3 (by omega) (by omega)
            have sm110 : (m110 this).toInt = x110.toInt := by rw [em110, va_up_self]
            have b26 := hg25 this
            refine pw_j4 ej217 (fun z217_0 ez217_0 z217_1 ez217_1 z217_2 ez217_2 z217_3 ez217_3 => ?_)
            subst ez217_0 ez217_1 ez217_2 ez217_3
            have qq0 : TKC f n e (m100 this).toInt (m57 this).toInt ((G 87) this).toInt (m62 this).toInt (m110 this).toInt := by exact tkc_close hP (by omega) (by omega) (by omega) (by omega) (by omega)
            exact pw_some qq0
          · have c95 := z_ne c95
            refine pw_nne hn1 ?_
            refine pw_if (fun hb124 => ?_)
            obtain ⟨hbl124, hbr124⟩ := hb124
            have hv124 : ((((V 0) tx) (Int32.toNatClampNeg (d0_G84 this))).toInt) = (f (Int32.toNatClampNeg (d0_G84 this))).toInt := by rw [hf]
            refine pw_ite (fun c127 => ?_) (fun c127 => ?_)
            · have c127 := congrArg Int32.toInt c127
              have f29 : ((d0_G84 this) + 1).toInt = (d0_G84 this).toInt + 1 := z_addc (by decide +kernel) (by omega) (by omega)
              refine pw_vl (fun x137 ex137 => ?_)
              have f30 : x137.toInt = ((d0_G84 this) + 1).toInt := congrArg Int32.toInt ex137
              refine pw_vl (fun m137 em137 => ?_)
              have hfr31 : ∀ z, ((la z < la this ∨ la this < la z)) → m137 z = (G 84) z := fr_up (e0 := (G 84)) hfr4 em137 (show ¬ ((la this < la this ∨ la this < la this)) from by omega)
              have hg32 : rng (0) 2001 m137 := by rw [em137]; exact rng_vup hg3 (by omega) (by omega)
              have sm137 : (m137 this).toInt = x137.toInt := by rw [em137, va_up_self]
              have b33 := hg32 this
              have hpr143_0 : (∀ tx, (P 82) this = some tx → ((G 83) this).toInt ≤ ((ln tx : Nat) : Int)) := by assumption
              have hpr143_1 : (m137 this).toInt ≤ ((G 83) this).toInt := by first | assumption | omega
              have hpr143_2 : (m62 this).toInt = 0 := by first | assumption | omega
              have hpr143_3 : (0 ≤ (16 : Int32).toInt ∧ (16 : Int32).toInt ≤ 2000) := by first | assumption | omega
              refine pw_b3 (fun c143_G84 c143_G87 c143_G88 hc143 => ?_)
              have hq143 := wp_at (ok_X4_scanRun κ wd (va_up (va_up (va_up (va_up G 84 d0_G84) 86 m57) 88 m62) 84 m137) P U V X O kd ln cnt this (16 : Int32) hzG83 hg32 hzG87 hg13 hzP82 hzLN hk_this hpr143_0 hpr143_1 hpr143_2 hpr143_3) hc143
              obtain ⟨hg34, hg35, hg36, f37, f38, f39, f40⟩ : (rng (0) 2001 c143_G84) ∧ (rng (0) 2001 c143_G87) ∧ (rng (0) 2000 c143_G88) ∧ ((c143_G87 this).toInt = (m137 this).toInt) ∧ ((c143_G84 this).toInt = (c143_G87 this).toInt + (c143_G88 this).toInt) ∧ ((c143_G84 this).toInt ≤ ((G 83) this).toInt) ∧ ((c143_G88 this).toInt ≤ (16 : Int32).toInt) := hq143
              have hq143 := pwq (fr_X4_scanRun la (va_up (va_up (va_up (va_up G 84 d0_G84) 86 m57) 88 m62) 84 m137) P U V X O kd ln cnt this (16 : Int32) hB) hc143
              obtain ⟨q143_G84, q143_G87, q143_G88⟩ : (∀ z, (la z < la this ∨ la this < la z) → c143_G84 z = m137 z) ∧ (∀ z, (la z < la this ∨ la this < la z) → c143_G87 z = (G 87) z) ∧ (∀ z, (la z < la this ∨ la this < la z) → c143_G88 z = m62 z) := hq143
              have tz143 : ∀ z, ((la z < la this ∨ la this < la z)) → ((la z < la this ∨ la this < la z)) := fun z hz => by omega
              have hfr41 : ∀ z, ((la z < la this ∨ la this < la z)) → c143_G84 z = (G 84) z := fun z hz => (q143_G84 z (tz143 z hz)).trans (hfr31 z hz)
              have hfr42 : ∀ z, ((la z < la this ∨ la this < la z)) → c143_G87 z = (G 87) z := fun z hz => (q143_G87 z (tz143 z hz)).trans ((fun _ _ => rfl) z hz)
              have hfr43 : ∀ z, ((la z < la this ∨ la this < la z)) → c143_G88 z = (G 88) z := fun z hz => (q143_G88 z (tz143 z hz)).trans (hfr12 z hz)
              have h8143_htx : (P 82) this = some tx := by first | assumption | omega
              have h8143_hf : (V 0) tx = f := by first | assumption | omega
              have h8143_hn : Int32.toNatClampNeg ((G 83) this) = n := by first | assumption | omega
              have h8143_he : Int32.toNatClampNeg (m137 this) = (tP f n e + 1) := by have e2 := clampI (x := m137 this) (by omega); omega
              have hx143 := pwq (fn_X4_scanRun κ wd la (va_up (va_up (va_up (va_up G 84 d0_G84) 86 m57) 88 m62) 84 m137) P U V X O kd ln cnt this (16 : Int32) (tx) (f) (n) (tP f n e + 1) hzG83 hg32 hzG87 hg13 hzP82 hzLN hk_this hpr143_0 hpr143_1 hpr143_2 hpr143_3 hB hlt_this h8143_htx h8143_hf h8143_hn h8143_he) hc143
              obtain ⟨p143_0, p143_1⟩ : ((c143_G88 this).toInt ≤ ((tRn f n (tP f n e + 1) : Nat) : Int)) ∧ (((c143_G88 this).toInt = ((tRn f n (tP f n e + 1) : Nat) : Int) ∨ (c143_G88 this).toInt = (16 : Int32).toInt)) := hx143
              have hb143 := hg36 this
              have eb := clampI (x := c143_G88 this) (by omega)
              have ea := clampI (x := c143_G84 this) (by omega)
              have b44 := hg34 this
              refine pw_jE (fun j177 ej177 => ?_)
              refine pw_jE (fun j176 ej176 => ?_)
              refine pw_ite (fun c155 => ?_) (fun c155 => ?_)
              · have c155 := (z_le _ _).mp c155
                refine pw_j0 ej176 ?_
                refine pw_j1 ej177 (fun t177_0 et177_0 => ?_)
                have et177_0 := et177_0.symm
                have f_t177_0 : t177_0.toInt = 4 := by rw [et177_0]; decide +kernel
                refine pw_vl (fun m177 em177 => ?_)
                have hfr46 : ∀ z, ((la z < la this ∨ la this < la z)) → m177 z = (G 85) z := fr_up (e0 := (G 85)) (fun _ _ => rfl) em177 (show ¬ ((la this < la this ∨ la this < la this)) from by omega)
                have hg47 : rng (0) 4 m177 := by rw [em177]; exact rng_vup hzG85 (by omega) (by omega)
                have sm177 : (m177 this).toInt = t177_0.toInt := by rw [em177, va_up_self]
                have b48 := hg47 this
                have f50 : ((c143_G84 this) + 1).toInt = (c143_G84 this).toInt + 1 := z_addc (by decide +kernel) (by omega) (by omega)
                refine pw_vl (fun x187 ex187 => ?_)
                have f51 : x187.toInt = ((c143_G84 this) + 1).toInt := congrArg Int32.toInt ex187
                refine pw_vl (fun m187 em187 => ?_)
                have hfr52 : ∀ z, ((la z < la this ∨ la this < la z)) → m187 z = (G 84) z := fr_up (e0 := (G 84)) hfr41 em187 (show ¬ ((la this < la this ∨ la this < la this)) from by omega)
                have hg53 : rng (0) 2001 m187 := by rw [em187]; exact rng_vup hg34 (by omega) (by omega)
                have sm187 : (m187 this).toInt = x187.toInt := by rw [em187, va_up_self]
                have b54 := hg53 this
                refine pw_j4 ej217 (fun z217_0 ez217_0 z217_1 ez217_1 z217_2 ez217_2 z217_3 ez217_3 => ?_)
                subst ez217_0 ez217_1 ez217_2 ez217_3
                have qq0 : TKC f n e (m177 this).toInt (m57 this).toInt (c143_G87 this).toInt (c143_G88 this).toInt (m187 this).toInt := by exact tkc_let (m := Int32.toNatClampNeg (c143_G88 this)) hP (by omega) (by omega) (by omega) (by rw [← hP]; omega) (by rw [← hP]; omega) (by exact Or.inr ⟨by omega, fun q => by have q1 := q.1; omega⟩) (by omega) (by omega) (by omega) (by omega)
                exact pw_some qq0
              · have c155 := z_nle c155
                refine pw_nne hn1 ?_
                refine pw_if (fun hb166 => ?_)
                obtain ⟨hbl166, hbr166⟩ := hb166
                have hv166 : ((((V 0) tx) (Int32.toNatClampNeg (c143_G84 this))).toInt) = (f (Int32.toNatClampNeg (c143_G84 this))).toInt := by rw [hf]
                refine pw_ite (fun c169 => ?_) (fun c169 => ?_)
                · have c169 := congrArg Int32.toInt c169
                  refine pw_j1 ej177 (fun t177_0 et177_0 => ?_)
                  have et177_0 := et177_0.symm
                  have f_t177_0 : t177_0.toInt = 2 := by rw [et177_0]; decide +kernel
                  refine pw_vl (fun m177 em177 => ?_)
                  have hfr56 : ∀ z, ((la z < la this ∨ la this < la z)) → m177 z = (G 85) z := fr_up (e0 := (G 85)) (fun _ _ => rfl) em177 (show ¬ ((la this < la this ∨ la this < la this)) from by omega)
                  have hg57 : rng (0) 4 m177 := by rw [em177]; exact rng_vup hzG85 (by omega) (by omega)
                  have sm177 : (m177 this).toInt = t177_0.toInt := by rw [em177, va_up_self]
                  have b58 := hg57 this
                  have f60 : ((c143_G84 this) + 1).toInt = (c143_G84 this).toInt + 1 := z_addc (by decide +kernel) (by omega) (by omega)
                  refine pw_vl (fun x187 ex187 => ?_)
                  have f61 : x187.toInt = ((c143_G84 this) + 1).toInt := congrArg Int32.toInt ex187
                  refine pw_vl (fun m187 em187 => ?_)
                  have hfr62 : ∀ z, ((la z < la this ∨ la this < la z)) → m187 z = (G 84) z := fr_up (e0 := (G 84)) hfr41 em187 (show ¬ ((la this < la this ∨ la this < la this)) from by omega)
                  have hg63 : rng (0) 2001 m187 := by rw [em187]; exact rng_vup hg34 (by omega) (by omega)
                  have sm187 : (m187 this).toInt = x187.toInt := by rw [em187, va_up_self]
                  have b64 := hg63 this
                  refine pw_j4 ej217 (fun z217_0 ez217_0 z217_1 ez217_1 z217_2 ez217_2 z217_3 ez217_3 => ?_)
                  subst ez217_0 ez217_1 ez217_2 ez217_3
                  have qq0 : TKC f n e (m177 this).toInt (m57 this).toInt (c143_G87 this).toInt (c143_G88 this).toInt (m187 this).toInt := by exact tkc_let (m := Int32.toNatClampNeg (c143_G88 this)) hP (by omega) (by omega) (by omega) (by rw [← hP]; omega) (by rw [← hP]; omega) (by exact Or.inl ⟨by omega, by omega, by rw [show Int32.toNatClampNeg (d0_G84 this) + 1 + Int32.toNatClampNeg (c143_G88 this) = Int32.toNatClampNeg (c143_G84 this) by omega]; omega⟩) (by omega) (by omega) (by omega) (by omega)
                  exact pw_some qq0
                · have c169 := z_ne c169
                  refine pw_j0 ej176 ?_
                  refine pw_j1 ej177 (fun t177_0 et177_0 => ?_)
                  have et177_0 := et177_0.symm
                  have f_t177_0 : t177_0.toInt = 4 := by rw [et177_0]; decide +kernel
                  refine pw_vl (fun m177 em177 => ?_)
                  have hfr65 : ∀ z, ((la z < la this ∨ la this < la z)) → m177 z = (G 85) z := fr_up (e0 := (G 85)) (fun _ _ => rfl) em177 (show ¬ ((la this < la this ∨ la this < la this)) from by omega)
                  have hg66 : rng (0) 4 m177 := by rw [em177]; exact rng_vup hzG85 (by omega) (by omega)
                  have sm177 : (m177 this).toInt = t177_0.toInt := by rw [em177, va_up_self]
                  have b67 := hg66 this
                  have f69 : ((c143_G84 this) + 1).toInt = (c143_G84 this).toInt + 1 := z_addc (by decide +kernel) (by omega) (by omega)
                  refine pw_vl (fun x187 ex187 => ?_)
                  have f70 : x187.toInt = ((c143_G84 this) + 1).toInt := congrArg Int32.toInt ex187
                  refine pw_vl (fun m187 em187 => ?_)
                  have hfr71 : ∀ z, ((la z < la this ∨ la this < la z)) → m187 z = (G 84) z := fr_up (e0 := (G 84)) hfr41 em187 (show ¬ ((la this < la this ∨ la this < la this)) from by omega)
                  have hg72 : rng (0) 2001 m187 := by rw [em187]; exact rng_vup hg34 (by omega) (by omega)
                  have sm187 : (m187 this).toInt = x187.toInt := by rw [em187, va_up_self]
                  have b73 := hg72 this
                  refine pw_j4 ej217 (fun z217_0 ez217_0 z217_1 ez217_1 z217_2 ez217_2 z217_3 ez217_3 => ?_)
                  subst ez217_0 ez217_1 ez217_2 ez217_3
                  have qq0 : TKC f n e (m177 this).toInt (m57 this).toInt (c143_G87 this).toInt (c143_G88 this).toInt (m187 this).toInt := by exact tkc_let (m := Int32.toNatClampNeg (c143_G88 this)) hP (by omega) (by omega) (by omega) (by rw [← hP]; omega) (by rw [← hP]; omega) (by exact Or.inr ⟨by omega, fun q => by have q2 := q.2; rw [show Int32.toNatClampNeg (d0_G84 this) + 1 + Int32.toNatClampNeg (c143_G88 this) = Int32.toNatClampNeg (c143_G84 this) by omega] at q2; omega⟩) (by omega) (by omega) (by omega) (by omega)
                  exact pw_some qq0
            · have c127 := z_ne c127
              have hpr198_0 : (∀ tx, (P 82) this = some tx → ((G 83) this).toInt ≤ ((ln tx : Nat) : Int)) := by assumption
              have hpr198_1 : (d0_G84 this).toInt ≤ ((G 83) this).toInt := by first | assumption | omega
              have hpr198_2 : (m62 this).toInt = 0 := by first | assumption | omega
              have hpr198_3 : (0 ≤ ((G 83) this).toInt ∧ ((G 83) this).toInt ≤ 2000) := by first | assumption | omega
              refine pw_b3 (fun c198_G84 c198_G87 c198_G88 hc198 => ?_)
              have hq198 := wp_at (ok_X4_scanRun κ wd (va_up (va_up (va_up G 84 d0_G84) 86 m57) 88 m62) P U V X O kd ln cnt this ((G 83) this) hzG83 hg3 hzG87 hg13 hzP82 hzLN hk_this hpr198_0 hpr198_1 hpr198_2 hpr198_3) hc198
              obtain ⟨hg75, hg76, hg77, f78, f79, f80, f81⟩ : (rng (0) 2001 c198_G84) ∧ (rng (0) 2001 c198_G87) ∧ (rng (0) 2000 c198_G88) ∧ ((c198_G87 this).toInt = (d0_G84 this).toInt) ∧ ((c198_G84 this).toInt = (c198_G87 this).toInt + (c198_G88 this).toInt) ∧ ((c198_G84 this).toInt ≤ ((G 83) this).toInt) ∧ ((c198_G88 this).toInt ≤ ((G 83) this).toInt) := hq198
              have hq198 := pwq (fr_X4_scanRun la (va_up (va_up (va_up G 84 d0_G84) 86 m57) 88 m62) P U V X O kd ln cnt this ((G 83) this) hB) hc198
              obtain ⟨q198_G84, q198_G87, q198_G88⟩ : (∀ z, (la z < la this ∨ la this < la z) → c198_G84 z = d0_G84 z) ∧ (∀ z, (la z < la this ∨ la this < la z) → c198_G87 z = (G 87) z) ∧ (∀ z, (la z < la this ∨ la this < la z) → c198_G88 z = m62 z) := hq198
              have tz198 : ∀ z, ((la z < la this ∨ la this < la z)) → ((la z < la this ∨ la this < la z)) := fun z hz => by omega
              have hfr82 : ∀ z, ((la z < la this ∨ la this < la z)) → c198_G84 z = (G 84) z := fun z hz => (q198_G84 z (tz198 z hz)).trans (hfr4 z hz)
              have hfr83 : ∀ z, ((la z < la this ∨ la this < la z)) → c198_G87 z = (G 87) z := fun z hz => (q198_G87 z (tz198 z hz)).trans ((fun _ _ => rfl) z hz)
              have hfr84 : ∀ z, ((la z < la this ∨ la this < la z)) → c198_G88 z = (G 88) z := fun z hz => (q198_G88 z (tz198 z hz)).trans (hfr12 z hz)
              have h8198_htx : (P 82) this = some tx := by first | assumption | omega
              have h8198_hf : (V 0) tx = f := by first | assumption | omega
              have h8198_hn : Int32.toNatClampNeg ((G 83) this) = n := by first | assumption | omega
              have h8198_he : Int32.toNatClampNeg (d0_G84 this) = (tP f n e) := by omega
              have hx198 := pwq (fn_X4_scanRun κ wd la (va_up (va_up (va_up G 84 d0_G84) 86 m57) 88 m62) P U V X O kd ln cnt this ((G 83) this) (tx) (f) (n) (tP f n e) hzG83 hg3 hzG87 hg13 hzP82 hzLN hk_this hpr198_0 hpr198_1 hpr198_2 hpr198_3 hB hlt_this h8198_htx h8198_hf h8198_hn h8198_he) hc198
              obtain ⟨p198_0, p198_1⟩ : ((c198_G88 this).toInt ≤ ((tRn f n (tP f n e) : Nat) : Int)) ∧ (((c198_G88 this).toInt = ((tRn f n (tP f n e) : Nat) : Int) ∨ (c198_G88 this).toInt = ((G 83) this).toInt)) := hx198
              have hb198 := hg77 this
              have eb := clampI (x := c198_G88 this) (by omega)
              have hle := tRn_le (f := f) (n := n) (s := tP f n e)
              have b85 := hg77 this
              refine pw_jE (fun j214 ej214 => ?_)
              refine pw_ite (fun c206 => ?_) (fun c206 => ?_)
              · have c206 := (z_le _ _).mp c206
                refine pw_j1 ej214 (fun t214_0 et214_0 => ?_)
                have et214_0 := et214_0.symm
                have f_t214_0 : t214_0.toInt = 4 := by rw [et214_0]; decide +kernel
                refine pw_vl (fun m214 em214 => ?_)
                have hfr86 : ∀ z, ((la z < la this ∨ la this < la z)) → m214 z = (G 85) z := fr_up (e0 := (G 85)) (fun _ _ => rfl) em214 (show ¬ ((la this < la this ∨ la this < la this)) from by omega)
                have hg87 : rng (0) 4 m214 := by rw [em214]; exact rng_vup hzG85 (by omega) (by omega)
                have sm214 : (m214 this).toInt = t214_0.toInt := by rw [em214, va_up_self]
                have b88 := hg87 this
                refine pw_j4 ej217 (fun z217_0 ez217_0 z217_1 ez217_1 z217_2 ez217_2 z217_3 ez217_3 => ?_)
                subst ez217_0 ez217_1 ez217_2 ez217_3
                have qq0 : TKC f n e (m214 this).toInt (m57 this).toInt (c198_G87 this).toInt (c198_G88 this).toInt (c198_G84 this).toInt := by exact tkc_word (m := Int32.toNatClampNeg (c198_G88 this)) hP (by omega) (by omega) (by omega) (by rw [← hP]; omega) (by omega) (by omega) (by omega) (by omega) (by omega)
                exact pw_some qq0
              · have c206 := z_nle c206
                refine pw_j1 ej214 (fun t214_0 et214_0 => ?_)
                have et214_0 := et214_0.symm
                have f_t214_0 : t214_0.toInt = 1 := by rw [et214_0]; decide +kernel
                refine pw_vl (fun m214 em214 => ?_)
                have hfr89 : ∀ z, ((la z < la this ∨ la this < la z)) → m214 z = (G 85) z := fr_up (e0 := (G 85)) (fun _ _ => rfl) em214 (show ¬ ((la this < la this ∨ la this < la this)) from by omega)
                have hg90 : rng (0) 4 m214 := by rw [em214]; exact rng_vup hzG85 (by omega) (by omega)
                have sm214 : (m214 this).toInt = t214_0.toInt := by rw [em214, va_up_self]
                have b91 := hg90 this
                refine pw_j4 ej217 (fun z217_0 ez217_0 z217_1 ez217_1 z217_2 ez217_2 z217_3 ez217_3 => ?_)
                subst ez217_0 ez217_1 ez217_2 ez217_3
                have qq0 : TKC f n e (m214 this).toInt (m57 this).toInt (c198_G87 this).toInt (c198_G88 this).toInt (c198_G84 this).toInt := by exact tkc_word (m := Int32.toNatClampNeg (c198_G88 this)) hP (by omega) (by omega) (by omega) (by rw [← hP]; omega) (by omega) (by omega) (by omega) (by omega) (by omega)
                exact pw_some qq0
        · have c73 := z_nlt c73
          refine pw_vl (fun m78 em78 => ?_)
          have hfr92 : ∀ z, ((la z < la this ∨ la this < la z)) → m78 z = (G 85) z := fr_up (e0 := (G 85)) (fun _ _ => rfl) em78 (show ¬ ((la this < la this ∨ la this < la this)) from by omega)
          have hg93 : rng (0) 4 m78 := by rw [em78]; exact rng_vup hzG85 (by omega) (by omega)
          have sm78 : (m78 this).toInt = 0 := by rw [em78, va_up_self]; decide +kernel
          have b94 := hg93 this
          refine pw_j4 ej217 (fun z217_0 ez217_0 z217_1 ez217_1 z217_2 ez217_2 z217_3 ez217_3 => ?_)
          subst ez217_0 ez217_1 ez217_2 ez217_3
          have qq0 : TKC f n e (m78 this).toInt (m57 this).toInt ((G 87) this).toInt (m62 this).toInt (d0_G84 this).toInt := by exact tkc_end hP (by omega) (by omega) (by omega) (by omega)
          exact pw_some qq0
      · have c8 := z_nle c8
        refine pw_nne hn1 ?_
        refine pw_if (fun hb19 => ?_)
        obtain ⟨hbl19, hbr19⟩ := hb19
        have hv19 : ((((V 0) tx) (Int32.toNatClampNeg (d0_G84 this))).toInt) = (f (Int32.toNatClampNeg (d0_G84 this))).toInt := by rw [hf]
        refine pw_jE (fun j39 ej39 => ?_)
        refine pw_ite (fun c22 => ?_) (fun c22 => ?_)
        · have c22 := congrArg Int32.toInt c22
          refine pw_j0 ej39 ?_
          have f97 : ((d0_G84 this) + 1).toInt = (d0_G84 this).toInt + 1 := z_addc (by decide +kernel) (by omega) (by omega)
          refine pw_vl (fun x46 ex46 => ?_)
          have f98 : x46.toInt = ((d0_G84 this) + 1).toInt := congrArg Int32.toInt ex46
          refine pw_vl (fun m46 em46 => ?_)
          have hfr99 : ∀ z, ((la z < la this ∨ la this < la z)) → m46 z = (G 84) z := fr_up (e0 := (G 84)) hfr4 em46 (show ¬ ((la this < la this ∨ la this < la this)) from by omega)
          have hg100 : rng (0) 2001 m46 := by rw [em46]; exact rng_vup hg3 (by omega) (by omega)
          have sm46 : (m46 this).toInt = x46.toInt := by rw [em46, va_up_self]
          have b101 := hg100 this
          have iv0_0 : ((G 84) this).toInt ≤ (m46 this).toInt := by omega
          have iv0_1 : (m46 this).toInt ≤ ((G 83) this).toInt + 1 := by omega
          have iv0_2 : (tP f n e = tP f n (Int32.toNatClampNeg (m46 this))) := by have e2 := clampI (x := m46 this) (by omega); rw [is0, tP_step (f := f) (n := n) (e := Int32.toNatClampNeg (d0_G84 this)) (by omega) (Or.inl (by omega))]; exact congrArg (tP f n) (by omega)
          exact ih0 m46 hg100 hfr99 iv0_0 iv0_1 iv0_2
        · have c22 := z_ne c22
          refine pw_nne hn1 ?_
          refine pw_if (fun hb33 => ?_)
          obtain ⟨hbl33, hbr33⟩ := hb33
          have hv33 : ((((V 0) tx) (Int32.toNatClampNeg (d0_G84 this))).toInt) = (f (Int32.toNatClampNeg (d0_G84 this))).toInt := by rw [hf]
          refine pw_ite (fun c36 => ?_) (fun c36 => ?_)
          · have c36 := congrArg Int32.toInt c36
            refine pw_j0 ej39 ?_
            have f104 : ((d0_G84 this) + 1).toInt = (d0_G84 this).toInt + 1 := z_addc (by decide +kernel) (by omega) (by omega)
            refine pw_vl (fun x46 ex46 => ?_)
            have f105 : x46.toInt = ((d0_G84 this) + 1).toInt := congrArg Int32.toInt ex46
            refine pw_vl (fun m46 em46 => ?_)
            have hfr106 : ∀ z, ((la z < la this ∨ la this < la z)) → m46 z = (G 84) z := fr_up (e0 := (G 84)) hfr4 em46 (show ¬ ((la this < la this ∨ la this < la this)) from by omega)
            have hg107 : rng (0) 2001 m46 := by rw [em46]; exact rng_vup hg3 (by omega) (by omega)
            have sm46 : (m46 this).toInt = x46.toInt := by rw [em46, va_up_self]
            have b108 := hg107 this
            have iv0_0 : ((G 84) this).toInt ≤ (m46 this).toInt := by omega
            have iv0_1 : (m46 this).toInt ≤ ((G 83) this).toInt + 1 := by omega
            have iv0_2 : (tP f n e = tP f n (Int32.toNatClampNeg (m46 this))) := by have e2 := clampI (x := m46 this) (by omega); rw [is0, tP_step (f := f) (n := n) (e := Int32.toNatClampNeg (d0_G84 this)) (by omega) (Or.inr (by omega))]; exact congrArg (tP f n) (by omega)
            exact ih0 m46 hg107 hfr106 iv0_0 iv0_1 iv0_2
          · have c36 := z_ne c36
            refine pw_j1 ek52 (fun z52_0 ez52_0 => ?_)
            subst ez52_0
            have hP : tP f n e = Int32.toNatClampNeg (d0_G84 this) := by rw [is0]; exact tP_stop (fun q => by have h1 := q.1; have h2 : _ ∨ _ := q.2; omega)
            refine pw_vl (fun x57 ex57 => ?_)
            have f110 : x57.toInt = (d0_G84 this).toInt := congrArg Int32.toInt ex57
            refine pw_vl (fun m57 em57 => ?_)
            have hfr111 : ∀ z, ((la z < la this ∨ la this < la z)) → m57 z = (G 86) z := fr_up (e0 := (G 86)) (fun _ _ => rfl) em57 (show ¬ ((la this < la this ∨ la this < la this)) from by omega)
            have sm57 : (m57 this).toInt = x57.toInt := by rw [em57, va_up_self]
            refine pw_vl (fun m62 em62 => ?_)
            have hfr112 : ∀ z, ((la z < la this ∨ la this < la z)) → m62 z = (G 88) z := fr_up (e0 := (G 88)) (fun _ _ => rfl) em62 (show ¬ ((la this < la this ∨ la this < la this)) from by omega)
            have hg113 : rng (0) 2000 m62 := by rw [em62]; exact rng_vup hzG88 (by omega) (by omega)
            have sm62 : (m62 this).toInt = 0 := by rw [em62, va_up_self]; decide +kernel
            have b114 := hg113 this
            refine pw_jE (fun j217 ej217 => ?_)
            refine pw_ite (fun c73 => ?_) (fun c73 => ?_)
            · have c73 := (z_lt _ _).mp c73
              refine pw_nne hn1 ?_
              refine pw_if (fun hb92 => ?_)
              obtain ⟨hbl92, hbr92⟩ := hb92
              have hv92 : ((((V 0) tx) (Int32.toNatClampNeg (d0_G84 this))).toInt) = (f (Int32.toNatClampNeg (d0_G84 this))).toInt := by rw [hf]
              refine pw_ite (fun c95 => ?_) (fun c95 => ?_)
              · have c95 := congrArg Int32.toInt c95
                refine pw_vl (fun m100 em100 => ?_)
                have hfr118 : ∀ z, ((la z < la this ∨ la this < la z)) → m100 z = (G 85) z := fr_up (e0 := (G 85)) (fun _ _ => rfl) em100 (show ¬ ((la this < la this ∨ la this < la this)) from by omega)
                have hg119 : rng (0) 4 m100 := by rw [em100]; exact rng_vup hzG85 (by omega) (by omega)
                have sm100 : (m100 this).toInt = 3 := by rw [em100, va_up_self]; decide +kernel
                have b120 := hg119 this
                have f122 : ((d0_G84 this) + 1).toInt = (d0_G84 this).toInt + 1 := z_addc (by decide +kernel) (by omega) (by omega)
                refine pw_vl (fun x110 ex110 => ?_)
                have f123 : x110.toInt = ((d0_G84 this) + 1).toInt := congrArg Int32.toInt ex110
                refine pw_vl (fun m110 em110 => ?_)
                have hfr124 : ∀ z, ((la z < la this ∨ la this < la z)) → m110 z = (G 84) z := fr_up (e0 := (G 84)) hfr4 em110 (show ¬ ((la this < la this ∨ la this < la this)) from by omega)
                have hg125 : rng (0) 2001 m110 := by rw [em110]; exact rng_vup hg3 (by omega) (by omega)
                have sm110 : (m110 this).toInt = x110.toInt := by rw [em110, va_up_self]
                have b126 := hg125 this
                refine pw_j4 ej217 (fun z217_0 ez217_0 z217_1 ez217_1 z217_2 ez217_2 z217_3 ez217_3 => ?_)
                subst ez217_0 ez217_1 ez217_2 ez217_3
                have qq0 : TKC f n e (m100 this).toInt (m57 this).toInt ((G 87) this).toInt (m62 this).toInt (m110 this).toInt := by exact tkc_close hP (by omega) (by omega) (by omega) (by omega) (by omega)
                exact pw_some qq0
              · have c95 := z_ne c95
                refine pw_nne hn1 ?_
                refine pw_if (fun hb124 => ?_)
                obtain ⟨hbl124, hbr124⟩ := hb124
                have hv124 : ((((V 0) tx) (Int32.toNatClampNeg (d0_G84 this))).toInt) = (f (Int32.toNatClampNeg (d0_G84 this))).toInt := by rw [hf]
                refine pw_ite (fun c127 => ?_) (fun c127 => ?_)
                · have c127 := congrArg Int32.toInt c127
                  have f129 : ((d0_G84 this) + 1).toInt = (d0_G84 this).toInt + 1 := z_addc (by decide +kernel) (by omega) (by omega)
                  refine pw_vl (fun x137 ex137 => ?_)
                  have f130 : x137.toInt = ((d0_G84 this) + 1).toInt := congrArg Int32.toInt ex137
                  refine pw_vl (fun m137 em137 => ?_)
                  have hfr131 : ∀ z, ((la z < la this ∨ la this < la z)) → m137 z = (G 84) z := fr_up (e0 := (G 84)) hfr4 em137 (show ¬ ((la this < la this ∨ la this < la this)) from by omega)
                  have hg132 : rng (0) 2001 m137 := by rw [em137]; exact rng_vup hg3 (by omega) (by omega)
                  have sm137 : (m137 this).toInt = x137.toInt := by rw [em137, va_up_self]
                  have b133 := hg132 this
                  have hpr143_0 : (∀ tx, (P 82) this = some tx → ((G 83) this).toInt ≤ ((ln tx : Nat) : Int)) := by assumption
                  have hpr143_1 : (m137 this).toInt ≤ ((G 83) this).toInt := by first | assumption | omega
                  have hpr143_2 : (m62 this).toInt = 0 := by first | assumption | omega
                  have hpr143_3 : (0 ≤ (16 : Int32).toInt ∧ (16 : Int32).toInt ≤ 2000) := by first | assumption | omega
                  refine pw_b3 (fun c143_G84 c143_G87 c143_G88 hc143 => ?_)
                  have hq143 := wp_at (ok_X4_scanRun κ wd (va_up (va_up (va_up (va_up G 84 d0_G84) 86 m57) 88 m62) 84 m137) P U V X O kd ln cnt this (16 : Int32) hzG83 hg132 hzG87 hg113 hzP82 hzLN hk_this hpr143_0 hpr143_1 hpr143_2 hpr143_3) hc143
                  obtain ⟨hg134, hg135, hg136, f137, f138, f139, f140⟩ : (rng (0) 2001 c143_G84) ∧ (rng (0) 2001 c143_G87) ∧ (rng (0) 2000 c143_G88) ∧ ((c143_G87 this).toInt = (m137 this).toInt) ∧ ((c143_G84 this).toInt = (c143_G87 this).toInt + (c143_G88 this).toInt) ∧ ((c143_G84 this).toInt ≤ ((G 83) this).toInt) ∧ ((c143_G88 this).toInt ≤ (16 : Int32).toInt) := hq143
                  have hq143 := pwq (fr_X4_scanRun la (va_up (va_up (va_up (va_up G 84 d0_G84) 86 m57) 88 m62) 84 m137) P U V X O kd ln cnt this (16 : Int32) hB) hc143
                  obtain ⟨q143_G84, q143_G87, q143_G88⟩ : (∀ z, (la z < la this ∨ la this < la z) → c143_G84 z = m137 z) ∧ (∀ z, (la z < la this ∨ la this < la z) → c143_G87 z = (G 87) z) ∧ (∀ z, (la z < la this ∨ la this < la z) → c143_G88 z = m62 z) := hq143
                  have tz143 : ∀ z, ((la z < la this ∨ la this < la z)) → ((la z < la this ∨ la this < la z)) := fun z hz => by omega
                  have hfr141 : ∀ z, ((la z < la this ∨ la this < la z)) → c143_G84 z = (G 84) z := fun z hz => (q143_G84 z (tz143 z hz)).trans (hfr131 z hz)
                  have hfr142 : ∀ z, ((la z < la this ∨ la this < la z)) → c143_G87 z = (G 87) z := fun z hz => (q143_G87 z (tz143 z hz)).trans ((fun _ _ => rfl) z hz)
                  have hfr143 : ∀ z, ((la z < la this ∨ la this < la z)) → c143_G88 z = (G 88) z := fun z hz => (q143_G88 z (tz143 z hz)).trans (hfr112 z hz)
                  have h8143_htx : (P 82) this = some tx := by first | assumption | omega
                  have h8143_hf : (V 0) tx = f := by first | assumption | omega
                  have h8143_hn : Int32.toNatClampNeg ((G 83) this) = n := by first | assumption | omega
                  have h8143_he : Int32.toNatClampNeg (m137 this) = (tP f n e + 1) := by have e2 := clampI (x := m137 this) (by omega); omega
                  have hx143 := pwq (fn_X4_scanRun κ wd la (va_up (va_up (va_up (va_up G 84 d0_G84) 86 m57) 88 m62) 84 m137) P U V X O kd ln cnt this (16 : Int32) (tx) (f) (n) (tP f n e + 1) hzG83 hg132 hzG87 hg113 hzP82 hzLN hk_this hpr143_0 hpr143_1 hpr143_2 hpr143_3 hB hlt_this h8143_htx h8143_hf h8143_hn h8143_he) hc143
                  obtain ⟨p143_0, p143_1⟩ : ((c143_G88 this).toInt ≤ ((tRn f n (tP f n e + 1) : Nat) : Int)) ∧ (((c143_G88 this).toInt = ((tRn f n (tP f n e + 1) : Nat) : Int) ∨ (c143_G88 this).toInt = (16 : Int32).toInt)) := hx143
                  have hb143 := hg136 this
                  have eb := clampI (x := c143_G88 this) (by omega)
                  have ea := clampI (x := c143_G84 this) (by omega)
                  have b144 := hg134 this
                  refine pw_jE (fun j177 ej177 => ?_)
                  refine pw_jE (fun j176 ej176 => ?_)
                  refine pw_ite (fun c155 => ?_) (fun c155 => ?_)
                  · have c155 := (z_le _ _).mp c155
                    refine pw_j0 ej176 ?_
                    refine pw_j1 ej177 (fun t177_0 et177_0 => ?_)
                    have et177_0 := et177_0.symm
                    have f_t177_0 : t177_0.toInt = 4 := by rw [et177_0]; decide +kernel
                    refine pw_vl (fun m177 em177 => ?_)
                    have hfr146 : ∀ z, ((la z < la this ∨ la this < la z)) → m177 z = (G 85) z := fr_up (e0 := (G 85)) (fun _ _ => rfl) em177 (show ¬ ((la this < la this ∨ la this < la this)) from by omega)
                    have hg147 : rng (0) 4 m177 := by rw [em177]; exact rng_vup hzG85 (by omega) (by omega)
                    have sm177 : (m177 this).toInt = t177_0.toInt := by rw [em177, va_up_self]
                    have b148 := hg147 this
                    have f150 : ((c143_G84 this) + 1).toInt = (c143_G84 this).toInt + 1 := z_addc (by decide +kernel) (by omega) (by omega)
                    refine pw_vl (fun x187 ex187 => ?_)
                    have f151 : x187.toInt = ((c143_G84 this) + 1).toInt := congrArg Int32.toInt ex187
                    refine pw_vl (fun m187 em187 => ?_)
                    have hfr152 : ∀ z, ((la z < la this ∨ la this < la z)) → m187 z = (G 84) z := fr_up (e0 := (G 84)) hfr141 em187 (show ¬ ((la this < la this ∨ la this < la this)) from by omega)
                    have hg153 : rng (0) 2001 m187 := by rw [em187]; exact rng_vup hg134 (by omega) (by omega)
                    have sm187 : (m187 this).toInt = x187.toInt := by rw [em187, va_up_self]
                    have b154 := hg153 this
                    refine pw_j4 ej217 (fun z217_0 ez217_0 z217_1 ez217_1 z217_2 ez217_2 z217_3 ez217_3 => ?_)
                    subst ez217_0 ez217_1 ez217_2 ez217_3
                    have qq0 : TKC f n e (m177 this).toInt (m57 this).toInt (c143_G87 this).toInt (c143_G88 this).toInt (m187 this).toInt := by exact tkc_let (m := Int32.toNatClampNeg (c143_G88 this)) hP (by omega) (by omega) (by omega) (by rw [← hP]; omega) (by rw [← hP]; omega) (by exact Or.inr ⟨by omega, fun q => by have q1 := q.1; omega⟩) (by omega) (by omega) (by omega) (by omega)
                    exact pw_some qq0
                  · have c155 := z_nle c155
                    refine pw_nne hn1 ?_
                    refine pw_if (fun hb166 => ?_)
                    obtain ⟨hbl166, hbr166⟩ := hb166
                    have hv166 : ((((V 0) tx) (Int32.toNatClampNeg (c143_G84 this))).toInt) = (f (Int32.toNatClampNeg (c143_G84 this))).toInt := by rw [hf]
                    refine pw_ite (fun c169 => ?_) (fun c169 => ?_)
                    · have c169 := congrArg Int32.toInt c169
                      refine pw_j1 ej177 (fun t177_0 et177_0 => ?_)
                      have et177_0 := et177_0.symm
                      have f_t177_0 : t177_0.toInt = 2 := by rw [et177_0]; decide +kernel
                      refine pw_vl (fun m177 em177 => ?_)
                      have hfr156 : ∀ z, ((la z < la this ∨ la this < la z)) → m177 z = (G 85) z := fr_up (e0 := (G 85)) (fun _ _ => rfl) em177 (show ¬ ((la this < la this ∨ la this < la this)) from by omega)
                      have hg157 : rng (0) 4 m177 := by rw [em177]; exact rng_vup hzG85 (by omega) (by omega)
                      have sm177 : (m177 this).toInt = t177_0.toInt := by rw [em177, va_up_self]
                      have b158 := hg157 this
                      have f160 : ((c143_G84 this) + 1).toInt = (c143_G84 this).toInt + 1 := z_addc (by decide +kernel) (by omega) (by omega)
                      refine pw_vl (fun x187 ex187 => ?_)
                      have f161 : x187.toInt = ((c143_G84 this) + 1).toInt := congrArg Int32.toInt ex187
                      refine pw_vl (fun m187 em187 => ?_)
                      have hfr162 : ∀ z, ((la z < la this ∨ la this < la z)) → m187 z = (G 84) z := fr_up (e0 := (G 84)) hfr141 em187 (show ¬ ((la this < la this ∨ la this < la this)) from by omega)
                      have hg163 : rng (0) 2001 m187 := by rw [em187]; exact rng_vup hg134 (by omega) (by omega)
                      have sm187 : (m187 this).toInt = x187.toInt := by rw [em187, va_up_self]
                      have b164 := hg163 this
                      refine pw_j4 ej217 (fun z217_0 ez217_0 z217_1 ez217_1 z217_2 ez217_2 z217_3 ez217_3 => ?_)
                      subst ez217_0 ez217_1 ez217_2 ez217_3
                      have qq0 : TKC f n e (m177 this).toInt (m57 this).toInt (c143_G87 this).toInt (c143_G88 this).toInt (m187 this).toInt := by exact tkc_let (m := Int32.toNatClampNeg (c143_G88 this)) hP (by omega) (by omega) (by omega) (by rw [← hP]; omega) (by rw [← hP]; omega) (by exact Or.inl ⟨by omega, by omega, by rw [show Int32.toNatClampNeg (d0_G84 this) + 1 + Int32.toNatClampNeg (c143_G88 this) = Int32.toNatClampNeg (c143_G84 this) by omega]; omega⟩) (by omega) (by omega) (by omega) (by omega)
                      exact pw_some qq0
                    · have c169 := z_ne c169
                      refine pw_j0 ej176 ?_
                      refine pw_j1 ej177 (fun t177_0 et177_0 => ?_)
                      have et177_0 := et177_0.symm
                      have f_t177_0 : t177_0.toInt = 4 := by rw [et177_0]; decide +kernel
                      refine pw_vl (fun m177 em177 => ?_)
                      have hfr165 : ∀ z, ((la z < la this ∨ la this < la z)) → m177 z = (G 85) z := fr_up (e0 := (G 85)) (fun _ _ => rfl) em177 (show ¬ ((la this < la this ∨ la this < la this)) from by omega)
                      have hg166 : rng (0) 4 m177 := by rw [em177]; exact rng_vup hzG85 (by omega) (by omega)
                      have sm177 : (m177 this).toInt = t177_0.toInt := by rw [em177, va_up_self]
                      have b167 := hg166 this
                      have f169 : ((c143_G84 this) + 1).toInt = (c143_G84 this).toInt + 1 := z_addc (by decide +kernel) (by omega) (by omega)
                      refine pw_vl (fun x187 ex187 => ?_)
                      have f170 : x187.toInt = ((c143_G84 this) + 1).toInt := congrArg Int32.toInt ex187
                      refine pw_vl (fun m187 em187 => ?_)
                      have hfr171 : ∀ z, ((la z < la this ∨ la this < la z)) → m187 z = (G 84) z := fr_up (e0 := (G 84)) hfr141 em187 (show ¬ ((la this < la this ∨ la this < la this)) from by omega)
                      have hg172 : rng (0) 2001 m187 := by rw [em187]; exact rng_vup hg134 (by omega) (by omega)
                      have sm187 : (m187 this).toInt = x187.toInt := by rw [em187, va_up_self]
                      have b173 := hg172 this
                      refine pw_j4 ej217 (fun z217_0 ez217_0 z217_1 ez217_1 z217_2 ez217_2 z217_3 ez217_3 => ?_)
                      subst ez217_0 ez217_1 ez217_2 ez217_3
                      have qq0 : TKC f n e (m177 this).toInt (m57 this).toInt (c143_G87 this).toInt (c143_G88 this).toInt (m187 this).toInt := by exact tkc_let (m := Int32.toNatClampNeg (c143_G88 this)) hP (by omega) (by omega) (by omega) (by rw [← hP]; omega) (by rw [← hP]; omega) (by exact Or.inr ⟨by omega, fun q => by have q2 := q.2; rw [show Int32.toNatClampNeg (d0_G84 this) + 1 + Int32.toNatClampNeg (c143_G88 this) = Int32.toNatClampNeg (c143_G84 this) by omega] at q2; omega⟩) (by omega) (by omega) (by omega) (by omega)
                      exact pw_some qq0
                · have c127 := z_ne c127
                  have hpr198_0 : (∀ tx, (P 82) this = some tx → ((G 83) this).toInt ≤ ((ln tx : Nat) : Int)) := by assumption
                  have hpr198_1 : (d0_G84 this).toInt ≤ ((G 83) this).toInt := by first | assumption | omega
                  have hpr198_2 : (m62 this).toInt = 0 := by first | assumption | omega
                  have hpr198_3 : (0 ≤ ((G 83) this).toInt ∧ ((G 83) this).toInt ≤ 2000) := by first | assumption | omega
                  refine pw_b3 (fun c198_G84 c198_G87 c198_G88 hc198 => ?_)
                  have hq198 := wp_at (ok_X4_scanRun κ wd (va_up (va_up (va_up G 84 d0_G84) 86 m57) 88 m62) P U V X O kd ln cnt this ((G 83) this) hzG83 hg3 hzG87 hg113 hzP82 hzLN hk_this hpr198_0 hpr198_1 hpr198_2 hpr198_3) hc198
                  obtain ⟨hg175, hg176, hg177, f178, f179, f180, f181⟩ : (rng (0) 2001 c198_G84) ∧ (rng (0) 2001 c198_G87) ∧ (rng (0) 2000 c198_G88) ∧ ((c198_G87 this).toInt = (d0_G84 this).toInt) ∧ ((c198_G84 this).toInt = (c198_G87 this).toInt + (c198_G88 this).toInt) ∧ ((c198_G84 this).toInt ≤ ((G 83) this).toInt) ∧ ((c198_G88 this).toInt ≤ ((G 83) this).toInt) := hq198
                  have hq198 := pwq (fr_X4_scanRun la (va_up (va_up (va_up G 84 d0_G84) 86 m57) 88 m62) P U V X O kd ln cnt this ((G 83) this) hB) hc198
                  obtain ⟨q198_G84, q198_G87, q198_G88⟩ : (∀ z, (la z < la this ∨ la this < la z) → c198_G84 z = d0_G84 z) ∧ (∀ z, (la z < la this ∨ la this < la z) → c198_G87 z = (G 87) z) ∧ (∀ z, (la z < la this ∨ la this < la z) → c198_G88 z = m62 z) := hq198
                  have tz198 : ∀ z, ((la z < la this ∨ la this < la z)) → ((la z < la this ∨ la this < la z)) := fun z hz => by omega
                  have hfr182 : ∀ z, ((la z < la this ∨ la this < la z)) → c198_G84 z = (G 84) z := fun z hz => (q198_G84 z (tz198 z hz)).trans (hfr4 z hz)
                  have hfr183 : ∀ z, ((la z < la this ∨ la this < la z)) → c198_G87 z = (G 87) z := fun z hz => (q198_G87 z (tz198 z hz)).trans ((fun _ _ => rfl) z hz)
                  have hfr184 : ∀ z, ((la z < la this ∨ la this < la z)) → c198_G88 z = (G 88) z := fun z hz => (q198_G88 z (tz198 z hz)).trans (hfr112 z hz)
                  have h8198_htx : (P 82) this = some tx := by first | assumption | omega
                  have h8198_hf : (V 0) tx = f := by first | assumption | omega
                  have h8198_hn : Int32.toNatClampNeg ((G 83) this) = n := by first | assumption | omega
                  have h8198_he : Int32.toNatClampNeg (d0_G84 this) = (tP f n e) := by omega
                  have hx198 := pwq (fn_X4_scanRun κ wd la (va_up (va_up (va_up G 84 d0_G84) 86 m57) 88 m62) P U V X O kd ln cnt this ((G 83) this) (tx) (f) (n) (tP f n e) hzG83 hg3 hzG87 hg113 hzP82 hzLN hk_this hpr198_0 hpr198_1 hpr198_2 hpr198_3 hB hlt_this h8198_htx h8198_hf h8198_hn h8198_he) hc198
                  obtain ⟨p198_0, p198_1⟩ : ((c198_G88 this).toInt ≤ ((tRn f n (tP f n e) : Nat) : Int)) ∧ (((c198_G88 this).toInt = ((tRn f n (tP f n e) : Nat) : Int) ∨ (c198_G88 this).toInt = ((G 83) this).toInt)) := hx198
                  have hb198 := hg177 this
                  have eb := clampI (x := c198_G88 this) (by omega)
                  have hle := tRn_le (f := f) (n := n) (s := tP f n e)
                  have b185 := hg177 this
                  refine pw_jE (fun j214 ej214 => ?_)
                  refine pw_ite (fun c206 => ?_) (fun c206 => ?_)
                  · have c206 := (z_le _ _).mp c206
                    refine pw_j1 ej214 (fun t214_0 et214_0 => ?_)
                    have et214_0 := et214_0.symm
                    have f_t214_0 : t214_0.toInt = 4 := by rw [et214_0]; decide +kernel
                    refine pw_vl (fun m214 em214 => ?_)
                    have hfr186 : ∀ z, ((la z < la this ∨ la this < la z)) → m214 z = (G 85) z := fr_up (e0 := (G 85)) (fun _ _ => rfl) em214 (show ¬ ((la this < la this ∨ la this < la this)) from by omega)
                    have hg187 : rng (0) 4 m214 := by rw [em214]; exact rng_vup hzG85 (by omega) (by omega)
                    have sm214 : (m214 this).toInt = t214_0.toInt := by rw [em214, va_up_self]
                    have b188 := hg187 this
                    refine pw_j4 ej217 (fun z217_0 ez217_0 z217_1 ez217_1 z217_2 ez217_2 z217_3 ez217_3 => ?_)
                    subst ez217_0 ez217_1 ez217_2 ez217_3
                    have qq0 : TKC f n e (m214 this).toInt (m57 this).toInt (c198_G87 this).toInt (c198_G88 this).toInt (c198_G84 this).toInt := by exact tkc_word (m := Int32.toNatClampNeg (c198_G88 this)) hP (by omega) (by omega) (by omega) (by rw [← hP]; omega) (by omega) (by omega) (by omega) (by omega) (by omega)
                    exact pw_some qq0
                  · have c206 := z_nle c206
                    refine pw_j1 ej214 (fun t214_0 et214_0 => ?_)
                    have et214_0 := et214_0.symm
                    have f_t214_0 : t214_0.toInt = 1 := by rw [et214_0]; decide +kernel
                    refine pw_vl (fun m214 em214 => ?_)
                    have hfr189 : ∀ z, ((la z < la this ∨ la this < la z)) → m214 z = (G 85) z := fr_up (e0 := (G 85)) (fun _ _ => rfl) em214 (show ¬ ((la this < la this ∨ la this < la this)) from by omega)
                    have hg190 : rng (0) 4 m214 := by rw [em214]; exact rng_vup hzG85 (by omega) (by omega)
                    have sm214 : (m214 this).toInt = t214_0.toInt := by rw [em214, va_up_self]
                    have b191 := hg190 this
                    refine pw_j4 ej217 (fun z217_0 ez217_0 z217_1 ez217_1 z217_2 ez217_2 z217_3 ez217_3 => ?_)
                    subst ez217_0 ez217_1 ez217_2 ez217_3
                    have qq0 : TKC f n e (m214 this).toInt (m57 this).toInt (c198_G87 this).toInt (c198_G88 this).toInt (c198_G84 this).toInt := by exact tkc_word (m := Int32.toNatClampNeg (c198_G88 this)) hP (by omega) (by omega) (by omega) (by rw [← hP]; omega) (by omega) (by omega) (by omega) (by omega) (by omega)
                    exact pw_some qq0
            · have c73 := z_nlt c73
              refine pw_vl (fun m78 em78 => ?_)
              have hfr192 : ∀ z, ((la z < la this ∨ la this < la z)) → m78 z = (G 85) z := fr_up (e0 := (G 85)) (fun _ _ => rfl) em78 (show ¬ ((la this < la this ∨ la this < la this)) from by omega)
              have hg193 : rng (0) 4 m78 := by rw [em78]; exact rng_vup hzG85 (by omega) (by omega)
              have sm78 : (m78 this).toInt = 0 := by rw [em78, va_up_self]; decide +kernel
              have b194 := hg193 this
              refine pw_j4 ej217 (fun z217_0 ez217_0 z217_1 ez217_1 z217_2 ez217_2 z217_3 ez217_3 => ?_)
              subst ez217_0 ez217_1 ez217_2 ez217_3
              have qq0 : TKC f n e (m78 this).toInt (m57 this).toInt ((G 87) this).toInt (m62 this).toInt (d0_G84 this).toInt := by exact tkc_end hP (by omega) (by omega) (by omega) (by omega)
              exact pw_some qq0
  exact lp0 NN (G 84) hzG84 (fun _ _ => rfl) (show ((G 84) this).toInt ≤ ((G 84) this).toInt from by omega) (show ((G 84) this).toInt ≤ ((G 83) this).toInt + 1 from by omega) (show (tP f n e = tP f n (Int32.toNatClampNeg ((G 84) this))) from by rw [he])
abbrev QF_X4_wordIs (κ : Nat → Nat) (wd : Nat) (la : Nat → Nat) (G : Nat → Nat → Int32) (P : Nat → Nat → Option Nat) (U : Nat → Nat → Int64) (V : Nat → Nat → Nat → Int32) (X : Nat → Nat → Nat → Int64) (O : Nat → Nat → Nat → Option Nat) (kd : Nat → Nat) (ln : Nat → Nat) (cnt : Nat) (this : Nat) (p0 : Nat) (tx : Nat) (f : Nat → Int32) (n : Nat) (e : Nat) : (Int32) → Prop := (fun t => ((t.toInt ≠ 0 → fKey f n e (kwix p0) = true)) ∧ ((t.toInt = 0 → fKey f n e (kwix p0) = false)))
set_option maxHeartbeats 4000000 in
set_option maxRecDepth 100000 in
theorem fn_X4_wordIs (κ : Nat → Nat) (wd : Nat) (la : Nat → Nat) (G : Nat → Nat → Int32) (P : Nat → Nat → Option Nat) (U : Nat → Nat → Int64) (V : Nat → Nat → Nat → Int32) (X : Nat → Nat → Nat → Int64) (O : Nat → Nat → Nat → Option Nat) (kd : Nat → Nat) (ln : Nat → Nat) (cnt : Nat) (this : Nat) (p0 : Nat) (tx : Nat) (f : Nat → Int32) (n : Nat) (e : Nat) (hzG85 : rng (0) 4 (G 85)) (hzG87 : rng (0) 2001 (G 87)) (hzG88 : rng (0) 2000 (G 88)) (hzP82 : PB κ ln wd 5 100 0 2000 0 (P 82)) (hzLN : LN κ ln) (hk_this : κ this = 5) (hs_p0 : p0 < 10) (hp0 : (∀ tx, (P 82) this = some tx → ((G 83) this).toInt ≤ ((ln tx : Nat) : Int))) (hp1 : (((G 85) this).toInt = 1 → ((G 87) this).toInt + ((G 88) this).toInt ≤ ((G 83) this).toInt)) (hB : LB la cnt P) (hlt_this : this < cnt) (htx : (P 82) this = some tx) (hf : (V 0) tx = f) (htk : TKC f n e ((G 85) this).toInt ((G 86) this).toInt ((G 87) this).toInt ((G 88) this).toInt ((G 84) this).toInt) (hs9 : p0 < 9) : pw (f_X4_wordIs G P U V X O kd ln cnt this p0) (QF_X4_wordIs κ wd la G P U V X O kd ln cnt this p0 tx f n e) := by
  unfold f_X4_wordIs
  have zk0 : (0 : Int32).toInt = 0 := by decide +kernel
  have zk1 : (1 : Int32).toInt = 1 := by decide +kernel
  have hn1 : (P 82) this = some tx := htx
  have lt_tx2 := ((hB.1 82 fl_82) this tx hn1).2.1
  have hk_tx := ((hzP82 this).2 tx hn1).1
  have hl1_tx := ((hzP82 this).2 tx hn1).2.1
  have hl2_tx := ((hzP82 this).2 tx hn1).2.2.1
  have hw_tx := ((hzP82 this).2 tx hn1).2.2.2
  have hz_tx : (Int32.ofNat (ln tx)).toInt = ((ln tx : Nat) : Int) := ofN_eq (by first | exact Nat.le_trans hl2_tx (by decide) | omega)
  have hsz := hp0 _ htx
  obtain ⟨t1, t2, t3, t4, t5, t6⟩ := htk
  have hka := kw_all p0 hs9
  have hk1 := hka.1
  have hb88 := hzG88 this
  have hb87 := hzG87 this
  have el := clampI (x := (G 88) this) (by omega)
  have es := clampI (x := (G 87) this) (by omega)
  have b3 := hzG85 this
  refine pw_jE (fun j19 ej19 => ?_)
  refine pw_ite (fun c5 => ?_) (fun c5 => ?_)
  · have c5 := congrArg Int32.toInt c5
    have b4 := hzG88 this
    have kw5 := kw_len p0 hs_p0
    refine pw_ite (fun c16 => ?_) (fun c16 => ?_)
    · have c16 := congrArg Int32.toInt c16
      have lp23 : ∀ (n23 : Nat) (y23_2 : Int32), 0 ≤ y23_2.toInt → (∀ i : Nat, (i : Int) < y23_2.toInt → (f (tP f n e + i)).toInt = (kws (kwix p0)).getD i 0) → pw (L_X4_wordIs_23 G P V ln this p0 n23 y23_2) (QF_X4_wordIs κ wd la G P U V X O kd ln cnt this p0 tx f n e) := by
        intro n23
        induction n23 with
        | zero => intros; exact pw_none
        | succ n23 ih23 =>
          intro y23_2 f6 iw23
          show pw (B_X4_wordIs_23 G P V ln this p0 (L_X4_wordIs_23 G P V ln this p0 n23) y23_2) _
          unfold B_X4_wordIs_23
          refine pw_ite (fun c28 => ?_) (fun c28 => ?_)
          · have c28 := (z_le _ _).mp c28
            have qq0 : ((1 : Int32).toInt ≠ 0 → fKey f n e (kwix p0) = true) := by intro _; obtain ⟨v1, v2, v3⟩ := t4 (by omega); exact fKey_t (by omega) ⟨by omega, fun i hi => iw23 i (by omega)⟩
            have qq1 : ((1 : Int32).toInt = 0 → fKey f n e (kwix p0) = false) := by intro h; omega
            exact pw_some ⟨qq0, qq1⟩
          · have c28 := z_nle c28
            refine pw_nne hn1 ?_
            have b8 := hzG87 this
            have f9 : (((G 87) this) + y23_2).toInt = ((G 87) this).toInt + y23_2.toInt := z_add (by omega) (by omega)
            refine pw_if (fun hb41 => ?_)
            obtain ⟨hbl41, hbr41⟩ := hb41
            have hv41 : ((((V 0) tx) (Int32.toNatClampNeg (((G 87) this) + y23_2))).toInt) = (f (Int32.toNatClampNeg (((G 87) this) + y23_2))).toInt := by rw [hf]
            refine pw_if (fun hb44 => ?_)
            obtain ⟨hbl44, hbr44⟩ := hb44
            refine pw_ite (fun c47 => ?_) (fun c47 => ?_)
            · have c47 := congrArg Int32.toInt c47
              have f10 : (y23_2 + 1).toInt = y23_2.toInt + (1) := z_addc (by decide +kernel) (by omega) (by omega)
              have iv23_0 : 0 ≤ (y23_2 + 1).toInt := by omega
              have iv23_1 : (∀ i : Nat, (i : Int) < (y23_2 + 1).toInt → (f (tP f n e + i)).toInt = (kws (kwix p0)).getD i 0) := by intro i hi; by_cases q : (i : Int) < y23_2.toInt; (exact iw23 i q); (obtain ⟨v1, v2, v3⟩ := t4 (by omega); have e0 := clampI (x := y23_2) (by omega); have e1 := clampI (x := (G 87) this + y23_2) (by omega); have hk := hka.2 (Int32.toNatClampNeg y23_2) (by omega); rw [show i = Int32.toNatClampNeg y23_2 by omega, show tP f n e + Int32.toNatClampNeg y23_2 = Int32.toNatClampNeg ((G 87) this + y23_2) by omega, ← hk]; omega)
              exact ih23 (y23_2 + 1) iv23_0 iv23_1
            · have c47 := z_ne c47
              have qq0 : ((0 : Int32).toInt ≠ 0 → fKey f n e (kwix p0) = true) := by intro h; omega
              have qq1 : ((0 : Int32).toInt = 0 → fKey f n e (kwix p0) = false) := by intro _; exact fKey_f (fun q => by obtain ⟨v1, v2, v3⟩ := t4 (by omega); have e0 := clampI (x := y23_2) (by omega); have e1 := clampI (x := (G 87) this + y23_2) (by omega); have hk := hka.2 (Int32.toNatClampNeg y23_2) (by omega); have h2 := q.2.2 (Int32.toNatClampNeg y23_2) (by omega); rw [show tP f n e + Int32.toNatClampNeg y23_2 = Int32.toNatClampNeg ((G 87) this + y23_2) by omega, ← hk] at h2; omega)
              exact pw_some ⟨qq0, qq1⟩
      exact lp23 NN (0 : Int32) (show 0 ≤ (0 : Int32).toInt from by omega) (show (∀ i : Nat, (i : Int) < (0 : Int32).toInt → (f (tP f n e + i)).toInt = (kws (kwix p0)).getD i 0) from by intro i hi; omega)
    · have c16 := z_ne c16
      refine pw_j0 ej19 ?_
      have qq0 : ((0 : Int32).toInt ≠ 0 → fKey f n e (kwix p0) = true) := by intro h; omega
      have qq1 : ((0 : Int32).toInt = 0 → fKey f n e (kwix p0) = false) := by intro _; exact fKey_f (fun q => by obtain ⟨v1, v2, v3⟩ := t4 (by omega); have h1 := q.2.1; omega)
      exact pw_some ⟨qq0, qq1⟩
  · have c5 := z_ne c5
    refine pw_j0 ej19 ?_
    have qq0 : ((0 : Int32).toInt ≠ 0 → fKey f n e (kwix p0) = true) := by intro h; omega
    have qq1 : ((0 : Int32).toInt = 0 → fKey f n e (kwix p0) = false) := by intro _; exact fKey_f (fun q => by obtain ⟨v1, v2, v3⟩ := t4 (by omega); have h1 := q.2.1; omega)
    exact pw_some ⟨qq0, qq1⟩
abbrev QF_X4_blame (κ : Nat → Nat) (wd : Nat) (la : Nat → Nat) (G : Nat → Nat → Int32) (P : Nat → Nat → Option Nat) (U : Nat → Nat → Int64) (V : Nat → Nat → Nat → Int32) (X : Nat → Nat → Nat → Int64) (O : Nat → Nat → Nat → Option Nat) (kd : Nat → Nat) (ln : Nat → Nat) (cnt : Nat) (this : Nat) (p0 : Int32) : (Int32 × (Nat → Int32) × (Nat → Int32)) → Prop := (fun t => ((t.1).toInt = 0) ∧ (((t.2.1) this).toInt = p0.toInt) ∧ (((t.2.2) this).toInt = ((G 86) this).toInt))
set_option maxHeartbeats 4000000 in
set_option maxRecDepth 100000 in
theorem fn_X4_blame (κ : Nat → Nat) (wd : Nat) (la : Nat → Nat) (G : Nat → Nat → Int32) (P : Nat → Nat → Option Nat) (U : Nat → Nat → Int64) (V : Nat → Nat → Nat → Int32) (X : Nat → Nat → Nat → Int64) (O : Nat → Nat → Nat → Option Nat) (kd : Nat → Nat) (ln : Nat → Nat) (cnt : Nat) (this : Nat) (p0 : Int32) (hzLN : LN κ ln) (hk_this : κ this = 5) (hB : LB la cnt P) (hlt_this : this < cnt) : pw (f_X4_blame G P U V X O kd ln cnt this p0) (QF_X4_blame κ wd la G P U V X O kd ln cnt this p0) := by
  unfold f_X4_blame
  have zk0 : (0 : Int32).toInt = 0 := by decide +kernel
  have r_p0 := i32r p0
  refine pw_vl (fun m2 em2 => ?_)
  have hfr1 : ∀ z, ((la z < la this ∨ la this < la z)) → m2 z = (G 80) z := fr_up (e0 := (G 80)) (fun _ _ => rfl) em2 (show ¬ ((la this < la this ∨ la this < la this)) from by omega)
  have sm2 : (m2 this).toInt = p0.toInt := by rw [em2, va_up_self]
  refine pw_vl (fun x10 ex10 => ?_)
  have f2 : x10.toInt = ((G 86) this).toInt := congrArg Int32.toInt ex10
  refine pw_vl (fun m10 em10 => ?_)
  have hfr3 : ∀ z, ((la z < la this ∨ la this < la z)) → m10 z = (G 81) z := fr_up (e0 := (G 81)) (fun _ _ => rfl) em10 (show ¬ ((la this < la this ∨ la this < la this)) from by omega)
  have sm10 : (m10 this).toInt = x10.toInt := by rw [em10, va_up_self]
  have qq0 : (0 : Int32).toInt = 0 := by omega
  have qq1 : (m2 this).toInt = p0.toInt := by omega
  have qq2 : (m10 this).toInt = ((G 86) this).toInt := by omega
  exact pw_some ⟨qq0, qq1, qq2⟩
abbrev QF_X4_hasRoom (κ : Nat → Nat) (wd : Nat) (la : Nat → Nat) (G : Nat → Nat → Int32) (P : Nat → Nat → Option Nat) (U : Nat → Nat → Int64) (V : Nat → Nat → Nat → Int32) (X : Nat → Nat → Nat → Int64) (O : Nat → Nat → Nat → Option Nat) (kd : Nat → Nat) (ln : Nat → Nat) (cnt : Nat) (this : Nat) (p0 : Int32) : (Int32 × (Nat → Int32) × (Nat → Int32)) → Prop := (fun t => (((t.1).toInt ≠ 0 → p0.toInt ≠ 0 ∧ ((t.2.1) this).toInt = ((G 80) this).toInt ∧ ((t.2.2) this).toInt = ((G 81) this).toInt)) ∧ (((t.1).toInt = 0 → p0.toInt = 0 ∧ ((t.2.1) this).toInt = 4 ∧ ((t.2.2) this).toInt = ((G 86) this).toInt)))
set_option maxHeartbeats 4000000 in
set_option maxRecDepth 100000 in
theorem fn_X4_hasRoom (κ : Nat → Nat) (wd : Nat) (la : Nat → Nat) (G : Nat → Nat → Int32) (P : Nat → Nat → Option Nat) (U : Nat → Nat → Int64) (V : Nat → Nat → Nat → Int32) (X : Nat → Nat → Nat → Int64) (O : Nat → Nat → Nat → Option Nat) (kd : Nat → Nat) (ln : Nat → Nat) (cnt : Nat) (this : Nat) (p0 : Int32) (hzLN : LN κ ln) (hk_this : κ this = 5) (hB : LB la cnt P) (hlt_this : this < cnt) : pw (f_X4_hasRoom G P U V X O kd ln cnt this p0) (QF_X4_hasRoom κ wd la G P U V X O kd ln cnt this p0) := by
  unfold f_X4_hasRoom
  have zk0 : (0 : Int32).toInt = 0 := by decide +kernel
  have zk1 : (1 : Int32).toInt = 1 := by decide +kernel
  have zk4 : (4 : Int32).toInt = 4 := by decide +kernel
  have r_p0 := i32r p0
  refine pw_jE (fun j17 ej17 => ?_)
  refine pw_jE (fun j12 ej12 => ?_)
  refine pw_ite (fun c1 => ?_) (fun c1 => ?_)
  · have c1 := congrArg Int32.toInt c1
    refine pw_b3 (fun r6 c6_G80 c6_G81 hc6 => ?_)
    have hq6 := wp_at (ok_X4_blame κ wd G P U V X O kd ln cnt this (4 : Int32) hzLN hk_this) hc6
    obtain ⟨f1, f2⟩ : ((0 ≤ r6.toInt ∧ r6.toInt ≤ 1)) ∧ (r6.toInt = 0) := hq6
    have hq6 := pwq (fr_X4_blame la G P U V X O kd ln cnt this (4 : Int32) hB) hc6
    obtain ⟨q6_G80, q6_G81⟩ : (∀ z, (la z < la this ∨ la this < la z) → c6_G80 z = (G 80) z) ∧ (∀ z, (la z < la this ∨ la this < la z) → c6_G81 z = (G 81) z) := hq6
    have tz6 : ∀ z, ((la z < la this ∨ la this < la z)) → ((la z < la this ∨ la this < la z)) := fun z hz => by omega
    have hfr3 : ∀ z, ((la z < la this ∨ la this < la z)) → c6_G80 z = (G 80) z := fun z hz => (q6_G80 z (tz6 z hz)).trans ((fun _ _ => rfl) z hz)
    have hfr4 : ∀ z, ((la z < la this ∨ la this < la z)) → c6_G81 z = (G 81) z := fun z hz => (q6_G81 z (tz6 z hz)).trans ((fun _ _ => rfl) z hz)
    have hx6 := pwq (fn_X4_blame κ wd la G P U V X O kd ln cnt this (4 : Int32) hzLN hk_this hB hlt_this) hc6
    obtain ⟨p6_0, p6_1, p6_2⟩ : (r6.toInt = 0) ∧ ((c6_G80 this).toInt = (4 : Int32).toInt) ∧ ((c6_G81 this).toInt = ((G 86) this).toInt) := hx6
    refine pw_ite (fun c9 => ?_) (fun c9 => ?_)
    · have c9 := congrArg Int32.toInt c9
      refine pw_j3 ej17 (fun t17_0 et17_0 z17_1 ez17_1 z17_2 ez17_2 => ?_)
      subst ez17_1 ez17_2
      have et17_0 := et17_0.symm
      have f_t17_0 : t17_0.toInt = 0 := by rw [et17_0]; decide +kernel
      refine pw_if (fun hb17 => ?_)
      obtain ⟨hbl17, hbr17⟩ := hb17
      have qq0 : (t17_0.toInt ≠ 0 → p0.toInt ≠ 0 ∧ (c6_G80 this).toInt = ((G 80) this).toInt ∧ (c6_G81 this).toInt = ((G 81) this).toInt) := by omega
      have qq1 : (t17_0.toInt = 0 → p0.toInt = 0 ∧ (c6_G80 this).toInt = 4 ∧ (c6_G81 this).toInt = ((G 86) this).toInt) := by omega
      exact pw_some ⟨qq0, qq1⟩
    · have c9 := z_ne c9
      exfalso; omega
  · have c1 := z_ne c1
    refine pw_j2 ej12 (fun z12_0 ez12_0 z12_1 ez12_1 => ?_)
    subst ez12_0 ez12_1
    refine pw_j3 ej17 (fun t17_0 et17_0 z17_1 ez17_1 z17_2 ez17_2 => ?_)
    subst ez17_1 ez17_2
    have et17_0 := et17_0.symm
    have f_t17_0 : t17_0.toInt = 1 := by rw [et17_0]; decide +kernel
    refine pw_if (fun hb17 => ?_)
    obtain ⟨hbl17, hbr17⟩ := hb17
    have qq0 : (t17_0.toInt ≠ 0 → p0.toInt ≠ 0 ∧ ((G 80) this).toInt = ((G 80) this).toInt ∧ ((G 81) this).toInt = ((G 81) this).toInt) := by omega
    have qq1 : (t17_0.toInt = 0 → p0.toInt = 0 ∧ ((G 80) this).toInt = 4 ∧ ((G 81) this).toInt = ((G 86) this).toInt) := by omega
    exact pw_some ⟨qq0, qq1⟩
abbrev QF_X4_isNew (κ : Nat → Nat) (wd : Nat) (la : Nat → Nat) (G : Nat → Nat → Int32) (P : Nat → Nat → Option Nat) (U : Nat → Nat → Int64) (V : Nat → Nat → Nat → Int32) (X : Nat → Nat → Nat → Int64) (O : Nat → Nat → Nat → Option Nat) (kd : Nat → Nat) (ln : Nat → Nat) (cnt : Nat) (this : Nat) (p0 : Int32) : (Int32 × (Nat → Int32) × (Nat → Int32)) → Prop := (fun t => (((t.1).toInt ≠ 0 → p0.toInt ≠ 0 ∧ ((t.2.1) this).toInt = ((G 80) this).toInt ∧ ((t.2.2) this).toInt = ((G 81) this).toInt)) ∧ (((t.1).toInt = 0 → p0.toInt = 0 ∧ ((t.2.1) this).toInt = 3 ∧ ((t.2.2) this).toInt = ((G 86) this).toInt)))
set_option maxHeartbeats 4000000 in
set_option maxRecDepth 100000 in
theorem fn_X4_isNew (κ : Nat → Nat) (wd : Nat) (la : Nat → Nat) (G : Nat → Nat → Int32) (P : Nat → Nat → Option Nat) (U : Nat → Nat → Int64) (V : Nat → Nat → Nat → Int32) (X : Nat → Nat → Nat → Int64) (O : Nat → Nat → Nat → Option Nat) (kd : Nat → Nat) (ln : Nat → Nat) (cnt : Nat) (this : Nat) (p0 : Int32) (hzLN : LN κ ln) (hk_this : κ this = 5) (hB : LB la cnt P) (hlt_this : this < cnt) : pw (f_X4_isNew G P U V X O kd ln cnt this p0) (QF_X4_isNew κ wd la G P U V X O kd ln cnt this p0) := by
  unfold f_X4_isNew
  have zk0 : (0 : Int32).toInt = 0 := by decide +kernel
  have zk1 : (1 : Int32).toInt = 1 := by decide +kernel
  have zk3 : (3 : Int32).toInt = 3 := by decide +kernel
  have r_p0 := i32r p0
  refine pw_jE (fun j17 ej17 => ?_)
  refine pw_jE (fun j12 ej12 => ?_)
  refine pw_ite (fun c1 => ?_) (fun c1 => ?_)
  · have c1 := congrArg Int32.toInt c1
    refine pw_b3 (fun r6 c6_G80 c6_G81 hc6 => ?_)
    have hq6 := wp_at (ok_X4_blame κ wd G P U V X O kd ln cnt this (3 : Int32) hzLN hk_this) hc6
    obtain ⟨f1, f2⟩ : ((0 ≤ r6.toInt ∧ r6.toInt ≤ 1)) ∧ (r6.toInt = 0) := hq6
    have hq6 := pwq (fr_X4_blame la G P U V X O kd ln cnt this (3 : Int32) hB) hc6
    obtain ⟨q6_G80, q6_G81⟩ : (∀ z, (la z < la this ∨ la this < la z) → c6_G80 z = (G 80) z) ∧ (∀ z, (la z < la this ∨ la this < la z) → c6_G81 z = (G 81) z) := hq6
    have tz6 : ∀ z, ((la z < la this ∨ la this < la z)) → ((la z < la this ∨ la this < la z)) := fun z hz => by omega
    have hfr3 : ∀ z, ((la z < la this ∨ la this < la z)) → c6_G80 z = (G 80) z := fun z hz => (q6_G80 z (tz6 z hz)).trans ((fun _ _ => rfl) z hz)
    have hfr4 : ∀ z, ((la z < la this ∨ la this < la z)) → c6_G81 z = (G 81) z := fun z hz => (q6_G81 z (tz6 z hz)).trans ((fun _ _ => rfl) z hz)
    have hx6 := pwq (fn_X4_blame κ wd la G P U V X O kd ln cnt this (3 : Int32) hzLN hk_this hB hlt_this) hc6
    obtain ⟨p6_0, p6_1, p6_2⟩ : (r6.toInt = 0) ∧ ((c6_G80 this).toInt = (3 : Int32).toInt) ∧ ((c6_G81 this).toInt = ((G 86) this).toInt) := hx6
    refine pw_ite (fun c9 => ?_) (fun c9 => ?_)
    · have c9 := congrArg Int32.toInt c9
      refine pw_j3 ej17 (fun t17_0 et17_0 z17_1 ez17_1 z17_2 ez17_2 => ?_)
      subst ez17_1 ez17_2
      have et17_0 := et17_0.symm
      have f_t17_0 : t17_0.toInt = 0 := by rw [et17_0]; decide +kernel
      refine pw_if (fun hb17 => ?_)
      obtain ⟨hbl17, hbr17⟩ := hb17
      have qq0 : (t17_0.toInt ≠ 0 → p0.toInt ≠ 0 ∧ (c6_G80 this).toInt = ((G 80) this).toInt ∧ (c6_G81 this).toInt = ((G 81) this).toInt) := by omega
      have qq1 : (t17_0.toInt = 0 → p0.toInt = 0 ∧ (c6_G80 this).toInt = 3 ∧ (c6_G81 this).toInt = ((G 86) this).toInt) := by omega
      exact pw_some ⟨qq0, qq1⟩
    · have c9 := z_ne c9
      exfalso; omega
  · have c1 := z_ne c1
    refine pw_j2 ej12 (fun z12_0 ez12_0 z12_1 ez12_1 => ?_)
    subst ez12_0 ez12_1
    refine pw_j3 ej17 (fun t17_0 et17_0 z17_1 ez17_1 z17_2 ez17_2 => ?_)
    subst ez17_1 ez17_2
    have et17_0 := et17_0.symm
    have f_t17_0 : t17_0.toInt = 1 := by rw [et17_0]; decide +kernel
    refine pw_if (fun hb17 => ?_)
    obtain ⟨hbl17, hbr17⟩ := hb17
    have qq0 : (t17_0.toInt ≠ 0 → p0.toInt ≠ 0 ∧ ((G 80) this).toInt = ((G 80) this).toInt ∧ ((G 81) this).toInt = ((G 81) this).toInt) := by omega
    have qq1 : (t17_0.toInt = 0 → p0.toInt = 0 ∧ ((G 80) this).toInt = 3 ∧ ((G 81) this).toInt = ((G 86) this).toInt) := by omega
    exact pw_some ⟨qq0, qq1⟩
abbrev QF_X4_takeLetters (κ : Nat → Nat) (wd : Nat) (la : Nat → Nat) (G : Nat → Nat → Int32) (P : Nat → Nat → Option Nat) (U : Nat → Nat → Int64) (V : Nat → Nat → Nat → Int32) (X : Nat → Nat → Nat → Int64) (O : Nat → Nat → Nat → Option Nat) (kd : Nat → Nat) (ln : Nat → Nat) (cnt : Nat) (this : Nat) (p0 : Int32) (tx : Nat) (f : Nat → Int32) (n : Nat) (e : Nat) (sm : Bool) : (Int32 × (Nat → Int32) × (Nat → Int32) × (Nat → Int32) × (Nat → Int32) × (Nat → Int32) × (Nat → Int32) × (Nat → Int32)) → Prop := (fun t => (((t.1).toInt ≠ 0 → fLet f n e sm = none ∧ ((t.2.1) this).toInt = ((G 80) this).toInt ∧ ((t.2.2.1) this).toInt = ((G 81) this).toInt ∧ ((t.2.2.2.2.2.1) this).toInt = ((tP f n e : Nat) : Int) ∧ ((t.2.2.2.2.2.2.1) this).toInt = ((tP f n e : Nat) : Int) + 1 ∧ ((t.2.2.2.2.2.2.2) this).toInt = ((tL f n e : Nat) : Int) ∧ Int32.toNatClampNeg ((t.2.2.2.1) this) = tE f n e)) ∧ (((t.1).toInt = 0 → ERR (fLet f n e sm) ((t.2.1) this) ((t.2.2.1) this))))
set_option maxHeartbeats 4000000 in
set_option maxRecDepth 100000 in
theorem fn_X4_takeLetters (κ : Nat → Nat) (wd : Nat) (la : Nat → Nat) (G : Nat → Nat → Int32) (P : Nat → Nat → Option Nat) (U : Nat → Nat → Int64) (V : Nat → Nat → Nat → Int32) (X : Nat → Nat → Nat → Int64) (O : Nat → Nat → Nat → Option Nat) (kd : Nat → Nat) (ln : Nat → Nat) (cnt : Nat) (this : Nat) (p0 : Int32) (tx : Nat) (f : Nat → Int32) (n : Nat) (e : Nat) (sm : Bool) (hzG83 : rng (0) 2000 (G 83)) (hzG84 : rng (0) 2001 (G 84)) (hzG85 : rng (0) 4 (G 85)) (hzG87 : rng (0) 2001 (G 87)) (hzG88 : rng (0) 2000 (G 88)) (hzP82 : PB κ ln wd 5 100 0 2000 0 (P 82)) (hzLN : LN κ ln) (hk_this : κ this = 5) (hp0 : (∀ tx, (P 82) this = some tx → ((G 83) this).toInt ≤ ((ln tx : Nat) : Int))) (hp1 : ((G 84) this).toInt ≤ ((G 83) this).toInt + 1) (hB : LB la cnt P) (hlt_this : this < cnt) (htx : (P 82) this = some tx) (hf : (V 0) tx = f) (hn : Int32.toNatClampNeg ((G 83) this) = n) (he : Int32.toNatClampNeg ((G 84) this) = e) (hsm : sm = decide (p0.toInt = 0)) : pw (f_X4_takeLetters G P U V X O kd ln cnt this p0) (QF_X4_takeLetters κ wd la G P U V X O kd ln cnt this p0 tx f n e sm) := by
  unfold f_X4_takeLetters
  have zk0 : (0 : Int32).toInt = 0 := by decide +kernel
  have zk1 : (1 : Int32).toInt = 1 := by decide +kernel
  have zk2 : (2 : Int32).toInt = 2 := by decide +kernel
  have r_p0 := i32r p0
  have hpr1_0 : (∀ tx, (P 82) this = some tx → ((G 83) this).toInt ≤ ((ln tx : Nat) : Int)) := by assumption
  have hpr1_1 : ((G 84) this).toInt ≤ ((G 83) this).toInt + 1 := by first | assumption | omega
  refine pw_b5 (fun c1_G84 c1_G85 c1_G86 c1_G87 c1_G88 hc1 => ?_)
  have hq1 := wp_at (ok_X4_nextToken κ wd G P U V X O kd ln cnt this hzG83 hzG84 hzG85 hzG87 hzG88 hzP82 hzLN hk_this hpr1_0 hpr1_1) hc1
  obtain ⟨hg1, hg2, hg3, hg4, f5, f6, f7, f8, f9⟩ : (rng (0) 2001 c1_G84) ∧ (rng (0) 4 c1_G85) ∧ (rng (0) 2001 c1_G87) ∧ (rng (0) 2000 c1_G88) ∧ ((c1_G85 this).toInt = 1 ∨ (c1_G85 this).toInt = 2 → (c1_G87 this).toInt + (c1_G88 this).toInt ≤ ((G 83) this).toInt) ∧ ((c1_G85 this).toInt = 2 → 1 ≤ (c1_G87 this).toInt ∧ (c1_G88 this).toInt ≤ 16) ∧ ((c1_G85 this).toInt = 1 → ((G 84) this).toInt + 1 ≤ (c1_G84 this).toInt) ∧ (((G 84) this).toInt ≤ (c1_G84 this).toInt) ∧ ((c1_G84 this).toInt ≤ ((G 83) this).toInt + 1) := hq1
  have hq1 := pwq (fr_X4_nextToken la G P U V X O kd ln cnt this hB) hc1
  obtain ⟨q1_G84, q1_G85, q1_G86, q1_G87, q1_G88⟩ : (∀ z, (la z < la this ∨ la this < la z) → c1_G84 z = (G 84) z) ∧ (∀ z, (la z < la this ∨ la this < la z) → c1_G85 z = (G 85) z) ∧ (∀ z, (la z < la this ∨ la this < la z) → c1_G86 z = (G 86) z) ∧ (∀ z, (la z < la this ∨ la this < la z) → c1_G87 z = (G 87) z) ∧ (∀ z, (la z < la this ∨ la this < la z) → c1_G88 z = (G 88) z) := hq1
  have tz1 : ∀ z, ((la z < la this ∨ la this < la z)) → ((la z < la this ∨ la this < la z)) := fun z hz => by omega
  have hfr10 : ∀ z, ((la z < la this ∨ la this < la z)) → c1_G84 z = (G 84) z := fun z hz => (q1_G84 z (tz1 z hz)).trans ((fun _ _ => rfl) z hz)
  have hfr11 : ∀ z, ((la z < la this ∨ la this < la z)) → c1_G85 z = (G 85) z := fun z hz => (q1_G85 z (tz1 z hz)).trans ((fun _ _ => rfl) z hz)
  have hfr12 : ∀ z, ((la z < la this ∨ la this < la z)) → c1_G86 z = (G 86) z := fun z hz => (q1_G86 z (tz1 z hz)).trans ((fun _ _ => rfl) z hz)
  have hfr13 : ∀ z, ((la z < la this ∨ la this < la z)) → c1_G87 z = (G 87) z := fun z hz => (q1_G87 z (tz1 z hz)).trans ((fun _ _ => rfl) z hz)
  have hfr14 : ∀ z, ((la z < la this ∨ la this < la z)) → c1_G88 z = (G 88) z := fun z hz => (q1_G88 z (tz1 z hz)).trans ((fun _ _ => rfl) z hz)
  have h81_htx : (P 82) this = some tx := by first | assumption | omega
  have h81_hf : (V 0) tx = f := by first | assumption | omega
  have h81_hn : Int32.toNatClampNeg ((G 83) this) = n := by first | assumption | omega
  have h81_he : Int32.toNatClampNeg ((G 84) this) = e := by first | assumption | omega
  have hx1 := pwq (fn_X4_nextToken κ wd la G P U V X O kd ln cnt this (tx) (f) (n) (e) hzG83 hzG84 hzG85 hzG87 hzG88 hzP82 hzLN hk_this hpr1_0 hpr1_1 hB hlt_this h81_htx h81_hf h81_hn h81_he) hc1
  have p1_0 : TKC f n e (c1_G85 this).toInt (c1_G86 this).toInt (c1_G87 this).toInt (c1_G88 this).toInt (c1_G84 this).toInt := hx1
  clear hx1
  obtain ⟨t1, t2, t3, t4, t5, t6⟩ := p1_0
  have b15 := hg2 this
  refine pw_ite (fun c9 => ?_) (fun c9 => ?_)
  · have c9 := congrArg Int32.toInt c9
    have b16 := hg4 this
    refine pw_jE (fun j42 ej42 => ?_)
    refine pw_jE (fun j37 ej37 => ?_)
    refine pw_ite (fun c22 => ?_) (fun c22 => ?_)
    · have c22 := (z_lt _ _).mp c22
      refine pw_j2 ej37 (fun z37_0 ez37_0 z37_1 ez37_1 => ?_)
      subst ez37_0 ez37_1
      refine pw_j3 ej42 (fun t42_0 et42_0 z42_1 ez42_1 z42_2 ez42_2 => ?_)
      subst ez42_1 ez42_2
      have et42_0 := et42_0.symm
      have f_t42_0 : t42_0.toInt = 1 := by rw [et42_0]; decide +kernel
      refine pw_if (fun hb42 => ?_)
      obtain ⟨hbl42, hbr42⟩ := hb42
      have qq0 : (t42_0.toInt ≠ 0 → fLet f n e sm = none ∧ ((G 80) this).toInt = ((G 80) this).toInt ∧ ((G 81) this).toInt = ((G 81) this).toInt ∧ (c1_G86 this).toInt = ((tP f n e : Nat) : Int) ∧ (c1_G87 this).toInt = ((tP f n e : Nat) : Int) + 1 ∧ (c1_G88 this).toInt = ((tL f n e : Nat) : Int) ∧ Int32.toNatClampNeg (c1_G84 this) = tE f n e) := by intro _; obtain ⟨v1, v2, v3⟩ := t5 (by omega); have ez := clampI (x := c1_G84 this) (by omega); exact ⟨fLet_ok (by omega) (fun z => by rw [hsm] at z; have z2 := of_decide_eq_true z; omega), by omega, by omega, by omega, by omega, by omega, by omega⟩
      have qq1 : (t42_0.toInt = 0 → ERR (fLet f n e sm) ((G 80) this) ((G 81) this)) := by intro h; omega
      exact pw_some ⟨qq0, qq1⟩
    · have c22 := z_nlt c22
      refine pw_ite (fun c26 => ?_) (fun c26 => ?_)
      · have c26 := congrArg Int32.toInt c26
        refine pw_b3 (fun r31 c31_G80 c31_G81 hc31 => ?_)
        have hq31 := wp_at (ok_X4_blame κ wd (va_up (va_up (va_up (va_up (va_up G 84 c1_G84) 85 c1_G85) 86 c1_G86) 87 c1_G87) 88 c1_G88) P U V X O kd ln cnt this (2 : Int32) hzLN hk_this) hc31
        obtain ⟨f17, f18⟩ : ((0 ≤ r31.toInt ∧ r31.toInt ≤ 1)) ∧ (r31.toInt = 0) := hq31
        have hq31 := pwq (fr_X4_blame la (va_up (va_up (va_up (va_up (va_up G 84 c1_G84) 85 c1_G85) 86 c1_G86) 87 c1_G87) 88 c1_G88) P U V X O kd ln cnt this (2 : Int32) hB) hc31
        obtain ⟨q31_G80, q31_G81⟩ : (∀ z, (la z < la this ∨ la this < la z) → c31_G80 z = (G 80) z) ∧ (∀ z, (la z < la this ∨ la this < la z) → c31_G81 z = (G 81) z) := hq31
        have tz31 : ∀ z, ((la z < la this ∨ la this < la z)) → ((la z < la this ∨ la this < la z)) := fun z hz => by omega
        have hfr19 : ∀ z, ((la z < la this ∨ la this < la z)) → c31_G80 z = (G 80) z := fun z hz => (q31_G80 z (tz31 z hz)).trans ((fun _ _ => rfl) z hz)
        have hfr20 : ∀ z, ((la z < la this ∨ la this < la z)) → c31_G81 z = (G 81) z := fun z hz => (q31_G81 z (tz31 z hz)).trans ((fun _ _ => rfl) z hz)
        have hx31 := pwq (fn_X4_blame κ wd la (va_up (va_up (va_up (va_up (va_up G 84 c1_G84) 85 c1_G85) 86 c1_G86) 87 c1_G87) 88 c1_G88) P U V X O kd ln cnt this (2 : Int32) hzLN hk_this hB hlt_this) hc31
        obtain ⟨p31_0, p31_1, p31_2⟩ : (r31.toInt = 0) ∧ ((c31_G80 this).toInt = (2 : Int32).toInt) ∧ ((c31_G81 this).toInt = (c1_G86 this).toInt) := hx31
        refine pw_ite (fun c34 => ?_) (fun c34 => ?_)
        · have c34 := congrArg Int32.toInt c34
          refine pw_j3 ej42 (fun t42_0 et42_0 z42_1 ez42_1 z42_2 ez42_2 => ?_)
          subst ez42_1 ez42_2
          have et42_0 := et42_0.symm
          have f_t42_0 : t42_0.toInt = 0 := by rw [et42_0]; decide +kernel
          refine pw_if (fun hb42 => ?_)
          obtain ⟨hbl42, hbr42⟩ := hb42
          have qq0 : (t42_0.toInt ≠ 0 → fLet f n e sm = none ∧ (c31_G80 this).toInt = ((G 80) this).toInt ∧ (c31_G81 this).toInt = ((G 81) this).toInt ∧ (c1_G86 this).toInt = ((tP f n e : Nat) : Int) ∧ (c1_G87 this).toInt = ((tP f n e : Nat) : Int) + 1 ∧ (c1_G88 this).toInt = ((tL f n e : Nat) : Int) ∧ Int32.toNatClampNeg (c1_G84 this) = tE f n e) := by intro h; omega
          have qq1 : (t42_0.toInt = 0 → ERR (fLet f n e sm) (c31_G80 this) (c31_G81 this)) := by intro _; obtain ⟨v1, v2, v3⟩ := t5 (by omega); exact err_of (fLet_emp (by omega) (by rw [hsm]; exact decide_eq_true (by omega)) (by omega)) (by omega) (by omega) (by omega)
          exact pw_some ⟨qq0, qq1⟩
        · have c34 := z_ne c34
          exfalso; omega
      · have c26 := z_ne c26
        refine pw_j2 ej37 (fun z37_0 ez37_0 z37_1 ez37_1 => ?_)
        subst ez37_0 ez37_1
        refine pw_j3 ej42 (fun t42_0 et42_0 z42_1 ez42_1 z42_2 ez42_2 => ?_)
        subst ez42_1 ez42_2
        have et42_0 := et42_0.symm
        have f_t42_0 : t42_0.toInt = 1 := by rw [et42_0]; decide +kernel
        refine pw_if (fun hb42 => ?_)
        obtain ⟨hbl42, hbr42⟩ := hb42
        have qq0 : (t42_0.toInt ≠ 0 → fLet f n e sm = none ∧ ((G 80) this).toInt = ((G 80) this).toInt ∧ ((G 81) this).toInt = ((G 81) this).toInt ∧ (c1_G86 this).toInt = ((tP f n e : Nat) : Int) ∧ (c1_G87 this).toInt = ((tP f n e : Nat) : Int) + 1 ∧ (c1_G88 this).toInt = ((tL f n e : Nat) : Int) ∧ Int32.toNatClampNeg (c1_G84 this) = tE f n e) := by intro _; obtain ⟨v1, v2, v3⟩ := t5 (by omega); have ez := clampI (x := c1_G84 this) (by omega); exact ⟨fLet_ok (by omega) (fun z => by rw [hsm] at z; have z2 := of_decide_eq_true z; omega), by omega, by omega, by omega, by omega, by omega, by omega⟩
        have qq1 : (t42_0.toInt = 0 → ERR (fLet f n e sm) ((G 80) this) ((G 81) this)) := by intro h; omega
        exact pw_some ⟨qq0, qq1⟩
  · have c9 := z_ne c9
    refine pw_b3 (fun r14 c14_G80 c14_G81 hc14 => ?_)
    have hq14 := wp_at (ok_X4_blame κ wd (va_up (va_up (va_up (va_up (va_up G 84 c1_G84) 85 c1_G85) 86 c1_G86) 87 c1_G87) 88 c1_G88) P U V X O kd ln cnt this (1 : Int32) hzLN hk_this) hc14
    obtain ⟨f21, f22⟩ : ((0 ≤ r14.toInt ∧ r14.toInt ≤ 1)) ∧ (r14.toInt = 0) := hq14
    have hq14 := pwq (fr_X4_blame la (va_up (va_up (va_up (va_up (va_up G 84 c1_G84) 85 c1_G85) 86 c1_G86) 87 c1_G87) 88 c1_G88) P U V X O kd ln cnt this (1 : Int32) hB) hc14
    obtain ⟨q14_G80, q14_G81⟩ : (∀ z, (la z < la this ∨ la this < la z) → c14_G80 z = (G 80) z) ∧ (∀ z, (la z < la this ∨ la this < la z) → c14_G81 z = (G 81) z) := hq14
    have tz14 : ∀ z, ((la z < la this ∨ la this < la z)) → ((la z < la this ∨ la this < la z)) := fun z hz => by omega
    have hfr23 : ∀ z, ((la z < la this ∨ la this < la z)) → c14_G80 z = (G 80) z := fun z hz => (q14_G80 z (tz14 z hz)).trans ((fun _ _ => rfl) z hz)
    have hfr24 : ∀ z, ((la z < la this ∨ la this < la z)) → c14_G81 z = (G 81) z := fun z hz => (q14_G81 z (tz14 z hz)).trans ((fun _ _ => rfl) z hz)
    have hx14 := pwq (fn_X4_blame κ wd la (va_up (va_up (va_up (va_up (va_up G 84 c1_G84) 85 c1_G85) 86 c1_G86) 87 c1_G87) 88 c1_G88) P U V X O kd ln cnt this (1 : Int32) hzLN hk_this hB hlt_this) hc14
    obtain ⟨p14_0, p14_1, p14_2⟩ : (r14.toInt = 0) ∧ ((c14_G80 this).toInt = (1 : Int32).toInt) ∧ ((c14_G81 this).toInt = (c1_G86 this).toInt) := hx14
    refine pw_if (fun hb17 => ?_)
    obtain ⟨hbl17, hbr17⟩ := hb17
    have qq0 : (r14.toInt ≠ 0 → fLet f n e sm = none ∧ (c14_G80 this).toInt = ((G 80) this).toInt ∧ (c14_G81 this).toInt = ((G 81) this).toInt ∧ (c1_G86 this).toInt = ((tP f n e : Nat) : Int) ∧ (c1_G87 this).toInt = ((tP f n e : Nat) : Int) + 1 ∧ (c1_G88 this).toInt = ((tL f n e : Nat) : Int) ∧ Int32.toNatClampNeg (c1_G84 this) = tE f n e) := by intro h; omega
    have qq1 : (r14.toInt = 0 → ERR (fLet f n e sm) (c14_G80 this) (c14_G81 this)) := by intro _; exact err_of (fLet_bad (by omega)) (by omega) (by omega) (by omega)
    exact pw_some ⟨qq0, qq1⟩
abbrev QF_X4_takeTo (κ : Nat → Nat) (wd : Nat) (la : Nat → Nat) (G : Nat → Nat → Int32) (P : Nat → Nat → Option Nat) (U : Nat → Nat → Int64) (V : Nat → Nat → Nat → Int32) (X : Nat → Nat → Nat → Int64) (O : Nat → Nat → Nat → Option Nat) (kd : Nat → Nat) (ln : Nat → Nat) (cnt : Nat) (this : Nat) (tx : Nat) (f : Nat → Int32) (n : Nat) (e : Nat) : (Int32 × (Nat → Int32) × (Nat → Int32) × (Nat → Int32) × (Nat → Int32) × (Nat → Int32) × (Nat → Int32) × (Nat → Int32)) → Prop := (fun t => (((t.1).toInt ≠ 0 → fTo f n e = none ∧ ((t.2.1) this).toInt = ((G 80) this).toInt ∧ ((t.2.2.1) this).toInt = ((G 81) this).toInt ∧ Int32.toNatClampNeg ((t.2.2.2.1) this) = tE f n e)) ∧ (((t.1).toInt = 0 → ERR (fTo f n e) ((t.2.1) this) ((t.2.2.1) this))))
set_option maxHeartbeats 4000000 in
set_option maxRecDepth 100000 in
theorem fn_X4_takeTo (κ : Nat → Nat) (wd : Nat) (la : Nat → Nat) (G : Nat → Nat → Int32) (P : Nat → Nat → Option Nat) (U : Nat → Nat → Int64) (V : Nat → Nat → Nat → Int32) (X : Nat → Nat → Nat → Int64) (O : Nat → Nat → Nat → Option Nat) (kd : Nat → Nat) (ln : Nat → Nat) (cnt : Nat) (this : Nat) (tx : Nat) (f : Nat → Int32) (n : Nat) (e : Nat) (hzG83 : rng (0) 2000 (G 83)) (hzG84 : rng (0) 2001 (G 84)) (hzG85 : rng (0) 4 (G 85)) (hzG87 : rng (0) 2001 (G 87)) (hzG88 : rng (0) 2000 (G 88)) (hzP82 : PB κ ln wd 5 100 0 2000 0 (P 82)) (hzLN : LN κ ln) (hk_this : κ this = 5) (hp0 : (∀ tx, (P 82) this = some tx → ((G 83) this).toInt ≤ ((ln tx : Nat) : Int))) (hp1 : ((G 84) this).toInt ≤ ((G 83) this).toInt + 1) (hB : LB la cnt P) (hlt_this : this < cnt) (htx : (P 82) this = some tx) (hf : (V 0) tx = f) (hn : Int32.toNatClampNeg ((G 83) this) = n) (he : Int32.toNatClampNeg ((G 84) this) = e) : pw (f_X4_takeTo G P U V X O kd ln cnt this) (QF_X4_takeTo κ wd la G P U V X O kd ln cnt this tx f n e) := by
  unfold f_X4_takeTo
  have zk0 : (0 : Int32).toInt = 0 := by decide +kernel
  have zk1 : (1 : Int32).toInt = 1 := by decide +kernel
  have hpr1_0 : (∀ tx, (P 82) this = some tx → ((G 83) this).toInt ≤ ((ln tx : Nat) : Int)) := by assumption
  have hpr1_1 : ((G 84) this).toInt ≤ ((G 83) this).toInt + 1 := by first | assumption | omega
  refine pw_b5 (fun c1_G84 c1_G85 c1_G86 c1_G87 c1_G88 hc1 => ?_)
  have hq1 := wp_at (ok_X4_nextToken κ wd G P U V X O kd ln cnt this hzG83 hzG84 hzG85 hzG87 hzG88 hzP82 hzLN hk_this hpr1_0 hpr1_1) hc1
  obtain ⟨hg1, hg2, hg3, hg4, f5, f6, f7, f8, f9⟩ : (rng (0) 2001 c1_G84) ∧ (rng (0) 4 c1_G85) ∧ (rng (0) 2001 c1_G87) ∧ (rng (0) 2000 c1_G88) ∧ ((c1_G85 this).toInt = 1 ∨ (c1_G85 this).toInt = 2 → (c1_G87 this).toInt + (c1_G88 this).toInt ≤ ((G 83) this).toInt) ∧ ((c1_G85 this).toInt = 2 → 1 ≤ (c1_G87 this).toInt ∧ (c1_G88 this).toInt ≤ 16) ∧ ((c1_G85 this).toInt = 1 → ((G 84) this).toInt + 1 ≤ (c1_G84 this).toInt) ∧ (((G 84) this).toInt ≤ (c1_G84 this).toInt) ∧ ((c1_G84 this).toInt ≤ ((G 83) this).toInt + 1) := hq1
  have hq1 := pwq (fr_X4_nextToken la G P U V X O kd ln cnt this hB) hc1
  obtain ⟨q1_G84, q1_G85, q1_G86, q1_G87, q1_G88⟩ : (∀ z, (la z < la this ∨ la this < la z) → c1_G84 z = (G 84) z) ∧ (∀ z, (la z < la this ∨ la this < la z) → c1_G85 z = (G 85) z) ∧ (∀ z, (la z < la this ∨ la this < la z) → c1_G86 z = (G 86) z) ∧ (∀ z, (la z < la this ∨ la this < la z) → c1_G87 z = (G 87) z) ∧ (∀ z, (la z < la this ∨ la this < la z) → c1_G88 z = (G 88) z) := hq1
  have tz1 : ∀ z, ((la z < la this ∨ la this < la z)) → ((la z < la this ∨ la this < la z)) := fun z hz => by omega
  have hfr10 : ∀ z, ((la z < la this ∨ la this < la z)) → c1_G84 z = (G 84) z := fun z hz => (q1_G84 z (tz1 z hz)).trans ((fun _ _ => rfl) z hz)
  have hfr11 : ∀ z, ((la z < la this ∨ la this < la z)) → c1_G85 z = (G 85) z := fun z hz => (q1_G85 z (tz1 z hz)).trans ((fun _ _ => rfl) z hz)
  have hfr12 : ∀ z, ((la z < la this ∨ la this < la z)) → c1_G86 z = (G 86) z := fun z hz => (q1_G86 z (tz1 z hz)).trans ((fun _ _ => rfl) z hz)
  have hfr13 : ∀ z, ((la z < la this ∨ la this < la z)) → c1_G87 z = (G 87) z := fun z hz => (q1_G87 z (tz1 z hz)).trans ((fun _ _ => rfl) z hz)
  have hfr14 : ∀ z, ((la z < la this ∨ la this < la z)) → c1_G88 z = (G 88) z := fun z hz => (q1_G88 z (tz1 z hz)).trans ((fun _ _ => rfl) z hz)
  have h81_htx : (P 82) this = some tx := by first | assumption | omega
  have h81_hf : (V 0) tx = f := by first | assumption | omega
  have h81_hn : Int32.toNatClampNeg ((G 83) this) = n := by first | assumption | omega
  have h81_he : Int32.toNatClampNeg ((G 84) this) = e := by first | assumption | omega
  have hx1 := pwq (fn_X4_nextToken κ wd la G P U V X O kd ln cnt this (tx) (f) (n) (e) hzG83 hzG84 hzG85 hzG87 hzG88 hzP82 hzLN hk_this hpr1_0 hpr1_1 hB hlt_this h81_htx h81_hf h81_hn h81_he) hc1
  have p1_0 : TKC f n e (c1_G85 this).toInt (c1_G86 this).toInt (c1_G87 this).toInt (c1_G88 this).toInt (c1_G84 this).toInt := hx1
  clear hx1
  have hpr7_0 : (∀ tx, (P 82) this = some tx → ((G 83) this).toInt ≤ ((ln tx : Nat) : Int)) := by assumption
  have hpr7_1 : ((c1_G85 this).toInt = 1 → (c1_G87 this).toInt + (c1_G88 this).toInt ≤ ((G 83) this).toInt) := by first | assumption | omega
  refine pw_b1 (fun r7 hc7 => ?_)
  have hq7 := wp_at (ok_X4_wordIs κ wd (va_up (va_up (va_up (va_up (va_up G 84 c1_G84) 85 c1_G85) 86 c1_G86) 87 c1_G87) 88 c1_G88) P U V X O kd ln cnt this 8 hg2 hg3 hg4 hzP82 hzLN hk_this (by decide) hpr7_0 hpr7_1) hc7
  obtain ⟨f15, f16⟩ : ((0 ≤ r7.toInt ∧ r7.toInt ≤ 1)) ∧ ((r7.toInt = 1 → (c1_G85 this).toInt = 1)) := hq7
  have h87_htx : (P 82) this = some tx := by first | assumption | omega
  have h87_hf : (V 0) tx = f := by first | assumption | omega
  have h87_htk : TKC f n e (c1_G85 this).toInt (c1_G86 this).toInt (c1_G87 this).toInt (c1_G88 this).toInt (c1_G84 this).toInt := by exact p1_0
  have h87_hs9 : 8 < 9 := by decide
  have hx7 := pwq (fn_X4_wordIs κ wd la (va_up (va_up (va_up (va_up (va_up G 84 c1_G84) 85 c1_G85) 86 c1_G86) 87 c1_G87) 88 c1_G88) P U V X O kd ln cnt this 8 (tx) (f) (n) (e) hg2 hg3 hg4 hzP82 hzLN hk_this (by decide) hpr7_0 hpr7_1 hB hlt_this h87_htx h87_hf h87_htk h87_hs9) hc7
  obtain ⟨p7_0, p7_1⟩ : ((r7.toInt ≠ 0 → fKey f n e (kwix 8) = true)) ∧ ((r7.toInt = 0 → fKey f n e (kwix 8) = false)) := hx7
  obtain ⟨t1, t2, t3, t4, t5, t6⟩ := p1_0
  rw [show kwix 8 = 2 from rfl] at p7_0 p7_1
  refine pw_jE (fun j26 ej26 => ?_)
  refine pw_jE (fun j21 ej21 => ?_)
  refine pw_ite (fun c10 => ?_) (fun c10 => ?_)
  · have c10 := congrArg Int32.toInt c10
    refine pw_b3 (fun r15 c15_G80 c15_G81 hc15 => ?_)
    have hq15 := wp_at (ok_X4_blame κ wd (va_up (va_up (va_up (va_up (va_up G 84 c1_G84) 85 c1_G85) 86 c1_G86) 87 c1_G87) 88 c1_G88) P U V X O kd ln cnt this (1 : Int32) hzLN hk_this) hc15
    obtain ⟨f17, f18⟩ : ((0 ≤ r15.toInt ∧ r15.toInt ≤ 1)) ∧ (r15.toInt = 0) := hq15
    have hq15 := pwq (fr_X4_blame la (va_up (va_up (va_up (va_up (va_up G 84 c1_G84) 85 c1_G85) 86 c1_G86) 87 c1_G87) 88 c1_G88) P U V X O kd ln cnt this (1 : Int32) hB) hc15
    obtain ⟨q15_G80, q15_G81⟩ : (∀ z, (la z < la this ∨ la this < la z) → c15_G80 z = (G 80) z) ∧ (∀ z, (la z < la this ∨ la this < la z) → c15_G81 z = (G 81) z) := hq15
    have tz15 : ∀ z, ((la z < la this ∨ la this < la z)) → ((la z < la this ∨ la this < la z)) := fun z hz => by omega
    have hfr19 : ∀ z, ((la z < la this ∨ la this < la z)) → c15_G80 z = (G 80) z := fun z hz => (q15_G80 z (tz15 z hz)).trans ((fun _ _ => rfl) z hz)
    have hfr20 : ∀ z, ((la z < la this ∨ la this < la z)) → c15_G81 z = (G 81) z := fun z hz => (q15_G81 z (tz15 z hz)).trans ((fun _ _ => rfl) z hz)
    have hx15 := pwq (fn_X4_blame κ wd la (va_up (va_up (va_up (va_up (va_up G 84 c1_G84) 85 c1_G85) 86 c1_G86) 87 c1_G87) 88 c1_G88) P U V X O kd ln cnt this (1 : Int32) hzLN hk_this hB hlt_this) hc15
    obtain ⟨p15_0, p15_1, p15_2⟩ : (r15.toInt = 0) ∧ ((c15_G80 this).toInt = (1 : Int32).toInt) ∧ ((c15_G81 this).toInt = (c1_G86 this).toInt) := hx15
    refine pw_ite (fun c18 => ?_) (fun c18 => ?_)
    · have c18 := congrArg Int32.toInt c18
      refine pw_j3 ej26 (fun t26_0 et26_0 z26_1 ez26_1 z26_2 ez26_2 => ?_)
      subst ez26_1 ez26_2
      have et26_0 := et26_0.symm
      have f_t26_0 : t26_0.toInt = 0 := by rw [et26_0]; decide +kernel
      refine pw_if (fun hb26 => ?_)
      obtain ⟨hbl26, hbr26⟩ := hb26
      have qq0 : (t26_0.toInt ≠ 0 → fTo f n e = none ∧ (c15_G80 this).toInt = ((G 80) this).toInt ∧ (c15_G81 this).toInt = ((G 81) this).toInt ∧ Int32.toNatClampNeg (c1_G84 this) = tE f n e) := by intro h; omega
      have qq1 : (t26_0.toInt = 0 → ERR (fTo f n e) (c15_G80 this) (c15_G81 this)) := by intro _; exact err_of (fTo_bad (p7_1 (by omega))) (by omega) (by omega) (by omega)
      exact pw_some ⟨qq0, qq1⟩
    · have c18 := z_ne c18
      exfalso; omega
  · have c10 := z_ne c10
    refine pw_j2 ej21 (fun z21_0 ez21_0 z21_1 ez21_1 => ?_)
    subst ez21_0 ez21_1
    refine pw_j3 ej26 (fun t26_0 et26_0 z26_1 ez26_1 z26_2 ez26_2 => ?_)
    subst ez26_1 ez26_2
    have et26_0 := et26_0.symm
    have f_t26_0 : t26_0.toInt = 1 := by rw [et26_0]; decide +kernel
    refine pw_if (fun hb26 => ?_)
    obtain ⟨hbl26, hbr26⟩ := hb26
    have qq0 : (t26_0.toInt ≠ 0 → fTo f n e = none ∧ ((G 80) this).toInt = ((G 80) this).toInt ∧ ((G 81) this).toInt = ((G 81) this).toInt ∧ Int32.toNatClampNeg (c1_G84 this) = tE f n e) := by intro _; have hk := p7_0 (by omega); have hk1 := (fKey_k hk).1; obtain ⟨v1, v2, v3⟩ := t4 (by omega); have ez := clampI (x := c1_G84 this) (by omega); exact ⟨fTo_ok hk, by omega, by omega, by omega⟩
    have qq1 : (t26_0.toInt = 0 → ERR (fTo f n e) ((G 80) this) ((G 81) this)) := by intro h; omega
    exact pw_some ⟨qq0, qq1⟩
abbrev QF_X4_takeClose (κ : Nat → Nat) (wd : Nat) (la : Nat → Nat) (G : Nat → Nat → Int32) (P : Nat → Nat → Option Nat) (U : Nat → Nat → Int64) (V : Nat → Nat → Nat → Int32) (X : Nat → Nat → Nat → Int64) (O : Nat → Nat → Nat → Option Nat) (kd : Nat → Nat) (ln : Nat → Nat) (cnt : Nat) (this : Nat) (tx : Nat) (f : Nat → Int32) (n : Nat) (e : Nat) : (Int32 × (Nat → Int32) × (Nat → Int32) × (Nat → Int32) × (Nat → Int32) × (Nat → Int32) × (Nat → Int32) × (Nat → Int32)) → Prop := (fun t => (((t.1).toInt ≠ 0 → fCl f n e = none ∧ ((t.2.1) this).toInt = ((G 80) this).toInt ∧ ((t.2.2.1) this).toInt = ((G 81) this).toInt ∧ Int32.toNatClampNeg ((t.2.2.2.1) this) = tE f n e)) ∧ (((t.1).toInt = 0 → ERR (fCl f n e) ((t.2.1) this) ((t.2.2.1) this))))
set_option maxHeartbeats 4000000 in
set_option maxRecDepth 100000 in
theorem fn_X4_takeClose (κ : Nat → Nat) (wd : Nat) (la : Nat → Nat) (G : Nat → Nat → Int32) (P : Nat → Nat → Option Nat) (U : Nat → Nat → Int64) (V : Nat → Nat → Nat → Int32) (X : Nat → Nat → Nat → Int64) (O : Nat → Nat → Nat → Option Nat) (kd : Nat → Nat) (ln : Nat → Nat) (cnt : Nat) (this : Nat) (tx : Nat) (f : Nat → Int32) (n : Nat) (e : Nat) (hzG83 : rng (0) 2000 (G 83)) (hzG84 : rng (0) 2001 (G 84)) (hzG85 : rng (0) 4 (G 85)) (hzG87 : rng (0) 2001 (G 87)) (hzG88 : rng (0) 2000 (G 88)) (hzP82 : PB κ ln wd 5 100 0 2000 0 (P 82)) (hzLN : LN κ ln) (hk_this : κ this = 5) (hp0 : (∀ tx, (P 82) this = some tx → ((G 83) this).toInt ≤ ((ln tx : Nat) : Int))) (hp1 : ((G 84) this).toInt ≤ ((G 83) this).toInt + 1) (hB : LB la cnt P) (hlt_this : this < cnt) (htx : (P 82) this = some tx) (hf : (V 0) tx = f) (hn : Int32.toNatClampNeg ((G 83) this) = n) (he : Int32.toNatClampNeg ((G 84) this) = e) : pw (f_X4_takeClose G P U V X O kd ln cnt this) (QF_X4_takeClose κ wd la G P U V X O kd ln cnt this tx f n e) := by
  unfold f_X4_takeClose
  have zk0 : (0 : Int32).toInt = 0 := by decide +kernel
  have zk1 : (1 : Int32).toInt = 1 := by decide +kernel
  have zk3 : (3 : Int32).toInt = 3 := by decide +kernel
  have hpr1_0 : (∀ tx, (P 82) this = some tx → ((G 83) this).toInt ≤ ((ln tx : Nat) : Int)) := by assumption
  have hpr1_1 : ((G 84) this).toInt ≤ ((G 83) this).toInt + 1 := by first | assumption | omega
  refine pw_b5 (fun c1_G84 c1_G85 c1_G86 c1_G87 c1_G88 hc1 => ?_)
  have hq1 := wp_at (ok_X4_nextToken κ wd G P U V X O kd ln cnt this hzG83 hzG84 hzG85 hzG87 hzG88 hzP82 hzLN hk_this hpr1_0 hpr1_1) hc1
  obtain ⟨hg1, hg2, hg3, hg4, f5, f6, f7, f8, f9⟩ : (rng (0) 2001 c1_G84) ∧ (rng (0) 4 c1_G85) ∧ (rng (0) 2001 c1_G87) ∧ (rng (0) 2000 c1_G88) ∧ ((c1_G85 this).toInt = 1 ∨ (c1_G85 this).toInt = 2 → (c1_G87 this).toInt + (c1_G88 this).toInt ≤ ((G 83) this).toInt) ∧ ((c1_G85 this).toInt = 2 → 1 ≤ (c1_G87 this).toInt ∧ (c1_G88 this).toInt ≤ 16) ∧ ((c1_G85 this).toInt = 1 → ((G 84) this).toInt + 1 ≤ (c1_G84 this).toInt) ∧ (((G 84) this).toInt ≤ (c1_G84 this).toInt) ∧ ((c1_G84 this).toInt ≤ ((G 83) this).toInt + 1) := hq1
  have hq1 := pwq (fr_X4_nextToken la G P U V X O kd ln cnt this hB) hc1
  obtain ⟨q1_G84, q1_G85, q1_G86, q1_G87, q1_G88⟩ : (∀ z, (la z < la this ∨ la this < la z) → c1_G84 z = (G 84) z) ∧ (∀ z, (la z < la this ∨ la this < la z) → c1_G85 z = (G 85) z) ∧ (∀ z, (la z < la this ∨ la this < la z) → c1_G86 z = (G 86) z) ∧ (∀ z, (la z < la this ∨ la this < la z) → c1_G87 z = (G 87) z) ∧ (∀ z, (la z < la this ∨ la this < la z) → c1_G88 z = (G 88) z) := hq1
  have tz1 : ∀ z, ((la z < la this ∨ la this < la z)) → ((la z < la this ∨ la this < la z)) := fun z hz => by omega
  have hfr10 : ∀ z, ((la z < la this ∨ la this < la z)) → c1_G84 z = (G 84) z := fun z hz => (q1_G84 z (tz1 z hz)).trans ((fun _ _ => rfl) z hz)
  have hfr11 : ∀ z, ((la z < la this ∨ la this < la z)) → c1_G85 z = (G 85) z := fun z hz => (q1_G85 z (tz1 z hz)).trans ((fun _ _ => rfl) z hz)
  have hfr12 : ∀ z, ((la z < la this ∨ la this < la z)) → c1_G86 z = (G 86) z := fun z hz => (q1_G86 z (tz1 z hz)).trans ((fun _ _ => rfl) z hz)
  have hfr13 : ∀ z, ((la z < la this ∨ la this < la z)) → c1_G87 z = (G 87) z := fun z hz => (q1_G87 z (tz1 z hz)).trans ((fun _ _ => rfl) z hz)
  have hfr14 : ∀ z, ((la z < la this ∨ la this < la z)) → c1_G88 z = (G 88) z := fun z hz => (q1_G88 z (tz1 z hz)).trans ((fun _ _ => rfl) z hz)
  have h81_htx : (P 82) this = some tx := by first | assumption | omega
  have h81_hf : (V 0) tx = f := by first | assumption | omega
  have h81_hn : Int32.toNatClampNeg ((G 83) this) = n := by first | assumption | omega
  have h81_he : Int32.toNatClampNeg ((G 84) this) = e := by first | assumption | omega
  have hx1 := pwq (fn_X4_nextToken κ wd la G P U V X O kd ln cnt this (tx) (f) (n) (e) hzG83 hzG84 hzG85 hzG87 hzG88 hzP82 hzLN hk_this hpr1_0 hpr1_1 hB hlt_this h81_htx h81_hf h81_hn h81_he) hc1
  have p1_0 : TKC f n e (c1_G85 this).toInt (c1_G86 this).toInt (c1_G87 this).toInt (c1_G88 this).toInt (c1_G84 this).toInt := hx1
  clear hx1
  obtain ⟨t1, t2, t3, t4, t5, t6⟩ := p1_0
  have b15 := hg2 this
  refine pw_jE (fun j25 ej25 => ?_)
  refine pw_jE (fun j20 ej20 => ?_)
  refine pw_ite (fun c9 => ?_) (fun c9 => ?_)
  · have c9 := congrArg Int32.toInt c9
    refine pw_j2 ej20 (fun z20_0 ez20_0 z20_1 ez20_1 => ?_)
    subst ez20_0 ez20_1
    refine pw_j3 ej25 (fun t25_0 et25_0 z25_1 ez25_1 z25_2 ez25_2 => ?_)
    subst ez25_1 ez25_2
    have et25_0 := et25_0.symm
    have f_t25_0 : t25_0.toInt = 1 := by rw [et25_0]; decide +kernel
    refine pw_if (fun hb25 => ?_)
    obtain ⟨hbl25, hbr25⟩ := hb25
    have qq0 : (t25_0.toInt ≠ 0 → fCl f n e = none ∧ ((G 80) this).toInt = ((G 80) this).toInt ∧ ((G 81) this).toInt = ((G 81) this).toInt ∧ Int32.toNatClampNeg (c1_G84 this) = tE f n e) := by intro _; have v3 := t6 (by omega); have ez := clampI (x := c1_G84 this) (by omega); exact ⟨fCl_ok (by omega), by omega, by omega, by omega⟩
    have qq1 : (t25_0.toInt = 0 → ERR (fCl f n e) ((G 80) this) ((G 81) this)) := by intro h; omega
    exact pw_some ⟨qq0, qq1⟩
  · have c9 := z_ne c9
    refine pw_b3 (fun r14 c14_G80 c14_G81 hc14 => ?_)
    have hq14 := wp_at (ok_X4_blame κ wd (va_up (va_up (va_up (va_up (va_up G 84 c1_G84) 85 c1_G85) 86 c1_G86) 87 c1_G87) 88 c1_G88) P U V X O kd ln cnt this (1 : Int32) hzLN hk_this) hc14
    obtain ⟨f16, f17⟩ : ((0 ≤ r14.toInt ∧ r14.toInt ≤ 1)) ∧ (r14.toInt = 0) := hq14
    have hq14 := pwq (fr_X4_blame la (va_up (va_up (va_up (va_up (va_up G 84 c1_G84) 85 c1_G85) 86 c1_G86) 87 c1_G87) 88 c1_G88) P U V X O kd ln cnt this (1 : Int32) hB) hc14
    obtain ⟨q14_G80, q14_G81⟩ : (∀ z, (la z < la this ∨ la this < la z) → c14_G80 z = (G 80) z) ∧ (∀ z, (la z < la this ∨ la this < la z) → c14_G81 z = (G 81) z) := hq14
    have tz14 : ∀ z, ((la z < la this ∨ la this < la z)) → ((la z < la this ∨ la this < la z)) := fun z hz => by omega
    have hfr18 : ∀ z, ((la z < la this ∨ la this < la z)) → c14_G80 z = (G 80) z := fun z hz => (q14_G80 z (tz14 z hz)).trans ((fun _ _ => rfl) z hz)
    have hfr19 : ∀ z, ((la z < la this ∨ la this < la z)) → c14_G81 z = (G 81) z := fun z hz => (q14_G81 z (tz14 z hz)).trans ((fun _ _ => rfl) z hz)
    have hx14 := pwq (fn_X4_blame κ wd la (va_up (va_up (va_up (va_up (va_up G 84 c1_G84) 85 c1_G85) 86 c1_G86) 87 c1_G87) 88 c1_G88) P U V X O kd ln cnt this (1 : Int32) hzLN hk_this hB hlt_this) hc14
    obtain ⟨p14_0, p14_1, p14_2⟩ : (r14.toInt = 0) ∧ ((c14_G80 this).toInt = (1 : Int32).toInt) ∧ ((c14_G81 this).toInt = (c1_G86 this).toInt) := hx14
    refine pw_ite (fun c17 => ?_) (fun c17 => ?_)
    · have c17 := congrArg Int32.toInt c17
      refine pw_j3 ej25 (fun t25_0 et25_0 z25_1 ez25_1 z25_2 ez25_2 => ?_)
      subst ez25_1 ez25_2
      have et25_0 := et25_0.symm
      have f_t25_0 : t25_0.toInt = 0 := by rw [et25_0]; decide +kernel
      refine pw_if (fun hb25 => ?_)
      obtain ⟨hbl25, hbr25⟩ := hb25
      have qq0 : (t25_0.toInt ≠ 0 → fCl f n e = none ∧ (c14_G80 this).toInt = ((G 80) this).toInt ∧ (c14_G81 this).toInt = ((G 81) this).toInt ∧ Int32.toNatClampNeg (c1_G84 this) = tE f n e) := by intro h; omega
      have qq1 : (t25_0.toInt = 0 → ERR (fCl f n e) (c14_G80 this) (c14_G81 this)) := by intro _; exact err_of (fCl_bad (by omega)) (by omega) (by omega) (by omega)
      exact pw_some ⟨qq0, qq1⟩
    · have c17 := z_ne c17
      exfalso; omega
abbrev QF_X10_isFull (κ : Nat → Nat) (wd : Nat) (la : Nat → Nat) (G : Nat → Nat → Int32) (P : Nat → Nat → Option Nat) (U : Nat → Nat → Int64) (V : Nat → Nat → Nat → Int32) (X : Nat → Nat → Nat → Int64) (O : Nat → Nat → Nat → Option Nat) (kd : Nat → Nat) (ln : Nat → Nat) (cnt : Nat) (this : Nat) : (Int32) → Prop := (fun t => ((t.toInt ≠ 0 → ∀ s, (P 202) this = some s → ((ln s : Nat) : Int) ≤ ((G 203) this).toInt)) ∧ ((t.toInt = 0 → ∀ s, (P 202) this = some s → ((G 203) this).toInt < ((ln s : Nat) : Int))))
set_option maxHeartbeats 4000000 in
set_option maxRecDepth 100000 in
theorem fn_X10_isFull (κ : Nat → Nat) (wd : Nat) (la : Nat → Nat) (G : Nat → Nat → Int32) (P : Nat → Nat → Option Nat) (U : Nat → Nat → Int64) (V : Nat → Nat → Nat → Int32) (X : Nat → Nat → Nat → Int64) (O : Nat → Nat → Nat → Option Nat) (kd : Nat → Nat) (ln : Nat → Nat) (cnt : Nat) (this : Nat) (hzG200 : rng (0) 24 (G 200)) (hzG203 : rng (0) 100 (G 203)) (hzP201 : PB κ ln wd 11 100 0 2400 0 (P 201)) (hzP202 : PB κ ln wd 11 101 0 100 0 (P 202)) (hzV1 : rng2 (0) 24 (V 1)) (hzRA : RA κ ln (G 200) (P 201) (P 202)) (hzRB : RB κ ln (G 200) (G 203) (P 202) (V 1)) (hzRI : RI (P 202)) (hzLN : LN κ ln) (hk_this : κ this = 11) (hB : LB la cnt P) (hlt_this : this < cnt) : pw (f_X10_isFull G P U V X O kd ln cnt this) (QF_X10_isFull κ wd la G P U V X O kd ln cnt this) := by
  unfold f_X10_isFull
  have zk0 : (0 : Int32).toInt = 0 := by decide +kernel
  have zk1 : (1 : Int32).toInt = 1 := by decide +kernel
  have b1 := hzG203 this
  refine pw_nn (fun a5 hn_a5 => ?_)
  have lt_a52 := ((hB.1 202 fl_202) this a5 hn_a5).2.1
  have lb_a52 : la a5 = la this + 0 := lk_202.mp ((hB.1 202 fl_202) this a5 hn_a5).2.2
  have hk_a5 := ((hzP202 this).2 a5 hn_a5).1
  have hl1_a5 := ((hzP202 this).2 a5 hn_a5).2.1
  have hl2_a5 := ((hzP202 this).2 a5 hn_a5).2.2.1
  have hw_a5 := ((hzP202 this).2 a5 hn_a5).2.2.2
  have hz_a5 : (Int32.ofNat (ln a5)).toInt = ((ln a5 : Nat) : Int) := ofN_eq (by first | exact Nat.le_trans hl2_a5 (by decide) | omega)
  have rb3 := (hzRB this a5 hk_this hn_a5).1
  have hzb_a5 := hzLN a5 (by rw [hk_a5]; decide)
  refine pw_jE (fun j17 ej17 => ?_)
  refine pw_ite (fun c9 => ?_) (fun c9 => ?_)
  · have c9 := (z_lt _ _).mp c9
    refine pw_j1 ej17 (fun t17_0 et17_0 => ?_)
    have et17_0 := et17_0.symm
    have f_t17_0 : t17_0.toInt = 0 := by rw [et17_0]; decide +kernel
    refine pw_if (fun hb17 => ?_)
    obtain ⟨hbl17, hbr17⟩ := hb17
    have qq0 : (t17_0.toInt ≠ 0 → ∀ s, (P 202) this = some s → ((ln s : Nat) : Int) ≤ ((G 203) this).toInt) := by intro h s hs; obtain rfl : a5 = s := Option.some.inj (hn_a5.symm.trans hs); omega
    have qq1 : (t17_0.toInt = 0 → ∀ s, (P 202) this = some s → ((G 203) this).toInt < ((ln s : Nat) : Int)) := by intro h s hs; obtain rfl : a5 = s := Option.some.inj (hn_a5.symm.trans hs); omega
    exact pw_some ⟨qq0, qq1⟩
  · have c9 := z_nlt c9
    refine pw_j1 ej17 (fun t17_0 et17_0 => ?_)
    have et17_0 := et17_0.symm
    have f_t17_0 : t17_0.toInt = 1 := by rw [et17_0]; decide +kernel
    refine pw_if (fun hb17 => ?_)
    obtain ⟨hbl17, hbr17⟩ := hb17
    have qq0 : (t17_0.toInt ≠ 0 → ∀ s, (P 202) this = some s → ((ln s : Nat) : Int) ≤ ((G 203) this).toInt) := by intro h s hs; obtain rfl : a5 = s := Option.some.inj (hn_a5.symm.trans hs); omega
    have qq1 : (t17_0.toInt = 0 → ∀ s, (P 202) this = some s → ((G 203) this).toInt < ((ln s : Nat) : Int)) := by intro h s hs; obtain rfl : a5 = s := Option.some.inj (hn_a5.symm.trans hs); omega
    exact pw_some ⟨qq0, qq1⟩
abbrev QF_X10_find (κ : Nat → Nat) (wd : Nat) (la : Nat → Nat) (G : Nat → Nat → Int32) (P : Nat → Nat → Option Nat) (U : Nat → Nat → Int64) (V : Nat → Nat → Nat → Int32) (X : Nat → Nat → Nat → Int64) (O : Nat → Nat → Nat → Option Nat) (kd : Nat → Nat) (ln : Nat → Nat) (cnt : Nat) (this : Nat) (p0 : Nat) (p1 : Int32) (p2 : Int32) (l : Nat) (s : Nat) (w : Nat) (ws : List Wd) : (Int32) → Prop := (fun t => (FIX ws (wdl ((V 0) p0) (Int32.toNatClampNeg p1) (Int32.toNatClampNeg p2)) t.toInt))
set_option maxHeartbeats 4000000 in
set_option maxRecDepth 100000 in
theorem fn_X10_find (κ : Nat → Nat) (wd : Nat) (la : Nat → Nat) (G : Nat → Nat → Int32) (P : Nat → Nat → Option Nat) (U : Nat → Nat → Int64) (V : Nat → Nat → Nat → Int32) (X : Nat → Nat → Nat → Int64) (O : Nat → Nat → Nat → Option Nat) (kd : Nat → Nat) (ln : Nat → Nat) (cnt : Nat) (this : Nat) (p0 : Nat) (p1 : Int32) (p2 : Int32) (l : Nat) (s : Nat) (w : Nat) (ws : List Wd) (hzG200 : rng (0) 24 (G 200)) (hzG203 : rng (0) 100 (G 203)) (hzP201 : PB κ ln wd 11 100 0 2400 0 (P 201)) (hzP202 : PB κ ln wd 11 101 0 100 0 (P 202)) (hzV1 : rng2 (0) 24 (V 1)) (hzRA : RA κ ln (G 200) (P 201) (P 202)) (hzRB : RB κ ln (G 200) (G 203) (P 202) (V 1)) (hzRI : RI (P 202)) (hzLN : LN κ ln) (hk_this : κ this = 11) (hk_p0 : κ p0 = 100) (hB : LB la cnt P) (hlt_this : this < cnt) (hlt_p0 : p0 < cnt) (hl : (P 201) this = some l) (hs : (P 202) this = some s) (hw : ((G 200) this).toInt = (w : Int)) (hws : rwW ((G 203) this) ((V 0) l) ((V 1) s) w = ws) (hst : 0 ≤ p1.toInt) (hm : 0 ≤ p2.toInt) (hlf : p1.toInt + p2.toInt ≤ ((ln p0 : Nat) : Int)) : pw (f_X10_find G P U V X O kd ln cnt this p0 p1 p2) (QF_X10_find κ wd la G P U V X O kd ln cnt this p0 p1 p2 l s w ws) := by
  intro x hx
  obtain ⟨h1, h2, h3⟩ := wp_at (fx_X10_find κ wd G P U V X O kd ln cnt this p0 p1 p2 hzG200 hzG203 hzP201 hzP202 hzV1 hzRA hzRB hzRI hzLN hk_this hk_p0) hx
  have hra := hzRA this l s hk_this hl hs
  have hrb := hzRB this s hk_this hs
  have hb1 := hzG203 this
  have c1 := clampI (x := p1) (by omega)
  have c2 := clampI (x := p2) (by omega)
  rw [hw] at hra
  refine rw_fnd hws (by omega) (fun k hk => ⟨(hzV1 s k).1, by have := hrb.2 k; omega, ?_⟩) (by omega) hw (by omega) (by omega) (h3 l s hl hs)
  have h5 := Nat.mul_le_mul_left w (show k + 1 ≤ ln s by omega)
  rw [Nat.mul_add, Nat.mul_one] at h5
  have h6 : ((w * ln s : Nat) : Int) = ((ln s : Nat) : Int) * (w : Int) := by rw [Nat.mul_comm]; exact Int.natCast_mul _ _
  omega
abbrev QF_X10_add (κ : Nat → Nat) (wd : Nat) (la : Nat → Nat) (G : Nat → Nat → Int32) (P : Nat → Nat → Option Nat) (U : Nat → Nat → Int64) (V : Nat → Nat → Nat → Int32) (X : Nat → Nat → Nat → Int64) (O : Nat → Nat → Nat → Option Nat) (kd : Nat → Nat) (ln : Nat → Nat) (cnt : Nat) (this : Nat) (p0 : Nat) (p1 : Int32) (p2 : Int32) (l : Nat) (s : Nat) (w : Nat) : ((Nat → Int32) × (Nat → Nat → Int32) × (Nat → Nat → Int32)) → Prop := (fun t => (rwW ((t.1) this) ((t.2.1) l) ((t.2.2) s) w = rwW ((G 203) this) ((V 0) l) ((V 1) s) w ++ [wdl ((V 0) p0) (Int32.toNatClampNeg p1) (Int32.toNatClampNeg p2)]) ∧ (((t.1) this).toInt = ((G 203) this).toInt + 1))
set_option maxHeartbeats 4000000 in
set_option maxRecDepth 100000 in
theorem fn_X10_add (κ : Nat → Nat) (wd : Nat) (la : Nat → Nat) (G : Nat → Nat → Int32) (P : Nat → Nat → Option Nat) (U : Nat → Nat → Int64) (V : Nat → Nat → Nat → Int32) (X : Nat → Nat → Nat → Int64) (O : Nat → Nat → Nat → Option Nat) (kd : Nat → Nat) (ln : Nat → Nat) (cnt : Nat) (this : Nat) (p0 : Nat) (p1 : Int32) (p2 : Int32) (l : Nat) (s : Nat) (w : Nat) (hzG200 : rng (0) 24 (G 200)) (hzG203 : rng (0) 100 (G 203)) (hzP201 : PB κ ln wd 11 100 0 2400 0 (P 201)) (hzP202 : PB κ ln wd 11 101 0 100 0 (P 202)) (hzV1 : rng2 (0) 24 (V 1)) (hzRA : RA κ ln (G 200) (P 201) (P 202)) (hzRB : RB κ ln (G 200) (G 203) (P 202) (V 1)) (hzRI : RI (P 202)) (hzLN : LN κ ln) (hk_this : κ this = 11) (hk_p0 : κ p0 = 100) (hB : LB la cnt P) (hlt_this : this < cnt) (hlt_p0 : p0 < cnt) (hl : (P 201) this = some l) (hs : (P 202) this = some s) (hw : ((G 200) this).toInt = (w : Int)) (hrm : ((G 203) this).toInt < ((ln s : Nat) : Int)) (hst : 0 ≤ p1.toInt) (hm : 0 ≤ p2.toInt) (hmw : p2.toInt ≤ (w : Int)) (hlf : p1.toInt + p2.toInt ≤ ((ln p0 : Nat) : Int)) : pw (f_X10_add G P U V X O kd ln cnt this p0 p1 p2) (QF_X10_add κ wd la G P U V X O kd ln cnt this p0 p1 p2 l s w) := by
  intro x hx
  have hq := wp_at (fx_X10_add κ wd G P U V X O kd ln cnt this p0 p1 p2 hzG200 hzG203 hzP201 hzP202 hzV1 hzRA hzRB hzRI hzLN hk_this hk_p0) hx
  have h3 := hq.2.2.2.2.2
  obtain ⟨e0, e1, e2⟩ := h3 l s hl hs hrm hm (by omega) hst (by omega)
  have hra := hzRA this l s hk_this hl hs
  have hrb := hzRB this s hk_this hs
  have hb1 := hzG203 this
  have c1 := clampI (x := p1) (by omega)
  have c2 := clampI (x := p2) (by omega)
  have hbw := hzG200 this
  have hmu : ((G 203) this * (G 200) this).toInt = ((G 203) this).toInt * ((G 200) this).toInt := (zmw (by omega) (by omega) (by omega) (by omega)).1
  refine ⟨rw_add (st := Int32.toNatClampNeg p1) (m := Int32.toNatClampNeg p2) (len := p2) (cw := (G 203) this * (G 200) this) ?_ ?_ e2 (by omega) (by omega) (by rw [hmu, hw]) (fun i hi => ⟨(hzV1 s i).1, by have := hrb.2 i; omega⟩) (by omega), e2⟩
  · show x.2.1 l = _
    rw [e0, va_up_self]
    rfl
  · show x.2.2 s = _
    rw [e1, va_up_self]
abbrev QF_X4_takeNew (κ : Nat → Nat) (wd : Nat) (la : Nat → Nat) (G : Nat → Nat → Int32) (P : Nat → Nat → Option Nat) (U : Nat → Nat → Int64) (V : Nat → Nat → Nat → Int32) (X : Nat → Nat → Nat → Int64) (O : Nat → Nat → Nat → Option Nat) (kd : Nat → Nat) (ln : Nat → Nat) (cnt : Nat) (this : Nat) (p0 : Nat) (tx : Nat) (f : Nat → Int32) (n : Nat) (e : Nat) (l : Nat) (s : Nat) (ws : List Wd) : (Int32 × (Nat → Int32) × (Nat → Int32) × (Nat → Int32) × (Nat → Int32) × (Nat → Int32) × (Nat → Int32) × (Nat → Int32)) → Prop := (fun t => (((t.1).toInt ≠ 0 → newF f n e ws = none ∧ ((t.2.1) this).toInt = ((G 80) this).toInt ∧ ((t.2.2.1) this).toInt = ((G 81) this).toInt ∧ ((t.2.2.2.2.2.1) this).toInt = ((tP f n e : Nat) : Int) ∧ ((t.2.2.2.2.2.2.1) this).toInt = ((tP f n e : Nat) : Int) + 1 ∧ ((t.2.2.2.2.2.2.2) this).toInt = ((tL f n e : Nat) : Int) ∧ Int32.toNatClampNeg ((t.2.2.2.1) this) = tE f n e)) ∧ (((t.1).toInt = 0 → ERR (newF f n e ws) ((t.2.1) this) ((t.2.2.1) this))))
set_option maxHeartbeats 4000000 in
set_option maxRecDepth 100000 in
theorem fn_X4_takeNew (κ : Nat → Nat) (wd : Nat) (la : Nat → Nat) (G : Nat → Nat → Int32) (P : Nat → Nat → Option Nat) (U : Nat → Nat → Int64) (V : Nat → Nat → Nat → Int32) (X : Nat → Nat → Nat → Int64) (O : Nat → Nat → Nat → Option Nat) (kd : Nat → Nat) (ln : Nat → Nat) (cnt : Nat) (this : Nat) (p0 : Nat) (tx : Nat) (f : Nat → Int32) (n : Nat) (e : Nat) (l : Nat) (s : Nat) (ws : List Wd) (hzG83 : rng (0) 2000 (G 83)) (hzG84 : rng (0) 2001 (G 84)) (hzG85 : rng (0) 4 (G 85)) (hzG87 : rng (0) 2001 (G 87)) (hzG88 : rng (0) 2000 (G 88)) (hzG200 : rng (0) 24 (G 200)) (hzG203 : rng (0) 100 (G 203)) (hzP82 : PB κ ln wd 5 100 0 2000 0 (P 82)) (hzP201 : PB κ ln wd 11 100 0 2400 0 (P 201)) (hzP202 : PB κ ln wd 11 101 0 100 0 (P 202)) (hzV1 : rng2 (0) 24 (V 1)) (hzRA : RA κ ln (G 200) (P 201) (P 202)) (hzRB : RB κ ln (G 200) (G 203) (P 202) (V 1)) (hzRI : RI (P 202)) (hzLN : LN κ ln) (hk_this : κ this = 5) (hk_p0 : κ p0 = 11) (hp0 : (∀ tx, (P 82) this = some tx → ((G 83) this).toInt ≤ ((ln tx : Nat) : Int))) (hp1 : ((G 84) this).toInt ≤ ((G 83) this).toInt + 1) (hB : LB la cnt P) (hlt_this : this < cnt) (hlt_p0 : p0 < cnt) (htx : (P 82) this = some tx) (hf : (V 0) tx = f) (hn : Int32.toNatClampNeg ((G 83) this) = n) (he : Int32.toNatClampNeg ((G 84) this) = e) (hl : (P 201) p0 = some l) (hs : (P 202) p0 = some s) (hw : ((G 200) p0).toInt = 16) (hws : rwW ((G 203) p0) ((V 0) l) ((V 1) s) 16 = ws) : pw (f_X4_takeNew G P U V X O kd ln cnt this p0) (QF_X4_takeNew κ wd la G P U V X O kd ln cnt this p0 tx f n e l s ws) := by
  unfold f_X4_takeNew
  have zkm1 : (-1 : Int32).toInt = -1 := by decide +kernel
  have zk0 : (0 : Int32).toInt = 0 := by decide +kernel
  have zk1 : (1 : Int32).toInt = 1 := by decide +kernel
  have hn1 : (P 82) this = some tx := htx
  have lt_tx2 := ((hB.1 82 fl_82) this tx hn1).2.1
  have hk_tx := ((hzP82 this).2 tx hn1).1
  have hl1_tx := ((hzP82 this).2 tx hn1).2.1
  have hl2_tx := ((hzP82 this).2 tx hn1).2.2.1
  have hw_tx := ((hzP82 this).2 tx hn1).2.2.2
  have hz_tx : (Int32.ofNat (ln tx)).toInt = ((ln tx : Nat) : Int) := ofN_eq (by first | exact Nat.le_trans hl2_tx (by decide) | omega)
  have hpr2_0 : (∀ tx, (P 82) this = some tx → ((G 83) this).toInt ≤ ((ln tx : Nat) : Int)) := by assumption
  have hpr2_1 : ((G 84) this).toInt ≤ ((G 83) this).toInt + 1 := by first | assumption | omega
  refine pw_b8 (fun r2 c2_G80 c2_G81 c2_G84 c2_G85 c2_G86 c2_G87 c2_G88 hc2 => ?_)
  have hq2 := wp_at (ok_X4_takeLetters κ wd G P U V X O kd ln cnt this (0 : Int32) hzG83 hzG84 hzG85 hzG87 hzG88 hzP82 hzLN hk_this hpr2_0 hpr2_1) hc2
  obtain ⟨hg3, hg4, hg5, hg6, f7, f8, f9, f10⟩ : (rng (0) 2001 c2_G84) ∧ (rng (0) 4 c2_G85) ∧ (rng (0) 2001 c2_G87) ∧ (rng (0) 2000 c2_G88) ∧ ((0 ≤ r2.toInt ∧ r2.toInt ≤ 1)) ∧ (((G 84) this).toInt ≤ (c2_G84 this).toInt) ∧ ((c2_G84 this).toInt ≤ ((G 83) this).toInt + 1) ∧ ((r2.toInt = 1 → 1 ≤ (c2_G87 this).toInt ∧ (c2_G87 this).toInt + (c2_G88 this).toInt ≤ ((G 83) this).toInt ∧ (c2_G88 this).toInt ≤ 16)) := hq2
  have hq2 := pwq (fr_X4_takeLetters la G P U V X O kd ln cnt this (0 : Int32) hB) hc2
  obtain ⟨q2_G80, q2_G81, q2_G84, q2_G85, q2_G86, q2_G87, q2_G88⟩ : (∀ z, (la z < la this ∨ la this < la z) → c2_G80 z = (G 80) z) ∧ (∀ z, (la z < la this ∨ la this < la z) → c2_G81 z = (G 81) z) ∧ (∀ z, (la z < la this ∨ la this < la z) → c2_G84 z = (G 84) z) ∧ (∀ z, (la z < la this ∨ la this < la z) → c2_G85 z = (G 85) z) ∧ (∀ z, (la z < la this ∨ la this < la z) → c2_G86 z = (G 86) z) ∧ (∀ z, (la z < la this ∨ la this < la z) → c2_G87 z = (G 87) z) ∧ (∀ z, (la z < la this ∨ la this < la z) → c2_G88 z = (G 88) z) := hq2
  have tz2 : ∀ z, ((la z < la this ∨ la this < la z)) → ((la z < la this ∨ la this < la z)) := fun z hz => by omega
  have hfr11 : ∀ z, ((la z < la this ∨ la this < la z)) → c2_G80 z = (G 80) z := fun z hz => (q2_G80 z (tz2 z hz)).trans ((fun _ _ => rfl) z hz)
  have hfr12 : ∀ z, ((la z < la this ∨ la this < la z)) → c2_G81 z = (G 81) z := fun z hz => (q2_G81 z (tz2 z hz)).trans ((fun _ _ => rfl) z hz)
  have hfr13 : ∀ z, ((la z < la this ∨ la this < la z)) → c2_G84 z = (G 84) z := fun z hz => (q2_G84 z (tz2 z hz)).trans ((fun _ _ => rfl) z hz)
  have hfr14 : ∀ z, ((la z < la this ∨ la this < la z)) → c2_G85 z = (G 85) z := fun z hz => (q2_G85 z (tz2 z hz)).trans ((fun _ _ => rfl) z hz)
  have hfr15 : ∀ z, ((la z < la this ∨ la this < la z)) → c2_G86 z = (G 86) z := fun z hz => (q2_G86 z (tz2 z hz)).trans ((fun _ _ => rfl) z hz)
  have hfr16 : ∀ z, ((la z < la this ∨ la this < la z)) → c2_G87 z = (G 87) z := fun z hz => (q2_G87 z (tz2 z hz)).trans ((fun _ _ => rfl) z hz)
  have hfr17 : ∀ z, ((la z < la this ∨ la this < la z)) → c2_G88 z = (G 88) z := fun z hz => (q2_G88 z (tz2 z hz)).trans ((fun _ _ => rfl) z hz)
  have h82_htx : (P 82) this = some tx := by first | assumption | omega
  have h82_hf : (V 0) tx = f := by first | assumption | omega
  have h82_hn : Int32.toNatClampNeg ((G 83) this) = n := by first | assumption | omega
  have h82_he : Int32.toNatClampNeg ((G 84) this) = e := by first | assumption | omega
  have h82_hsm : (true) = decide ((0 : Int32).toInt = 0) := by decide
  have hx2 := pwq (fn_X4_takeLetters κ wd la G P U V X O kd ln cnt this (0 : Int32) (tx) (f) (n) (e) (true) hzG83 hzG84 hzG85 hzG87 hzG88 hzP82 hzLN hk_this hpr2_0 hpr2_1 hB hlt_this h82_htx h82_hf h82_hn h82_he h82_hsm) hc2
  obtain ⟨p2_0, p2_1⟩ : ((r2.toInt ≠ 0 → fLet f n e (true) = none ∧ (c2_G80 this).toInt = ((G 80) this).toInt ∧ (c2_G81 this).toInt = ((G 81) this).toInt ∧ (c2_G86 this).toInt = ((tP f n e : Nat) : Int) ∧ (c2_G87 this).toInt = ((tP f n e : Nat) : Int) + 1 ∧ (c2_G88 this).toInt = ((tL f n e : Nat) : Int) ∧ Int32.toNatClampNeg (c2_G84 this) = tE f n e)) ∧ ((r2.toInt = 0 → ERR (fLet f n e (true)) (c2_G80 this) (c2_G81 this))) := hx2
  have hsz := hp0 _ htx
  refine pw_ite (fun c5 => ?_) (fun c5 => ?_)
  · have c5 := congrArg Int32.toInt c5
    have qq0 : ((0 : Int32).toInt ≠ 0 → newF f n e ws = none ∧ (c2_G80 this).toInt = ((G 80) this).toInt ∧ (c2_G81 this).toInt = ((G 81) this).toInt ∧ (c2_G86 this).toInt = ((tP f n e : Nat) : Int) ∧ (c2_G87 this).toInt = ((tP f n e : Nat) : Int) + 1 ∧ (c2_G88 this).toInt = ((tL f n e : Nat) : Int) ∧ Int32.toNatClampNeg (c2_G84 this) = tE f n e) := by intro h; omega
    have qq1 : ((0 : Int32).toInt = 0 → ERR (newF f n e ws) (c2_G80 this) (c2_G81 this)) := by intro _; have h := p2_1 (by omega); exact ⟨newF_let h.1, h.2⟩
    exact pw_some ⟨qq0, qq1⟩
  · have c5 := z_ne c5
    refine pw_nne hn1 ?_
    have b18 := hg5 this
    have b19 := hg6 this
    refine pw_b1 (fun r24 hc24 => ?_)
    have hq24 := wp_at (ok_X10_find κ wd (va_up (va_up (va_up (va_up (va_up (va_up (va_up G 80 c2_G80) 81 c2_G81) 84 c2_G84) 85 c2_G85) 86 c2_G86) 87 c2_G87) 88 c2_G88) P U V X O kd ln cnt p0 tx (c2_G87 this) (c2_G88 this) hzG200 hzG203 hzP201 hzP202 hzV1 hzRA hzRB hzRI hzLN hk_p0 hk_tx) hc24
    obtain ⟨f20, f21⟩ : (((-1) ≤ r24.toInt ∧ r24.toInt < 100)) ∧ ((r24.toInt = -1 ∨ r24.toInt < ((G 203) p0).toInt)) := hq24
    have h824_hl : (P 201) p0 = some l := by first | assumption | omega
    have h824_hs : (P 202) p0 = some s := by first | assumption | omega
    have h824_hw : ((G 200) p0).toInt = ((16) : Int) := by omega
    have h824_hws : rwW ((G 203) p0) ((V 0) l) ((V 1) s) (16) = ws := by first | assumption | omega
    have h824_hst : 0 ≤ (c2_G87 this).toInt := by obtain ⟨g1, g2, g3, g4, g5, g6, g7⟩ := p2_0 (by omega); omega
    have h824_hm : 0 ≤ (c2_G88 this).toInt := by obtain ⟨g1, g2, g3, g4, g5, g6, g7⟩ := p2_0 (by omega); omega
    have h824_hlf : (c2_G87 this).toInt + (c2_G88 this).toInt ≤ ((ln tx : Nat) : Int) := by first | assumption | omega
    have hx24 := pwq (fn_X10_find κ wd la (va_up (va_up (va_up (va_up (va_up (va_up (va_up G 80 c2_G80) 81 c2_G81) 84 c2_G84) 85 c2_G85) 86 c2_G86) 87 c2_G87) 88 c2_G88) P U V X O kd ln cnt p0 tx (c2_G87 this) (c2_G88 this) (l) (s) (16) (ws) hzG200 hzG203 hzP201 hzP202 hzV1 hzRA hzRB hzRI hzLN hk_p0 hk_tx hB hlt_p0 lt_tx2 h824_hl h824_hs h824_hw h824_hws h824_hst h824_hm h824_hlf) hc24
    have p24_0 : FIX ws (wdl ((V 0) tx) (Int32.toNatClampNeg (c2_G87 this)) (Int32.toNatClampNeg (c2_G88 this))) r24.toInt := hx24
    clear hx24
    obtain ⟨g1, g2, g3, g4, g5, g6, g7⟩ := p2_0 (by omega)
    have ea := clampI (x := c2_G87 this) (by omega)
    have eb := clampI (x := c2_G88 this) (by omega)
    have hwd : wdl ((V 0) tx) (Int32.toNatClampNeg (c2_G87 this)) (Int32.toNatClampNeg (c2_G88 this)) = tW f n e := by rw [hf, show Int32.toNatClampNeg (c2_G87 this) = tP f n e + 1 by omega, show Int32.toNatClampNeg (c2_G88 this) = tL f n e by omega]; rfl
    rw [hwd] at p24_0
    refine pw_jE (fun j36 ej36 => ?_)
    refine pw_ite (fun c28 => ?_) (fun c28 => ?_)
    · have c28 := congrArg Int32.toInt c28
      refine pw_j1 ej36 (fun t36_0 et36_0 => ?_)
      have et36_0 := et36_0.symm
      have f_t36_0 : t36_0.toInt = 1 := by rw [et36_0]; decide +kernel
      refine pw_b3 (fun r36 c36_G80 c36_G81 hc36 => ?_)
      have hq36 := wp_at (ok_X4_isNew κ wd (va_up (va_up (va_up (va_up (va_up (va_up (va_up G 80 c2_G80) 81 c2_G81) 84 c2_G84) 85 c2_G85) 86 c2_G86) 87 c2_G87) 88 c2_G88) P U V X O kd ln cnt this t36_0 hzLN hk_this) hc36
      have f22 : (0 ≤ r36.toInt ∧ r36.toInt ≤ 1) := hq36
      clear hq36
      have hq36 := pwq (fr_X4_isNew la (va_up (va_up (va_up (va_up (va_up (va_up (va_up G 80 c2_G80) 81 c2_G81) 84 c2_G84) 85 c2_G85) 86 c2_G86) 87 c2_G87) 88 c2_G88) P U V X O kd ln cnt this t36_0 hB) hc36
      obtain ⟨q36_G80, q36_G81⟩ : (∀ z, (la z < la this ∨ la this < la z) → c36_G80 z = c2_G80 z) ∧ (∀ z, (la z < la this ∨ la this < la z) → c36_G81 z = c2_G81 z) := hq36
      have tz36 : ∀ z, ((la z < la this ∨ la this < la z)) → ((la z < la this ∨ la this < la z)) := fun z hz => by omega
      have hfr23 : ∀ z, ((la z < la this ∨ la this < la z)) → c36_G80 z = (G 80) z := fun z hz => (q36_G80 z (tz36 z hz)).trans (hfr11 z hz)
      have hfr24 : ∀ z, ((la z < la this ∨ la this < la z)) → c36_G81 z = (G 81) z := fun z hz => (q36_G81 z (tz36 z hz)).trans (hfr12 z hz)
      have hx36 := pwq (fn_X4_isNew κ wd la (va_up (va_up (va_up (va_up (va_up (va_up (va_up G 80 c2_G80) 81 c2_G81) 84 c2_G84) 85 c2_G85) 86 c2_G86) 87 c2_G87) 88 c2_G88) P U V X O kd ln cnt this t36_0 hzLN hk_this hB hlt_this) hc36
      obtain ⟨p36_0, p36_1⟩ : ((r36.toInt ≠ 0 → t36_0.toInt ≠ 0 ∧ (c36_G80 this).toInt = (c2_G80 this).toInt ∧ (c36_G81 this).toInt = (c2_G81 this).toInt)) ∧ ((r36.toInt = 0 → t36_0.toInt = 0 ∧ (c36_G80 this).toInt = 3 ∧ (c36_G81 this).toInt = (c2_G86 this).toInt)) := hx36
      refine pw_if (fun hb39 => ?_)
      obtain ⟨hbl39, hbr39⟩ := hb39
      have qq0 : (r36.toInt ≠ 0 → newF f n e ws = none ∧ (c36_G80 this).toInt = ((G 80) this).toInt ∧ (c36_G81 this).toInt = ((G 81) this).toInt ∧ (c2_G86 this).toInt = ((tP f n e : Nat) : Int) ∧ (c2_G87 this).toInt = ((tP f n e : Nat) : Int) + 1 ∧ (c2_G88 this).toInt = ((tL f n e : Nat) : Int) ∧ Int32.toNatClampNeg (c2_G84 this) = tE f n e) := by intro h; obtain ⟨u1, u2, u3⟩ := p36_0 h; exact ⟨newF_ok g1 (p24_0.1 (by omega)), by omega, by omega, by omega, by omega, by omega, by omega⟩
      have qq1 : (r36.toInt = 0 → ERR (newF f n e ws) (c36_G80 this) (c36_G81 this)) := by intro h; obtain ⟨u1, u2, u3⟩ := p36_1 h; obtain ⟨v1, v2, v3⟩ := p24_0.2 (by omega); exact err_of (newF_two g1 (List.mem_of_getElem? v2)) (by omega) (by omega) (by omega)
      exact pw_some ⟨qq0, qq1⟩
    · have c28 := z_ne c28
      refine pw_j1 ej36 (fun t36_0 et36_0 => ?_)
      have et36_0 := et36_0.symm
      have f_t36_0 : t36_0.toInt = 0 := by rw [et36_0]; decide +kernel
      refine pw_b3 (fun r36 c36_G80 c36_G81 hc36 => ?_)
      have hq36 := wp_at (ok_X4_isNew κ wd (va_up (va_up (va_up (va_up (va_up (va_up (va_up G 80 c2_G80) 81 c2_G81) 84 c2_G84) 85 c2_G85) 86 c2_G86) 87 c2_G87) 88 c2_G88) P U V X O kd ln cnt this t36_0 hzLN hk_this) hc36
      have f25 : (0 ≤ r36.toInt ∧ r36.toInt ≤ 1) := hq36
      clear hq36
      have hq36 := pwq (fr_X4_isNew la (va_up (va_up (va_up (va_up (va_up (va_up (va_up G 80 c2_G80) 81 c2_G81) 84 c2_G84) 85 c2_G85) 86 c2_G86) 87 c2_G87) 88 c2_G88) P U V X O kd ln cnt this t36_0 hB) hc36
      obtain ⟨q36_G80, q36_G81⟩ : (∀ z, (la z < la this ∨ la this < la z) → c36_G80 z = c2_G80 z) ∧ (∀ z, (la z < la this ∨ la this < la z) → c36_G81 z = c2_G81 z) := hq36
      have tz36 : ∀ z, ((la z < la this ∨ la this < la z)) → ((la z < la this ∨ la this < la z)) := fun z hz => by omega
      have hfr26 : ∀ z, ((la z < la this ∨ la this < la z)) → c36_G80 z = (G 80) z := fun z hz => (q36_G80 z (tz36 z hz)).trans (hfr11 z hz)
      have hfr27 : ∀ z, ((la z < la this ∨ la this < la z)) → c36_G81 z = (G 81) z := fun z hz => (q36_G81 z (tz36 z hz)).trans (hfr12 z hz)
      have hx36 := pwq (fn_X4_isNew κ wd la (va_up (va_up (va_up (va_up (va_up (va_up (va_up G 80 c2_G80) 81 c2_G81) 84 c2_G84) 85 c2_G85) 86 c2_G86) 87 c2_G87) 88 c2_G88) P U V X O kd ln cnt this t36_0 hzLN hk_this hB hlt_this) hc36
      obtain ⟨p36_0, p36_1⟩ : ((r36.toInt ≠ 0 → t36_0.toInt ≠ 0 ∧ (c36_G80 this).toInt = (c2_G80 this).toInt ∧ (c36_G81 this).toInt = (c2_G81 this).toInt)) ∧ ((r36.toInt = 0 → t36_0.toInt = 0 ∧ (c36_G80 this).toInt = 3 ∧ (c36_G81 this).toInt = (c2_G86 this).toInt)) := hx36
      refine pw_if (fun hb39 => ?_)
      obtain ⟨hbl39, hbr39⟩ := hb39
      have qq0 : (r36.toInt ≠ 0 → newF f n e ws = none ∧ (c36_G80 this).toInt = ((G 80) this).toInt ∧ (c36_G81 this).toInt = ((G 81) this).toInt ∧ (c2_G86 this).toInt = ((tP f n e : Nat) : Int) ∧ (c2_G87 this).toInt = ((tP f n e : Nat) : Int) + 1 ∧ (c2_G88 this).toInt = ((tL f n e : Nat) : Int) ∧ Int32.toNatClampNeg (c2_G84 this) = tE f n e) := by intro h; obtain ⟨u1, u2, u3⟩ := p36_0 h; exact ⟨newF_ok g1 (p24_0.1 (by omega)), by omega, by omega, by omega, by omega, by omega, by omega⟩
      have qq1 : (r36.toInt = 0 → ERR (newF f n e ws) (c36_G80 this) (c36_G81 this)) := by intro h; obtain ⟨u1, u2, u3⟩ := p36_1 h; obtain ⟨v1, v2, v3⟩ := p24_0.2 (by omega); exact err_of (newF_two g1 (List.mem_of_getElem? v2)) (by omega) (by omega) (by omega)
      exact pw_some ⟨qq0, qq1⟩
