abbrev QC_X4_scanRun (κ : Nat → Nat) (wd : Nat) (G : Nat → Nat → Int32) (P : Nat → Nat → Option Nat) (U : Nat → Nat → Int64) (V : Nat → Nat → Nat → Int32) (X : Nat → Nat → Nat → Int64) (O : Nat → Nat → Nat → Option Nat) (kd : Nat → Nat) (ln : Nat → Nat) (cnt : Nat) (this : Nat) (p0 : Int32) : ((Nat → Int32) × (Nat → Int32) × (Nat → Int32)) → Prop := (fun t => (rng (0) 2001 (t.1)) ∧ (rng (0) 2001 (t.2.1)) ∧ (rng (0) 2000 (t.2.2)) ∧ (((t.2.1) this).toInt = ((G 84) this).toInt) ∧ (((t.1) this).toInt = ((t.2.1) this).toInt + ((t.2.2) this).toInt) ∧ (((t.1) this).toInt ≤ ((G 83) this).toInt) ∧ (((t.2.2) this).toInt ≤ p0.toInt))
set_option maxHeartbeats 4000000 in
set_option maxRecDepth 100000 in
theorem ok_X4_scanRun (κ : Nat → Nat) (wd : Nat) (G : Nat → Nat → Int32) (P : Nat → Nat → Option Nat) (U : Nat → Nat → Int64) (V : Nat → Nat → Nat → Int32) (X : Nat → Nat → Nat → Int64) (O : Nat → Nat → Nat → Option Nat) (kd : Nat → Nat) (ln : Nat → Nat) (cnt : Nat) (this : Nat) (p0 : Int32) (hzG83 : rng (0) 2000 (G 83)) (hzG84 : rng (0) 2001 (G 84)) (hzG87 : rng (0) 2001 (G 87)) (hzG88 : rng (0) 2000 (G 88)) (hzP82 : PB κ ln wd 5 100 0 2000 0 (P 82)) (hzLN : LN κ ln) (hk_this : κ this = 5) (hp0 : (∀ tx, (P 82) this = some tx → ((G 83) this).toInt ≤ ((ln tx : Nat) : Int))) (hp1 : ((G 84) this).toInt ≤ ((G 83) this).toInt) (hp2 : ((G 88) this).toInt = 0) (hp3 : (0 ≤ p0.toInt ∧ p0.toInt ≤ 2000)) : wp (f_X4_scanRun G P U V X O kd ln cnt this p0) (QC_X4_scanRun κ wd G P U V X O kd ln cnt this p0) := by
  unfold f_X4_scanRun
  have zk0 : (0 : Int32).toInt = 0 := by decide +kernel
  have zk1 : (1 : Int32).toInt = 1 := by decide +kernel
  have r_p0 := i32r p0
  obtain ⟨u1, hn_u1⟩ := PBs (hzP82 this) hk_this
  have hk_u1 := ((hzP82 this).2 u1 hn_u1).1
  have hl1_u1 := ((hzP82 this).2 u1 hn_u1).2.1
  have hl2_u1 := ((hzP82 this).2 u1 hn_u1).2.2.1
  have hw_u1 := ((hzP82 this).2 u1 hn_u1).2.2.2
  have hz_u1 : (Int32.ofNat (ln u1)).toInt = ((ln u1 : Nat) : Int) := ofN_eq (by first | exact Nat.le_trans hl2_u1 (by decide) | omega)
  have hsz := hp0 _ hn_u1
  have b2 := hzG84 this
  refine wp_vl (fun x5 ex5 => ?_)
  have f3 : x5.toInt = ((G 84) this).toInt := congrArg Int32.toInt ex5
  clear ex5
  refine wp_vl (fun m5 em5 => ?_)
  have hg4 : rng (0) 2001 m5 := by rw [em5]; exact rng_vup hzG87 (by omega) (by omega)
  have sm5 : (m5 this).toInt = x5.toInt := by rw [em5, va_up_self]
  have b5 := hg4 this
  clear em5
  refine wp_jn (fun k65 => ∀ (c65_G84 : Nat → Int32) (c65_G88 : Nat → Int32), rng (0) 2001 c65_G84 → rng (0) 2000 c65_G88 → (c65_G84 this).toInt = (m5 this).toInt + (c65_G88 this).toInt → (c65_G84 this).toInt ≤ ((G 83) this).toInt → (c65_G88 this).toInt ≤ p0.toInt → wp (k65 c65_G84 c65_G88) (QC_X4_scanRun κ wd G P U V X O kd ln cnt this p0)) ?_ ?_
  · intro c65_G84 c65_G88 hg6 hg7 f8 f9 f10
    show wp _ _
    exact ⟨_, rfl, ⟨hg6, hg4, hg7, (show (m5 this).toInt = ((G 84) this).toInt from by omega), (show (c65_G84 this).toInt = (m5 this).toInt + (c65_G88 this).toInt from by omega), (show (c65_G84 this).toInt ≤ ((G 83) this).toInt from by omega), (show (c65_G88 this).toInt ≤ p0.toInt from by omega)⟩⟩
  intro k65 Jk65
  have lp8 : ∀ (n8 : Nat) (d8_G84 : Nat → Int32) (d8_G88 : Nat → Int32), (2001 - (d8_G84 this).toInt).toNat < n8 → rng (0) 2001 d8_G84 → rng (0) 2000 d8_G88 → (d8_G84 this).toInt = (m5 this).toInt + (d8_G88 this).toInt → (d8_G84 this).toInt ≤ ((G 83) this).toInt → (d8_G88 this).toInt ≤ p0.toInt → wp (L_X4_scanRun_8 G P U V X O kd ln cnt this p0 m5 k65 n8 d8_G84 d8_G88) (QC_X4_scanRun κ wd G P U V X O kd ln cnt this p0) := by
    intro n8
    induction n8 with
    | zero => intro d8_G84 d8_G88 hm; exact absurd hm (Nat.not_lt_zero _)
    | succ n8 ih8 =>
      intro d8_G84 d8_G88 hm8 hg11 hg12 f13 f14 f15
      show wp (B_X4_scanRun_8 G P U V X O kd ln cnt this p0 m5 k65 (L_X4_scanRun_8 G P U V X O kd ln cnt this p0 m5 k65 n8) d8_G84 d8_G88) _
      unfold B_X4_scanRun_8
      have b16 := hg11 this
      have b17 := hzG83 this
      refine wp_ite (fun c16 => ?_) (fun c16 => ?_)
      · have c16 := (z_le _ _).mp c16
        exact Jk65 d8_G84 d8_G88 hg11 hg12 (show (d8_G84 this).toInt = (m5 this).toInt + (d8_G88 this).toInt from by omega) (show (d8_G84 this).toInt ≤ ((G 83) this).toInt from by omega) (show (d8_G88 this).toInt ≤ p0.toInt from by omega)
      · have c16 := z_nle c16
        have b18 := hg12 this
        refine wp_ite (fun c24 => ?_) (fun c24 => ?_)
        · have c24 := (z_le _ _).mp c24
          exact Jk65 d8_G84 d8_G88 hg11 hg12 (show (d8_G84 this).toInt = (m5 this).toInt + (d8_G88 this).toInt from by omega) (show (d8_G84 this).toInt ≤ ((G 83) this).toInt from by omega) (show (d8_G88 this).toInt ≤ p0.toInt from by omega)
        · have c24 := z_nle c24
          refine wp_nne hn_u1 ?_
          refine wp_if ⟨by omega, by omega⟩ ?_
          obtain ⟨r36, hc36, hq36⟩ := ok_X10_isSmall κ wd (va_up (va_up (va_up G 84 d8_G84) 87 m5) 88 d8_G88) P U V X O kd ln cnt (((V 0) u1) (Int32.toNatClampNeg (d8_G84 this))) hzLN
          have f20 : (0 ≤ r36.toInt ∧ r36.toInt ≤ 1) := hq36
          refine wp_b1 hc36 ?_
          clear hc36
          refine wp_ite (fun c39 => ?_) (fun c39 => ?_)
          · have c39 := congrArg Int32.toInt c39
            exact Jk65 d8_G84 d8_G88 hg11 hg12 (show (d8_G84 this).toInt = (m5 this).toInt + (d8_G88 this).toInt from by omega) (show (d8_G84 this).toInt ≤ ((G 83) this).toInt from by omega) (show (d8_G88 this).toInt ≤ p0.toInt from by omega)
          · have c39 := z_ne c39
            have f22 : ((d8_G88 this) + 1).toInt = (d8_G88 this).toInt + 1 := z_addc (by decide +kernel) (by omega) (by omega)
            refine wp_vl (fun x49 ex49 => ?_)
            have f23 : x49.toInt = ((d8_G88 this) + 1).toInt := congrArg Int32.toInt ex49
            clear ex49
            refine wp_vl (fun m49 em49 => ?_)
            have hg24 : rng (0) 2000 m49 := by rw [em49]; exact rng_vup hg12 (by omega) (by omega)
            have sm49 : (m49 this).toInt = x49.toInt := by rw [em49, va_up_self]
            have b25 := hg24 this
            clear em49
            have f27 : ((d8_G84 this) + 1).toInt = (d8_G84 this).toInt + 1 := z_addc (by decide +kernel) (by omega) (by omega)
            refine wp_vl (fun x59 ex59 => ?_)
            have f28 : x59.toInt = ((d8_G84 this) + 1).toInt := congrArg Int32.toInt ex59
            clear ex59
            refine wp_vl (fun m59 em59 => ?_)
            have hg29 : rng (0) 2001 m59 := by rw [em59]; exact rng_vup hg11 (by omega) (by omega)
            have sm59 : (m59 this).toInt = x59.toInt := by rw [em59, va_up_self]
            have b30 := hg29 this
            clear em59
            exact ih8 m59 m49 (show (2001 - (m59 this).toInt).toNat < n8 from by omega) hg29 hg24 (show (m59 this).toInt = (m5 this).toInt + (m49 this).toInt from by omega) (show (m59 this).toInt ≤ ((G 83) this).toInt from by omega) (show (m49 this).toInt ≤ p0.toInt from by omega)
  exact lp8 NN (G 84) (G 88) (by have := NN_eq; omega) hzG84 hzG88 (show ((G 84) this).toInt = (m5 this).toInt + ((G 88) this).toInt from by omega) (show ((G 84) this).toInt ≤ ((G 83) this).toInt from by omega) (show ((G 88) this).toInt ≤ p0.toInt from by omega)
abbrev QC_X4_nextToken (κ : Nat → Nat) (wd : Nat) (G : Nat → Nat → Int32) (P : Nat → Nat → Option Nat) (U : Nat → Nat → Int64) (V : Nat → Nat → Nat → Int32) (X : Nat → Nat → Nat → Int64) (O : Nat → Nat → Nat → Option Nat) (kd : Nat → Nat) (ln : Nat → Nat) (cnt : Nat) (this : Nat) : ((Nat → Int32) × (Nat → Int32) × (Nat → Int32) × (Nat → Int32) × (Nat → Int32)) → Prop := (fun t => (rng (0) 2001 (t.1)) ∧ (rng (0) 4 (t.2.1)) ∧ (rng (0) 2001 (t.2.2.2.1)) ∧ (rng (0) 2000 (t.2.2.2.2)) ∧ (((t.2.1) this).toInt = 1 ∨ ((t.2.1) this).toInt = 2 → ((t.2.2.2.1) this).toInt + ((t.2.2.2.2) this).toInt ≤ ((G 83) this).toInt) ∧ (((t.2.1) this).toInt = 2 → 1 ≤ ((t.2.2.2.1) this).toInt ∧ ((t.2.2.2.2) this).toInt ≤ 16) ∧ (((t.2.1) this).toInt = 1 → ((G 84) this).toInt + 1 ≤ ((t.1) this).toInt) ∧ (((G 84) this).toInt ≤ ((t.1) this).toInt) ∧ (((t.1) this).toInt ≤ ((G 83) this).toInt + 1))
set_option maxHeartbeats 4000000 in
set_option maxRecDepth 100000 in
theorem ok_X4_nextToken (κ : Nat → Nat) (wd : Nat) (G : Nat → Nat → Int32) (P : Nat → Nat → Option Nat) (U : Nat → Nat → Int64) (V : Nat → Nat → Nat → Int32) (X : Nat → Nat → Nat → Int64) (O : Nat → Nat → Nat → Option Nat) (kd : Nat → Nat) (ln : Nat → Nat) (cnt : Nat) (this : Nat) (hzG83 : rng (0) 2000 (G 83)) (hzG84 : rng (0) 2001 (G 84)) (hzG85 : rng (0) 4 (G 85)) (hzG87 : rng (0) 2001 (G 87)) (hzG88 : rng (0) 2000 (G 88)) (hzP82 : PB κ ln wd 5 100 0 2000 0 (P 82)) (hzLN : LN κ ln) (hk_this : κ this = 5) (hp0 : (∀ tx, (P 82) this = some tx → ((G 83) this).toInt ≤ ((ln tx : Nat) : Int))) (hp1 : ((G 84) this).toInt ≤ ((G 83) this).toInt + 1) : wp (f_X4_nextToken G P U V X O kd ln cnt this) (QC_X4_nextToken κ wd G P U V X O kd ln cnt this) := by
  unfold f_X4_nextToken
  have zk0 : (0 : Int32).toInt = 0 := by decide +kernel
  have zk1 : (1 : Int32).toInt = 1 := by decide +kernel
  have zk2 : (2 : Int32).toInt = 2 := by decide +kernel
  have zk3 : (3 : Int32).toInt = 3 := by decide +kernel
  have zk4 : (4 : Int32).toInt = 4 := by decide +kernel
  have zk10 : (10 : Int32).toInt = 10 := by decide +kernel
  have zk16 : (16 : Int32).toInt = 16 := by decide +kernel
  have zk32 : (32 : Int32).toInt = 32 := by decide +kernel
  have zk39 : (39 : Int32).toInt = 39 := by decide +kernel
  have zk59 : (59 : Int32).toInt = 59 := by decide +kernel
  obtain ⟨u1, hn_u1⟩ := PBs (hzP82 this) hk_this
  have hk_u1 := ((hzP82 this).2 u1 hn_u1).1
  have hl1_u1 := ((hzP82 this).2 u1 hn_u1).2.1
  have hl2_u1 := ((hzP82 this).2 u1 hn_u1).2.2.1
  have hw_u1 := ((hzP82 this).2 u1 hn_u1).2.2.2
  have hz_u1 : (Int32.ofNat (ln u1)).toInt = ((ln u1 : Nat) : Int) := ofN_eq (by first | exact Nat.le_trans hl2_u1 (by decide) | omega)
  have hsz := hp0 _ hn_u1
  have hb0 := hzG84 this
  refine wp_jn (fun k52 => ∀ (c52_G84 : Nat → Int32), rng (0) 2001 c52_G84 → ((G 84) this).toInt ≤ (c52_G84 this).toInt → (c52_G84 this).toInt ≤ ((G 83) this).toInt + 1 → wp (k52 c52_G84) (QC_X4_nextToken κ wd G P U V X O kd ln cnt this)) ?_ ?_
  · intro c52_G84 hg2 f3 f4
    show wp _ _
    have b5 := hg2 this
    refine wp_vl (fun x57 ex57 => ?_)
    have f6 : x57.toInt = (c52_G84 this).toInt := congrArg Int32.toInt ex57
    clear ex57
    refine wp_vl (fun m57 em57 => ?_)
    have sm57 : (m57 this).toInt = x57.toInt := by rw [em57, va_up_self]
    clear em57
    refine wp_vl (fun m62 em62 => ?_)
    have hg7 : rng (0) 2000 m62 := by rw [em62]; exact rng_vup hzG88 (by omega) (by omega)
    have sm62 : (m62 this).toInt = 0 := by rw [em62, va_up_self]; decide +kernel
    have b8 := hg7 this
    clear em62
    have b10 := hzG83 this
    refine wp_jn (fun j217 => ∀ (c217_G84 : Nat → Int32) (c217_G85 : Nat → Int32) (c217_G87 : Nat → Int32) (c217_G88 : Nat → Int32), rng (0) 2001 c217_G84 → rng (0) 4 c217_G85 → rng (0) 2001 c217_G87 → rng (0) 2000 c217_G88 → ((c217_G85 this).toInt = 1 ∨ (c217_G85 this).toInt = 2 → (c217_G87 this).toInt + (c217_G88 this).toInt ≤ ((G 83) this).toInt) → ((c217_G85 this).toInt = 2 → 1 ≤ (c217_G87 this).toInt ∧ (c217_G88 this).toInt ≤ 16) → ((c217_G85 this).toInt = 1 → ((G 84) this).toInt + 1 ≤ (c217_G84 this).toInt) → ((G 84) this).toInt ≤ (c217_G84 this).toInt → (c217_G84 this).toInt ≤ ((G 83) this).toInt + 1 → wp (j217 c217_G84 c217_G85 c217_G87 c217_G88) (QC_X4_nextToken κ wd G P U V X O kd ln cnt this)) ?_ ?_
    · intro c217_G84 c217_G85 c217_G87 c217_G88 hg11 hg12 hg13 hg14 f15 f16 f17 f18 f19
      show wp _ _
      exact ⟨_, rfl, ⟨hg11, hg12, hg13, hg14, (show (c217_G85 this).toInt = 1 ∨ (c217_G85 this).toInt = 2 → (c217_G87 this).toInt + (c217_G88 this).toInt ≤ ((G 83) this).toInt from by omega), (show (c217_G85 this).toInt = 2 → 1 ≤ (c217_G87 this).toInt ∧ (c217_G88 this).toInt ≤ 16 from by omega), (show (c217_G85 this).toInt = 1 → ((G 84) this).toInt + 1 ≤ (c217_G84 this).toInt from by omega), (show ((G 84) this).toInt ≤ (c217_G84 this).toInt from by omega), (show (c217_G84 this).toInt ≤ ((G 83) this).toInt + 1 from by omega)⟩⟩
    intro j217 Jj217
    refine wp_ite (fun c73 => ?_) (fun c73 => ?_)
    · have c73 := (z_lt _ _).mp c73
      refine wp_nne hn_u1 ?_
      refine wp_if ⟨by omega, by omega⟩ ?_
      refine wp_ite (fun c95 => ?_) (fun c95 => ?_)
      · have c95 := congrArg Int32.toInt c95
        refine wp_vl (fun m100 em100 => ?_)
        have hg21 : rng (0) 4 m100 := by rw [em100]; exact rng_vup hzG85 (by omega) (by omega)
        have sm100 : (m100 this).toInt = 3 := by rw [em100, va_up_self]; decide +kernel
        have b22 := hg21 this
        clear em100
        have f24 : ((c52_G84 this) + 1).toInt = (c52_G84 this).toInt + 1 := z_addc (by decide +kernel) (by omega) (by omega)
        refine wp_vl (fun x110 ex110 => ?_)
        have f25 : x110.toInt = ((c52_G84 this) + 1).toInt := congrArg Int32.toInt ex110
        clear ex110
        refine wp_vl (fun m110 em110 => ?_)
        have hg26 : rng (0) 2001 m110 := by rw [em110]; exact rng_vup hg2 (by omega) (by omega)
        have sm110 : (m110 this).toInt = x110.toInt := by rw [em110, va_up_self]
        have b27 := hg26 this
        clear em110
        exact Jj217 m110 m100 (G 87) m62 hg26 hg21 hzG87 hg7 (show ((m100 this).toInt = 1 ∨ (m100 this).toInt = 2 → ((G 87) this).toInt + (m62 this).toInt ≤ ((G 83) this).toInt) from by omega) (show ((m100 this).toInt = 2 → 1 ≤ ((G 87) this).toInt ∧ (m62 this).toInt ≤ 16) from by omega) (show ((m100 this).toInt = 1 → ((G 84) this).toInt + 1 ≤ (m110 this).toInt) from by omega) (show ((G 84) this).toInt ≤ (m110 this).toInt from by omega) (show (m110 this).toInt ≤ ((G 83) this).toInt + 1 from by omega)
      · have c95 := z_ne c95
        refine wp_nne hn_u1 ?_
        refine wp_if ⟨by omega, by omega⟩ ?_
        refine wp_ite (fun c127 => ?_) (fun c127 => ?_)
        · have c127 := congrArg Int32.toInt c127
          have f30 : ((c52_G84 this) + 1).toInt = (c52_G84 this).toInt + 1 := z_addc (by decide +kernel) (by omega) (by omega)
          refine wp_vl (fun x137 ex137 => ?_)
          have f31 : x137.toInt = ((c52_G84 this) + 1).toInt := congrArg Int32.toInt ex137
          clear ex137
          refine wp_vl (fun m137 em137 => ?_)
          have hg32 : rng (0) 2001 m137 := by rw [em137]; exact rng_vup hg2 (by omega) (by omega)
          have sm137 : (m137 this).toInt = x137.toInt := by rw [em137, va_up_self]
          have b33 := hg32 this
          clear em137
          obtain ⟨⟨c143_G84, c143_G87, c143_G88⟩, hc143, hq143⟩ := ok_X4_scanRun κ wd (va_up (va_up (va_up (va_up G 84 c52_G84) 86 m57) 88 m62) 84 m137) P U V X O kd ln cnt this (16 : Int32) hzG83 hg32 hzG87 hg7 hzP82 hzLN hk_this (show (∀ tx, (P 82) this = some tx → ((G 83) this).toInt ≤ ((ln tx : Nat) : Int)) from by assumption) (show (m137 this).toInt ≤ ((G 83) this).toInt from by omega) (show (m62 this).toInt = 0 from by omega) (show (0 ≤ (16 : Int32).toInt ∧ (16 : Int32).toInt ≤ 2000) from by omega)
          obtain ⟨hg34, hg35, hg36, f37, f38, f39, f40⟩ : (rng (0) 2001 c143_G84) ∧ (rng (0) 2001 c143_G87) ∧ (rng (0) 2000 c143_G88) ∧ ((c143_G87 this).toInt = (m137 this).toInt) ∧ ((c143_G84 this).toInt = (c143_G87 this).toInt + (c143_G88 this).toInt) ∧ ((c143_G84 this).toInt ≤ ((G 83) this).toInt) ∧ ((c143_G88 this).toInt ≤ (16 : Int32).toInt) := hq143
          refine wp_b3 hc143 ?_
          clear hc143
          have hb143 := hg36 this
          have b41 := hg34 this
          refine wp_jn (fun j177 => ∀ (t177_0 : Int32), (t177_0.toInt = 2 ∨ t177_0.toInt = 4) → wp (j177 t177_0) (QC_X4_nextToken κ wd G P U V X O kd ln cnt this)) ?_ ?_
          · intro t177_0 f43
            show wp _ _
            refine wp_vl (fun m177 em177 => ?_)
            have hg44 : rng (0) 4 m177 := by rw [em177]; exact rng_vup hzG85 (by omega) (by omega)
            have sm177 : (m177 this).toInt = t177_0.toInt := by rw [em177, va_up_self]
            have b45 := hg44 this
            clear em177
            have f47 : ((c143_G84 this) + 1).toInt = (c143_G84 this).toInt + 1 := z_addc (by decide +kernel) (by omega) (by omega)
            refine wp_vl (fun x187 ex187 => ?_)
            have f48 : x187.toInt = ((c143_G84 this) + 1).toInt := congrArg Int32.toInt ex187
            clear ex187
            refine wp_vl (fun m187 em187 => ?_)
            have hg49 : rng (0) 2001 m187 := by rw [em187]; exact rng_vup hg34 (by omega) (by omega)
            have sm187 : (m187 this).toInt = x187.toInt := by rw [em187, va_up_self]
            have b50 := hg49 this
            clear em187
            exact Jj217 m187 m177 c143_G87 c143_G88 hg49 hg44 hg35 hg36 (show ((m177 this).toInt = 1 ∨ (m177 this).toInt = 2 → (c143_G87 this).toInt + (c143_G88 this).toInt ≤ ((G 83) this).toInt) from by omega) (show ((m177 this).toInt = 2 → 1 ≤ (c143_G87 this).toInt ∧ (c143_G88 this).toInt ≤ 16) from by omega) (show ((m177 this).toInt = 1 → ((G 84) this).toInt + 1 ≤ (m187 this).toInt) from by omega) (show ((G 84) this).toInt ≤ (m187 this).toInt from by omega) (show (m187 this).toInt ≤ ((G 83) this).toInt + 1 from by omega)
          intro j177 Jj177
          refine wp_jn (fun j176 => wp (j176 ()) (QC_X4_nextToken κ wd G P U V X O kd ln cnt this)) ?_ ?_
          · show wp _ _
            exact Jj177 (4 : Int32) (show ((4 : Int32).toInt = 2 ∨ (4 : Int32).toInt = 4) from by omega)
          intro j176 Jj176
          refine wp_ite (fun c155 => ?_) (fun c155 => ?_)
          · have c155 := (z_le _ _).mp c155
            exact Jj176
          · have c155 := z_nle c155
            refine wp_nne hn_u1 ?_
            refine wp_if ⟨by omega, by omega⟩ ?_
            refine wp_ite (fun c169 => ?_) (fun c169 => ?_)
            · have c169 := congrArg Int32.toInt c169
              exact Jj177 (2 : Int32) (show ((2 : Int32).toInt = 2 ∨ (2 : Int32).toInt = 4) from by omega)
            · have c169 := z_ne c169
              exact Jj176
        · have c127 := z_ne c127
          obtain ⟨⟨c198_G84, c198_G87, c198_G88⟩, hc198, hq198⟩ := ok_X4_scanRun κ wd (va_up (va_up (va_up G 84 c52_G84) 86 m57) 88 m62) P U V X O kd ln cnt this ((G 83) this) hzG83 hg2 hzG87 hg7 hzP82 hzLN hk_this (show (∀ tx, (P 82) this = some tx → ((G 83) this).toInt ≤ ((ln tx : Nat) : Int)) from by assumption) (show (c52_G84 this).toInt ≤ ((G 83) this).toInt from by omega) (show (m62 this).toInt = 0 from by omega) (show (0 ≤ ((G 83) this).toInt ∧ ((G 83) this).toInt ≤ 2000) from by omega)
          obtain ⟨hg53, hg54, hg55, f56, f57, f58, f59⟩ : (rng (0) 2001 c198_G84) ∧ (rng (0) 2001 c198_G87) ∧ (rng (0) 2000 c198_G88) ∧ ((c198_G87 this).toInt = (c52_G84 this).toInt) ∧ ((c198_G84 this).toInt = (c198_G87 this).toInt + (c198_G88 this).toInt) ∧ ((c198_G84 this).toInt ≤ ((G 83) this).toInt) ∧ ((c198_G88 this).toInt ≤ ((G 83) this).toInt) := hq198
          refine wp_b3 hc198 ?_
          clear hc198
          have hb198 := hg55 this
          have b60 := hg55 this
          refine wp_jn (fun j214 => ∀ (t214_0 : Int32), ((t214_0.toInt = 1 ∧ 1 ≤ (c198_G88 this).toInt) ∨ t214_0.toInt = 4) → wp (j214 t214_0) (QC_X4_nextToken κ wd G P U V X O kd ln cnt this)) ?_ ?_
          · intro t214_0 f61
            show wp _ _
            refine wp_vl (fun m214 em214 => ?_)
            have hg62 : rng (0) 4 m214 := by rw [em214]; exact rng_vup hzG85 (by omega) (by omega)
            have sm214 : (m214 this).toInt = t214_0.toInt := by rw [em214, va_up_self]
            have b63 := hg62 this
            clear em214
            exact Jj217 c198_G84 m214 c198_G87 c198_G88 hg53 hg62 hg54 hg55 (show ((m214 this).toInt = 1 ∨ (m214 this).toInt = 2 → (c198_G87 this).toInt + (c198_G88 this).toInt ≤ ((G 83) this).toInt) from by omega) (show ((m214 this).toInt = 2 → 1 ≤ (c198_G87 this).toInt ∧ (c198_G88 this).toInt ≤ 16) from by omega) (show ((m214 this).toInt = 1 → ((G 84) this).toInt + 1 ≤ (c198_G84 this).toInt) from by omega) (show ((G 84) this).toInt ≤ (c198_G84 this).toInt from by omega) (show (c198_G84 this).toInt ≤ ((G 83) this).toInt + 1 from by omega)
          intro j214 Jj214
          refine wp_ite (fun c206 => ?_) (fun c206 => ?_)
          · have c206 := (z_le _ _).mp c206
            exact Jj214 (4 : Int32) (show (((4 : Int32).toInt = 1 ∧ 1 ≤ (c198_G88 this).toInt) ∨ (4 : Int32).toInt = 4) from by omega)
          · have c206 := z_nle c206
            exact Jj214 (1 : Int32) (show (((1 : Int32).toInt = 1 ∧ 1 ≤ (c198_G88 this).toInt) ∨ (1 : Int32).toInt = 4) from by omega)
    · have c73 := z_nlt c73
      refine wp_vl (fun m78 em78 => ?_)
      have hg64 : rng (0) 4 m78 := by rw [em78]; exact rng_vup hzG85 (by omega) (by omega)
      have sm78 : (m78 this).toInt = 0 := by rw [em78, va_up_self]; decide +kernel
      have b65 := hg64 this
      clear em78
      exact Jj217 c52_G84 m78 (G 87) m62 hg2 hg64 hzG87 hg7 (show ((m78 this).toInt = 1 ∨ (m78 this).toInt = 2 → ((G 87) this).toInt + (m62 this).toInt ≤ ((G 83) this).toInt) from by omega) (show ((m78 this).toInt = 2 → 1 ≤ ((G 87) this).toInt ∧ (m62 this).toInt ≤ 16) from by omega) (show ((m78 this).toInt = 1 → ((G 84) this).toInt + 1 ≤ (c52_G84 this).toInt) from by omega) (show ((G 84) this).toInt ≤ (c52_G84 this).toInt from by omega) (show (c52_G84 this).toInt ≤ ((G 83) this).toInt + 1 from by omega)
  intro k52 Jk52
  have lp0 : ∀ (n0 : Nat) (d0_G84 : Nat → Int32), (2001 - (d0_G84 this).toInt).toNat < n0 → rng (0) 2001 d0_G84 → ((G 84) this).toInt ≤ (d0_G84 this).toInt → (d0_G84 this).toInt ≤ ((G 83) this).toInt + 1 → wp (L_X4_nextToken_0 G P V ln this k52 n0 d0_G84) (QC_X4_nextToken κ wd G P U V X O kd ln cnt this) := by
    intro n0
    induction n0 with
    | zero => intro d0_G84 hm; exact absurd hm (Nat.not_lt_zero _)
    | succ n0 ih0 =>
      intro d0_G84 hm0 hg66 f67 f68
      show wp (B_X4_nextToken_0 G P V ln this k52 (L_X4_nextToken_0 G P V ln this k52 n0) d0_G84) _
      unfold B_X4_nextToken_0
      have b69 := hg66 this
      have b70 := hzG83 this
      refine wp_ite (fun c8 => ?_) (fun c8 => ?_)
      · have c8 := (z_le _ _).mp c8
        exact Jk52 d0_G84 hg66 (show ((G 84) this).toInt ≤ (d0_G84 this).toInt from by omega) (show (d0_G84 this).toInt ≤ ((G 83) this).toInt + 1 from by omega)
      · have c8 := z_nle c8
        refine wp_nne hn_u1 ?_
        refine wp_if ⟨by omega, by omega⟩ ?_
        refine wp_jn (fun j39 => wp (j39 ()) (QC_X4_nextToken κ wd G P U V X O kd ln cnt this)) ?_ ?_
        · show wp _ _
          have f73 : ((d0_G84 this) + 1).toInt = (d0_G84 this).toInt + 1 := z_addc (by decide +kernel) (by omega) (by omega)
          refine wp_vl (fun x46 ex46 => ?_)
          have f74 : x46.toInt = ((d0_G84 this) + 1).toInt := congrArg Int32.toInt ex46
          clear ex46
          refine wp_vl (fun m46 em46 => ?_)
          have hg75 : rng (0) 2001 m46 := by rw [em46]; exact rng_vup hg66 (by omega) (by omega)
          have sm46 : (m46 this).toInt = x46.toInt := by rw [em46, va_up_self]
          have b76 := hg75 this
          clear em46
          exact ih0 m46 (show (2001 - (m46 this).toInt).toNat < n0 from by omega) hg75 (show ((G 84) this).toInt ≤ (m46 this).toInt from by omega) (show (m46 this).toInt ≤ ((G 83) this).toInt + 1 from by omega)
        intro j39 Jj39
        refine wp_ite (fun c22 => ?_) (fun c22 => ?_)
        · have c22 := congrArg Int32.toInt c22
          exact Jj39
        · have c22 := z_ne c22
          refine wp_nne hn_u1 ?_
          refine wp_if ⟨by omega, by omega⟩ ?_
          refine wp_ite (fun c36 => ?_) (fun c36 => ?_)
          · have c36 := congrArg Int32.toInt c36
            exact Jj39
          · have c36 := z_ne c36
            exact Jk52 d0_G84 hg66 (show ((G 84) this).toInt ≤ (d0_G84 this).toInt from by omega) (show (d0_G84 this).toInt ≤ ((G 83) this).toInt + 1 from by omega)
  exact lp0 NN (G 84) (by have := NN_eq; omega) hzG84 (show ((G 84) this).toInt ≤ ((G 84) this).toInt from by omega) (show ((G 84) this).toInt ≤ ((G 83) this).toInt + 1 from by omega)
abbrev QC_X4_wordIs (κ : Nat → Nat) (wd : Nat) (G : Nat → Nat → Int32) (P : Nat → Nat → Option Nat) (U : Nat → Nat → Int64) (V : Nat → Nat → Nat → Int32) (X : Nat → Nat → Nat → Int64) (O : Nat → Nat → Nat → Option Nat) (kd : Nat → Nat) (ln : Nat → Nat) (cnt : Nat) (this : Nat) (p0 : Nat) : (Int32) → Prop := (fun t => ((0 ≤ t.toInt ∧ t.toInt ≤ 1)) ∧ ((t.toInt = 1 → ((G 85) this).toInt = 1)))
set_option maxHeartbeats 4000000 in
set_option maxRecDepth 100000 in
theorem ok_X4_wordIs (κ : Nat → Nat) (wd : Nat) (G : Nat → Nat → Int32) (P : Nat → Nat → Option Nat) (U : Nat → Nat → Int64) (V : Nat → Nat → Nat → Int32) (X : Nat → Nat → Nat → Int64) (O : Nat → Nat → Nat → Option Nat) (kd : Nat → Nat) (ln : Nat → Nat) (cnt : Nat) (this : Nat) (p0 : Nat) (hzG85 : rng (0) 4 (G 85)) (hzG87 : rng (0) 2001 (G 87)) (hzG88 : rng (0) 2000 (G 88)) (hzP82 : PB κ ln wd 5 100 0 2000 0 (P 82)) (hzLN : LN κ ln) (hk_this : κ this = 5) (hs_p0 : p0 < 10) (hp0 : (∀ tx, (P 82) this = some tx → ((G 83) this).toInt ≤ ((ln tx : Nat) : Int))) (hp1 : (((G 85) this).toInt = 1 → ((G 87) this).toInt + ((G 88) this).toInt ≤ ((G 83) this).toInt)) : wp (f_X4_wordIs G P U V X O kd ln cnt this p0) (QC_X4_wordIs κ wd G P U V X O kd ln cnt this p0) := by
  unfold f_X4_wordIs
  have zk0 : (0 : Int32).toInt = 0 := by decide +kernel
  have zk1 : (1 : Int32).toInt = 1 := by decide +kernel
  obtain ⟨u1, hn_u1⟩ := PBs (hzP82 this) hk_this
  have hk_u1 := ((hzP82 this).2 u1 hn_u1).1
  have hl1_u1 := ((hzP82 this).2 u1 hn_u1).2.1
  have hl2_u1 := ((hzP82 this).2 u1 hn_u1).2.2.1
  have hw_u1 := ((hzP82 this).2 u1 hn_u1).2.2.2
  have hz_u1 : (Int32.ofNat (ln u1)).toInt = ((ln u1 : Nat) : Int) := ofN_eq (by first | exact Nat.le_trans hl2_u1 (by decide) | omega)
  have hsz := hp0 _ hn_u1
  have b2 := hzG85 this
  refine wp_jn (fun j19 => wp (j19 ()) (QC_X4_wordIs κ wd G P U V X O kd ln cnt this p0)) ?_ ?_
  · show wp _ _
    exact ⟨_, rfl, ⟨(show 0 ≤ (0 : Int32).toInt ∧ (0 : Int32).toInt ≤ 1 from ⟨by omega, by omega⟩), (show ((0 : Int32).toInt = 1 → ((G 85) this).toInt = 1) from by omega)⟩⟩
  intro j19 Jj19
  refine wp_ite (fun c5 => ?_) (fun c5 => ?_)
  · have c5 := congrArg Int32.toInt c5
    have b3 := hzG88 this
    have kw4 := kw_len p0 hs_p0
    refine wp_ite (fun c16 => ?_) (fun c16 => ?_)
    · have c16 := congrArg Int32.toInt c16
      have lp23 : ∀ (n23 : Nat) (y23_2 : Int32), (2000 - y23_2.toInt).toNat < n23 → 0 ≤ y23_2.toInt → wp (L_X4_wordIs_23 G P V ln this p0 n23 y23_2) (QC_X4_wordIs κ wd G P U V X O kd ln cnt this p0) := by
        intro n23
        induction n23 with
        | zero => intro y23_2 hm; exact absurd hm (Nat.not_lt_zero _)
        | succ n23 ih23 =>
          intro y23_2 hm23 f5
          show wp (B_X4_wordIs_23 G P V ln this p0 (L_X4_wordIs_23 G P V ln this p0 n23) y23_2) _
          unfold B_X4_wordIs_23
          refine wp_ite (fun c28 => ?_) (fun c28 => ?_)
          · have c28 := (z_le _ _).mp c28
            exact ⟨_, rfl, ⟨(show 0 ≤ (1 : Int32).toInt ∧ (1 : Int32).toInt ≤ 1 from ⟨by omega, by omega⟩), (show ((1 : Int32).toInt = 1 → ((G 85) this).toInt = 1) from by omega)⟩⟩
          · have c28 := z_nle c28
            refine wp_nne hn_u1 ?_
            have b7 := hzG87 this
            have f8 : (((G 87) this) + y23_2).toInt = ((G 87) this).toInt + y23_2.toInt := z_add (by omega) (by omega)
            refine wp_if ⟨by omega, by omega⟩ ?_
            refine wp_if ⟨by omega, by omega⟩ ?_
            refine wp_ite (fun c47 => ?_) (fun c47 => ?_)
            · have c47 := congrArg Int32.toInt c47
              have f9 : (y23_2 + 1).toInt = y23_2.toInt + (1) := z_addc (by decide +kernel) (by omega) (by omega)
              exact ih23 (y23_2 + 1) (show (2000 - (y23_2 + 1).toInt).toNat < n23 from by omega) (show 0 ≤ (y23_2 + 1).toInt from by omega)
            · have c47 := z_ne c47
              exact ⟨_, rfl, ⟨(show 0 ≤ (0 : Int32).toInt ∧ (0 : Int32).toInt ≤ 1 from ⟨by omega, by omega⟩), (show ((0 : Int32).toInt = 1 → ((G 85) this).toInt = 1) from by omega)⟩⟩
      exact lp23 NN (0 : Int32) (by have := NN_eq; omega) (show 0 ≤ (0 : Int32).toInt from by omega)
    · have c16 := z_ne c16
      exact Jj19
  · have c5 := z_ne c5
    exact Jj19
abbrev QC_X4_blame (κ : Nat → Nat) (wd : Nat) (G : Nat → Nat → Int32) (P : Nat → Nat → Option Nat) (U : Nat → Nat → Int64) (V : Nat → Nat → Nat → Int32) (X : Nat → Nat → Nat → Int64) (O : Nat → Nat → Nat → Option Nat) (kd : Nat → Nat) (ln : Nat → Nat) (cnt : Nat) (this : Nat) (p0 : Int32) : (Int32 × (Nat → Int32) × (Nat → Int32)) → Prop := (fun t => ((0 ≤ (t.1).toInt ∧ (t.1).toInt ≤ 1)) ∧ ((t.1).toInt = 0))
set_option maxHeartbeats 4000000 in
set_option maxRecDepth 100000 in
theorem ok_X4_blame (κ : Nat → Nat) (wd : Nat) (G : Nat → Nat → Int32) (P : Nat → Nat → Option Nat) (U : Nat → Nat → Int64) (V : Nat → Nat → Nat → Int32) (X : Nat → Nat → Nat → Int64) (O : Nat → Nat → Nat → Option Nat) (kd : Nat → Nat) (ln : Nat → Nat) (cnt : Nat) (this : Nat) (p0 : Int32) (hzLN : LN κ ln) (hk_this : κ this = 5) : wp (f_X4_blame G P U V X O kd ln cnt this p0) (QC_X4_blame κ wd G P U V X O kd ln cnt this p0) := by
  unfold f_X4_blame
  have zk0 : (0 : Int32).toInt = 0 := by decide +kernel
  have r_p0 := i32r p0
  refine wp_vl (fun m2 em2 => ?_)
  have sm2 : (m2 this).toInt = p0.toInt := by rw [em2, va_up_self]
  clear em2
  refine wp_vl (fun x10 ex10 => ?_)
  have f1 : x10.toInt = ((G 86) this).toInt := congrArg Int32.toInt ex10
  clear ex10
  refine wp_vl (fun m10 em10 => ?_)
  have sm10 : (m10 this).toInt = x10.toInt := by rw [em10, va_up_self]
  clear em10
  exact ⟨_, rfl, ⟨(show 0 ≤ (0 : Int32).toInt ∧ (0 : Int32).toInt ≤ 1 from ⟨by omega, by omega⟩), (show (0 : Int32).toInt = 0 from by omega)⟩⟩
abbrev QC_X4_hasRoom (κ : Nat → Nat) (wd : Nat) (G : Nat → Nat → Int32) (P : Nat → Nat → Option Nat) (U : Nat → Nat → Int64) (V : Nat → Nat → Nat → Int32) (X : Nat → Nat → Nat → Int64) (O : Nat → Nat → Nat → Option Nat) (kd : Nat → Nat) (ln : Nat → Nat) (cnt : Nat) (this : Nat) (p0 : Int32) : (Int32 × (Nat → Int32) × (Nat → Int32)) → Prop := (fun t => ((0 ≤ (t.1).toInt ∧ (t.1).toInt ≤ 1)))
set_option maxHeartbeats 4000000 in
set_option maxRecDepth 100000 in
theorem ok_X4_hasRoom (κ : Nat → Nat) (wd : Nat) (G : Nat → Nat → Int32) (P : Nat → Nat → Option Nat) (U : Nat → Nat → Int64) (V : Nat → Nat → Nat → Int32) (X : Nat → Nat → Nat → Int64) (O : Nat → Nat → Nat → Option Nat) (kd : Nat → Nat) (ln : Nat → Nat) (cnt : Nat) (this : Nat) (p0 : Int32) (hzLN : LN κ ln) (hk_this : κ this = 5) : wp (f_X4_hasRoom G P U V X O kd ln cnt this p0) (QC_X4_hasRoom κ wd G P U V X O kd ln cnt this p0) := by
  unfold f_X4_hasRoom
  have zk0 : (0 : Int32).toInt = 0 := by decide +kernel
  have zk1 : (1 : Int32).toInt = 1 := by decide +kernel
  have zk4 : (4 : Int32).toInt = 4 := by decide +kernel
  have r_p0 := i32r p0
  refine wp_jn (fun j17 => ∀ (t17_0 : Int32) (c17_G80 : Nat → Int32) (c17_G81 : Nat → Int32), (0 ≤ t17_0.toInt ∧ t17_0.toInt ≤ 1) → wp (j17 t17_0 c17_G80 c17_G81) (QC_X4_hasRoom κ wd G P U V X O kd ln cnt this p0)) ?_ ?_
  · intro t17_0 c17_G80 c17_G81 f1
    show wp _ _
    refine wp_if ⟨by omega, by omega⟩ ?_
    exact ⟨_, rfl, (show 0 ≤ t17_0.toInt ∧ t17_0.toInt ≤ 1 from ⟨by omega, by omega⟩)⟩
  intro j17 Jj17
  refine wp_jn (fun j12 => ∀ (c12_G80 : Nat → Int32) (c12_G81 : Nat → Int32), wp (j12 c12_G80 c12_G81) (QC_X4_hasRoom κ wd G P U V X O kd ln cnt this p0)) ?_ ?_
  · intro c12_G80 c12_G81
    show wp _ _
    exact Jj17 (1 : Int32) c12_G80 c12_G81 (show (0 ≤ (1 : Int32).toInt ∧ (1 : Int32).toInt ≤ 1) from by omega)
  intro j12 Jj12
  refine wp_ite (fun c1 => ?_) (fun c1 => ?_)
  · have c1 := congrArg Int32.toInt c1
    obtain ⟨⟨r6, c6_G80, c6_G81⟩, hc6, hq6⟩ := ok_X4_blame κ wd G P U V X O kd ln cnt this (4 : Int32) hzLN hk_this
    obtain ⟨f2, f3⟩ : ((0 ≤ r6.toInt ∧ r6.toInt ≤ 1)) ∧ (r6.toInt = 0) := hq6
    refine wp_b3 hc6 ?_
    clear hc6
    refine wp_ite (fun c9 => ?_) (fun c9 => ?_)
    · have c9 := congrArg Int32.toInt c9
      exact Jj17 (0 : Int32) c6_G80 c6_G81 (show (0 ≤ (0 : Int32).toInt ∧ (0 : Int32).toInt ≤ 1) from by omega)
    · have c9 := z_ne c9
      exact Jj12 c6_G80 c6_G81
  · have c1 := z_ne c1
    exact Jj12 (G 80) (G 81)
abbrev QC_X4_isNew (κ : Nat → Nat) (wd : Nat) (G : Nat → Nat → Int32) (P : Nat → Nat → Option Nat) (U : Nat → Nat → Int64) (V : Nat → Nat → Nat → Int32) (X : Nat → Nat → Nat → Int64) (O : Nat → Nat → Nat → Option Nat) (kd : Nat → Nat) (ln : Nat → Nat) (cnt : Nat) (this : Nat) (p0 : Int32) : (Int32 × (Nat → Int32) × (Nat → Int32)) → Prop := (fun t => ((0 ≤ (t.1).toInt ∧ (t.1).toInt ≤ 1)))
set_option maxHeartbeats 4000000 in
set_option maxRecDepth 100000 in
theorem ok_X4_isNew (κ : Nat → Nat) (wd : Nat) (G : Nat → Nat → Int32) (P : Nat → Nat → Option Nat) (U : Nat → Nat → Int64) (V : Nat → Nat → Nat → Int32) (X : Nat → Nat → Nat → Int64) (O : Nat → Nat → Nat → Option Nat) (kd : Nat → Nat) (ln : Nat → Nat) (cnt : Nat) (this : Nat) (p0 : Int32) (hzLN : LN κ ln) (hk_this : κ this = 5) : wp (f_X4_isNew G P U V X O kd ln cnt this p0) (QC_X4_isNew κ wd G P U V X O kd ln cnt this p0) := by
  unfold f_X4_isNew
  have zk0 : (0 : Int32).toInt = 0 := by decide +kernel
  have zk1 : (1 : Int32).toInt = 1 := by decide +kernel
  have zk3 : (3 : Int32).toInt = 3 := by decide +kernel
  have r_p0 := i32r p0
  refine wp_jn (fun j17 => ∀ (t17_0 : Int32) (c17_G80 : Nat → Int32) (c17_G81 : Nat → Int32), (0 ≤ t17_0.toInt ∧ t17_0.toInt ≤ 1) → wp (j17 t17_0 c17_G80 c17_G81) (QC_X4_isNew κ wd G P U V X O kd ln cnt this p0)) ?_ ?_
  · intro t17_0 c17_G80 c17_G81 f1
    show wp _ _
    refine wp_if ⟨by omega, by omega⟩ ?_
    exact ⟨_, rfl, (show 0 ≤ t17_0.toInt ∧ t17_0.toInt ≤ 1 from ⟨by omega, by omega⟩)⟩
  intro j17 Jj17
  refine wp_jn (fun j12 => ∀ (c12_G80 : Nat → Int32) (c12_G81 : Nat → Int32), wp (j12 c12_G80 c12_G81) (QC_X4_isNew κ wd G P U V X O kd ln cnt this p0)) ?_ ?_
  · intro c12_G80 c12_G81
    show wp _ _
    exact Jj17 (1 : Int32) c12_G80 c12_G81 (show (0 ≤ (1 : Int32).toInt ∧ (1 : Int32).toInt ≤ 1) from by omega)
  intro j12 Jj12
  refine wp_ite (fun c1 => ?_) (fun c1 => ?_)
  · have c1 := congrArg Int32.toInt c1
    obtain ⟨⟨r6, c6_G80, c6_G81⟩, hc6, hq6⟩ := ok_X4_blame κ wd G P U V X O kd ln cnt this (3 : Int32) hzLN hk_this
    obtain ⟨f2, f3⟩ : ((0 ≤ r6.toInt ∧ r6.toInt ≤ 1)) ∧ (r6.toInt = 0) := hq6
    refine wp_b3 hc6 ?_
    clear hc6
    refine wp_ite (fun c9 => ?_) (fun c9 => ?_)
    · have c9 := congrArg Int32.toInt c9
      exact Jj17 (0 : Int32) c6_G80 c6_G81 (show (0 ≤ (0 : Int32).toInt ∧ (0 : Int32).toInt ≤ 1) from by omega)
    · have c9 := z_ne c9
      exact Jj12 c6_G80 c6_G81
  · have c1 := z_ne c1
    exact Jj12 (G 80) (G 81)
abbrev QC_X4_takeLetters (κ : Nat → Nat) (wd : Nat) (G : Nat → Nat → Int32) (P : Nat → Nat → Option Nat) (U : Nat → Nat → Int64) (V : Nat → Nat → Nat → Int32) (X : Nat → Nat → Nat → Int64) (O : Nat → Nat → Nat → Option Nat) (kd : Nat → Nat) (ln : Nat → Nat) (cnt : Nat) (this : Nat) (p0 : Int32) : (Int32 × (Nat → Int32) × (Nat → Int32) × (Nat → Int32) × (Nat → Int32) × (Nat → Int32) × (Nat → Int32) × (Nat → Int32)) → Prop := (fun t => (rng (0) 2001 (t.2.2.2.1)) ∧ (rng (0) 4 (t.2.2.2.2.1)) ∧ (rng (0) 2001 (t.2.2.2.2.2.2.1)) ∧ (rng (0) 2000 (t.2.2.2.2.2.2.2)) ∧ ((0 ≤ (t.1).toInt ∧ (t.1).toInt ≤ 1)) ∧ (((G 84) this).toInt ≤ ((t.2.2.2.1) this).toInt) ∧ (((t.2.2.2.1) this).toInt ≤ ((G 83) this).toInt + 1) ∧ (((t.1).toInt = 1 → 1 ≤ ((t.2.2.2.2.2.2.1) this).toInt ∧ ((t.2.2.2.2.2.2.1) this).toInt + ((t.2.2.2.2.2.2.2) this).toInt ≤ ((G 83) this).toInt ∧ ((t.2.2.2.2.2.2.2) this).toInt ≤ 16)))
set_option maxHeartbeats 4000000 in
set_option maxRecDepth 100000 in
theorem ok_X4_takeLetters (κ : Nat → Nat) (wd : Nat) (G : Nat → Nat → Int32) (P : Nat → Nat → Option Nat) (U : Nat → Nat → Int64) (V : Nat → Nat → Nat → Int32) (X : Nat → Nat → Nat → Int64) (O : Nat → Nat → Nat → Option Nat) (kd : Nat → Nat) (ln : Nat → Nat) (cnt : Nat) (this : Nat) (p0 : Int32) (hzG83 : rng (0) 2000 (G 83)) (hzG84 : rng (0) 2001 (G 84)) (hzG85 : rng (0) 4 (G 85)) (hzG87 : rng (0) 2001 (G 87)) (hzG88 : rng (0) 2000 (G 88)) (hzP82 : PB κ ln wd 5 100 0 2000 0 (P 82)) (hzLN : LN κ ln) (hk_this : κ this = 5) (hp0 : (∀ tx, (P 82) this = some tx → ((G 83) this).toInt ≤ ((ln tx : Nat) : Int))) (hp1 : ((G 84) this).toInt ≤ ((G 83) this).toInt + 1) : wp (f_X4_takeLetters G P U V X O kd ln cnt this p0) (QC_X4_takeLetters κ wd G P U V X O kd ln cnt this p0) := by
  unfold f_X4_takeLetters
  have zk0 : (0 : Int32).toInt = 0 := by decide +kernel
  have zk1 : (1 : Int32).toInt = 1 := by decide +kernel
  have zk2 : (2 : Int32).toInt = 2 := by decide +kernel
  have r_p0 := i32r p0
  obtain ⟨⟨c1_G84, c1_G85, c1_G86, c1_G87, c1_G88⟩, hc1, hq1⟩ := ok_X4_nextToken κ wd G P U V X O kd ln cnt this hzG83 hzG84 hzG85 hzG87 hzG88 hzP82 hzLN hk_this (show (∀ tx, (P 82) this = some tx → ((G 83) this).toInt ≤ ((ln tx : Nat) : Int)) from by assumption) (show ((G 84) this).toInt ≤ ((G 83) this).toInt + 1 from by omega)
  obtain ⟨hg1, hg2, hg3, hg4, f5, f6, f7, f8, f9⟩ : (rng (0) 2001 c1_G84) ∧ (rng (0) 4 c1_G85) ∧ (rng (0) 2001 c1_G87) ∧ (rng (0) 2000 c1_G88) ∧ ((c1_G85 this).toInt = 1 ∨ (c1_G85 this).toInt = 2 → (c1_G87 this).toInt + (c1_G88 this).toInt ≤ ((G 83) this).toInt) ∧ ((c1_G85 this).toInt = 2 → 1 ≤ (c1_G87 this).toInt ∧ (c1_G88 this).toInt ≤ 16) ∧ ((c1_G85 this).toInt = 1 → ((G 84) this).toInt + 1 ≤ (c1_G84 this).toInt) ∧ (((G 84) this).toInt ≤ (c1_G84 this).toInt) ∧ ((c1_G84 this).toInt ≤ ((G 83) this).toInt + 1) := hq1
  refine wp_b5 hc1 ?_
  clear hc1
  have b10 := hg2 this
  refine wp_ite (fun c9 => ?_) (fun c9 => ?_)
  · have c9 := congrArg Int32.toInt c9
    have b11 := hg4 this
    refine wp_jn (fun j42 => ∀ (t42_0 : Int32) (c42_G80 : Nat → Int32) (c42_G81 : Nat → Int32), (0 ≤ t42_0.toInt ∧ t42_0.toInt ≤ 1) → wp (j42 t42_0 c42_G80 c42_G81) (QC_X4_takeLetters κ wd G P U V X O kd ln cnt this p0)) ?_ ?_
    · intro t42_0 c42_G80 c42_G81 f12
      show wp _ _
      refine wp_if ⟨by omega, by omega⟩ ?_
      exact ⟨_, rfl, ⟨hg1, hg2, hg3, hg4, (show 0 ≤ t42_0.toInt ∧ t42_0.toInt ≤ 1 from ⟨by omega, by omega⟩), (show ((G 84) this).toInt ≤ (c1_G84 this).toInt from by omega), (show (c1_G84 this).toInt ≤ ((G 83) this).toInt + 1 from by omega), (show (t42_0.toInt = 1 → 1 ≤ (c1_G87 this).toInt ∧ (c1_G87 this).toInt + (c1_G88 this).toInt ≤ ((G 83) this).toInt ∧ (c1_G88 this).toInt ≤ 16) from by omega)⟩⟩
    intro j42 Jj42
    refine wp_jn (fun j37 => ∀ (c37_G80 : Nat → Int32) (c37_G81 : Nat → Int32), wp (j37 c37_G80 c37_G81) (QC_X4_takeLetters κ wd G P U V X O kd ln cnt this p0)) ?_ ?_
    · intro c37_G80 c37_G81
      show wp _ _
      exact Jj42 (1 : Int32) c37_G80 c37_G81 (show (0 ≤ (1 : Int32).toInt ∧ (1 : Int32).toInt ≤ 1) from by omega)
    intro j37 Jj37
    refine wp_ite (fun c22 => ?_) (fun c22 => ?_)
    · have c22 := (z_lt _ _).mp c22
      exact Jj37 (G 80) (G 81)
    · have c22 := z_nlt c22
      refine wp_ite (fun c26 => ?_) (fun c26 => ?_)
      · have c26 := congrArg Int32.toInt c26
        obtain ⟨⟨r31, c31_G80, c31_G81⟩, hc31, hq31⟩ := ok_X4_blame κ wd (va_up (va_up (va_up (va_up (va_up G 84 c1_G84) 85 c1_G85) 86 c1_G86) 87 c1_G87) 88 c1_G88) P U V X O kd ln cnt this (2 : Int32) hzLN hk_this
        obtain ⟨f13, f14⟩ : ((0 ≤ r31.toInt ∧ r31.toInt ≤ 1)) ∧ (r31.toInt = 0) := hq31
        refine wp_b3 hc31 ?_
        clear hc31
        refine wp_ite (fun c34 => ?_) (fun c34 => ?_)
        · have c34 := congrArg Int32.toInt c34
          exact Jj42 (0 : Int32) c31_G80 c31_G81 (show (0 ≤ (0 : Int32).toInt ∧ (0 : Int32).toInt ≤ 1) from by omega)
        · have c34 := z_ne c34
          exact Jj37 c31_G80 c31_G81
      · have c26 := z_ne c26
        exact Jj37 (G 80) (G 81)
  · have c9 := z_ne c9
    obtain ⟨⟨r14, c14_G80, c14_G81⟩, hc14, hq14⟩ := ok_X4_blame κ wd (va_up (va_up (va_up (va_up (va_up G 84 c1_G84) 85 c1_G85) 86 c1_G86) 87 c1_G87) 88 c1_G88) P U V X O kd ln cnt this (1 : Int32) hzLN hk_this
    obtain ⟨f15, f16⟩ : ((0 ≤ r14.toInt ∧ r14.toInt ≤ 1)) ∧ (r14.toInt = 0) := hq14
    refine wp_b3 hc14 ?_
    clear hc14
    refine wp_if ⟨by omega, by omega⟩ ?_
    exact ⟨_, rfl, ⟨hg1, hg2, hg3, hg4, (show 0 ≤ r14.toInt ∧ r14.toInt ≤ 1 from ⟨by omega, by omega⟩), (show ((G 84) this).toInt ≤ (c1_G84 this).toInt from by omega), (show (c1_G84 this).toInt ≤ ((G 83) this).toInt + 1 from by omega), (show (r14.toInt = 1 → 1 ≤ (c1_G87 this).toInt ∧ (c1_G87 this).toInt + (c1_G88 this).toInt ≤ ((G 83) this).toInt ∧ (c1_G88 this).toInt ≤ 16) from by omega)⟩⟩
abbrev QC_X4_takeNew (κ : Nat → Nat) (wd : Nat) (G : Nat → Nat → Int32) (P : Nat → Nat → Option Nat) (U : Nat → Nat → Int64) (V : Nat → Nat → Nat → Int32) (X : Nat → Nat → Nat → Int64) (O : Nat → Nat → Nat → Option Nat) (kd : Nat → Nat) (ln : Nat → Nat) (cnt : Nat) (this : Nat) (p0 : Nat) : (Int32 × (Nat → Int32) × (Nat → Int32) × (Nat → Int32) × (Nat → Int32) × (Nat → Int32) × (Nat → Int32) × (Nat → Int32)) → Prop := (fun t => (rng (0) 2001 (t.2.2.2.1)) ∧ (rng (0) 4 (t.2.2.2.2.1)) ∧ (rng (0) 2001 (t.2.2.2.2.2.2.1)) ∧ (rng (0) 2000 (t.2.2.2.2.2.2.2)) ∧ ((0 ≤ (t.1).toInt ∧ (t.1).toInt ≤ 1)) ∧ (((G 84) this).toInt ≤ ((t.2.2.2.1) this).toInt) ∧ (((t.2.2.2.1) this).toInt ≤ ((G 83) this).toInt + 1))
set_option maxHeartbeats 4000000 in
set_option maxRecDepth 100000 in
theorem ok_X4_takeNew (κ : Nat → Nat) (wd : Nat) (G : Nat → Nat → Int32) (P : Nat → Nat → Option Nat) (U : Nat → Nat → Int64) (V : Nat → Nat → Nat → Int32) (X : Nat → Nat → Nat → Int64) (O : Nat → Nat → Nat → Option Nat) (kd : Nat → Nat) (ln : Nat → Nat) (cnt : Nat) (this : Nat) (p0 : Nat) (hzG83 : rng (0) 2000 (G 83)) (hzG84 : rng (0) 2001 (G 84)) (hzG85 : rng (0) 4 (G 85)) (hzG87 : rng (0) 2001 (G 87)) (hzG88 : rng (0) 2000 (G 88)) (hzG200 : rng (0) 24 (G 200)) (hzG203 : rng (0) 100 (G 203)) (hzP82 : PB κ ln wd 5 100 0 2000 0 (P 82)) (hzP201 : PB κ ln wd 11 100 0 2400 0 (P 201)) (hzP202 : PB κ ln wd 11 101 0 100 0 (P 202)) (hzV1 : rng2 (0) 24 (V 1)) (hzRA : RA κ ln (G 200) (P 201) (P 202)) (hzRB : RB κ ln (G 200) (G 203) (P 202) (V 1)) (hzRI : RI (P 202)) (hzLN : LN κ ln) (hk_this : κ this = 5) (hk_p0 : κ p0 = 11) (hp0 : (∀ tx, (P 82) this = some tx → ((G 83) this).toInt ≤ ((ln tx : Nat) : Int))) (hp1 : ((G 84) this).toInt ≤ ((G 83) this).toInt + 1) : wp (f_X4_takeNew G P U V X O kd ln cnt this p0) (QC_X4_takeNew κ wd G P U V X O kd ln cnt this p0) := by
  unfold f_X4_takeNew
  have zkm1 : (-1 : Int32).toInt = -1 := by decide +kernel
  have zk0 : (0 : Int32).toInt = 0 := by decide +kernel
  have zk1 : (1 : Int32).toInt = 1 := by decide +kernel
  obtain ⟨⟨r2, c2_G80, c2_G81, c2_G84, c2_G85, c2_G86, c2_G87, c2_G88⟩, hc2, hq2⟩ := ok_X4_takeLetters κ wd G P U V X O kd ln cnt this (0 : Int32) hzG83 hzG84 hzG85 hzG87 hzG88 hzP82 hzLN hk_this (show (∀ tx, (P 82) this = some tx → ((G 83) this).toInt ≤ ((ln tx : Nat) : Int)) from by assumption) (show ((G 84) this).toInt ≤ ((G 83) this).toInt + 1 from by omega)
  obtain ⟨hg1, hg2, hg3, hg4, f5, f6, f7, f8⟩ : (rng (0) 2001 c2_G84) ∧ (rng (0) 4 c2_G85) ∧ (rng (0) 2001 c2_G87) ∧ (rng (0) 2000 c2_G88) ∧ ((0 ≤ r2.toInt ∧ r2.toInt ≤ 1)) ∧ (((G 84) this).toInt ≤ (c2_G84 this).toInt) ∧ ((c2_G84 this).toInt ≤ ((G 83) this).toInt + 1) ∧ ((r2.toInt = 1 → 1 ≤ (c2_G87 this).toInt ∧ (c2_G87 this).toInt + (c2_G88 this).toInt ≤ ((G 83) this).toInt ∧ (c2_G88 this).toInt ≤ 16)) := hq2
  refine wp_b8 hc2 ?_
  clear hc2
  refine wp_ite (fun c5 => ?_) (fun c5 => ?_)
  · have c5 := congrArg Int32.toInt c5
    exact ⟨_, rfl, ⟨hg1, hg2, hg3, hg4, (show 0 ≤ (0 : Int32).toInt ∧ (0 : Int32).toInt ≤ 1 from ⟨by omega, by omega⟩), (show ((G 84) this).toInt ≤ (c2_G84 this).toInt from by omega), (show (c2_G84 this).toInt ≤ ((G 83) this).toInt + 1 from by omega)⟩⟩
  · have c5 := z_ne c5
    refine wp_nn ((hzP82 this).1 hk_this) (fun a13 hn_a13 => ?_)
    have hk_a13 := ((hzP82 this).2 a13 hn_a13).1
    have hl1_a13 := ((hzP82 this).2 a13 hn_a13).2.1
    have hl2_a13 := ((hzP82 this).2 a13 hn_a13).2.2.1
    have hw_a13 := ((hzP82 this).2 a13 hn_a13).2.2.2
    have hz_a13 : (Int32.ofNat (ln a13)).toInt = ((ln a13 : Nat) : Int) := ofN_eq (by first | exact Nat.le_trans hl2_a13 (by decide) | omega)
    have b9 := hg3 this
    have b10 := hg4 this
    obtain ⟨r24, hc24, hq24⟩ := ok_X10_find κ wd (va_up (va_up (va_up (va_up (va_up (va_up (va_up G 80 c2_G80) 81 c2_G81) 84 c2_G84) 85 c2_G85) 86 c2_G86) 87 c2_G87) 88 c2_G88) P U V X O kd ln cnt p0 a13 (c2_G87 this) (c2_G88 this) hzG200 hzG203 hzP201 hzP202 hzV1 hzRA hzRB hzRI hzLN hk_p0 hk_a13
    obtain ⟨f11, f12⟩ : (((-1) ≤ r24.toInt ∧ r24.toInt < 100)) ∧ ((r24.toInt = -1 ∨ r24.toInt < ((G 203) p0).toInt)) := hq24
    refine wp_b1 hc24 ?_
    clear hc24
    refine wp_jn (fun j36 => ∀ (t36_0 : Int32), wp (j36 t36_0) (QC_X4_takeNew κ wd G P U V X O kd ln cnt this p0)) ?_ ?_
    · intro t36_0
      show wp _ _
      obtain ⟨⟨r36, c36_G80, c36_G81⟩, hc36, hq36⟩ := ok_X4_isNew κ wd (va_up (va_up (va_up (va_up (va_up (va_up (va_up G 80 c2_G80) 81 c2_G81) 84 c2_G84) 85 c2_G85) 86 c2_G86) 87 c2_G87) 88 c2_G88) P U V X O kd ln cnt this t36_0 hzLN hk_this
      have f13 : (0 ≤ r36.toInt ∧ r36.toInt ≤ 1) := hq36
      refine wp_b3 hc36 ?_
      clear hc36
      refine wp_if ⟨by omega, by omega⟩ ?_
      exact ⟨_, rfl, ⟨hg1, hg2, hg3, hg4, (show 0 ≤ r36.toInt ∧ r36.toInt ≤ 1 from ⟨by omega, by omega⟩), (show ((G 84) this).toInt ≤ (c2_G84 this).toInt from by omega), (show (c2_G84 this).toInt ≤ ((G 83) this).toInt + 1 from by omega)⟩⟩
    intro j36 Jj36
    refine wp_ite (fun c28 => ?_) (fun c28 => ?_)
    · have c28 := congrArg Int32.toInt c28
      exact Jj36 (1 : Int32)
    · have c28 := z_ne c28
      exact Jj36 (0 : Int32)
abbrev QC_X4_takeTo (κ : Nat → Nat) (wd : Nat) (G : Nat → Nat → Int32) (P : Nat → Nat → Option Nat) (U : Nat → Nat → Int64) (V : Nat → Nat → Nat → Int32) (X : Nat → Nat → Nat → Int64) (O : Nat → Nat → Nat → Option Nat) (kd : Nat → Nat) (ln : Nat → Nat) (cnt : Nat) (this : Nat) : (Int32 × (Nat → Int32) × (Nat → Int32) × (Nat → Int32) × (Nat → Int32) × (Nat → Int32) × (Nat → Int32) × (Nat → Int32)) → Prop := (fun t => (rng (0) 2001 (t.2.2.2.1)) ∧ (rng (0) 4 (t.2.2.2.2.1)) ∧ (rng (0) 2001 (t.2.2.2.2.2.2.1)) ∧ (rng (0) 2000 (t.2.2.2.2.2.2.2)) ∧ ((0 ≤ (t.1).toInt ∧ (t.1).toInt ≤ 1)) ∧ (((G 84) this).toInt ≤ ((t.2.2.2.1) this).toInt) ∧ (((t.2.2.2.1) this).toInt ≤ ((G 83) this).toInt + 1))
set_option maxHeartbeats 4000000 in
set_option maxRecDepth 100000 in
theorem ok_X4_takeTo (κ : Nat → Nat) (wd : Nat) (G : Nat → Nat → Int32) (P : Nat → Nat → Option Nat) (U : Nat → Nat → Int64) (V : Nat → Nat → Nat → Int32) (X : Nat → Nat → Nat → Int64) (O : Nat → Nat → Nat → Option Nat) (kd : Nat → Nat) (ln : Nat → Nat) (cnt : Nat) (this : Nat) (hzG83 : rng (0) 2000 (G 83)) (hzG84 : rng (0) 2001 (G 84)) (hzG85 : rng (0) 4 (G 85)) (hzG87 : rng (0) 2001 (G 87)) (hzG88 : rng (0) 2000 (G 88)) (hzP82 : PB κ ln wd 5 100 0 2000 0 (P 82)) (hzLN : LN κ ln) (hk_this : κ this = 5) (hp0 : (∀ tx, (P 82) this = some tx → ((G 83) this).toInt ≤ ((ln tx : Nat) : Int))) (hp1 : ((G 84) this).toInt ≤ ((G 83) this).toInt + 1) : wp (f_X4_takeTo G P U V X O kd ln cnt this) (QC_X4_takeTo κ wd G P U V X O kd ln cnt this) := by
  unfold f_X4_takeTo
  have zk0 : (0 : Int32).toInt = 0 := by decide +kernel
  have zk1 : (1 : Int32).toInt = 1 := by decide +kernel
  obtain ⟨⟨c1_G84, c1_G85, c1_G86, c1_G87, c1_G88⟩, hc1, hq1⟩ := ok_X4_nextToken κ wd G P U V X O kd ln cnt this hzG83 hzG84 hzG85 hzG87 hzG88 hzP82 hzLN hk_this (show (∀ tx, (P 82) this = some tx → ((G 83) this).toInt ≤ ((ln tx : Nat) : Int)) from by assumption) (show ((G 84) this).toInt ≤ ((G 83) this).toInt + 1 from by omega)
  obtain ⟨hg1, hg2, hg3, hg4, f5, f6, f7, f8, f9⟩ : (rng (0) 2001 c1_G84) ∧ (rng (0) 4 c1_G85) ∧ (rng (0) 2001 c1_G87) ∧ (rng (0) 2000 c1_G88) ∧ ((c1_G85 this).toInt = 1 ∨ (c1_G85 this).toInt = 2 → (c1_G87 this).toInt + (c1_G88 this).toInt ≤ ((G 83) this).toInt) ∧ ((c1_G85 this).toInt = 2 → 1 ≤ (c1_G87 this).toInt ∧ (c1_G88 this).toInt ≤ 16) ∧ ((c1_G85 this).toInt = 1 → ((G 84) this).toInt + 1 ≤ (c1_G84 this).toInt) ∧ (((G 84) this).toInt ≤ (c1_G84 this).toInt) ∧ ((c1_G84 this).toInt ≤ ((G 83) this).toInt + 1) := hq1
  refine wp_b5 hc1 ?_
  clear hc1
  obtain ⟨r7, hc7, hq7⟩ := ok_X4_wordIs κ wd (va_up (va_up (va_up (va_up (va_up G 84 c1_G84) 85 c1_G85) 86 c1_G86) 87 c1_G87) 88 c1_G88) P U V X O kd ln cnt this 8 hg2 hg3 hg4 hzP82 hzLN hk_this (by decide) (show (∀ tx, (P 82) this = some tx → ((G 83) this).toInt ≤ ((ln tx : Nat) : Int)) from by assumption) (show ((c1_G85 this).toInt = 1 → (c1_G87 this).toInt + (c1_G88 this).toInt ≤ ((G 83) this).toInt) from by omega)
  obtain ⟨f10, f11⟩ : ((0 ≤ r7.toInt ∧ r7.toInt ≤ 1)) ∧ ((r7.toInt = 1 → (c1_G85 this).toInt = 1)) := hq7
  refine wp_b1 hc7 ?_
  clear hc7
  refine wp_jn (fun j26 => ∀ (t26_0 : Int32) (c26_G80 : Nat → Int32) (c26_G81 : Nat → Int32), (0 ≤ t26_0.toInt ∧ t26_0.toInt ≤ 1) → wp (j26 t26_0 c26_G80 c26_G81) (QC_X4_takeTo κ wd G P U V X O kd ln cnt this)) ?_ ?_
  · intro t26_0 c26_G80 c26_G81 f12
    show wp _ _
    refine wp_if ⟨by omega, by omega⟩ ?_
    exact ⟨_, rfl, ⟨hg1, hg2, hg3, hg4, (show 0 ≤ t26_0.toInt ∧ t26_0.toInt ≤ 1 from ⟨by omega, by omega⟩), (show ((G 84) this).toInt ≤ (c1_G84 this).toInt from by omega), (show (c1_G84 this).toInt ≤ ((G 83) this).toInt + 1 from by omega)⟩⟩
  intro j26 Jj26
  refine wp_jn (fun j21 => ∀ (c21_G80 : Nat → Int32) (c21_G81 : Nat → Int32), wp (j21 c21_G80 c21_G81) (QC_X4_takeTo κ wd G P U V X O kd ln cnt this)) ?_ ?_
  · intro c21_G80 c21_G81
    show wp _ _
    exact Jj26 (1 : Int32) c21_G80 c21_G81 (show (0 ≤ (1 : Int32).toInt ∧ (1 : Int32).toInt ≤ 1) from by omega)
  intro j21 Jj21
  refine wp_ite (fun c10 => ?_) (fun c10 => ?_)
  · have c10 := congrArg Int32.toInt c10
    obtain ⟨⟨r15, c15_G80, c15_G81⟩, hc15, hq15⟩ := ok_X4_blame κ wd (va_up (va_up (va_up (va_up (va_up G 84 c1_G84) 85 c1_G85) 86 c1_G86) 87 c1_G87) 88 c1_G88) P U V X O kd ln cnt this (1 : Int32) hzLN hk_this
    obtain ⟨f13, f14⟩ : ((0 ≤ r15.toInt ∧ r15.toInt ≤ 1)) ∧ (r15.toInt = 0) := hq15
    refine wp_b3 hc15 ?_
    clear hc15
    refine wp_ite (fun c18 => ?_) (fun c18 => ?_)
    · have c18 := congrArg Int32.toInt c18
      exact Jj26 (0 : Int32) c15_G80 c15_G81 (show (0 ≤ (0 : Int32).toInt ∧ (0 : Int32).toInt ≤ 1) from by omega)
    · have c18 := z_ne c18
      exact Jj21 c15_G80 c15_G81
  · have c10 := z_ne c10
    exact Jj21 (G 80) (G 81)
abbrev QC_X4_takeClose (κ : Nat → Nat) (wd : Nat) (G : Nat → Nat → Int32) (P : Nat → Nat → Option Nat) (U : Nat → Nat → Int64) (V : Nat → Nat → Nat → Int32) (X : Nat → Nat → Nat → Int64) (O : Nat → Nat → Nat → Option Nat) (kd : Nat → Nat) (ln : Nat → Nat) (cnt : Nat) (this : Nat) : (Int32 × (Nat → Int32) × (Nat → Int32) × (Nat → Int32) × (Nat → Int32) × (Nat → Int32) × (Nat → Int32) × (Nat → Int32)) → Prop := (fun t => (rng (0) 2001 (t.2.2.2.1)) ∧ (rng (0) 4 (t.2.2.2.2.1)) ∧ (rng (0) 2001 (t.2.2.2.2.2.2.1)) ∧ (rng (0) 2000 (t.2.2.2.2.2.2.2)) ∧ ((0 ≤ (t.1).toInt ∧ (t.1).toInt ≤ 1)) ∧ (((G 84) this).toInt ≤ ((t.2.2.2.1) this).toInt) ∧ (((t.2.2.2.1) this).toInt ≤ ((G 83) this).toInt + 1))
set_option maxHeartbeats 4000000 in
set_option maxRecDepth 100000 in
theorem ok_X4_takeClose (κ : Nat → Nat) (wd : Nat) (G : Nat → Nat → Int32) (P : Nat → Nat → Option Nat) (U : Nat → Nat → Int64) (V : Nat → Nat → Nat → Int32) (X : Nat → Nat → Nat → Int64) (O : Nat → Nat → Nat → Option Nat) (kd : Nat → Nat) (ln : Nat → Nat) (cnt : Nat) (this : Nat) (hzG83 : rng (0) 2000 (G 83)) (hzG84 : rng (0) 2001 (G 84)) (hzG85 : rng (0) 4 (G 85)) (hzG87 : rng (0) 2001 (G 87)) (hzG88 : rng (0) 2000 (G 88)) (hzP82 : PB κ ln wd 5 100 0 2000 0 (P 82)) (hzLN : LN κ ln) (hk_this : κ this = 5) (hp0 : (∀ tx, (P 82) this = some tx → ((G 83) this).toInt ≤ ((ln tx : Nat) : Int))) (hp1 : ((G 84) this).toInt ≤ ((G 83) this).toInt + 1) : wp (f_X4_takeClose G P U V X O kd ln cnt this) (QC_X4_takeClose κ wd G P U V X O kd ln cnt this) := by
  unfold f_X4_takeClose
  have zk0 : (0 : Int32).toInt = 0 := by decide +kernel
  have zk1 : (1 : Int32).toInt = 1 := by decide +kernel
  have zk3 : (3 : Int32).toInt = 3 := by decide +kernel
  obtain ⟨⟨c1_G84, c1_G85, c1_G86, c1_G87, c1_G88⟩, hc1, hq1⟩ := ok_X4_nextToken κ wd G P U V X O kd ln cnt this hzG83 hzG84 hzG85 hzG87 hzG88 hzP82 hzLN hk_this (show (∀ tx, (P 82) this = some tx → ((G 83) this).toInt ≤ ((ln tx : Nat) : Int)) from by assumption) (show ((G 84) this).toInt ≤ ((G 83) this).toInt + 1 from by omega)
  obtain ⟨hg1, hg2, hg3, hg4, f5, f6, f7, f8, f9⟩ : (rng (0) 2001 c1_G84) ∧ (rng (0) 4 c1_G85) ∧ (rng (0) 2001 c1_G87) ∧ (rng (0) 2000 c1_G88) ∧ ((c1_G85 this).toInt = 1 ∨ (c1_G85 this).toInt = 2 → (c1_G87 this).toInt + (c1_G88 this).toInt ≤ ((G 83) this).toInt) ∧ ((c1_G85 this).toInt = 2 → 1 ≤ (c1_G87 this).toInt ∧ (c1_G88 this).toInt ≤ 16) ∧ ((c1_G85 this).toInt = 1 → ((G 84) this).toInt + 1 ≤ (c1_G84 this).toInt) ∧ (((G 84) this).toInt ≤ (c1_G84 this).toInt) ∧ ((c1_G84 this).toInt ≤ ((G 83) this).toInt + 1) := hq1
  refine wp_b5 hc1 ?_
  clear hc1
  have b10 := hg2 this
  refine wp_jn (fun j25 => ∀ (t25_0 : Int32) (c25_G80 : Nat → Int32) (c25_G81 : Nat → Int32), (0 ≤ t25_0.toInt ∧ t25_0.toInt ≤ 1) → wp (j25 t25_0 c25_G80 c25_G81) (QC_X4_takeClose κ wd G P U V X O kd ln cnt this)) ?_ ?_
  · intro t25_0 c25_G80 c25_G81 f11
    show wp _ _
    refine wp_if ⟨by omega, by omega⟩ ?_
    exact ⟨_, rfl, ⟨hg1, hg2, hg3, hg4, (show 0 ≤ t25_0.toInt ∧ t25_0.toInt ≤ 1 from ⟨by omega, by omega⟩), (show ((G 84) this).toInt ≤ (c1_G84 this).toInt from by omega), (show (c1_G84 this).toInt ≤ ((G 83) this).toInt + 1 from by omega)⟩⟩
  intro j25 Jj25
  refine wp_jn (fun j20 => ∀ (c20_G80 : Nat → Int32) (c20_G81 : Nat → Int32), wp (j20 c20_G80 c20_G81) (QC_X4_takeClose κ wd G P U V X O kd ln cnt this)) ?_ ?_
  · intro c20_G80 c20_G81
    show wp _ _
    exact Jj25 (1 : Int32) c20_G80 c20_G81 (show (0 ≤ (1 : Int32).toInt ∧ (1 : Int32).toInt ≤ 1) from by omega)
  intro j20 Jj20
  refine wp_ite (fun c9 => ?_) (fun c9 => ?_)
  · have c9 := congrArg Int32.toInt c9
    exact Jj20 (G 80) (G 81)
  · have c9 := z_ne c9
    obtain ⟨⟨r14, c14_G80, c14_G81⟩, hc14, hq14⟩ := ok_X4_blame κ wd (va_up (va_up (va_up (va_up (va_up G 84 c1_G84) 85 c1_G85) 86 c1_G86) 87 c1_G87) 88 c1_G88) P U V X O kd ln cnt this (1 : Int32) hzLN hk_this
    obtain ⟨f12, f13⟩ : ((0 ≤ r14.toInt ∧ r14.toInt ≤ 1)) ∧ (r14.toInt = 0) := hq14
    refine wp_b3 hc14 ?_
    clear hc14
    refine wp_ite (fun c17 => ?_) (fun c17 => ?_)
    · have c17 := congrArg Int32.toInt c17
      exact Jj25 (0 : Int32) c14_G80 c14_G81 (show (0 ≤ (0 : Int32).toInt ∧ (0 : Int32).toInt ≤ 1) from by omega)
    · have c17 := z_ne c17
      exact Jj20 c14_G80 c14_G81
abbrev QC_X4_readKeep (κ : Nat → Nat) (wd : Nat) (G : Nat → Nat → Int32) (P : Nat → Nat → Option Nat) (U : Nat → Nat → Int64) (V : Nat → Nat → Nat → Int32) (X : Nat → Nat → Nat → Int64) (O : Nat → Nat → Nat → Option Nat) (kd : Nat → Nat) (ln : Nat → Nat) (cnt : Nat) (this : Nat) (p0 : Nat) : ((Nat → Int32) × (Nat → Int32) × (Nat → Int32) × (Nat → Int32) × (Nat → Int32) × (Nat → Int32) × (Nat → Int32) × (Nat → Int32) × (Nat → Int32) × (Nat → Nat → Int32) × (Nat → Nat → Int32) × (Nat → Nat → Int32)) → Prop := (fun t => (rng (0) 2001 (t.2.2.1)) ∧ (rng (0) 4 (t.2.2.2.1)) ∧ (rng (0) 2001 (t.2.2.2.2.2.1)) ∧ (rng (0) 2000 (t.2.2.2.2.2.2.1)) ∧ (rng (0) 100 (t.2.2.2.2.2.2.2.2.1)) ∧ (rng2 (0) 24 (t.2.2.2.2.2.2.2.2.2.2.1)) ∧ (RB κ ln (G 200) (t.2.2.2.2.2.2.2.2.1) (P 202) (t.2.2.2.2.2.2.2.2.2.2.1)) ∧ (((G 84) this).toInt ≤ ((t.2.2.1) this).toInt) ∧ ((t.2.2.2.2.2.2.2.2.1) wd = (G 203) wd) ∧ (((t.2.2.1) this).toInt ≤ ((G 83) this).toInt + 1))
set_option maxHeartbeats 4000000 in
set_option maxRecDepth 100000 in
theorem ok_X4_readKeep (κ : Nat → Nat) (wd : Nat) (G : Nat → Nat → Int32) (P : Nat → Nat → Option Nat) (U : Nat → Nat → Int64) (V : Nat → Nat → Nat → Int32) (X : Nat → Nat → Nat → Int64) (O : Nat → Nat → Nat → Option Nat) (kd : Nat → Nat) (ln : Nat → Nat) (cnt : Nat) (this : Nat) (p0 : Nat) (hzG83 : rng (0) 2000 (G 83)) (hzG84 : rng (0) 2001 (G 84)) (hzG85 : rng (0) 4 (G 85)) (hzG87 : rng (0) 2001 (G 87)) (hzG88 : rng (0) 2000 (G 88)) (hzG200 : rng (0) 24 (G 200)) (hzG203 : rng (0) 100 (G 203)) (hzP82 : PB κ ln wd 5 100 0 2000 0 (P 82)) (hzP104 : PB κ ln wd 6 11 0 2500 1 (P 104)) (hzP105 : PB κ ln wd 6 11 0 2500 1 (P 105)) (hzP106 : PB κ ln wd 6 110 40 40 0 (P 106)) (hzP201 : PB κ ln wd 11 100 0 2400 0 (P 201)) (hzP202 : PB κ ln wd 11 101 0 100 0 (P 202)) (hzV1 : rng2 (0) 24 (V 1)) (hzRA : RA κ ln (G 200) (P 201) (P 202)) (hzRB : RB κ ln (G 200) (G 203) (P 202) (V 1)) (hzRI : RI (P 202)) (hzRM104 : RM ln 40 (P 104) (P 202)) (hzLN : LN κ ln) (hk_this : κ this = 5) (hk_p0 : κ p0 = 6) (hp0 : (∀ tx, (P 82) this = some tx → ((G 83) this).toInt ≤ ((ln tx : Nat) : Int))) (hp1 : ((G 84) this).toInt ≤ ((G 83) this).toInt + 1) : wp (f_X4_readKeep G P U V X O kd ln cnt this p0) (QC_X4_readKeep κ wd G P U V X O kd ln cnt this p0) := by
  unfold f_X4_readKeep
  have zk0 : (0 : Int32).toInt = 0 := by decide +kernel
  have zk1 : (1 : Int32).toInt = 1 := by decide +kernel
  refine wp_nn ((hzP104 p0).1 hk_p0) (fun a2 hn_a2 => ?_)
  have hk_a2 := ((hzP104 p0).2 a2 hn_a2).1
  have hl1_a2 := ((hzP104 p0).2 a2 hn_a2).2.1
  have hl2_a2 := ((hzP104 p0).2 a2 hn_a2).2.2.1
  have hw_a2 := ((hzP104 p0).2 a2 hn_a2).2.2.2
  obtain ⟨r5, hc5, hq5⟩ := ok_X10_isFull κ wd G P U V X O kd ln cnt a2 hzG200 hzG203 hzP201 hzP202 hzV1 hzRA hzRB hzRI hzLN hk_a2
  obtain ⟨f1, f2⟩ : ((0 ≤ r5.toInt ∧ r5.toInt ≤ 1)) ∧ ((∀ s, (P 202) a2 = some s → r5.toInt = 0 → ((G 203) a2).toInt < ((ln s : Nat) : Int))) := hq5
  refine wp_b1 hc5 ?_
  clear hc5
  refine wp_jn (fun j16 => ∀ (t16_0 : Int32), wp (j16 t16_0) (QC_X4_readKeep κ wd G P U V X O kd ln cnt this p0)) ?_ ?_
  · intro t16_0
    show wp _ _
    obtain ⟨⟨r16, c16_G80, c16_G81⟩, hc16, hq16⟩ := ok_X4_hasRoom κ wd G P U V X O kd ln cnt this t16_0 hzLN hk_this
    have f3 : (0 ≤ r16.toInt ∧ r16.toInt ≤ 1) := hq16
    refine wp_b3 hc16 ?_
    clear hc16
    refine wp_jn (fun j54 => ∀ (c54_G80 : Nat → Int32) (c54_G81 : Nat → Int32) (c54_G84 : Nat → Int32) (c54_G85 : Nat → Int32) (c54_G86 : Nat → Int32) (c54_G87 : Nat → Int32) (c54_G88 : Nat → Int32) (c54_G107 : Nat → Int32) (c54_G203 : Nat → Int32) (c54_V0 : Nat → Nat → Int32) (c54_V1 : Nat → Nat → Int32) (c54_V10 : Nat → Nat → Int32), rng (0) 2001 c54_G84 → rng (0) 4 c54_G85 → rng (0) 2001 c54_G87 → rng (0) 2000 c54_G88 → rng (0) 100 c54_G203 → rng2 (0) 24 c54_V1 → RB κ ln (G 200) c54_G203 (P 202) c54_V1 → ((G 84) this).toInt ≤ (c54_G84 this).toInt → (c54_G84 this).toInt ≤ ((G 83) this).toInt + 1 → c54_G203 wd = (G 203) wd → wp (j54 c54_G80 c54_G81 c54_G84 c54_G85 c54_G86 c54_G87 c54_G88 c54_G107 c54_G203 c54_V0 c54_V1 c54_V10) (QC_X4_readKeep κ wd G P U V X O kd ln cnt this p0)) ?_ ?_
    · intro c54_G80 c54_G81 c54_G84 c54_G85 c54_G86 c54_G87 c54_G88 c54_G107 c54_G203 c54_V0 c54_V1 c54_V10 hg4 hg5 hg6 hg7 hg8 hg9 hRB10 f11 f12 f13
      show wp _ _
      exact ⟨_, rfl, ⟨hg4, hg5, hg6, hg7, hg8, hg9, hRB10, (show ((G 84) this).toInt ≤ (c54_G84 this).toInt from by omega), (show c54_G203 wd = (G 203) wd from by assumption), (show (c54_G84 this).toInt ≤ ((G 83) this).toInt + 1 from by omega)⟩⟩
    intro j54 Jj54
    refine wp_ite (fun c19 => ?_) (fun c19 => ?_)
    · have c19 := congrArg Int32.toInt c19
      exact Jj54 c16_G80 c16_G81 (G 84) (G 85) (G 86) (G 87) (G 88) (G 107) (G 203) (V 0) (V 1) (V 10) hzG84 hzG85 hzG87 hzG88 hzG203 hzV1 hzRB (show ((G 84) this).toInt ≤ ((G 84) this).toInt from by first | omega | rfl | assumption) (show ((G 84) this).toInt ≤ ((G 83) this).toInt + 1 from by first | omega | rfl | assumption) (show (G 203) wd = (G 203) wd from by first | rfl | assumption | omega)
    · have c19 := z_ne c19
      refine wp_nne hn_a2 ?_
      obtain ⟨⟨r27, c27_G80, c27_G81, c27_G84, c27_G85, c27_G86, c27_G87, c27_G88⟩, hc27, hq27⟩ := ok_X4_takeNew κ wd (va_up (va_up G 80 c16_G80) 81 c16_G81) P U V X O kd ln cnt this a2 hzG83 hzG84 hzG85 hzG87 hzG88 hzG200 hzG203 hzP82 hzP201 hzP202 hzV1 hzRA hzRB hzRI hzLN hk_this hk_a2 (show (∀ tx, (P 82) this = some tx → ((G 83) this).toInt ≤ ((ln tx : Nat) : Int)) from by assumption) (show ((G 84) this).toInt ≤ ((G 83) this).toInt + 1 from by omega)
      obtain ⟨hg14, hg15, hg16, hg17, f18, f19, f20⟩ : (rng (0) 2001 c27_G84) ∧ (rng (0) 4 c27_G85) ∧ (rng (0) 2001 c27_G87) ∧ (rng (0) 2000 c27_G88) ∧ ((0 ≤ r27.toInt ∧ r27.toInt ≤ 1)) ∧ (((G 84) this).toInt ≤ (c27_G84 this).toInt) ∧ ((c27_G84 this).toInt ≤ ((G 83) this).toInt + 1) := hq27
      refine wp_b8 hc27 ?_
      clear hc27
      refine wp_ite (fun c30 => ?_) (fun c30 => ?_)
      · have c30 := congrArg Int32.toInt c30
        exact Jj54 c27_G80 c27_G81 c27_G84 c27_G85 c27_G86 c27_G87 c27_G88 (G 107) (G 203) (V 0) (V 1) (V 10) hg14 hg15 hg16 hg17 hzG203 hzV1 hzRB (show ((G 84) this).toInt ≤ (c27_G84 this).toInt from by first | omega | rfl | assumption) (show (c27_G84 this).toInt ≤ ((G 83) this).toInt + 1 from by first | omega | rfl | assumption) (show (G 203) wd = (G 203) wd from by first | rfl | assumption | omega)
      · have c30 := z_ne c30
        refine wp_nn ((hzP82 this).1 hk_this) (fun a35 hn_a35 => ?_)
        have hk_a35 := ((hzP82 this).2 a35 hn_a35).1
        have hl1_a35 := ((hzP82 this).2 a35 hn_a35).2.1
        have hl2_a35 := ((hzP82 this).2 a35 hn_a35).2.2.1
        have hw_a35 := ((hzP82 this).2 a35 hn_a35).2.2.2
        have hz_a35 : (Int32.ofNat (ln a35)).toInt = ((ln a35 : Nat) : Int) := ofN_eq (by first | exact Nat.le_trans hl2_a35 (by decide) | omega)
        have b21 := hg16 this
        have b22 := hg17 this
        obtain ⟨⟨c46_G107, c46_G203, c46_V0, c46_V1, c46_V10⟩, hc46, hq46⟩ := ok_X5_addKept κ wd (va_up (va_up (va_up (va_up (va_up (va_up (va_up (va_up (va_up G 80 c16_G80) 81 c16_G81) 80 c27_G80) 81 c27_G81) 84 c27_G84) 85 c27_G85) 86 c27_G86) 87 c27_G87) 88 c27_G88) P U V X O kd ln cnt p0 a35 (c27_G87 this) (c27_G88 this) hzG200 hzG203 hzP104 hzP105 hzP106 hzP201 hzP202 hzV1 hzRA hzRB hzRI hzRM104 hzLN hk_p0 hk_a35
        obtain ⟨hg23, hg24, hRB25, f26⟩ : (rng (0) 100 c46_G203) ∧ (rng2 (0) 24 c46_V1) ∧ (RB κ ln (G 200) c46_G203 (P 202) c46_V1) ∧ (c46_G203 wd = (G 203) wd) := hq46
        refine wp_b5 hc46 ?_
        clear hc46
        obtain ⟨⟨r50, c50_G80, c50_G81, c50_G84, c50_G85, c50_G86, c50_G87, c50_G88⟩, hc50, hq50⟩ := ok_X4_takeClose κ wd (va_up (va_up (va_up (va_up (va_up (va_up (va_up (va_up (va_up (va_up (va_up G 80 c16_G80) 81 c16_G81) 80 c27_G80) 81 c27_G81) 84 c27_G84) 85 c27_G85) 86 c27_G86) 87 c27_G87) 88 c27_G88) 107 c46_G107) 203 c46_G203) P U (va_up (va_up (va_up V 0 c46_V0) 1 c46_V1) 10 c46_V10) X O kd ln cnt this hzG83 hg14 hg15 hg16 hg17 hzP82 hzLN hk_this (show (∀ tx, (P 82) this = some tx → ((G 83) this).toInt ≤ ((ln tx : Nat) : Int)) from by assumption) (show (c27_G84 this).toInt ≤ ((G 83) this).toInt + 1 from by omega)
        obtain ⟨hg27, hg28, hg29, hg30, f31, f32, f33⟩ : (rng (0) 2001 c50_G84) ∧ (rng (0) 4 c50_G85) ∧ (rng (0) 2001 c50_G87) ∧ (rng (0) 2000 c50_G88) ∧ ((0 ≤ r50.toInt ∧ r50.toInt ≤ 1)) ∧ ((c27_G84 this).toInt ≤ (c50_G84 this).toInt) ∧ ((c50_G84 this).toInt ≤ ((G 83) this).toInt + 1) := hq50
        refine wp_b8 hc50 ?_
        clear hc50
        exact Jj54 c50_G80 c50_G81 c50_G84 c50_G85 c50_G86 c50_G87 c50_G88 c46_G107 c46_G203 c46_V0 c46_V1 c46_V10 hg27 hg28 hg29 hg30 hg23 hg24 hRB25 (show ((G 84) this).toInt ≤ (c50_G84 this).toInt from by first | omega | rfl | assumption) (show (c50_G84 this).toInt ≤ ((G 83) this).toInt + 1 from by first | omega | rfl | assumption) (show c46_G203 wd = (G 203) wd from by first | rfl | assumption | omega)
  intro j16 Jj16
  refine wp_ite (fun c8 => ?_) (fun c8 => ?_)
  · have c8 := congrArg Int32.toInt c8
    exact Jj16 (1 : Int32)
  · have c8 := z_ne c8
    exact Jj16 (0 : Int32)
abbrev QC_X4_readPart (κ : Nat → Nat) (wd : Nat) (G : Nat → Nat → Int32) (P : Nat → Nat → Option Nat) (U : Nat → Nat → Int64) (V : Nat → Nat → Nat → Int32) (X : Nat → Nat → Nat → Int64) (O : Nat → Nat → Nat → Option Nat) (kd : Nat → Nat) (ln : Nat → Nat) (cnt : Nat) (this : Nat) (p0 : Nat) : ((Nat → Int32) × (Nat → Int32) × (Nat → Int32) × (Nat → Int32) × (Nat → Int32) × (Nat → Int32) × (Nat → Int32) × (Nat → Int32) × (Nat → Nat → Int32) × (Nat → Nat → Int32)) → Prop := (fun t => (rng (0) 2001 (t.2.2.1)) ∧ (rng (0) 4 (t.2.2.2.1)) ∧ (rng (0) 2001 (t.2.2.2.2.2.1)) ∧ (rng (0) 2000 (t.2.2.2.2.2.2.1)) ∧ (rng (0) 100 (t.2.2.2.2.2.2.2.1)) ∧ (rng2 (0) 24 (t.2.2.2.2.2.2.2.2.2)) ∧ (RB κ ln (G 200) (t.2.2.2.2.2.2.2.1) (P 202) (t.2.2.2.2.2.2.2.2.2)) ∧ (((G 84) this).toInt ≤ ((t.2.2.1) this).toInt) ∧ ((t.2.2.2.2.2.2.2.1) wd = (G 203) wd) ∧ (((t.2.2.1) this).toInt ≤ ((G 83) this).toInt + 1))
set_option maxHeartbeats 4000000 in
set_option maxRecDepth 100000 in
theorem ok_X4_readPart (κ : Nat → Nat) (wd : Nat) (G : Nat → Nat → Int32) (P : Nat → Nat → Option Nat) (U : Nat → Nat → Int64) (V : Nat → Nat → Nat → Int32) (X : Nat → Nat → Nat → Int64) (O : Nat → Nat → Nat → Option Nat) (kd : Nat → Nat) (ln : Nat → Nat) (cnt : Nat) (this : Nat) (p0 : Nat) (hzG83 : rng (0) 2000 (G 83)) (hzG84 : rng (0) 2001 (G 84)) (hzG85 : rng (0) 4 (G 85)) (hzG87 : rng (0) 2001 (G 87)) (hzG88 : rng (0) 2000 (G 88)) (hzG200 : rng (0) 24 (G 200)) (hzG203 : rng (0) 100 (G 203)) (hzP82 : PB κ ln wd 5 100 0 2000 0 (P 82)) (hzP103 : PB κ ln wd 6 11 0 2500 1 (P 103)) (hzP201 : PB κ ln wd 11 100 0 2400 0 (P 201)) (hzP202 : PB κ ln wd 11 101 0 100 0 (P 202)) (hzV1 : rng2 (0) 24 (V 1)) (hzRA : RA κ ln (G 200) (P 201) (P 202)) (hzRB : RB κ ln (G 200) (G 203) (P 202) (V 1)) (hzRI : RI (P 202)) (hzRM103 : RM ln 40 (P 103) (P 202)) (hzLN : LN κ ln) (hk_this : κ this = 5) (hk_p0 : κ p0 = 6) (hp0 : (∀ tx, (P 82) this = some tx → ((G 83) this).toInt ≤ ((ln tx : Nat) : Int))) (hp1 : ((G 84) this).toInt ≤ ((G 83) this).toInt + 1) : wp (f_X4_readPart G P U V X O kd ln cnt this p0) (QC_X4_readPart κ wd G P U V X O kd ln cnt this p0) := by
  unfold f_X4_readPart
  have zk0 : (0 : Int32).toInt = 0 := by decide +kernel
  have zk1 : (1 : Int32).toInt = 1 := by decide +kernel
  refine wp_nn ((hzP103 p0).1 hk_p0) (fun a2 hn_a2 => ?_)
  have hk_a2 := ((hzP103 p0).2 a2 hn_a2).1
  have hl1_a2 := ((hzP103 p0).2 a2 hn_a2).2.1
  have hl2_a2 := ((hzP103 p0).2 a2 hn_a2).2.2.1
  have hw_a2 := ((hzP103 p0).2 a2 hn_a2).2.2.2
  obtain ⟨r5, hc5, hq5⟩ := ok_X10_isFull κ wd G P U V X O kd ln cnt a2 hzG200 hzG203 hzP201 hzP202 hzV1 hzRA hzRB hzRI hzLN hk_a2
  obtain ⟨f1, f2⟩ : ((0 ≤ r5.toInt ∧ r5.toInt ≤ 1)) ∧ ((∀ s, (P 202) a2 = some s → r5.toInt = 0 → ((G 203) a2).toInt < ((ln s : Nat) : Int))) := hq5
  refine wp_b1 hc5 ?_
  clear hc5
  refine wp_jn (fun j16 => ∀ (t16_0 : Int32), wp (j16 t16_0) (QC_X4_readPart κ wd G P U V X O kd ln cnt this p0)) ?_ ?_
  · intro t16_0
    show wp _ _
    obtain ⟨⟨r16, c16_G80, c16_G81⟩, hc16, hq16⟩ := ok_X4_hasRoom κ wd G P U V X O kd ln cnt this t16_0 hzLN hk_this
    have f3 : (0 ≤ r16.toInt ∧ r16.toInt ≤ 1) := hq16
    refine wp_b3 hc16 ?_
    clear hc16
    refine wp_jn (fun j57 => ∀ (c57_G80 : Nat → Int32) (c57_G81 : Nat → Int32) (c57_G84 : Nat → Int32) (c57_G85 : Nat → Int32) (c57_G86 : Nat → Int32) (c57_G87 : Nat → Int32) (c57_G88 : Nat → Int32) (c57_G203 : Nat → Int32) (c57_V0 : Nat → Nat → Int32) (c57_V1 : Nat → Nat → Int32), rng (0) 2001 c57_G84 → rng (0) 4 c57_G85 → rng (0) 2001 c57_G87 → rng (0) 2000 c57_G88 → rng (0) 100 c57_G203 → rng2 (0) 24 c57_V1 → RB κ ln (G 200) c57_G203 (P 202) c57_V1 → ((G 84) this).toInt ≤ (c57_G84 this).toInt → (c57_G84 this).toInt ≤ ((G 83) this).toInt + 1 → c57_G203 wd = (G 203) wd → wp (j57 c57_G80 c57_G81 c57_G84 c57_G85 c57_G86 c57_G87 c57_G88 c57_G203 c57_V0 c57_V1) (QC_X4_readPart κ wd G P U V X O kd ln cnt this p0)) ?_ ?_
    · intro c57_G80 c57_G81 c57_G84 c57_G85 c57_G86 c57_G87 c57_G88 c57_G203 c57_V0 c57_V1 hg4 hg5 hg6 hg7 hg8 hg9 hRB10 f11 f12 f13
      show wp _ _
      exact ⟨_, rfl, ⟨hg4, hg5, hg6, hg7, hg8, hg9, hRB10, (show ((G 84) this).toInt ≤ (c57_G84 this).toInt from by omega), (show c57_G203 wd = (G 203) wd from by assumption), (show (c57_G84 this).toInt ≤ ((G 83) this).toInt + 1 from by omega)⟩⟩
    intro j57 Jj57
    refine wp_ite (fun c19 => ?_) (fun c19 => ?_)
    · have c19 := congrArg Int32.toInt c19
      exact Jj57 c16_G80 c16_G81 (G 84) (G 85) (G 86) (G 87) (G 88) (G 203) (V 0) (V 1) hzG84 hzG85 hzG87 hzG88 hzG203 hzV1 hzRB (show ((G 84) this).toInt ≤ ((G 84) this).toInt from by first | omega | rfl | assumption) (show ((G 84) this).toInt ≤ ((G 83) this).toInt + 1 from by first | omega | rfl | assumption) (show (G 203) wd = (G 203) wd from by first | rfl | assumption | omega)
    · have c19 := z_ne c19
      refine wp_nne hn_a2 ?_
      obtain ⟨⟨r27, c27_G80, c27_G81, c27_G84, c27_G85, c27_G86, c27_G87, c27_G88⟩, hc27, hq27⟩ := ok_X4_takeNew κ wd (va_up (va_up G 80 c16_G80) 81 c16_G81) P U V X O kd ln cnt this a2 hzG83 hzG84 hzG85 hzG87 hzG88 hzG200 hzG203 hzP82 hzP201 hzP202 hzV1 hzRA hzRB hzRI hzLN hk_this hk_a2 (show (∀ tx, (P 82) this = some tx → ((G 83) this).toInt ≤ ((ln tx : Nat) : Int)) from by assumption) (show ((G 84) this).toInt ≤ ((G 83) this).toInt + 1 from by omega)
      obtain ⟨hg14, hg15, hg16, hg17, f18, f19, f20⟩ : (rng (0) 2001 c27_G84) ∧ (rng (0) 4 c27_G85) ∧ (rng (0) 2001 c27_G87) ∧ (rng (0) 2000 c27_G88) ∧ ((0 ≤ r27.toInt ∧ r27.toInt ≤ 1)) ∧ (((G 84) this).toInt ≤ (c27_G84 this).toInt) ∧ ((c27_G84 this).toInt ≤ ((G 83) this).toInt + 1) := hq27
      refine wp_b8 hc27 ?_
      clear hc27
      refine wp_ite (fun c30 => ?_) (fun c30 => ?_)
      · have c30 := congrArg Int32.toInt c30
        exact Jj57 c27_G80 c27_G81 c27_G84 c27_G85 c27_G86 c27_G87 c27_G88 (G 203) (V 0) (V 1) hg14 hg15 hg16 hg17 hzG203 hzV1 hzRB (show ((G 84) this).toInt ≤ (c27_G84 this).toInt from by first | omega | rfl | assumption) (show (c27_G84 this).toInt ≤ ((G 83) this).toInt + 1 from by first | omega | rfl | assumption) (show (G 203) wd = (G 203) wd from by first | rfl | assumption | omega)
      · have c30 := z_ne c30
        refine wp_nne hn_a2 ?_
        refine wp_nn ((hzP82 this).1 hk_this) (fun a38 hn_a38 => ?_)
        have hk_a38 := ((hzP82 this).2 a38 hn_a38).1
        have hl1_a38 := ((hzP82 this).2 a38 hn_a38).2.1
        have hl2_a38 := ((hzP82 this).2 a38 hn_a38).2.2.1
        have hw_a38 := ((hzP82 this).2 a38 hn_a38).2.2.2
        have hz_a38 : (Int32.ofNat (ln a38)).toInt = ((ln a38 : Nat) : Int) := ofN_eq (by first | exact Nat.le_trans hl2_a38 (by decide) | omega)
        have b21 := hg16 this
        have b22 := hg17 this
        obtain ⟨⟨c49_G203, c49_V0, c49_V1⟩, hc49, hq49⟩ := ok_X10_add κ wd (va_up (va_up (va_up (va_up (va_up (va_up (va_up (va_up (va_up G 80 c16_G80) 81 c16_G81) 80 c27_G80) 81 c27_G81) 84 c27_G84) 85 c27_G85) 86 c27_G86) 87 c27_G87) 88 c27_G88) P U V X O kd ln cnt a2 a38 (c27_G87 this) (c27_G88 this) hzG200 hzG203 hzP201 hzP202 hzV1 hzRA hzRB hzRI hzLN hk_a2 hk_a38
        obtain ⟨hg23, hg24, hRB25, f26, f27⟩ : (rng (0) 100 c49_G203) ∧ (rng2 (0) 24 c49_V1) ∧ (RB κ ln (G 200) c49_G203 (P 202) c49_V1) ∧ ((a2 ≠ wd → c49_G203 wd = (G 203) wd)) ∧ (((G 203) a2).toInt ≤ (c49_G203 a2).toInt) := hq49
        refine wp_b3 hc49 ?_
        clear hc49
        have hgw := f26 (hw_a2 rfl)
        obtain ⟨⟨r53, c53_G80, c53_G81, c53_G84, c53_G85, c53_G86, c53_G87, c53_G88⟩, hc53, hq53⟩ := ok_X4_takeClose κ wd (va_up (va_up (va_up (va_up (va_up (va_up (va_up (va_up (va_up (va_up G 80 c16_G80) 81 c16_G81) 80 c27_G80) 81 c27_G81) 84 c27_G84) 85 c27_G85) 86 c27_G86) 87 c27_G87) 88 c27_G88) 203 c49_G203) P U (va_up (va_up V 0 c49_V0) 1 c49_V1) X O kd ln cnt this hzG83 hg14 hg15 hg16 hg17 hzP82 hzLN hk_this (show (∀ tx, (P 82) this = some tx → ((G 83) this).toInt ≤ ((ln tx : Nat) : Int)) from by assumption) (show (c27_G84 this).toInt ≤ ((G 83) this).toInt + 1 from by omega)
        obtain ⟨hg28, hg29, hg30, hg31, f32, f33, f34⟩ : (rng (0) 2001 c53_G84) ∧ (rng (0) 4 c53_G85) ∧ (rng (0) 2001 c53_G87) ∧ (rng (0) 2000 c53_G88) ∧ ((0 ≤ r53.toInt ∧ r53.toInt ≤ 1)) ∧ ((c27_G84 this).toInt ≤ (c53_G84 this).toInt) ∧ ((c53_G84 this).toInt ≤ ((G 83) this).toInt + 1) := hq53
        refine wp_b8 hc53 ?_
        clear hc53
        exact Jj57 c53_G80 c53_G81 c53_G84 c53_G85 c53_G86 c53_G87 c53_G88 c49_G203 c49_V0 c49_V1 hg28 hg29 hg30 hg31 hg23 hg24 hRB25 (show ((G 84) this).toInt ≤ (c53_G84 this).toInt from by first | omega | rfl | assumption) (show (c53_G84 this).toInt ≤ ((G 83) this).toInt + 1 from by first | omega | rfl | assumption) (show c49_G203 wd = (G 203) wd from by first | rfl | assumption | omega)
  intro j16 Jj16
  refine wp_ite (fun c8 => ?_) (fun c8 => ?_)
  · have c8 := congrArg Int32.toInt c8
    exact Jj16 (1 : Int32)
  · have c8 := z_ne c8
    exact Jj16 (0 : Int32)
abbrev QC_X4_readList (κ : Nat → Nat) (wd : Nat) (G : Nat → Nat → Int32) (P : Nat → Nat → Option Nat) (U : Nat → Nat → Int64) (V : Nat → Nat → Nat → Int32) (X : Nat → Nat → Nat → Int64) (O : Nat → Nat → Nat → Option Nat) (kd : Nat → Nat) (ln : Nat → Nat) (cnt : Nat) (this : Nat) (p0 : Nat) : ((Nat → Int32) × (Nat → Int32) × (Nat → Int32) × (Nat → Int32) × (Nat → Int32) × (Nat → Int32) × (Nat → Int32) × (Nat → Int32) × (Nat → Int32) × (Nat → Nat → Int32) × (Nat → Nat → Int32) × (Nat → Nat → Int32)) → Prop := (fun t => (rng (0) 2001 (t.2.2.1)) ∧ (rng (0) 4 (t.2.2.2.1)) ∧ (rng (0) 2001 (t.2.2.2.2.2.1)) ∧ (rng (0) 2000 (t.2.2.2.2.2.2.1)) ∧ (rng (0) 100 (t.2.2.2.2.2.2.2.2.1)) ∧ (rng2 (0) 24 (t.2.2.2.2.2.2.2.2.2.2.1)) ∧ (RB κ ln (G 200) (t.2.2.2.2.2.2.2.2.1) (P 202) (t.2.2.2.2.2.2.2.2.2.2.1)) ∧ (((G 84) this).toInt ≤ ((t.2.2.1) this).toInt) ∧ ((t.2.2.2.2.2.2.2.2.1) wd = (G 203) wd) ∧ (((t.2.2.1) this).toInt ≤ ((G 83) this).toInt + 1))
set_option maxHeartbeats 4000000 in
set_option maxRecDepth 100000 in
theorem ok_X4_readList (κ : Nat → Nat) (wd : Nat) (G : Nat → Nat → Int32) (P : Nat → Nat → Option Nat) (U : Nat → Nat → Int64) (V : Nat → Nat → Nat → Int32) (X : Nat → Nat → Nat → Int64) (O : Nat → Nat → Nat → Option Nat) (kd : Nat → Nat) (ln : Nat → Nat) (cnt : Nat) (this : Nat) (p0 : Nat) (hzG83 : rng (0) 2000 (G 83)) (hzG84 : rng (0) 2001 (G 84)) (hzG85 : rng (0) 4 (G 85)) (hzG87 : rng (0) 2001 (G 87)) (hzG88 : rng (0) 2000 (G 88)) (hzG200 : rng (0) 24 (G 200)) (hzG203 : rng (0) 100 (G 203)) (hzP82 : PB κ ln wd 5 100 0 2000 0 (P 82)) (hzP104 : PB κ ln wd 6 11 0 2500 1 (P 104)) (hzP105 : PB κ ln wd 6 11 0 2500 1 (P 105)) (hzP106 : PB κ ln wd 6 110 40 40 0 (P 106)) (hzP201 : PB κ ln wd 11 100 0 2400 0 (P 201)) (hzP202 : PB κ ln wd 11 101 0 100 0 (P 202)) (hzV1 : rng2 (0) 24 (V 1)) (hzRA : RA κ ln (G 200) (P 201) (P 202)) (hzRB : RB κ ln (G 200) (G 203) (P 202) (V 1)) (hzRI : RI (P 202)) (hzRM104 : RM ln 40 (P 104) (P 202)) (hzLN : LN κ ln) (hk_this : κ this = 5) (hk_p0 : κ p0 = 6) (hp0 : (∀ tx, (P 82) this = some tx → ((G 83) this).toInt ≤ ((ln tx : Nat) : Int))) (hp1 : ((G 84) this).toInt ≤ ((G 83) this).toInt + 1) : wp (f_X4_readList G P U V X O kd ln cnt this p0) (QC_X4_readList κ wd G P U V X O kd ln cnt this p0) := by
  unfold f_X4_readList
  have zk0 : (0 : Int32).toInt = 0 := by decide +kernel
  have zk1 : (1 : Int32).toInt = 1 := by decide +kernel
  refine wp_nn ((hzP104 p0).1 hk_p0) (fun a2 hn_a2 => ?_)
  have hk_a2 := ((hzP104 p0).2 a2 hn_a2).1
  have hl1_a2 := ((hzP104 p0).2 a2 hn_a2).2.1
  have hl2_a2 := ((hzP104 p0).2 a2 hn_a2).2.2.1
  have hw_a2 := ((hzP104 p0).2 a2 hn_a2).2.2.2
  obtain ⟨r5, hc5, hq5⟩ := ok_X10_isFull κ wd G P U V X O kd ln cnt a2 hzG200 hzG203 hzP201 hzP202 hzV1 hzRA hzRB hzRI hzLN hk_a2
  obtain ⟨f1, f2⟩ : ((0 ≤ r5.toInt ∧ r5.toInt ≤ 1)) ∧ ((∀ s, (P 202) a2 = some s → r5.toInt = 0 → ((G 203) a2).toInt < ((ln s : Nat) : Int))) := hq5
  refine wp_b1 hc5 ?_
  clear hc5
  refine wp_jn (fun j16 => ∀ (t16_0 : Int32), wp (j16 t16_0) (QC_X4_readList κ wd G P U V X O kd ln cnt this p0)) ?_ ?_
  · intro t16_0
    show wp _ _
    obtain ⟨⟨r16, c16_G80, c16_G81⟩, hc16, hq16⟩ := ok_X4_hasRoom κ wd G P U V X O kd ln cnt this t16_0 hzLN hk_this
    have f3 : (0 ≤ r16.toInt ∧ r16.toInt ≤ 1) := hq16
    refine wp_b3 hc16 ?_
    clear hc16
    refine wp_jn (fun j88 => ∀ (c88_G80 : Nat → Int32) (c88_G81 : Nat → Int32) (c88_G84 : Nat → Int32) (c88_G85 : Nat → Int32) (c88_G86 : Nat → Int32) (c88_G87 : Nat → Int32) (c88_G88 : Nat → Int32) (c88_G107 : Nat → Int32) (c88_G203 : Nat → Int32) (c88_V0 : Nat → Nat → Int32) (c88_V1 : Nat → Nat → Int32) (c88_V10 : Nat → Nat → Int32), rng (0) 2001 c88_G84 → rng (0) 4 c88_G85 → rng (0) 2001 c88_G87 → rng (0) 2000 c88_G88 → rng (0) 100 c88_G203 → rng2 (0) 24 c88_V1 → RB κ ln (G 200) c88_G203 (P 202) c88_V1 → ((G 84) this).toInt ≤ (c88_G84 this).toInt → (c88_G84 this).toInt ≤ ((G 83) this).toInt + 1 → c88_G203 wd = (G 203) wd → wp (j88 c88_G80 c88_G81 c88_G84 c88_G85 c88_G86 c88_G87 c88_G88 c88_G107 c88_G203 c88_V0 c88_V1 c88_V10) (QC_X4_readList κ wd G P U V X O kd ln cnt this p0)) ?_ ?_
    · intro c88_G80 c88_G81 c88_G84 c88_G85 c88_G86 c88_G87 c88_G88 c88_G107 c88_G203 c88_V0 c88_V1 c88_V10 hg4 hg5 hg6 hg7 hg8 hg9 hRB10 f11 f12 f13
      show wp _ _
      exact ⟨_, rfl, ⟨hg4, hg5, hg6, hg7, hg8, hg9, hRB10, (show ((G 84) this).toInt ≤ (c88_G84 this).toInt from by omega), (show c88_G203 wd = (G 203) wd from by assumption), (show (c88_G84 this).toInt ≤ ((G 83) this).toInt + 1 from by omega)⟩⟩
    intro j88 Jj88
    refine wp_ite (fun c19 => ?_) (fun c19 => ?_)
    · have c19 := congrArg Int32.toInt c19
      exact Jj88 c16_G80 c16_G81 (G 84) (G 85) (G 86) (G 87) (G 88) (G 107) (G 203) (V 0) (V 1) (V 10) hzG84 hzG85 hzG87 hzG88 hzG203 hzV1 hzRB (show ((G 84) this).toInt ≤ ((G 84) this).toInt from by first | omega | rfl | exact hgw1 | exact hgw2.trans hgw1) (show ((G 84) this).toInt ≤ ((G 83) this).toInt + 1 from by first | omega | rfl | exact hgw1 | exact hgw2.trans hgw1) (show (G 203) wd = (G 203) wd from by first | rfl | exact hgw1 | exact hgw2.trans hgw1 | omega)
    · have c19 := z_ne c19
      refine wp_nne hn_a2 ?_
      obtain ⟨⟨r27, c27_G80, c27_G81, c27_G84, c27_G85, c27_G86, c27_G87, c27_G88⟩, hc27, hq27⟩ := ok_X4_takeNew κ wd (va_up (va_up G 80 c16_G80) 81 c16_G81) P U V X O kd ln cnt this a2 hzG83 hzG84 hzG85 hzG87 hzG88 hzG200 hzG203 hzP82 hzP201 hzP202 hzV1 hzRA hzRB hzRI hzLN hk_this hk_a2 (show (∀ tx, (P 82) this = some tx → ((G 83) this).toInt ≤ ((ln tx : Nat) : Int)) from by assumption) (show ((G 84) this).toInt ≤ ((G 83) this).toInt + 1 from by omega)
      obtain ⟨hg14, hg15, hg16, hg17, f18, f19, f20⟩ : (rng (0) 2001 c27_G84) ∧ (rng (0) 4 c27_G85) ∧ (rng (0) 2001 c27_G87) ∧ (rng (0) 2000 c27_G88) ∧ ((0 ≤ r27.toInt ∧ r27.toInt ≤ 1)) ∧ (((G 84) this).toInt ≤ (c27_G84 this).toInt) ∧ ((c27_G84 this).toInt ≤ ((G 83) this).toInt + 1) := hq27
      refine wp_b8 hc27 ?_
      clear hc27
      refine wp_ite (fun c30 => ?_) (fun c30 => ?_)
      · have c30 := congrArg Int32.toInt c30
        exact Jj88 c27_G80 c27_G81 c27_G84 c27_G85 c27_G86 c27_G87 c27_G88 (G 107) (G 203) (V 0) (V 1) (V 10) hg14 hg15 hg16 hg17 hzG203 hzV1 hzRB (show ((G 84) this).toInt ≤ (c27_G84 this).toInt from by first | omega | rfl | exact hgw1 | exact hgw2.trans hgw1) (show (c27_G84 this).toInt ≤ ((G 83) this).toInt + 1 from by first | omega | rfl | exact hgw1 | exact hgw2.trans hgw1) (show (G 203) wd = (G 203) wd from by first | rfl | exact hgw1 | exact hgw2.trans hgw1 | omega)
      · have c30 := z_ne c30
        refine wp_nn ((hzP82 this).1 hk_this) (fun a35 hn_a35 => ?_)
        have hk_a35 := ((hzP82 this).2 a35 hn_a35).1
        have hl1_a35 := ((hzP82 this).2 a35 hn_a35).2.1
        have hl2_a35 := ((hzP82 this).2 a35 hn_a35).2.2.1
        have hw_a35 := ((hzP82 this).2 a35 hn_a35).2.2.2
        have hz_a35 : (Int32.ofNat (ln a35)).toInt = ((ln a35 : Nat) : Int) := ofN_eq (by first | exact Nat.le_trans hl2_a35 (by decide) | omega)
        have b21 := hg16 this
        have b22 := hg17 this
        obtain ⟨⟨c46_G107, c46_G203, c46_V0, c46_V1, c46_V10⟩, hc46, hq46⟩ := ok_X5_addListed κ wd (va_up (va_up (va_up (va_up (va_up (va_up (va_up (va_up (va_up G 80 c16_G80) 81 c16_G81) 80 c27_G80) 81 c27_G81) 84 c27_G84) 85 c27_G85) 86 c27_G86) 87 c27_G87) 88 c27_G88) P U V X O kd ln cnt p0 a35 (c27_G87 this) (c27_G88 this) hzG200 hzG203 hzP104 hzP106 hzP201 hzP202 hzV1 hzRA hzRB hzRI hzRM104 hzLN hk_p0 hk_a35
        obtain ⟨hg23, hg24, hRB25, f26⟩ : (rng (0) 100 c46_G203) ∧ (rng2 (0) 24 c46_V1) ∧ (RB κ ln (G 200) c46_G203 (P 202) c46_V1) ∧ (c46_G203 wd = (G 203) wd) := hq46
        refine wp_b5 hc46 ?_
        clear hc46
        have hgw1 := f26
        obtain ⟨⟨r50, c50_G80, c50_G81, c50_G84, c50_G85, c50_G86, c50_G87, c50_G88⟩, hc50, hq50⟩ := ok_X4_takeTo κ wd (va_up (va_up (va_up (va_up (va_up (va_up (va_up (va_up (va_up (va_up (va_up G 80 c16_G80) 81 c16_G81) 80 c27_G80) 81 c27_G81) 84 c27_G84) 85 c27_G85) 86 c27_G86) 87 c27_G87) 88 c27_G88) 107 c46_G107) 203 c46_G203) P U (va_up (va_up (va_up V 0 c46_V0) 1 c46_V1) 10 c46_V10) X O kd ln cnt this hzG83 hg14 hg15 hg16 hg17 hzP82 hzLN hk_this (show (∀ tx, (P 82) this = some tx → ((G 83) this).toInt ≤ ((ln tx : Nat) : Int)) from by assumption) (show (c27_G84 this).toInt ≤ ((G 83) this).toInt + 1 from by omega)
        obtain ⟨hg27, hg28, hg29, hg30, f31, f32, f33⟩ : (rng (0) 2001 c50_G84) ∧ (rng (0) 4 c50_G85) ∧ (rng (0) 2001 c50_G87) ∧ (rng (0) 2000 c50_G88) ∧ ((0 ≤ r50.toInt ∧ r50.toInt ≤ 1)) ∧ ((c27_G84 this).toInt ≤ (c50_G84 this).toInt) ∧ ((c50_G84 this).toInt ≤ ((G 83) this).toInt + 1) := hq50
        refine wp_b8 hc50 ?_
        clear hc50
        refine wp_ite (fun c53 => ?_) (fun c53 => ?_)
        · have c53 := congrArg Int32.toInt c53
          exact Jj88 c50_G80 c50_G81 c50_G84 c50_G85 c50_G86 c50_G87 c50_G88 c46_G107 c46_G203 c46_V0 c46_V1 c46_V10 hg27 hg28 hg29 hg30 hg23 hg24 hRB25 (show ((G 84) this).toInt ≤ (c50_G84 this).toInt from by first | omega | rfl | exact hgw1 | exact hgw2.trans hgw1) (show (c50_G84 this).toInt ≤ ((G 83) this).toInt + 1 from by first | omega | rfl | exact hgw1 | exact hgw2.trans hgw1) (show c46_G203 wd = (G 203) wd from by first | rfl | exact hgw1 | exact hgw2.trans hgw1 | omega)
        · have c53 := z_ne c53
          obtain ⟨⟨r58, c58_G80, c58_G81, c58_G84, c58_G85, c58_G86, c58_G87, c58_G88⟩, hc58, hq58⟩ := ok_X4_takeLetters κ wd (va_up (va_up (va_up (va_up (va_up (va_up (va_up (va_up (va_up (va_up (va_up (va_up (va_up (va_up (va_up (va_up (va_up (va_up G 80 c16_G80) 81 c16_G81) 80 c27_G80) 81 c27_G81) 84 c27_G84) 85 c27_G85) 86 c27_G86) 87 c27_G87) 88 c27_G88) 107 c46_G107) 203 c46_G203) 80 c50_G80) 81 c50_G81) 84 c50_G84) 85 c50_G85) 86 c50_G86) 87 c50_G87) 88 c50_G88) P U (va_up (va_up (va_up V 0 c46_V0) 1 c46_V1) 10 c46_V10) X O kd ln cnt this (1 : Int32) hzG83 hg27 hg28 hg29 hg30 hzP82 hzLN hk_this (show (∀ tx, (P 82) this = some tx → ((G 83) this).toInt ≤ ((ln tx : Nat) : Int)) from by assumption) (show (c50_G84 this).toInt ≤ ((G 83) this).toInt + 1 from by omega)
          obtain ⟨hg34, hg35, hg36, hg37, f38, f39, f40, f41⟩ : (rng (0) 2001 c58_G84) ∧ (rng (0) 4 c58_G85) ∧ (rng (0) 2001 c58_G87) ∧ (rng (0) 2000 c58_G88) ∧ ((0 ≤ r58.toInt ∧ r58.toInt ≤ 1)) ∧ ((c50_G84 this).toInt ≤ (c58_G84 this).toInt) ∧ ((c58_G84 this).toInt ≤ ((G 83) this).toInt + 1) ∧ ((r58.toInt = 1 → 1 ≤ (c58_G87 this).toInt ∧ (c58_G87 this).toInt + (c58_G88 this).toInt ≤ ((G 83) this).toInt ∧ (c58_G88 this).toInt ≤ 16)) := hq58
          refine wp_b8 hc58 ?_
          clear hc58
          refine wp_ite (fun c61 => ?_) (fun c61 => ?_)
          · have c61 := congrArg Int32.toInt c61
            exact Jj88 c58_G80 c58_G81 c58_G84 c58_G85 c58_G86 c58_G87 c58_G88 c46_G107 c46_G203 c46_V0 c46_V1 c46_V10 hg34 hg35 hg36 hg37 hg23 hg24 hRB25 (show ((G 84) this).toInt ≤ (c58_G84 this).toInt from by first | omega | rfl | exact hgw1 | exact hgw2.trans hgw1) (show (c58_G84 this).toInt ≤ ((G 83) this).toInt + 1 from by first | omega | rfl | exact hgw1 | exact hgw2.trans hgw1) (show c46_G203 wd = (G 203) wd from by first | rfl | exact hgw1 | exact hgw2.trans hgw1 | omega)
          · have c61 := z_ne c61
            refine wp_nn ((hzP105 p0).1 hk_p0) (fun a65 hn_a65 => ?_)
            have hk_a65 := ((hzP105 p0).2 a65 hn_a65).1
            have hl1_a65 := ((hzP105 p0).2 a65 hn_a65).2.1
            have hl2_a65 := ((hzP105 p0).2 a65 hn_a65).2.2.1
            have hw_a65 := ((hzP105 p0).2 a65 hn_a65).2.2.2
            refine wp_nne hn_a35 ?_
            have b42 := hg36 this
            have b43 := hg37 this
            obtain ⟨⟨c80_G203, c80_V0, c80_V1⟩, hc80, hq80⟩ := ok_X10_add κ wd (va_up (va_up (va_up (va_up (va_up (va_up (va_up (va_up (va_up (va_up (va_up (va_up (va_up (va_up (va_up (va_up (va_up (va_up (va_up (va_up (va_up (va_up (va_up (va_up (va_up G 80 c16_G80) 81 c16_G81) 80 c27_G80) 81 c27_G81) 84 c27_G84) 85 c27_G85) 86 c27_G86) 87 c27_G87) 88 c27_G88) 107 c46_G107) 203 c46_G203) 80 c50_G80) 81 c50_G81) 84 c50_G84) 85 c50_G85) 86 c50_G86) 87 c50_G87) 88 c50_G88) 80 c58_G80) 81 c58_G81) 84 c58_G84) 85 c58_G85) 86 c58_G86) 87 c58_G87) 88 c58_G88) P U (va_up (va_up (va_up V 0 c46_V0) 1 c46_V1) 10 c46_V10) X O kd ln cnt a65 a35 (c58_G87 this) (c58_G88 this) hzG200 hg23 hzP201 hzP202 hg24 hzRA hRB25 hzRI hzLN hk_a65 hk_a35
            obtain ⟨hg44, hg45, hRB46, f47, f48⟩ : (rng (0) 100 c80_G203) ∧ (rng2 (0) 24 c80_V1) ∧ (RB κ ln (G 200) c80_G203 (P 202) c80_V1) ∧ ((a65 ≠ wd → c80_G203 wd = c46_G203 wd)) ∧ ((c46_G203 a65).toInt ≤ (c80_G203 a65).toInt) := hq80
            refine wp_b3 hc80 ?_
            clear hc80
            have hgw2 := f47 (hw_a65 rfl)
            obtain ⟨⟨r84, c84_G80, c84_G81, c84_G84, c84_G85, c84_G86, c84_G87, c84_G88⟩, hc84, hq84⟩ := ok_X4_takeClose κ wd (va_up (va_up (va_up (va_up (va_up (va_up (va_up (va_up (va_up (va_up (va_up (va_up (va_up (va_up (va_up (va_up (va_up (va_up (va_up (va_up (va_up (va_up (va_up (va_up (va_up (va_up G 80 c16_G80) 81 c16_G81) 80 c27_G80) 81 c27_G81) 84 c27_G84) 85 c27_G85) 86 c27_G86) 87 c27_G87) 88 c27_G88) 107 c46_G107) 203 c46_G203) 80 c50_G80) 81 c50_G81) 84 c50_G84) 85 c50_G85) 86 c50_G86) 87 c50_G87) 88 c50_G88) 80 c58_G80) 81 c58_G81) 84 c58_G84) 85 c58_G85) 86 c58_G86) 87 c58_G87) 88 c58_G88) 203 c80_G203) P U (va_up (va_up (va_up (va_up (va_up V 0 c46_V0) 1 c46_V1) 10 c46_V10) 0 c80_V0) 1 c80_V1) X O kd ln cnt this hzG83 hg34 hg35 hg36 hg37 hzP82 hzLN hk_this (show (∀ tx, (P 82) this = some tx → ((G 83) this).toInt ≤ ((ln tx : Nat) : Int)) from by assumption) (show (c58_G84 this).toInt ≤ ((G 83) this).toInt + 1 from by omega)
            obtain ⟨hg49, hg50, hg51, hg52, f53, f54, f55⟩ : (rng (0) 2001 c84_G84) ∧ (rng (0) 4 c84_G85) ∧ (rng (0) 2001 c84_G87) ∧ (rng (0) 2000 c84_G88) ∧ ((0 ≤ r84.toInt ∧ r84.toInt ≤ 1)) ∧ ((c58_G84 this).toInt ≤ (c84_G84 this).toInt) ∧ ((c84_G84 this).toInt ≤ ((G 83) this).toInt + 1) := hq84
            refine wp_b8 hc84 ?_
            clear hc84
            exact Jj88 c84_G80 c84_G81 c84_G84 c84_G85 c84_G86 c84_G87 c84_G88 c46_G107 c80_G203 c80_V0 c80_V1 c46_V10 hg49 hg50 hg51 hg52 hg44 hg45 hRB46 (show ((G 84) this).toInt ≤ (c84_G84 this).toInt from by first | omega | rfl | exact hgw1 | exact hgw2.trans hgw1) (show (c84_G84 this).toInt ≤ ((G 83) this).toInt + 1 from by first | omega | rfl | exact hgw1 | exact hgw2.trans hgw1) (show c80_G203 wd = (G 203) wd from by first | rfl | exact hgw1 | exact hgw2.trans hgw1 | omega)
  intro j16 Jj16
  refine wp_ite (fun c8 => ?_) (fun c8 => ?_)
  · have c8 := congrArg Int32.toInt c8
    exact Jj16 (1 : Int32)
  · have c8 := z_ne c8
    exact Jj16 (0 : Int32)
abbrev QC_J7_fill_53178_106 (κ : Nat → Nat) (wd : Nat) (G : Nat → Nat → Int32) (P : Nat → Nat → Option Nat) (U : Nat → Nat → Int64) (V : Nat → Nat → Nat → Int32) (X : Nat → Nat → Nat → Int64) (O : Nat → Nat → Nat → Option Nat) (kd : Nat → Nat) (ln : Nat → Nat) (cnt : Nat) (p0 : Nat) (p1 : Int32) : ((Nat → Nat → Int32)) → Prop := (fun t => True)
set_option maxHeartbeats 4000000 in
set_option maxRecDepth 100000 in
theorem ok_J7_fill_53178_106 (κ : Nat → Nat) (wd : Nat) (G : Nat → Nat → Int32) (P : Nat → Nat → Option Nat) (U : Nat → Nat → Int64) (V : Nat → Nat → Nat → Int32) (X : Nat → Nat → Nat → Int64) (O : Nat → Nat → Nat → Option Nat) (kd : Nat → Nat) (ln : Nat → Nat) (cnt : Nat) (p0 : Nat) (p1 : Int32) (hzLN : LN κ ln) (hk_p0 : κ p0 = 106) : wp (f_J7_fill_53178_106 G P U V X O kd ln cnt p0 p1) (QC_J7_fill_53178_106 κ wd G P U V X O kd ln cnt p0 p1) := by
  unfold f_J7_fill_53178_106
  have zk0 : (0 : Int32).toInt = 0 := by decide +kernel
  have r_p1 := i32r p1
  have hz_p0 : (Int32.ofNat (ln p0)).toInt = ((ln p0 : Nat) : Int) := ofN_eq (hzLN p0 (by rw [hk_p0]; decide))
  have hzb_p0 := hzLN p0 (by rw [hk_p0]; decide)
  refine wp_vl (fun x4 ex4 => ?_)
  have f1 : x4.toInt = (Int32.ofNat (ln p0)).toInt := congrArg Int32.toInt ex4
  clear ex4
  have lp5 : ∀ (n5 : Nat) (y5_2 : Int32) (d5_V6 : Nat → Nat → Int32), (2500 - y5_2.toInt).toNat < n5 → 0 ≤ y5_2.toInt → wp (L_J7_fill_53178_106_5 ln p0 p1 x4 n5 y5_2 d5_V6) (QC_J7_fill_53178_106 κ wd G P U V X O kd ln cnt p0 p1) := by
    intro n5
    induction n5 with
    | zero => intro y5_2 d5_V6 hm; exact absurd hm (Nat.not_lt_zero _)
    | succ n5 ih5 =>
      intro y5_2 d5_V6 hm5 f2
      show wp (B_J7_fill_53178_106_5 ln p0 p1 x4 (L_J7_fill_53178_106_5 ln p0 p1 x4 n5) y5_2 d5_V6) _
      unfold B_J7_fill_53178_106_5
      refine wp_ite (fun c7 => ?_) (fun c7 => ?_)
      · have c7 := (z_le _ _).mp c7
        exact ⟨_, rfl, trivial⟩
      · have c7 := z_nle c7
        refine wp_if ⟨by omega, by omega⟩ ?_
        refine wp_vl (fun m13 em13 => ?_)
        clear em13
        have f3 : (y5_2 + 1).toInt = y5_2.toInt + (1) := z_addc (by decide +kernel) (by omega) (by omega)
        exact ih5 (y5_2 + 1) m13 (show (2500 - (y5_2 + 1).toInt).toNat < n5 from by omega) (show 0 ≤ (y5_2 + 1).toInt from by omega)
  exact lp5 NN (0 : Int32) (V 6) (by have := NN_eq; omega) (show 0 ≤ (0 : Int32).toInt from by omega)
abbrev QC_X6_begin (κ : Nat → Nat) (wd : Nat) (G : Nat → Nat → Int32) (P : Nat → Nat → Option Nat) (U : Nat → Nat → Int64) (V : Nat → Nat → Nat → Int32) (X : Nat → Nat → Nat → Int64) (O : Nat → Nat → Nat → Option Nat) (kd : Nat → Nat) (ln : Nat → Nat) (cnt : Nat) (this : Nat) : ((Nat → Int32) × (Nat → Int32) × (Nat → Int32) × (Nat → Nat → Int32)) → Prop := (fun t => (rng (0) 2500 (t.1)) ∧ (rng (0) 2000 (t.2.1)) ∧ (((t.2.1) this).toInt = 0))
set_option maxHeartbeats 4000000 in
set_option maxRecDepth 100000 in
theorem ok_X6_begin (κ : Nat → Nat) (wd : Nat) (G : Nat → Nat → Int32) (P : Nat → Nat → Option Nat) (U : Nat → Nat → Int64) (V : Nat → Nat → Nat → Int32) (X : Nat → Nat → Nat → Int64) (O : Nat → Nat → Nat → Option Nat) (kd : Nat → Nat) (ln : Nat → Nat) (cnt : Nat) (this : Nat) (hzG126 : rng (0) 2500 (G 126)) (hzG127 : rng (0) 2000 (G 127)) (hzP123 : PB κ ln wd 7 106 5 5 0 (P 123)) (hzLN : LN κ ln) (hk_this : κ this = 7) : wp (f_X6_begin G P U V X O kd ln cnt this) (QC_X6_begin κ wd G P U V X O kd ln cnt this) := by
  unfold f_X6_begin
  have zk0 : (0 : Int32).toInt = 0 := by decide +kernel
  have zk1 : (1 : Int32).toInt = 1 := by decide +kernel
  refine wp_nn ((hzP123 this).1 hk_this) (fun a1 hn_a1 => ?_)
  have hk_a1 := ((hzP123 this).2 a1 hn_a1).1
  have hl1_a1 := ((hzP123 this).2 a1 hn_a1).2.1
  have hl2_a1 := ((hzP123 this).2 a1 hn_a1).2.2.1
  have hw_a1 := ((hzP123 this).2 a1 hn_a1).2.2.2
  have hz_a1 : (Int32.ofNat (ln a1)).toInt = ((ln a1 : Nat) : Int) := ofN_eq (by first | exact Nat.le_trans hl2_a1 (by decide) | omega)
  obtain ⟨c5_V6, hc5, hq5⟩ := ok_J7_fill_53178_106 κ wd G P U V X O kd ln cnt a1 (0 : Int32) hzLN hk_a1
  refine wp_b1 hc5 ?_
  clear hc5
  refine wp_vl (fun m10 em10 => ?_)
  have hg1 : rng (0) 2500 m10 := by rw [em10]; exact rng_vup hzG126 (by omega) (by omega)
  have sm10 : (m10 this).toInt = 0 := by rw [em10, va_up_self]; decide +kernel
  have b2 := hg1 this
  clear em10
  refine wp_vl (fun m15 em15 => ?_)
  have hg3 : rng (0) 2000 m15 := by rw [em15]; exact rng_vup hzG127 (by omega) (by omega)
  have sm15 : (m15 this).toInt = 0 := by rw [em15, va_up_self]; decide +kernel
  have b4 := hg3 this
  clear em15
  refine wp_vl (fun m20 em20 => ?_)
  have sm20 : (m20 this).toInt = 1 := by rw [em20, va_up_self]; decide +kernel
  clear em20
  exact ⟨_, rfl, ⟨hg1, hg3, (show (m15 this).toInt = 0 from by omega)⟩⟩
abbrev QC_X6_leaveName (κ : Nat → Nat) (wd : Nat) (G : Nat → Nat → Int32) (P : Nat → Nat → Option Nat) (U : Nat → Nat → Int64) (V : Nat → Nat → Nat → Int32) (X : Nat → Nat → Nat → Int64) (O : Nat → Nat → Nat → Option Nat) (kd : Nat → Nat) (ln : Nat → Nat) (cnt : Nat) (this : Nat) : ((Nat → Nat → Int32)) → Prop := (fun t => True)
set_option maxHeartbeats 4000000 in
set_option maxRecDepth 100000 in
theorem ok_X6_leaveName (κ : Nat → Nat) (wd : Nat) (G : Nat → Nat → Int32) (P : Nat → Nat → Option Nat) (U : Nat → Nat → Int64) (V : Nat → Nat → Nat → Int32) (X : Nat → Nat → Nat → Int64) (O : Nat → Nat → Nat → Option Nat) (kd : Nat → Nat) (ln : Nat → Nat) (cnt : Nat) (this : Nat) (hzP123 : PB κ ln wd 7 106 5 5 0 (P 123)) (hzLN : LN κ ln) (hk_this : κ this = 7) : wp (f_X6_leaveName G P U V X O kd ln cnt this) (QC_X6_leaveName κ wd G P U V X O kd ln cnt this) := by
  unfold f_X6_leaveName
  have zk1 : (1 : Int32).toInt = 1 := by decide +kernel
  have zk4 : (4 : Int32).toInt = 4 := by decide +kernel
  refine wp_nn ((hzP123 this).1 hk_this) (fun a1 hn_a1 => ?_)
  have hk_a1 := ((hzP123 this).2 a1 hn_a1).1
  have hl1_a1 := ((hzP123 this).2 a1 hn_a1).2.1
  have hl2_a1 := ((hzP123 this).2 a1 hn_a1).2.2.1
  have hw_a1 := ((hzP123 this).2 a1 hn_a1).2.2.2
  have hz_a1 : (Int32.ofNat (ln a1)).toInt = ((ln a1 : Nat) : Int) := ofN_eq (by first | exact Nat.le_trans hl2_a1 (by decide) | omega)
  refine wp_if ⟨by omega, by omega⟩ ?_
  refine wp_if ⟨by omega, by omega⟩ ?_
  refine wp_vl (fun m9 em9 => ?_)
  clear em9
  exact ⟨_, rfl, trivial⟩
abbrev QC_X6_leaveLost (κ : Nat → Nat) (wd : Nat) (G : Nat → Nat → Int32) (P : Nat → Nat → Option Nat) (U : Nat → Nat → Int64) (V : Nat → Nat → Nat → Int32) (X : Nat → Nat → Nat → Int64) (O : Nat → Nat → Nat → Option Nat) (kd : Nat → Nat) (ln : Nat → Nat) (cnt : Nat) (this : Nat) : ((Nat → Nat → Int32)) → Prop := (fun t => True)
set_option maxHeartbeats 4000000 in
set_option maxRecDepth 100000 in
theorem ok_X6_leaveLost (κ : Nat → Nat) (wd : Nat) (G : Nat → Nat → Int32) (P : Nat → Nat → Option Nat) (U : Nat → Nat → Int64) (V : Nat → Nat → Nat → Int32) (X : Nat → Nat → Nat → Int64) (O : Nat → Nat → Nat → Option Nat) (kd : Nat → Nat) (ln : Nat → Nat) (cnt : Nat) (this : Nat) (hzP123 : PB κ ln wd 7 106 5 5 0 (P 123)) (hzLN : LN κ ln) (hk_this : κ this = 7) : wp (f_X6_leaveLost G P U V X O kd ln cnt this) (QC_X6_leaveLost κ wd G P U V X O kd ln cnt this) := by
  unfold f_X6_leaveLost
  have zk0 : (0 : Int32).toInt = 0 := by decide +kernel
  have zk1 : (1 : Int32).toInt = 1 := by decide +kernel
  have zk3 : (3 : Int32).toInt = 3 := by decide +kernel
  refine wp_nn ((hzP123 this).1 hk_this) (fun a1 hn_a1 => ?_)
  have hk_a1 := ((hzP123 this).2 a1 hn_a1).1
  have hl1_a1 := ((hzP123 this).2 a1 hn_a1).2.1
  have hl2_a1 := ((hzP123 this).2 a1 hn_a1).2.2.1
  have hw_a1 := ((hzP123 this).2 a1 hn_a1).2.2.2
  have hz_a1 : (Int32.ofNat (ln a1)).toInt = ((ln a1 : Nat) : Int) := ofN_eq (by first | exact Nat.le_trans hl2_a1 (by decide) | omega)
  refine wp_if ⟨by omega, by omega⟩ ?_
  refine wp_if ⟨by omega, by omega⟩ ?_
  refine wp_vl (fun m9 em9 => ?_)
  clear em9
  refine wp_nne hn_a1 ?_
  refine wp_if ⟨by omega, by omega⟩ ?_
  refine wp_if ⟨by omega, by omega⟩ ?_
  refine wp_vl (fun m19 em19 => ?_)
  clear em19
  exact ⟨_, rfl, trivial⟩
abbrev QC_X6_append (κ : Nat → Nat) (wd : Nat) (G : Nat → Nat → Int32) (P : Nat → Nat → Option Nat) (U : Nat → Nat → Int64) (V : Nat → Nat → Nat → Int32) (X : Nat → Nat → Nat → Int64) (O : Nat → Nat → Nat → Option Nat) (kd : Nat → Nat) (ln : Nat → Nat) (cnt : Nat) (this : Nat) (p0 : Nat) (p1 : Int32) (p2 : Int32) : ((Nat → Int32) × (Nat → Int32) × (Nat → Nat → Int32)) → Prop := (fun t => (rng (0) 2500 (t.1)))
set_option maxHeartbeats 4000000 in
set_option maxRecDepth 100000 in
theorem ok_X6_append (κ : Nat → Nat) (wd : Nat) (G : Nat → Nat → Int32) (P : Nat → Nat → Option Nat) (U : Nat → Nat → Int64) (V : Nat → Nat → Nat → Int32) (X : Nat → Nat → Nat → Int64) (O : Nat → Nat → Nat → Option Nat) (kd : Nat → Nat) (ln : Nat → Nat) (cnt : Nat) (this : Nat) (p0 : Nat) (p1 : Int32) (p2 : Int32) (hzG126 : rng (0) 2500 (G 126)) (hzP121 : PB κ ln wd 7 100 2500 2500 0 (P 121)) (hzLN : LN κ ln) (hk_this : κ this = 7) (hk_p0 : κ p0 = 100) (hp0 : (0 ≤ p1.toInt ∧ 0 ≤ p2.toInt ∧ p1.toInt + p2.toInt ≤ ((ln p0 : Nat) : Int))) : wp (f_X6_append G P U V X O kd ln cnt this p0 p1 p2) (QC_X6_append κ wd G P U V X O kd ln cnt this p0 p1 p2) := by
  unfold f_X6_append
  have zk0 : (0 : Int32).toInt = 0 := by decide +kernel
  have zk2500 : (2500 : Int32).toInt = 2500 := by decide +kernel
  have r_p1 := i32r p1
  have r_p2 := i32r p2
  refine wp_jn (fun j19 => wp (j19 ()) (QC_X6_append κ wd G P U V X O kd ln cnt this p0 p1 p2)) ?_ ?_
  · show wp _ _
    refine wp_vl (fun m21 em21 => ?_)
    have sm21 : (m21 this).toInt = 0 := by rw [em21, va_up_self]; decide +kernel
    clear em21
    exact ⟨_, rfl, hzG126⟩
  intro j19 Jj19
  refine wp_ite (fun c4 => ?_) (fun c4 => ?_)
  · have c4 := congrArg Int32.toInt c4
    exact Jj19
  · have c4 := z_ne c4
    have b1 := hzG126 this
    have f2 : (2500 - ((G 126) this)).toInt = 2500 - ((G 126) this).toInt := z_subd (by decide +kernel) (by omega) (by omega)
    refine wp_ite (fun c16 => ?_) (fun c16 => ?_)
    · have c16 := (z_le _ _).mp c16
      refine wp_nn ((hzP121 this).1 hk_this) (fun a28 hn_a28 => ?_)
      have hk_a28 := ((hzP121 this).2 a28 hn_a28).1
      have hl1_a28 := ((hzP121 this).2 a28 hn_a28).2.1
      have hl2_a28 := ((hzP121 this).2 a28 hn_a28).2.2.1
      have hw_a28 := ((hzP121 this).2 a28 hn_a28).2.2.2
      have hz_a28 : (Int32.ofNat (ln a28)).toInt = ((ln a28 : Nat) : Int) := ofN_eq (by first | exact Nat.le_trans hl2_a28 (by decide) | omega)
      refine wp_if ⟨by omega, by omega, by omega, by omega, by omega⟩ ?_
      refine wp_vl (fun m36 em36 => ?_)
      clear em36
      have f5 : (((G 126) this) + p2).toInt = ((G 126) this).toInt + p2.toInt := z_add (by omega) (by omega)
      refine wp_vl (fun x46 ex46 => ?_)
      have f6 : x46.toInt = (((G 126) this) + p2).toInt := congrArg Int32.toInt ex46
      clear ex46
      refine wp_vl (fun m46 em46 => ?_)
      have hg7 : rng (0) 2500 m46 := by rw [em46]; exact rng_vup hzG126 (by omega) (by omega)
      have sm46 : (m46 this).toInt = x46.toInt := by rw [em46, va_up_self]
      have b8 := hg7 this
      clear em46
      exact ⟨_, rfl, hg7⟩
    · have c16 := z_nle c16
      exact Jj19
abbrev QC_X6_put (κ : Nat → Nat) (wd : Nat) (G : Nat → Nat → Int32) (P : Nat → Nat → Option Nat) (U : Nat → Nat → Int64) (V : Nat → Nat → Nat → Int32) (X : Nat → Nat → Nat → Int64) (O : Nat → Nat → Nat → Option Nat) (kd : Nat → Nat) (ln : Nat → Nat) (cnt : Nat) (this : Nat) (p0 : Nat) (p1 : Nat) : ((Nat → Int32) × (Nat → Int32) × (Nat → Int32) × (Nat → Nat → Int32) × (Nat → Nat → Int32)) → Prop := (fun t => (rng (0) 2500 (t.1)) ∧ (rng (0) 2000 (t.2.1)) ∧ (((t.2.1) this).toInt ≤ ((G 160) p0).toInt + ((G 161) p0).toInt))
set_option maxHeartbeats 4000000 in
set_option maxRecDepth 100000 in
theorem ok_X6_put (κ : Nat → Nat) (wd : Nat) (G : Nat → Nat → Int32) (P : Nat → Nat → Option Nat) (U : Nat → Nat → Int64) (V : Nat → Nat → Nat → Int32) (X : Nat → Nat → Nat → Int64) (O : Nat → Nat → Nat → Option Nat) (kd : Nat → Nat) (ln : Nat → Nat) (cnt : Nat) (this : Nat) (p0 : Nat) (p1 : Nat) (hzG126 : rng (0) 2500 (G 126)) (hzG127 : rng (0) 2000 (G 127)) (hzG160 : rng (0) 2000 (G 160)) (hzG161 : rng (0) 2000 (G 161)) (hzG200 : rng (0) 24 (G 200)) (hzG203 : rng (0) 100 (G 203)) (hzP121 : PB κ ln wd 7 100 2500 2500 0 (P 121)) (hzP123 : PB κ ln wd 7 106 5 5 0 (P 123)) (hzP164 : PB κ ln wd 9 100 0 2000 0 (P 164)) (hzP201 : PB κ ln wd 11 100 0 2400 0 (P 201)) (hzP202 : PB κ ln wd 11 101 0 100 0 (P 202)) (hzV1 : rng2 (0) 24 (V 1)) (hzRA : RA κ ln (G 200) (P 201) (P 202)) (hzRB : RB κ ln (G 200) (G 203) (P 202) (V 1)) (hzRI : RI (P 202)) (hzLN : LN κ ln) (hk_this : κ this = 7) (hk_p0 : κ p0 = 9) (hk_p1 : κ p1 = 11) (hp0 : ((G 127) this).toInt ≤ ((G 160) p0).toInt) (hp1 : (∀ tx, (P 164) p0 = some tx → ((G 160) p0).toInt + ((G 161) p0).toInt ≤ ((ln tx : Nat) : Int))) : wp (f_X6_put G P U V X O kd ln cnt this p0 p1) (QC_X6_put κ wd G P U V X O kd ln cnt this p0 p1) := by
  unfold f_X6_put
  have zk0 : (0 : Int32).toInt = 0 := by decide +kernel
  have zk1 : (1 : Int32).toInt = 1 := by decide +kernel
  have zk2 : (2 : Int32).toInt = 2 := by decide +kernel
  obtain ⟨u1, hn_u1⟩ := PBs (hzP164 p0) hk_p0
  have hk_u1 := ((hzP164 p0).2 u1 hn_u1).1
  have hl1_u1 := ((hzP164 p0).2 u1 hn_u1).2.1
  have hl2_u1 := ((hzP164 p0).2 u1 hn_u1).2.2.1
  have hw_u1 := ((hzP164 p0).2 u1 hn_u1).2.2.2
  have hz_u1 : (Int32.ofNat (ln u1)).toInt = ((ln u1 : Nat) : Int) := ofN_eq (by first | exact Nat.le_trans hl2_u1 (by decide) | omega)
  obtain ⟨u2, hn_u2⟩ := PBs (hzP201 p1) hk_p1
  have hk_u2 := ((hzP201 p1).2 u2 hn_u2).1
  have hl1_u2 := ((hzP201 p1).2 u2 hn_u2).2.1
  have hl2_u2 := ((hzP201 p1).2 u2 hn_u2).2.2.1
  have hw_u2 := ((hzP201 p1).2 u2 hn_u2).2.2.2
  have hz_u2 : (Int32.ofNat (ln u2)).toInt = ((ln u2 : Nat) : Int) := ofN_eq (by first | exact Nat.le_trans hl2_u2 (by decide) | omega)
  obtain ⟨u3, hn_u3⟩ := PBs (hzP202 p1) hk_p1
  have hk_u3 := ((hzP202 p1).2 u3 hn_u3).1
  have hl1_u3 := ((hzP202 p1).2 u3 hn_u3).2.1
  have hl2_u3 := ((hzP202 p1).2 u3 hn_u3).2.2.1
  have hw_u3 := ((hzP202 p1).2 u3 hn_u3).2.2.2
  have hz_u3 : (Int32.ofNat (ln u3)).toInt = ((ln u3 : Nat) : Int) := ofN_eq (by first | exact Nat.le_trans hl2_u3 (by decide) | omega)
  have rb4 := (hzRB p1 u3 hk_p1 hn_u3).1
  have ra5 := hzRA p1 u2 u3 hk_p1 hn_u2 hn_u3
  have bw6 := hzG200 p1
  have hsz := hp1 _ hn_u1
  have hb1 := hzG160 p0
  have hb2 := hzG161 p0
  have hb3 := hzG127 this
  have b7 := hzG203 p1
  refine wp_ite (fun c4 => ?_) (fun c4 => ?_)
  · have c4 := congrArg Int32.toInt c4
    obtain ⟨c8_V6, hc8, hq8⟩ := ok_X6_leaveLost κ wd G P U V X O kd ln cnt this hzP123 hzLN hk_this
    refine wp_b1 hc8 ?_
    clear hc8
    exact ⟨_, rfl, ⟨hzG126, hzG127, (show ((G 127) this).toInt ≤ ((G 160) p0).toInt + ((G 161) p0).toInt from by omega)⟩⟩
  · have c4 := z_ne c4
    refine wp_nn ((hzP123 this).1 hk_this) (fun a13 hn_a13 => ?_)
    have hk_a13 := ((hzP123 this).2 a13 hn_a13).1
    have hl1_a13 := ((hzP123 this).2 a13 hn_a13).2.1
    have hl2_a13 := ((hzP123 this).2 a13 hn_a13).2.2.1
    have hw_a13 := ((hzP123 this).2 a13 hn_a13).2.2.2
    have hz_a13 : (Int32.ofNat (ln a13)).toInt = ((ln a13 : Nat) : Int) := ofN_eq (by first | exact Nat.le_trans hl2_a13 (by decide) | omega)
    refine wp_if ⟨by omega, by omega⟩ ?_
    refine wp_if ⟨by omega, by omega⟩ ?_
    refine wp_vl (fun m21 em21 => ?_)
    clear em21
    refine wp_jn (fun j40 => ∀ (c40_V6 : Nat → Nat → Int32), wp (j40 c40_V6) (QC_X6_put κ wd G P U V X O kd ln cnt this p0 p1)) ?_ ?_
    · intro c40_V6
      show wp _ _
      refine wp_nne hn_u3 ?_
      refine wp_if ⟨by omega, by omega⟩ ?_
      have b15 := hzV1 u3 (Int32.toNatClampNeg (0 : Int32))
      have rl16 := (hzRB p1 u3 hk_p1 hn_u3).2 (Int32.toNatClampNeg (0 : Int32))
      have b17 := hzG161 p0
      refine wp_jn (fun j70 => wp (j70 ()) (QC_X6_put κ wd G P U V X O kd ln cnt this p0 p1)) ?_ ?_
      · show wp _ _
        refine wp_nne hn_a13 ?_
        refine wp_if ⟨by omega, by omega⟩ ?_
        refine wp_if ⟨by omega, by omega⟩ ?_
        refine wp_vl (fun m79 em79 => ?_)
        clear em79
        refine wp_nne hn_u1 ?_
        have b18 := hzG127 this
        have b19 := hzG160 p0
        have f21 : (((G 160) p0) - ((G 127) this)).toInt = ((G 160) p0).toInt - ((G 127) this).toInt := z_sub (by omega) (by omega)
        obtain ⟨⟨c98_G126, c98_G128, c98_V0⟩, hc98, hq98⟩ := ok_X6_append κ wd G P U (va_up (va_up V 6 c40_V6) 6 m79) X O kd ln cnt this u1 ((G 127) this) (((G 160) p0) - ((G 127) this)) hzG126 hzP121 hzLN hk_this hk_u1 (show (0 ≤ ((G 127) this).toInt ∧ 0 ≤ (((G 160) p0) - ((G 127) this)).toInt ∧ ((G 127) this).toInt + (((G 160) p0) - ((G 127) this)).toInt ≤ ((ln u1 : Nat) : Int)) from by omega)
        have hg22 : rng (0) 2500 c98_G126 := hq98
        refine wp_b3 hc98 ?_
        clear hc98
        refine wp_nne hn_u2 ?_
        have hrx := row0 (hzRA p1 _ _ hk_p1 hn_u2 hn_u3) (hzG200 p1).1
        refine wp_nne hn_u3 ?_
        refine wp_if ⟨by omega, by omega⟩ ?_
        obtain ⟨⟨c113_G126, c113_G128, c113_V0⟩, hc113, hq113⟩ := ok_X6_append κ wd (va_up (va_up G 126 c98_G126) 128 c98_G128) P U (va_up (va_up (va_up V 6 c40_V6) 6 m79) 0 c98_V0) X O kd ln cnt this u2 (0 : Int32) (((V 1) u3) (Int32.toNatClampNeg 0)) hg22 hzP121 hzLN hk_this hk_u2 (show (0 ≤ (0 : Int32).toInt ∧ 0 ≤ (((V 1) u3) (Int32.toNatClampNeg 0)).toInt ∧ (0 : Int32).toInt + (((V 1) u3) (Int32.toNatClampNeg 0)).toInt ≤ ((ln u2 : Nat) : Int)) from by omega)
        have hg25 : rng (0) 2500 c113_G126 := hq113
        refine wp_b3 hc113 ?_
        clear hc113
        have f28 : (((G 160) p0) + ((G 161) p0)).toInt = ((G 160) p0).toInt + ((G 161) p0).toInt := z_add (by omega) (by omega)
        refine wp_vl (fun x126 ex126 => ?_)
        have f29 : x126.toInt = (((G 160) p0) + ((G 161) p0)).toInt := congrArg Int32.toInt ex126
        clear ex126
        refine wp_vl (fun m126 em126 => ?_)
        have hg30 : rng (0) 2000 m126 := by rw [em126]; exact rng_vup hzG127 (by omega) (by omega)
        have sm126 : (m126 this).toInt = x126.toInt := by rw [em126, va_up_self]
        have b31 := hg30 this
        clear em126
        exact ⟨_, rfl, ⟨hg25, hg30, (show (m126 this).toInt ≤ ((G 160) p0).toInt + ((G 161) p0).toInt from by omega)⟩⟩
      intro j70 Jj70
      refine wp_ite (fun c50 => ?_) (fun c50 => ?_)
      · have c50 := congrArg Int32.toInt c50
        refine wp_nne hn_u1 ?_
        have b32 := hzG160 p0
        obtain ⟨r63, hc63, hq63⟩ := ok_X10_standsIn κ wd G P U (va_up V 6 c40_V6) X O kd ln cnt p1 (0 : Int32) u1 ((G 160) p0) hzG200 hzG203 hzP201 hzP202 hzV1 hzRA hzRB hzRI hzLN hk_p1 hk_u1 (show (0 ≤ (0 : Int32).toInt ∧ (0 : Int32).toInt < ((G 203) p1).toInt) from by omega)
        have f33 : (0 ≤ r63.toInt ∧ r63.toInt ≤ 1) := hq63
        refine wp_b1 hc63 ?_
        clear hc63
        refine wp_ite (fun c66 => ?_) (fun c66 => ?_)
        · have c66 := congrArg Int32.toInt c66
          exact Jj70
        · have c66 := z_ne c66
          exact ⟨_, rfl, ⟨hzG126, hzG127, (show ((G 127) this).toInt ≤ ((G 160) p0).toInt + ((G 161) p0).toInt from by omega)⟩⟩
      · have c50 := z_ne c50
        exact Jj70
    intro j40 Jj40
    refine wp_ite (fun c27 => ?_) (fun c27 => ?_)
    · have c27 := (z_le _ _).mp c27
      exact Jj40 m21
    · have c27 := z_nle c27
      refine wp_nne hn_a13 ?_
      refine wp_if ⟨by omega, by omega⟩ ?_
      refine wp_if ⟨by omega, by omega⟩ ?_
      refine wp_vl (fun m39 em39 => ?_)
      clear em39
      exact Jj40 m39
abbrev QC_X6_finish (κ : Nat → Nat) (wd : Nat) (G : Nat → Nat → Int32) (P : Nat → Nat → Option Nat) (U : Nat → Nat → Int64) (V : Nat → Nat → Nat → Int32) (X : Nat → Nat → Nat → Int64) (O : Nat → Nat → Nat → Option Nat) (kd : Nat → Nat) (ln : Nat → Nat) (cnt : Nat) (this : Nat) (p0 : Nat) (p1 : Int32) : (Int32 × (Nat → Int32) × (Nat → Int32) × (Nat → Int32) × (Nat → Int32) × (Nat → Option Nat) × (Nat → Option Nat) × (Nat → Option Nat) × (Nat → Option Nat) × (Nat → Nat → Int32)) → Prop := (fun t => (rng (0) 2500 (t.2.2.1)) ∧ (rng (0) 2500 (t.2.2.2.1)) ∧ (PB κ ln wd 7 100 2500 2500 0 (t.2.2.2.2.2.1)) ∧ (PB κ ln wd 7 100 2500 2500 0 (t.2.2.2.2.2.2.1)) ∧ (PB κ ln wd 7 106 5 5 0 (t.2.2.2.2.2.2.2.1)) ∧ (PB κ ln wd 7 106 5 5 0 (t.2.2.2.2.2.2.2.2.1)))
set_option maxHeartbeats 4000000 in
set_option maxRecDepth 100000 in
theorem ok_X6_finish (κ : Nat → Nat) (wd : Nat) (G : Nat → Nat → Int32) (P : Nat → Nat → Option Nat) (U : Nat → Nat → Int64) (V : Nat → Nat → Nat → Int32) (X : Nat → Nat → Nat → Int64) (O : Nat → Nat → Nat → Option Nat) (kd : Nat → Nat) (ln : Nat → Nat) (cnt : Nat) (this : Nat) (p0 : Nat) (p1 : Int32) (hzG125 : rng (0) 2500 (G 125)) (hzG126 : rng (0) 2500 (G 126)) (hzG127 : rng (0) 2000 (G 127)) (hzP120 : PB κ ln wd 7 100 2500 2500 0 (P 120)) (hzP121 : PB κ ln wd 7 100 2500 2500 0 (P 121)) (hzP122 : PB κ ln wd 7 106 5 5 0 (P 122)) (hzP123 : PB κ ln wd 7 106 5 5 0 (P 123)) (hzLN : LN κ ln) (hk_this : κ this = 7) (hk_p0 : κ p0 = 100) (hp0 : ((G 127) this).toInt ≤ p1.toInt) (hp1 : p1.toInt ≤ ((ln p0 : Nat) : Int)) : wp (f_X6_finish G P U V X O kd ln cnt this p0 p1) (QC_X6_finish κ wd G P U V X O kd ln cnt this p0 p1) := by
  unfold f_X6_finish
  have zkm1 : (-1 : Int32).toInt = -1 := by decide +kernel
  have zk0 : (0 : Int32).toInt = 0 := by decide +kernel
  have zk1 : (1 : Int32).toInt = 1 := by decide +kernel
  have r_p1 := i32r p1
  have b1 := hzG127 this
  have f3 : (p1 - ((G 127) this)).toInt = p1.toInt - ((G 127) this).toInt := z_sub (by omega) (by omega)
  obtain ⟨⟨c12_G126, c12_G128, c12_V0⟩, hc12, hq12⟩ := ok_X6_append κ wd G P U V X O kd ln cnt this p0 ((G 127) this) (p1 - ((G 127) this)) hzG126 hzP121 hzLN hk_this hk_p0 (show (0 ≤ ((G 127) this).toInt ∧ 0 ≤ (p1 - ((G 127) this)).toInt ∧ ((G 127) this).toInt + (p1 - ((G 127) this)).toInt ≤ ((ln p0 : Nat) : Int)) from by omega)
  have hg4 : rng (0) 2500 c12_G126 := hq12
  refine wp_b3 hc12 ?_
  clear hc12
  refine wp_ite (fun c19 => ?_) (fun c19 => ?_)
  · have c19 := congrArg Int32.toInt c19
    exact ⟨_, rfl, ⟨hzG125, hg4, hzP120, hzP121, hzP122, hzP123⟩⟩
  · have c19 := z_ne c19
    refine wp_nn ((hzP120 this).1 hk_this) (fun a25 hn_a25 => ?_)
    have hk_a25 := ((hzP120 this).2 a25 hn_a25).1
    have hl1_a25 := ((hzP120 this).2 a25 hn_a25).2.1
    have hl2_a25 := ((hzP120 this).2 a25 hn_a25).2.2.1
    have hw_a25 := ((hzP120 this).2 a25 hn_a25).2.2.2
    have hz_a25 : (Int32.ofNat (ln a25)).toInt = ((ln a25 : Nat) : Int) := ofN_eq (by first | exact Nat.le_trans hl2_a25 (by decide) | omega)
    refine wp_nn ((hzP121 this).1 hk_this) (fun a31 hn_a31 => ?_)
    have hk_a31 := ((hzP121 this).2 a31 hn_a31).1
    have hl1_a31 := ((hzP121 this).2 a31 hn_a31).2.1
    have hl2_a31 := ((hzP121 this).2 a31 hn_a31).2.2.1
    have hw_a31 := ((hzP121 this).2 a31 hn_a31).2.2.2
    have hz_a31 : (Int32.ofNat (ln a31)).toInt = ((ln a31 : Nat) : Int) := ofN_eq (by first | exact Nat.le_trans hl2_a31 (by decide) | omega)
    refine wp_vl (fun m34 em34 => ?_)
    have hp5 : PB κ ln wd 7 100 2500 2500 0 m34 := by rw [em34]; exact PB_up hzP120 hk_a31 (by omega) (by omega) (fun h9 => absurd h9 (by decide))
    have sm34 : m34 this = some a31 := by rw [em34]; exact va_up_self _ _ _
    clear em34
    refine wp_vl (fun m39 em39 => ?_)
    have hp6 : PB κ ln wd 7 100 2500 2500 0 m39 := by rw [em39]; exact PB_up hzP121 hk_a25 (by omega) (by omega) (fun h9 => absurd h9 (by decide))
    have sm39 : m39 this = some a25 := by rw [em39]; exact va_up_self _ _ _
    clear em39
    refine wp_nn ((hzP122 this).1 hk_this) (fun a43 hn_a43 => ?_)
    have hk_a43 := ((hzP122 this).2 a43 hn_a43).1
    have hl1_a43 := ((hzP122 this).2 a43 hn_a43).2.1
    have hl2_a43 := ((hzP122 this).2 a43 hn_a43).2.2.1
    have hw_a43 := ((hzP122 this).2 a43 hn_a43).2.2.2
    have hz_a43 : (Int32.ofNat (ln a43)).toInt = ((ln a43 : Nat) : Int) := ofN_eq (by first | exact Nat.le_trans hl2_a43 (by decide) | omega)
    refine wp_nn ((hzP123 this).1 hk_this) (fun a50 hn_a50 => ?_)
    have hk_a50 := ((hzP123 this).2 a50 hn_a50).1
    have hl1_a50 := ((hzP123 this).2 a50 hn_a50).2.1
    have hl2_a50 := ((hzP123 this).2 a50 hn_a50).2.2.1
    have hw_a50 := ((hzP123 this).2 a50 hn_a50).2.2.2
    have hz_a50 : (Int32.ofNat (ln a50)).toInt = ((ln a50 : Nat) : Int) := ofN_eq (by first | exact Nat.le_trans hl2_a50 (by decide) | omega)
    refine wp_vl (fun m53 em53 => ?_)
    have hp7 : PB κ ln wd 7 106 5 5 0 m53 := by rw [em53]; exact PB_up hzP122 hk_a50 (by omega) (by omega) (fun h9 => absurd h9 (by decide))
    have sm53 : m53 this = some a50 := by rw [em53]; exact va_up_self _ _ _
    clear em53
    refine wp_vl (fun m59 em59 => ?_)
    have hp8 : PB κ ln wd 7 106 5 5 0 m59 := by rw [em59]; exact PB_up hzP123 hk_a43 (by omega) (by omega) (fun h9 => absurd h9 (by decide))
    have sm59 : m59 this = some a43 := by rw [em59]; exact va_up_self _ _ _
    clear em59
    refine wp_vl (fun m64 em64 => ?_)
    have sm64 : (m64 this).toInt = 1 := by rw [em64, va_up_self]; decide +kernel
    clear em64
    have b9 := hg4 this
    refine wp_vl (fun x72 ex72 => ?_)
    have f10 : x72.toInt = (c12_G126 this).toInt := congrArg Int32.toInt ex72
    clear ex72
    refine wp_vl (fun m72 em72 => ?_)
    have hg11 : rng (0) 2500 m72 := by rw [em72]; exact rng_vup hzG125 (by omega) (by omega)
    have sm72 : (m72 this).toInt = x72.toInt := by rw [em72, va_up_self]
    have b12 := hg11 this
    clear em72
    exact ⟨_, rfl, ⟨hg11, hg4, hp5, hp6, hp7, hp8⟩⟩
abbrev QC_X8_begin (κ : Nat → Nat) (wd : Nat) (G : Nat → Nat → Int32) (P : Nat → Nat → Option Nat) (U : Nat → Nat → Int64) (V : Nat → Nat → Nat → Int32) (X : Nat → Nat → Nat → Int64) (O : Nat → Nat → Nat → Option Nat) (kd : Nat → Nat) (ln : Nat → Nat) (cnt : Nat) (this : Nat) (p0 : Nat) (p1 : Int32) : ((Nat → Int32) × (Nat → Int32) × (Nat → Int32) × (Nat → Int32) × (Nat → Option Nat)) → Prop := (fun t => (rng (0) 2000 (t.1)) ∧ (rng (0) 2000 (t.2.1)) ∧ (rng (0) 2000 (t.2.2.1)) ∧ (PB κ ln wd 9 100 0 2000 0 (t.2.2.2.2)) ∧ (((t.2.2.1) this).toInt = 0) ∧ (((t.2.1) this).toInt ≤ p1.toInt) ∧ ((t.2.2.2.2) this = some p0) ∧ (((t.1) this).toInt = 0) ∧ (((t.2.1) this).toInt ≤ ((ln p0 : Nat) : Int)))
set_option maxHeartbeats 4000000 in
set_option maxRecDepth 100000 in
theorem ok_X8_begin (κ : Nat → Nat) (wd : Nat) (G : Nat → Nat → Int32) (P : Nat → Nat → Option Nat) (U : Nat → Nat → Int64) (V : Nat → Nat → Nat → Int32) (X : Nat → Nat → Nat → Int64) (O : Nat → Nat → Nat → Option Nat) (kd : Nat → Nat) (ln : Nat → Nat) (cnt : Nat) (this : Nat) (p0 : Nat) (p1 : Int32) (hzG162 : rng (0) 2000 (G 162)) (hzG165 : rng (0) 2000 (G 165)) (hzG166 : rng (0) 2000 (G 166)) (hzP164 : PB κ ln wd 9 100 0 2000 0 (P 164)) (hzLN : LN κ ln) (hk_this : κ this = 9) (hk_p0 : κ p0 = 100) (hp0 : 0 ≤ p1.toInt) (hp1 : ((ln p0 : Nat) : Int) ≤ 2000) : wp (f_X8_begin G P U V X O kd ln cnt this p0 p1) (QC_X8_begin κ wd G P U V X O kd ln cnt this p0 p1) := by
  unfold f_X8_begin
  have zk0 : (0 : Int32).toInt = 0 := by decide +kernel
  have r_p1 := i32r p1
  refine wp_vl (fun m2 em2 => ?_)
  have hp1 : PB κ ln wd 9 100 0 2000 0 m2 := by rw [em2]; exact PB_up hzP164 hk_p0 (by omega) (by omega) (fun h9 => absurd h9 (by decide))
  have sm2 : m2 this = some p0 := by rw [em2]; exact va_up_self _ _ _
  clear em2
  have hz_p0 : (Int32.ofNat (ln p0)).toInt = ((ln p0 : Nat) : Int) := ofN_eq (hzLN p0 (by rw [hk_p0]; decide))
  have hzb_p0 := hzLN p0 (by rw [hk_p0]; decide)
  have mm2 := z_min (Int32.ofNat (ln p0)) p1
  refine wp_vl (fun x12 ex12 => ?_)
  have f3 : x12.toInt = (if (Int32.ofNat (ln p0)) < p1 then (Int32.ofNat (ln p0)) else p1).toInt := congrArg Int32.toInt ex12
  clear ex12
  refine wp_vl (fun m12 em12 => ?_)
  have hg4 : rng (0) 2000 m12 := by rw [em12]; exact rng_vup hzG165 (by omega) (by omega)
  have sm12 : (m12 this).toInt = x12.toInt := by rw [em12, va_up_self]
  have b5 := hg4 this
  clear em12
  refine wp_vl (fun m17 em17 => ?_)
  have hg6 : rng (0) 2000 m17 := by rw [em17]; exact rng_vup hzG166 (by omega) (by omega)
  have sm17 : (m17 this).toInt = 0 := by rw [em17, va_up_self]; decide +kernel
  have b7 := hg6 this
  clear em17
  refine wp_vl (fun m22 em22 => ?_)
  have hg8 : rng (0) 2000 m22 := by rw [em22]; exact rng_vup hzG162 (by omega) (by omega)
  have sm22 : (m22 this).toInt = 0 := by rw [em22, va_up_self]; decide +kernel
  have b9 := hg8 this
  clear em22
  refine wp_vl (fun m27 em27 => ?_)
  have sm27 : (m27 this).toInt = 0 := by rw [em27, va_up_self]; decide +kernel
  clear em27
  exact ⟨_, rfl, ⟨hg8, hg4, hg6, hp1, (show (m17 this).toInt = 0 from by omega), (show (m12 this).toInt ≤ p1.toInt from by omega), (show m2 this = some p0 from by assumption), (show (m22 this).toInt = 0 from by omega), (show (m12 this).toInt ≤ ((ln p0 : Nat) : Int) from by omega)⟩⟩
abbrev QC_X8_isLetter (κ : Nat → Nat) (wd : Nat) (G : Nat → Nat → Int32) (P : Nat → Nat → Option Nat) (U : Nat → Nat → Int64) (V : Nat → Nat → Nat → Int32) (X : Nat → Nat → Nat → Int64) (O : Nat → Nat → Nat → Option Nat) (kd : Nat → Nat) (ln : Nat → Nat) (cnt : Nat) (p0 : Int32) : (Int32) → Prop := (fun t => ((0 ≤ t.toInt ∧ t.toInt ≤ 1)))
set_option maxHeartbeats 4000000 in
set_option maxRecDepth 100000 in
theorem ok_X8_isLetter (κ : Nat → Nat) (wd : Nat) (G : Nat → Nat → Int32) (P : Nat → Nat → Option Nat) (U : Nat → Nat → Int64) (V : Nat → Nat → Nat → Int32) (X : Nat → Nat → Nat → Int64) (O : Nat → Nat → Nat → Option Nat) (kd : Nat → Nat) (ln : Nat → Nat) (cnt : Nat) (p0 : Int32) (hzLN : LN κ ln) : wp (f_X8_isLetter G P U V X O kd ln cnt p0) (QC_X8_isLetter κ wd G P U V X O kd ln cnt p0) := by
  unfold f_X8_isLetter
  have zk0 : (0 : Int32).toInt = 0 := by decide +kernel
  have zk1 : (1 : Int32).toInt = 1 := by decide +kernel
  have r_p0 := i32r p0
  obtain ⟨r1, hc1, hq1⟩ := ok_X10_isSmall κ wd G P U V X O kd ln cnt p0 hzLN
  have f1 : (0 ≤ r1.toInt ∧ r1.toInt ≤ 1) := hq1
  refine wp_b1 hc1 ?_
  clear hc1
  refine wp_jn (fun j19 => ∀ (t19_0 : Int32), (0 ≤ t19_0.toInt ∧ t19_0.toInt ≤ 1) → wp (j19 t19_0) (QC_X8_isLetter κ wd G P U V X O kd ln cnt p0)) ?_ ?_
  · intro t19_0 f2
    show wp _ _
    refine wp_if ⟨by omega, by omega⟩ ?_
    exact ⟨_, rfl, (show 0 ≤ t19_0.toInt ∧ t19_0.toInt ≤ 1 from ⟨by omega, by omega⟩)⟩
  intro j19 Jj19
  refine wp_jn (fun j14 => wp (j14 ()) (QC_X8_isLetter κ wd G P U V X O kd ln cnt p0)) ?_ ?_
  · show wp _ _
    exact Jj19 (1 : Int32) (show (0 ≤ (1 : Int32).toInt ∧ (1 : Int32).toInt ≤ 1) from by omega)
  intro j14 Jj14
  refine wp_ite (fun c4 => ?_) (fun c4 => ?_)
  · have c4 := congrArg Int32.toInt c4
    obtain ⟨r8, hc8, hq8⟩ := ok_X10_isCapital κ wd G P U V X O kd ln cnt p0 hzLN
    have f3 : (0 ≤ r8.toInt ∧ r8.toInt ≤ 1) := hq8
    refine wp_b1 hc8 ?_
    clear hc8
    refine wp_ite (fun c11 => ?_) (fun c11 => ?_)
    · have c11 := congrArg Int32.toInt c11
      exact Jj19 (0 : Int32) (show (0 ≤ (0 : Int32).toInt ∧ (0 : Int32).toInt ≤ 1) from by omega)
    · have c11 := z_ne c11
      exact Jj14
  · have c4 := z_ne c4
    exact Jj14
abbrev QC_X8_takeWord (κ : Nat → Nat) (wd : Nat) (G : Nat → Nat → Int32) (P : Nat → Nat → Option Nat) (U : Nat → Nat → Int64) (V : Nat → Nat → Nat → Int32) (X : Nat → Nat → Nat → Int64) (O : Nat → Nat → Nat → Option Nat) (kd : Nat → Nat) (ln : Nat → Nat) (cnt : Nat) (this : Nat) : ((Nat → Int32) × (Nat → Int32) × (Nat → Int32) × (Nat → Int32)) → Prop := (fun t => (rng (0) 2000 (t.1)) ∧ (rng (0) 2000 (t.2.1)) ∧ (rng (0) 2000 (t.2.2.2)) ∧ (((t.1) this).toInt = ((G 166) this).toInt) ∧ (((t.1) this).toInt + ((t.2.1) this).toInt = ((t.2.2.2) this).toInt) ∧ (((G 166) this).toInt ≤ ((t.2.2.2) this).toInt) ∧ (((t.2.2.2) this).toInt ≤ ((G 165) this).toInt))
set_option maxHeartbeats 4000000 in
set_option maxRecDepth 100000 in
theorem ok_X8_takeWord (κ : Nat → Nat) (wd : Nat) (G : Nat → Nat → Int32) (P : Nat → Nat → Option Nat) (U : Nat → Nat → Int64) (V : Nat → Nat → Nat → Int32) (X : Nat → Nat → Nat → Int64) (O : Nat → Nat → Nat → Option Nat) (kd : Nat → Nat) (ln : Nat → Nat) (cnt : Nat) (this : Nat) (hzG160 : rng (0) 2000 (G 160)) (hzG161 : rng (0) 2000 (G 161)) (hzG165 : rng (0) 2000 (G 165)) (hzG166 : rng (0) 2000 (G 166)) (hzP164 : PB κ ln wd 9 100 0 2000 0 (P 164)) (hzLN : LN κ ln) (hk_this : κ this = 9) (hp0 : (∀ tx, (P 164) this = some tx → ((G 165) this).toInt ≤ ((ln tx : Nat) : Int))) (hp1 : ((G 166) this).toInt ≤ ((G 165) this).toInt) : wp (f_X8_takeWord G P U V X O kd ln cnt this) (QC_X8_takeWord κ wd G P U V X O kd ln cnt this) := by
  unfold f_X8_takeWord
  have zk0 : (0 : Int32).toInt = 0 := by decide +kernel
  have zk1 : (1 : Int32).toInt = 1 := by decide +kernel
  obtain ⟨u1, hn_u1⟩ := PBs (hzP164 this) hk_this
  have hk_u1 := ((hzP164 this).2 u1 hn_u1).1
  have hl1_u1 := ((hzP164 this).2 u1 hn_u1).2.1
  have hl2_u1 := ((hzP164 this).2 u1 hn_u1).2.2.1
  have hw_u1 := ((hzP164 this).2 u1 hn_u1).2.2.2
  have hz_u1 : (Int32.ofNat (ln u1)).toInt = ((ln u1 : Nat) : Int) := ofN_eq (by first | exact Nat.le_trans hl2_u1 (by decide) | omega)
  have hsz := hp0 _ hn_u1
  have b2 := hzG166 this
  refine wp_vl (fun x5 ex5 => ?_)
  have f3 : x5.toInt = ((G 166) this).toInt := congrArg Int32.toInt ex5
  clear ex5
  refine wp_vl (fun m5 em5 => ?_)
  have hg4 : rng (0) 2000 m5 := by rw [em5]; exact rng_vup hzG160 (by omega) (by omega)
  have sm5 : (m5 this).toInt = x5.toInt := by rw [em5, va_up_self]
  have b5 := hg4 this
  clear em5
  refine wp_vl (fun m10 em10 => ?_)
  have sm10 : (m10 this).toInt = 0 := by rw [em10, va_up_self]; decide +kernel
  clear em10
  refine wp_jn (fun k83 => ∀ (c83_G163 : Nat → Int32) (c83_G166 : Nat → Int32), rng (0) 2000 c83_G166 → (((G 166) this).toInt ≤ (c83_G166 this).toInt ∧ (c83_G166 this).toInt ≤ ((G 165) this).toInt) → wp (k83 c83_G163 c83_G166) (QC_X8_takeWord κ wd G P U V X O kd ln cnt this)) ?_ ?_
  · intro c83_G163 c83_G166 hg6 f7
    show wp _ _
    have b8 := hg6 this
    have f10 : ((c83_G166 this) - (m5 this)).toInt = (c83_G166 this).toInt - (m5 this).toInt := z_sub (by omega) (by omega)
    refine wp_vl (fun x93 ex93 => ?_)
    have f11 : x93.toInt = ((c83_G166 this) - (m5 this)).toInt := congrArg Int32.toInt ex93
    clear ex93
    refine wp_vl (fun m93 em93 => ?_)
    have hg12 : rng (0) 2000 m93 := by rw [em93]; exact rng_vup hzG161 (by omega) (by omega)
    have sm93 : (m93 this).toInt = x93.toInt := by rw [em93, va_up_self]
    have b13 := hg12 this
    clear em93
    exact ⟨_, rfl, ⟨hg4, hg12, hg6, (show (m5 this).toInt = ((G 166) this).toInt from by omega), (show (m5 this).toInt + (m93 this).toInt = (c83_G166 this).toInt from by omega), (show ((G 166) this).toInt ≤ (c83_G166 this).toInt from by omega), (show (c83_G166 this).toInt ≤ ((G 165) this).toInt from by omega)⟩⟩
  intro k83 Jk83
  have lp13 : ∀ (n13 : Nat) (d13_G163 : Nat → Int32) (d13_G166 : Nat → Int32), (2000 - (d13_G166 this).toInt).toNat < n13 → rng (0) 2000 d13_G166 → (((G 166) this).toInt ≤ (d13_G166 this).toInt ∧ (d13_G166 this).toInt ≤ ((G 165) this).toInt) → wp (L_X8_takeWord_13 G P U V X O kd ln cnt this m5 k83 n13 d13_G163 d13_G166) (QC_X8_takeWord κ wd G P U V X O kd ln cnt this) := by
    intro n13
    induction n13 with
    | zero => intro d13_G163 d13_G166 hm; exact absurd hm (Nat.not_lt_zero _)
    | succ n13 ih13 =>
      intro d13_G163 d13_G166 hm13 hg14 f15
      show wp (B_X8_takeWord_13 G P U V X O kd ln cnt this m5 k83 (L_X8_takeWord_13 G P U V X O kd ln cnt this m5 k83 n13) d13_G163 d13_G166) _
      unfold B_X8_takeWord_13
      have b16 := hg14 this
      have b17 := hzG165 this
      refine wp_ite (fun c21 => ?_) (fun c21 => ?_)
      · have c21 := (z_le _ _).mp c21
        exact Jk83 d13_G163 d13_G166 hg14 (show (((G 166) this).toInt ≤ (d13_G166 this).toInt ∧ (d13_G166 this).toInt ≤ ((G 165) this).toInt) from by omega)
      · have c21 := z_nle c21
        refine wp_nne hn_u1 ?_
        refine wp_if ⟨by omega, by omega⟩ ?_
        obtain ⟨r33, hc33, hq33⟩ := ok_X8_isLetter κ wd (va_up (va_up (va_up G 160 m5) 163 d13_G163) 166 d13_G166) P U V X O kd ln cnt (((V 0) u1) (Int32.toNatClampNeg (d13_G166 this))) hzLN
        have f19 : (0 ≤ r33.toInt ∧ r33.toInt ≤ 1) := hq33
        refine wp_b1 hc33 ?_
        clear hc33
        refine wp_ite (fun c36 => ?_) (fun c36 => ?_)
        · have c36 := congrArg Int32.toInt c36
          exact Jk83 d13_G163 d13_G166 hg14 (show (((G 166) this).toInt ≤ (d13_G166 this).toInt ∧ (d13_G166 this).toInt ≤ ((G 165) this).toInt) from by omega)
        · have c36 := z_ne c36
          refine wp_jn (fun j67 => ∀ (t67_0 : Int32), (0 ≤ t67_0.toInt ∧ t67_0.toInt ≤ 1) → wp (j67 t67_0) (QC_X8_takeWord κ wd G P U V X O kd ln cnt this)) ?_ ?_
          · intro t67_0 f20
            show wp _ _
            refine wp_if ⟨by omega, by omega⟩ ?_
            refine wp_vl (fun m67 em67 => ?_)
            have sm67 : (m67 this).toInt = t67_0.toInt := by rw [em67, va_up_self]
            clear em67
            have f22 : ((d13_G166 this) + 1).toInt = (d13_G166 this).toInt + 1 := z_addc (by decide +kernel) (by omega) (by omega)
            refine wp_vl (fun x77 ex77 => ?_)
            have f23 : x77.toInt = ((d13_G166 this) + 1).toInt := congrArg Int32.toInt ex77
            clear ex77
            refine wp_vl (fun m77 em77 => ?_)
            have hg24 : rng (0) 2000 m77 := by rw [em77]; exact rng_vup hg14 (by omega) (by omega)
            have sm77 : (m77 this).toInt = x77.toInt := by rw [em77, va_up_self]
            have b25 := hg24 this
            clear em77
            exact ih13 m67 m77 (show (2000 - (m77 this).toInt).toNat < n13 from by omega) hg24 (show (((G 166) this).toInt ≤ (m77 this).toInt ∧ (m77 this).toInt ≤ ((G 165) this).toInt) from by omega)
          intro j67 Jj67
          refine wp_jn (fun j62 => wp (j62 ()) (QC_X8_takeWord κ wd G P U V X O kd ln cnt this)) ?_ ?_
          · show wp _ _
            exact Jj67 (1 : Int32) (show (0 ≤ (1 : Int32).toInt ∧ (1 : Int32).toInt ≤ 1) from by omega)
          intro j62 Jj62
          refine wp_ite (fun c44 => ?_) (fun c44 => ?_)
          · have c44 := congrArg Int32.toInt c44
            refine wp_nne hn_u1 ?_
            refine wp_if ⟨by omega, by omega⟩ ?_
            obtain ⟨r56, hc56, hq56⟩ := ok_X10_isCapital κ wd (va_up (va_up (va_up G 160 m5) 163 d13_G163) 166 d13_G166) P U V X O kd ln cnt (((V 0) u1) (Int32.toNatClampNeg (d13_G166 this))) hzLN
            have f27 : (0 ≤ r56.toInt ∧ r56.toInt ≤ 1) := hq56
            refine wp_b1 hc56 ?_
            clear hc56
            refine wp_ite (fun c59 => ?_) (fun c59 => ?_)
            · have c59 := congrArg Int32.toInt c59
              exact Jj67 (0 : Int32) (show (0 ≤ (0 : Int32).toInt ∧ (0 : Int32).toInt ≤ 1) from by omega)
            · have c59 := z_ne c59
              exact Jj62
          · have c44 := z_ne c44
            exact Jj62
  exact lp13 NN m10 (G 166) (by have := NN_eq; omega) hzG166 (show (((G 166) this).toInt ≤ ((G 166) this).toInt ∧ ((G 166) this).toInt ≤ ((G 165) this).toInt) from by omega)
abbrev QC_X8_next (κ : Nat → Nat) (wd : Nat) (G : Nat → Nat → Int32) (P : Nat → Nat → Option Nat) (U : Nat → Nat → Int64) (V : Nat → Nat → Nat → Int32) (X : Nat → Nat → Nat → Int64) (O : Nat → Nat → Nat → Option Nat) (kd : Nat → Nat) (ln : Nat → Nat) (cnt : Nat) (this : Nat) : (Int32 × (Nat → Int32) × (Nat → Int32) × (Nat → Int32) × (Nat → Int32) × (Nat → Int32) × (Nat → Int32)) → Prop := (fun t => (rng (0) 2000 (t.2.1)) ∧ (rng (0) 2000 (t.2.2.1)) ∧ (rng (0) 2000 (t.2.2.2.1)) ∧ (rng (0) 2000 (t.2.2.2.2.2.1)) ∧ ((0 ≤ (t.1).toInt ∧ (t.1).toInt ≤ 1)) ∧ (((t.1).toInt = 1 → ((G 166) this).toInt ≤ ((t.2.1) this).toInt ∧ ((t.2.1) this).toInt + ((t.2.2.1) this).toInt = ((t.2.2.2.2.2.1) this).toInt)) ∧ (((t.2.2.2.2.2.1) this).toInt ≤ ((G 165) this).toInt) ∧ (((t.2.2.2.1) this).toInt ≤ ((t.2.2.2.2.2.1) this).toInt) ∧ (((G 166) this).toInt ≤ ((t.2.2.2.2.2.1) this).toInt))
set_option maxHeartbeats 4000000 in
set_option maxRecDepth 100000 in
theorem ok_X8_next (κ : Nat → Nat) (wd : Nat) (G : Nat → Nat → Int32) (P : Nat → Nat → Option Nat) (U : Nat → Nat → Int64) (V : Nat → Nat → Nat → Int32) (X : Nat → Nat → Nat → Int64) (O : Nat → Nat → Nat → Option Nat) (kd : Nat → Nat) (ln : Nat → Nat) (cnt : Nat) (this : Nat) (hzG160 : rng (0) 2000 (G 160)) (hzG161 : rng (0) 2000 (G 161)) (hzG162 : rng (0) 2000 (G 162)) (hzG165 : rng (0) 2000 (G 165)) (hzG166 : rng (0) 2000 (G 166)) (hzP164 : PB κ ln wd 9 100 0 2000 0 (P 164)) (hzLN : LN κ ln) (hk_this : κ this = 9) (hp0 : (∀ tx, (P 164) this = some tx → ((G 165) this).toInt ≤ ((ln tx : Nat) : Int))) (hp1 : ((G 166) this).toInt ≤ ((G 165) this).toInt) (hp2 : ((G 162) this).toInt ≤ ((G 166) this).toInt) : wp (f_X8_next G P U V X O kd ln cnt this) (QC_X8_next κ wd G P U V X O kd ln cnt this) := by
  unfold f_X8_next
  have zk0 : (0 : Int32).toInt = 0 := by decide +kernel
  have zk1 : (1 : Int32).toInt = 1 := by decide +kernel
  have zk10 : (10 : Int32).toInt = 10 := by decide +kernel
  have zk34 : (34 : Int32).toInt = 34 := by decide +kernel
  obtain ⟨u1, hn_u1⟩ := PBs (hzP164 this) hk_this
  have hk_u1 := ((hzP164 this).2 u1 hn_u1).1
  have hl1_u1 := ((hzP164 this).2 u1 hn_u1).2.1
  have hl2_u1 := ((hzP164 this).2 u1 hn_u1).2.2.1
  have hw_u1 := ((hzP164 this).2 u1 hn_u1).2.2.2
  have hz_u1 : (Int32.ofNat (ln u1)).toInt = ((ln u1 : Nat) : Int) := ofN_eq (by first | exact Nat.le_trans hl2_u1 (by decide) | omega)
  have hsz := hp0 _ hn_u1
  have hb0 := hzG166 this
  have lp0 : ∀ (n0 : Nat) (d0_G162 : Nat → Int32) (d0_G166 : Nat → Int32) (d0_G167 : Nat → Int32), (2000 - (d0_G166 this).toInt).toNat < n0 → rng (0) 2000 d0_G162 → rng (0) 2000 d0_G166 → (((G 166) this).toInt ≤ (d0_G166 this).toInt ∧ (d0_G166 this).toInt ≤ ((G 165) this).toInt) → (d0_G162 this).toInt ≤ (d0_G166 this).toInt → wp (L_X8_next_0 G P U V X O kd ln cnt this n0 d0_G162 d0_G166 d0_G167) (QC_X8_next κ wd G P U V X O kd ln cnt this) := by
    intro n0
    induction n0 with
    | zero => intro d0_G162 d0_G166 d0_G167 hm; exact absurd hm (Nat.not_lt_zero _)
    | succ n0 ih0 =>
      intro d0_G162 d0_G166 d0_G167 hm0 hg2 hg3 f4 f5
      show wp (B_X8_next_0 G P U V X O kd ln cnt this (L_X8_next_0 G P U V X O kd ln cnt this n0) d0_G162 d0_G166 d0_G167) _
      unfold B_X8_next_0
      have b6 := hg3 this
      have b7 := hzG165 this
      refine wp_ite (fun c8 => ?_) (fun c8 => ?_)
      · have c8 := (z_le _ _).mp c8
        exact ⟨_, rfl, ⟨hzG160, hzG161, hg2, hg3, (show 0 ≤ (0 : Int32).toInt ∧ (0 : Int32).toInt ≤ 1 from ⟨by omega, by omega⟩), (show ((0 : Int32).toInt = 1 → ((G 166) this).toInt ≤ ((G 160) this).toInt ∧ ((G 160) this).toInt + ((G 161) this).toInt = (d0_G166 this).toInt) from by omega), (show (d0_G166 this).toInt ≤ ((G 165) this).toInt from by omega), (show (d0_G162 this).toInt ≤ (d0_G166 this).toInt from by omega), (show ((G 166) this).toInt ≤ (d0_G166 this).toInt from by omega)⟩⟩
      · have c8 := z_nle c8
        refine wp_nne hn_u1 ?_
        refine wp_if ⟨by omega, by omega⟩ ?_
        refine wp_vl (fun x20 ex20 => ?_)
        have f9 : x20.toInt = (((V 0) u1) (Int32.toNatClampNeg (d0_G166 this))).toInt := congrArg Int32.toInt ex20
        clear ex20
        refine wp_jn (fun j85 => ∀ (c85_G162 : Nat → Int32) (c85_G167 : Nat → Int32), rng (0) 2000 c85_G162 → (c85_G162 this).toInt ≤ (d0_G166 this).toInt + 1 → wp (j85 c85_G162 c85_G167) (QC_X8_next κ wd G P U V X O kd ln cnt this)) ?_ ?_
        · intro c85_G162 c85_G167 hg10 f11
          show wp _ _
          have f13 : ((d0_G166 this) + 1).toInt = (d0_G166 this).toInt + 1 := z_addc (by decide +kernel) (by omega) (by omega)
          refine wp_vl (fun x92 ex92 => ?_)
          have f14 : x92.toInt = ((d0_G166 this) + 1).toInt := congrArg Int32.toInt ex92
          clear ex92
          refine wp_vl (fun m92 em92 => ?_)
          have hg15 : rng (0) 2000 m92 := by rw [em92]; exact rng_vup hg3 (by omega) (by omega)
          have sm92 : (m92 this).toInt = x92.toInt := by rw [em92, va_up_self]
          have b16 := hg15 this
          clear em92
          exact ih0 c85_G162 m92 c85_G167 (show (2000 - (m92 this).toInt).toNat < n0 from by omega) hg10 hg15 (show (((G 166) this).toInt ≤ (m92 this).toInt ∧ (m92 this).toInt ≤ ((G 165) this).toInt) from by omega) (show (c85_G162 this).toInt ≤ (m92 this).toInt from by omega)
        intro j85 Jj85
        refine wp_ite (fun c24 => ?_) (fun c24 => ?_)
        · have c24 := congrArg Int32.toInt c24
          have b17 := hg2 this
          have f18 : ((d0_G162 this) + 1).toInt = (d0_G162 this).toInt + 1 := z_addc (by decide +kernel) (by omega) (by omega)
          refine wp_vl (fun x34 ex34 => ?_)
          have f19 : x34.toInt = ((d0_G162 this) + 1).toInt := congrArg Int32.toInt ex34
          clear ex34
          refine wp_vl (fun m34 em34 => ?_)
          have hg20 : rng (0) 2000 m34 := by rw [em34]; exact rng_vup hg2 (by omega) (by omega)
          have sm34 : (m34 this).toInt = x34.toInt := by rw [em34, va_up_self]
          have b21 := hg20 this
          clear em34
          exact Jj85 m34 d0_G167 hg20 (show (m34 this).toInt ≤ (d0_G166 this).toInt + 1 from by omega)
        · have c24 := z_ne c24
          refine wp_ite (fun c43 => ?_) (fun c43 => ?_)
          · have c43 := congrArg Int32.toInt c43
            refine wp_jn (fun j59 => ∀ (t59_0 : Int32), (0 ≤ t59_0.toInt ∧ t59_0.toInt ≤ 1) → wp (j59 t59_0) (QC_X8_next κ wd G P U V X O kd ln cnt this)) ?_ ?_
            · intro t59_0 f22
              show wp _ _
              refine wp_if ⟨by omega, by omega⟩ ?_
              refine wp_vl (fun m59 em59 => ?_)
              have sm59 : (m59 this).toInt = t59_0.toInt := by rw [em59, va_up_self]
              clear em59
              exact Jj85 d0_G162 m59 hg2 (show (d0_G162 this).toInt ≤ (d0_G166 this).toInt + 1 from by omega)
            intro j59 Jj59
            refine wp_ite (fun c51 => ?_) (fun c51 => ?_)
            · have c51 := congrArg Int32.toInt c51
              exact Jj59 (1 : Int32) (show (0 ≤ (1 : Int32).toInt ∧ (1 : Int32).toInt ≤ 1) from by omega)
            · have c51 := z_ne c51
              exact Jj59 (0 : Int32) (show (0 ≤ (0 : Int32).toInt ∧ (0 : Int32).toInt ≤ 1) from by omega)
          · have c43 := z_ne c43
            refine wp_ite (fun c69 => ?_) (fun c69 => ?_)
            · have c69 := congrArg Int32.toInt c69
              obtain ⟨r73, hc73, hq73⟩ := ok_X8_isLetter κ wd (va_up (va_up (va_up G 162 d0_G162) 166 d0_G166) 167 d0_G167) P U V X O kd ln cnt x20 hzLN
              have f23 : (0 ≤ r73.toInt ∧ r73.toInt ≤ 1) := hq73
              refine wp_b1 hc73 ?_
              clear hc73
              refine wp_ite (fun c76 => ?_) (fun c76 => ?_)
              · have c76 := congrArg Int32.toInt c76
                exact Jj85 d0_G162 d0_G167 hg2 (show (d0_G162 this).toInt ≤ (d0_G166 this).toInt + 1 from by omega)
              · have c76 := z_ne c76
                obtain ⟨⟨c80_G160, c80_G161, c80_G163, c80_G166⟩, hc80, hq80⟩ := ok_X8_takeWord κ wd (va_up (va_up (va_up G 162 d0_G162) 166 d0_G166) 167 d0_G167) P U V X O kd ln cnt this hzG160 hzG161 hzG165 hg3 hzP164 hzLN hk_this (show (∀ tx, (P 164) this = some tx → ((G 165) this).toInt ≤ ((ln tx : Nat) : Int)) from by assumption) (show (d0_G166 this).toInt ≤ ((G 165) this).toInt from by omega)
                obtain ⟨hg24, hg25, hg26, f27, f28, f29, f30⟩ : (rng (0) 2000 c80_G160) ∧ (rng (0) 2000 c80_G161) ∧ (rng (0) 2000 c80_G166) ∧ ((c80_G160 this).toInt = (d0_G166 this).toInt) ∧ ((c80_G160 this).toInt + (c80_G161 this).toInt = (c80_G166 this).toInt) ∧ ((d0_G166 this).toInt ≤ (c80_G166 this).toInt) ∧ ((c80_G166 this).toInt ≤ ((G 165) this).toInt) := hq80
                refine wp_b4 hc80 ?_
                clear hc80
                exact ⟨_, rfl, ⟨hg24, hg25, hg2, hg26, (show 0 ≤ (1 : Int32).toInt ∧ (1 : Int32).toInt ≤ 1 from ⟨by omega, by omega⟩), (show ((1 : Int32).toInt = 1 → ((G 166) this).toInt ≤ (c80_G160 this).toInt ∧ (c80_G160 this).toInt + (c80_G161 this).toInt = (c80_G166 this).toInt) from by omega), (show (c80_G166 this).toInt ≤ ((G 165) this).toInt from by omega), (show (d0_G162 this).toInt ≤ (c80_G166 this).toInt from by omega), (show ((G 166) this).toInt ≤ (c80_G166 this).toInt from by omega)⟩⟩
            · have c69 := z_ne c69
              exact Jj85 d0_G162 d0_G167 hg2 (show (d0_G162 this).toInt ≤ (d0_G166 this).toInt + 1 from by omega)
  exact lp0 NN (G 162) (G 166) (G 167) (by have := NN_eq; omega) hzG162 hzG166 (show (((G 166) this).toInt ≤ ((G 166) this).toInt ∧ ((G 166) this).toInt ≤ ((G 165) this).toInt) from by omega) (show ((G 162) this).toInt ≤ ((G 166) this).toInt from by omega)
