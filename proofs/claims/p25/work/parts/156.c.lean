abbrev QX_X10_isSmall (κ : Nat → Nat) (wd : Nat) (G : Nat → Nat → Int32) (P : Nat → Nat → Option Nat) (U : Nat → Nat → Int64) (V : Nat → Nat → Nat → Int32) (X : Nat → Nat → Nat → Int64) (O : Nat → Nat → Nat → Option Nat) (kd : Nat → Nat) (ln : Nat → Nat) (cnt : Nat) (p0 : Int32) : (Int32) → Prop := (fun t => ((0 ≤ t.toInt ∧ t.toInt ≤ 1)) ∧ (((t.toInt = 1 ∧ 97 ≤ p0.toInt ∧ p0.toInt ≤ 122) ∨ (t.toInt = 0 ∧ (p0.toInt < 97 ∨ 122 < p0.toInt)))))
set_option maxHeartbeats 4000000 in
set_option maxRecDepth 100000 in
theorem fx_X10_isSmall (κ : Nat → Nat) (wd : Nat) (G : Nat → Nat → Int32) (P : Nat → Nat → Option Nat) (U : Nat → Nat → Int64) (V : Nat → Nat → Nat → Int32) (X : Nat → Nat → Nat → Int64) (O : Nat → Nat → Nat → Option Nat) (kd : Nat → Nat) (ln : Nat → Nat) (cnt : Nat) (p0 : Int32) (hzLN : LN κ ln) : wp (f_X10_isSmall G P U V X O kd ln cnt p0) (QX_X10_isSmall κ wd G P U V X O kd ln cnt p0) := by
  unfold f_X10_isSmall
  have zk0 : (0 : Int32).toInt = 0 := by decide +kernel
  have zk1 : (1 : Int32).toInt = 1 := by decide +kernel
  have zk97 : (97 : Int32).toInt = 97 := by decide +kernel
  have zk122 : (122 : Int32).toInt = 122 := by decide +kernel
  have r_p0 := i32r p0
  refine wp_jn (fun j17 => ∀ (t17_0 : Int32), (0 ≤ t17_0.toInt ∧ t17_0.toInt ≤ 1) → ((t17_0.toInt = 1 ∧ 97 ≤ p0.toInt ∧ p0.toInt ≤ 122) ∨ (t17_0.toInt = 0 ∧ (p0.toInt < 97 ∨ 122 < p0.toInt))) → wp (j17 t17_0) (QX_X10_isSmall κ wd G P U V X O kd ln cnt p0)) ?_ ?_
  · intro t17_0 f1 f2
    show wp _ _
    refine wp_if ⟨by omega, by omega⟩ ?_
    exact ⟨_, rfl, ⟨(show 0 ≤ t17_0.toInt ∧ t17_0.toInt ≤ 1 from ⟨by omega, by omega⟩), (show ((t17_0.toInt = 1 ∧ 97 ≤ p0.toInt ∧ p0.toInt ≤ 122) ∨ (t17_0.toInt = 0 ∧ (p0.toInt < 97 ∨ 122 < p0.toInt))) from by omega)⟩⟩
  intro j17 Jj17
  refine wp_jn (fun j16 => (p0.toInt < 97 ∨ 122 < p0.toInt) → wp (j16 ()) (QX_X10_isSmall κ wd G P U V X O kd ln cnt p0)) ?_ ?_
  · intro f3
    show wp _ _
    exact Jj17 (0 : Int32) (show (0 ≤ (0 : Int32).toInt ∧ (0 : Int32).toInt ≤ 1) from by omega) (show (((0 : Int32).toInt = 1 ∧ 97 ≤ p0.toInt ∧ p0.toInt ≤ 122) ∨ ((0 : Int32).toInt = 0 ∧ (p0.toInt < 97 ∨ 122 < p0.toInt))) from by omega)
  intro j16 Jj16
  refine wp_ite (fun c3 => ?_) (fun c3 => ?_)
  · have c3 := (z_lt _ _).mp c3
    exact Jj16 (show (p0.toInt < 97 ∨ 122 < p0.toInt) from by omega)
  · have c3 := z_nlt c3
    refine wp_ite (fun c9 => ?_) (fun c9 => ?_)
    · have c9 := (z_lt _ _).mp c9
      exact Jj16 (show (p0.toInt < 97 ∨ 122 < p0.toInt) from by omega)
    · have c9 := z_nlt c9
      exact Jj17 (1 : Int32) (show (0 ≤ (1 : Int32).toInt ∧ (1 : Int32).toInt ≤ 1) from by omega) (show (((1 : Int32).toInt = 1 ∧ 97 ≤ p0.toInt ∧ p0.toInt ≤ 122) ∨ ((1 : Int32).toInt = 0 ∧ (p0.toInt < 97 ∨ 122 < p0.toInt))) from by omega)
abbrev QX_X10_isFull (κ : Nat → Nat) (wd : Nat) (G : Nat → Nat → Int32) (P : Nat → Nat → Option Nat) (U : Nat → Nat → Int64) (V : Nat → Nat → Nat → Int32) (X : Nat → Nat → Nat → Int64) (O : Nat → Nat → Nat → Option Nat) (kd : Nat → Nat) (ln : Nat → Nat) (cnt : Nat) (this : Nat) : (Int32) → Prop := (fun t => ((0 ≤ t.toInt ∧ t.toInt ≤ 1)) ∧ ((∀ s, (P 202) this = some s → t.toInt = 0 → ((G 203) this).toInt < ((ln s : Nat) : Int))) ∧ ((∀ s, (P 202) this = some s → t.toInt = 1 → ((ln s : Nat) : Int) ≤ ((G 203) this).toInt)))
set_option maxHeartbeats 4000000 in
set_option maxRecDepth 100000 in
theorem fx_X10_isFull (κ : Nat → Nat) (wd : Nat) (G : Nat → Nat → Int32) (P : Nat → Nat → Option Nat) (U : Nat → Nat → Int64) (V : Nat → Nat → Nat → Int32) (X : Nat → Nat → Nat → Int64) (O : Nat → Nat → Nat → Option Nat) (kd : Nat → Nat) (ln : Nat → Nat) (cnt : Nat) (this : Nat) (hzG200 : rng (0) 24 (G 200)) (hzG203 : rng (0) 100 (G 203)) (hzP201 : PB κ ln wd 11 100 0 2400 0 (P 201)) (hzP202 : PB κ ln wd 11 101 0 100 0 (P 202)) (hzV1 : rng2 (0) 24 (V 1)) (hzRA : RA κ ln (G 200) (P 201) (P 202)) (hzRB : RB κ ln (G 200) (G 203) (P 202) (V 1)) (hzRI : RI (P 202)) (hzLN : LN κ ln) (hk_this : κ this = 11) : wp (f_X10_isFull G P U V X O kd ln cnt this) (QX_X10_isFull κ wd G P U V X O kd ln cnt this) := by
  unfold f_X10_isFull
  have zk0 : (0 : Int32).toInt = 0 := by decide +kernel
  have zk1 : (1 : Int32).toInt = 1 := by decide +kernel
  have b1 := hzG203 this
  refine wp_nn ((hzP202 this).1 hk_this) (fun a5 hn_a5 => ?_)
  have hk_a5 := ((hzP202 this).2 a5 hn_a5).1
  have hl1_a5 := ((hzP202 this).2 a5 hn_a5).2.1
  have hl2_a5 := ((hzP202 this).2 a5 hn_a5).2.2.1
  have hw_a5 := ((hzP202 this).2 a5 hn_a5).2.2.2
  have hz_a5 : (Int32.ofNat (ln a5)).toInt = ((ln a5 : Nat) : Int) := ofN_eq (by first | exact Nat.le_trans hl2_a5 (by decide) | omega)
  have rb2 := (hzRB this a5 hk_this hn_a5).1
  have hzb_a5 := hzLN a5 (by rw [hk_a5]; decide)
  refine wp_jn (fun j17 => ∀ (t17_0 : Int32), (0 ≤ t17_0.toInt ∧ t17_0.toInt ≤ 1) → (t17_0.toInt = 0 → ((G 203) this).toInt < ((ln a5 : Nat) : Int)) → (t17_0.toInt = 1 → ((ln a5 : Nat) : Int) ≤ ((G 203) this).toInt) → wp (j17 t17_0) (QX_X10_isFull κ wd G P U V X O kd ln cnt this)) ?_ ?_
  · intro t17_0 f3 f4 f5
    show wp _ _
    refine wp_if ⟨by omega, by omega⟩ ?_
    exact ⟨_, rfl, ⟨(show 0 ≤ t17_0.toInt ∧ t17_0.toInt ≤ 1 from ⟨by omega, by omega⟩), (show (∀ s, (P 202) this = some s → t17_0.toInt = 0 → ((G 203) this).toInt < ((ln s : Nat) : Int)) from by intro s hs h0; obtain rfl : a5 = s := Option.some.inj (hn_a5.symm.trans hs); omega), (show (∀ s, (P 202) this = some s → t17_0.toInt = 1 → ((ln s : Nat) : Int) ≤ ((G 203) this).toInt) from by intro s hs h0; obtain rfl : a5 = s := Option.some.inj (hn_a5.symm.trans hs); omega)⟩⟩
  intro j17 Jj17
  refine wp_ite (fun c9 => ?_) (fun c9 => ?_)
  · have c9 := (z_lt _ _).mp c9
    exact Jj17 (0 : Int32) (show (0 ≤ (0 : Int32).toInt ∧ (0 : Int32).toInt ≤ 1) from by omega) (show ((0 : Int32).toInt = 0 → ((G 203) this).toInt < ((ln a5 : Nat) : Int)) from by omega) (show ((0 : Int32).toInt = 1 → ((ln a5 : Nat) : Int) ≤ ((G 203) this).toInt) from by omega)
  · have c9 := z_nlt c9
    exact Jj17 (1 : Int32) (show (0 ≤ (1 : Int32).toInt ∧ (1 : Int32).toInt ≤ 1) from by omega) (show ((1 : Int32).toInt = 0 → ((G 203) this).toInt < ((ln a5 : Nat) : Int)) from by omega) (show ((1 : Int32).toInt = 1 → ((ln a5 : Nat) : Int) ≤ ((G 203) this).toInt) from by omega)
abbrev QX_X10_same (κ : Nat → Nat) (wd : Nat) (G : Nat → Nat → Int32) (P : Nat → Nat → Option Nat) (U : Nat → Nat → Int64) (V : Nat → Nat → Nat → Int32) (X : Nat → Nat → Nat → Int64) (O : Nat → Nat → Nat → Option Nat) (kd : Nat → Nat) (ln : Nat → Nat) (cnt : Nat) (p0 : Nat) (p1 : Int32) (p2 : Nat) (p3 : Int32) (p4 : Int32) : (Int32) → Prop := (fun t => ((0 ≤ t.toInt ∧ t.toInt ≤ 1)) ∧ (((t.toInt = 1 ∧ smc ((V 0) p0) p1.toInt (ln p0) ((V 0) p2) p3.toInt (ln p2) p4.toInt) ∨ (t.toInt = 0 ∧ ¬ smc ((V 0) p0) p1.toInt (ln p0) ((V 0) p2) p3.toInt (ln p2) p4.toInt))))
set_option maxHeartbeats 4000000 in
set_option maxRecDepth 100000 in
theorem fx_X10_same (κ : Nat → Nat) (wd : Nat) (G : Nat → Nat → Int32) (P : Nat → Nat → Option Nat) (U : Nat → Nat → Int64) (V : Nat → Nat → Nat → Int32) (X : Nat → Nat → Nat → Int64) (O : Nat → Nat → Nat → Option Nat) (kd : Nat → Nat) (ln : Nat → Nat) (cnt : Nat) (p0 : Nat) (p1 : Int32) (p2 : Nat) (p3 : Int32) (p4 : Int32) (hzLN : LN κ ln) (hk_p0 : κ p0 = 100) (hk_p2 : κ p2 = 100) : wp (f_X10_same G P U V X O kd ln cnt p0 p1 p2 p3 p4) (QX_X10_same κ wd G P U V X O kd ln cnt p0 p1 p2 p3 p4) := by
  unfold f_X10_same
  have zk0 : (0 : Int32).toInt = 0 := by decide +kernel
  have zk1 : (1 : Int32).toInt = 1 := by decide +kernel
  have r_p1 := i32r p1
  have r_p3 := i32r p3
  have r_p4 := i32r p4
  refine wp_jn (fun j26 => (¬ smc ((V 0) p0) p1.toInt (ln p0) ((V 0) p2) p3.toInt (ln p2) p4.toInt) → wp (j26 ()) (QX_X10_same κ wd G P U V X O kd ln cnt p0 p1 p2 p3 p4)) ?_ ?_
  · intro js26
    show wp _ _
    exact ⟨_, rfl, ⟨(show 0 ≤ (0 : Int32).toInt ∧ (0 : Int32).toInt ≤ 1 from ⟨by omega, by omega⟩), (show (((0 : Int32).toInt = 1 ∧ smc ((V 0) p0) p1.toInt (ln p0) ((V 0) p2) p3.toInt (ln p2) p4.toInt) ∨ ((0 : Int32).toInt = 0 ∧ ¬ smc ((V 0) p0) p1.toInt (ln p0) ((V 0) p2) p3.toInt (ln p2) p4.toInt)) from by exact Or.inr ⟨by omega, js26⟩)⟩⟩
  intro j26 Jj26
  refine wp_ite (fun c1 => ?_) (fun c1 => ?_)
  · have c1 := (z_lt _ _).mp c1
    exact Jj26 (show (¬ smc ((V 0) p0) p1.toInt (ln p0) ((V 0) p2) p3.toInt (ln p2) p4.toInt) from by intro h; obtain ⟨h1, h2, h3, h4, h5⟩ := h; omega)
  · have c1 := z_nlt c1
    refine wp_ite (fun c5 => ?_) (fun c5 => ?_)
    · have c5 := (z_lt _ _).mp c5
      exact Jj26 (show (¬ smc ((V 0) p0) p1.toInt (ln p0) ((V 0) p2) p3.toInt (ln p2) p4.toInt) from by intro h; obtain ⟨h1, h2, h3, h4, h5⟩ := h; omega)
    · have c5 := z_nlt c5
      have hz_p0 : (Int32.ofNat (ln p0)).toInt = ((ln p0 : Nat) : Int) := ofN_eq (hzLN p0 (by rw [hk_p0]; decide))
      have hzb_p0 := hzLN p0 (by rw [hk_p0]; decide)
      have f1 : ((Int32.ofNat (ln p0)) - p1).toInt = (Int32.ofNat (ln p0)).toInt - p1.toInt := z_sub (by omega) (by omega)
      refine wp_ite (fun c14 => ?_) (fun c14 => ?_)
      · have c14 := (z_lt _ _).mp c14
        exact Jj26 (show (¬ smc ((V 0) p0) p1.toInt (ln p0) ((V 0) p2) p3.toInt (ln p2) p4.toInt) from by intro h; obtain ⟨h1, h2, h3, h4, h5⟩ := h; omega)
      · have c14 := z_nlt c14
        have hz_p2 : (Int32.ofNat (ln p2)).toInt = ((ln p2 : Nat) : Int) := ofN_eq (hzLN p2 (by rw [hk_p2]; decide))
        have hzb_p2 := hzLN p2 (by rw [hk_p2]; decide)
        have f2 : ((Int32.ofNat (ln p2)) - p3).toInt = (Int32.ofNat (ln p2)).toInt - p3.toInt := z_sub (by omega) (by omega)
        refine wp_ite (fun c23 => ?_) (fun c23 => ?_)
        · have c23 := (z_le _ _).mp c23
          have lp31 : ∀ (n31 : Nat) (y31_5 : Int32), (p4.toInt - y31_5.toInt).toNat < n31 → 0 ≤ y31_5.toInt → (∀ i : Nat, (i : Int) < y31_5.toInt → (V 0) p0 (p1.toInt.toNat + i) = (V 0) p2 (p3.toInt.toNat + i)) → wp (L_X10_same_31 V ln p0 p1 p2 p3 p4 n31 y31_5) (QX_X10_same κ wd G P U V X O kd ln cnt p0 p1 p2 p3 p4) := by
            intro n31
            induction n31 with
            | zero => intro y31_5 hm; exact absurd hm (Nat.not_lt_zero _)
            | succ n31 ih31 =>
              intro y31_5 hm31 f3 ie31
              show wp (B_X10_same_31 V ln p0 p1 p2 p3 p4 (L_X10_same_31 V ln p0 p1 p2 p3 p4 n31) y31_5) _
              unfold B_X10_same_31
              refine wp_ite (fun c35 => ?_) (fun c35 => ?_)
              · have c35 := (z_le _ _).mp c35
                exact ⟨_, rfl, ⟨(show 0 ≤ (1 : Int32).toInt ∧ (1 : Int32).toInt ≤ 1 from ⟨by omega, by omega⟩), (show (((1 : Int32).toInt = 1 ∧ smc ((V 0) p0) p1.toInt (ln p0) ((V 0) p2) p3.toInt (ln p2) p4.toInt) ∨ ((1 : Int32).toInt = 0 ∧ ¬ smc ((V 0) p0) p1.toInt (ln p0) ((V 0) p2) p3.toInt (ln p2) p4.toInt)) from by exact Or.inl ⟨by omega, by omega, by omega, by omega, by omega, fun i hi => ie31 i (by omega)⟩)⟩⟩
              · have c35 := z_nle c35
                have f4 : (p1 + y31_5).toInt = p1.toInt + y31_5.toInt := z_add (by omega) (by omega)
                refine wp_if ⟨by omega, by omega⟩ ?_
                have f5 : (p3 + y31_5).toInt = p3.toInt + y31_5.toInt := z_add (by omega) (by omega)
                refine wp_if ⟨by omega, by omega⟩ ?_
                refine wp_ite (fun c50 => ?_) (fun c50 => ?_)
                · have c50 := congrArg Int32.toInt c50
                  have f6 : (y31_5 + 1).toInt = y31_5.toInt + (1) := z_addc (by decide +kernel) (by omega) (by omega)
                  exact ih31 (y31_5 + 1) (show (p4.toInt - (y31_5 + 1).toInt).toNat < n31 from by omega) (show 0 ≤ (y31_5 + 1).toInt from by omega) (show (∀ i : Nat, (i : Int) < (y31_5 + 1).toInt → (V 0) p0 (p1.toInt.toNat + i) = (V 0) p2 (p3.toInt.toNat + i)) from by intro i hi; by_cases q : (i : Int) < y31_5.toInt; (exact ie31 i q); (have e1 := clampI (x := p1 + y31_5) (by omega); have e2 := clampI (x := p3 + y31_5) (by omega); have e3 : p1.toInt.toNat + i = Int32.toNatClampNeg (p1 + y31_5) := (by omega); have e4 : p3.toInt.toNat + i = Int32.toNatClampNeg (p3 + y31_5) := (by omega); rw [e3, e4]; exact z_e c50))
                · have c50 := z_ne c50
                  exact ⟨_, rfl, ⟨(show 0 ≤ (0 : Int32).toInt ∧ (0 : Int32).toInt ≤ 1 from ⟨by omega, by omega⟩), (show (((0 : Int32).toInt = 1 ∧ smc ((V 0) p0) p1.toInt (ln p0) ((V 0) p2) p3.toInt (ln p2) p4.toInt) ∨ ((0 : Int32).toInt = 0 ∧ ¬ smc ((V 0) p0) p1.toInt (ln p0) ((V 0) p2) p3.toInt (ln p2) p4.toInt)) from by exact Or.inr ⟨by omega, fun h => by obtain ⟨h1, h2, h3, h4, h5⟩ := h; have e1 := clampI (x := p1 + y31_5) (by omega); have e2 := clampI (x := p3 + y31_5) (by omega); have h6 := h5 y31_5.toInt.toNat (by omega); rw [show p1.toInt.toNat + y31_5.toInt.toNat = Int32.toNatClampNeg (p1 + y31_5) by omega, show p3.toInt.toNat + y31_5.toInt.toNat = Int32.toNatClampNeg (p3 + y31_5) by omega] at h6; exact c50 (congrArg Int32.toInt h6)⟩)⟩⟩
          exact lp31 NN (0 : Int32) (by have := NN_eq; omega) (show 0 ≤ (0 : Int32).toInt from by omega) (show (∀ i : Nat, (i : Int) < (0 : Int32).toInt → (V 0) p0 (p1.toInt.toNat + i) = (V 0) p2 (p3.toInt.toNat + i)) from by intro i hi; omega)
        · have c23 := z_nle c23
          exact Jj26 (show (¬ smc ((V 0) p0) p1.toInt (ln p0) ((V 0) p2) p3.toInt (ln p2) p4.toInt) from by intro h; obtain ⟨h1, h2, h3, h4, h5⟩ := h; omega)
abbrev QX_X10_find (κ : Nat → Nat) (wd : Nat) (G : Nat → Nat → Int32) (P : Nat → Nat → Option Nat) (U : Nat → Nat → Int64) (V : Nat → Nat → Nat → Int32) (X : Nat → Nat → Nat → Int64) (O : Nat → Nat → Nat → Option Nat) (kd : Nat → Nat) (ln : Nat → Nat) (cnt : Nat) (this : Nat) (p0 : Nat) (p1 : Int32) (p2 : Int32) : (Int32) → Prop := (fun t => (((-1) ≤ t.toInt ∧ t.toInt < 100)) ∧ ((t.toInt = -1 ∨ t.toInt < ((G 203) this).toInt)) ∧ ((∀ l s, (P 201) this = some l → (P 202) this = some s → fnd ((G 200) this).toInt ((V 0) l) (ln l) ((V 1) s) ((V 0) p0) p1.toInt (ln p0) p2.toInt ((G 203) this).toInt t.toInt)))
set_option maxHeartbeats 4000000 in
set_option maxRecDepth 100000 in
theorem fx_X10_find (κ : Nat → Nat) (wd : Nat) (G : Nat → Nat → Int32) (P : Nat → Nat → Option Nat) (U : Nat → Nat → Int64) (V : Nat → Nat → Nat → Int32) (X : Nat → Nat → Nat → Int64) (O : Nat → Nat → Nat → Option Nat) (kd : Nat → Nat) (ln : Nat → Nat) (cnt : Nat) (this : Nat) (p0 : Nat) (p1 : Int32) (p2 : Int32) (hzG200 : rng (0) 24 (G 200)) (hzG203 : rng (0) 100 (G 203)) (hzP201 : PB κ ln wd 11 100 0 2400 0 (P 201)) (hzP202 : PB κ ln wd 11 101 0 100 0 (P 202)) (hzV1 : rng2 (0) 24 (V 1)) (hzRA : RA κ ln (G 200) (P 201) (P 202)) (hzRB : RB κ ln (G 200) (G 203) (P 202) (V 1)) (hzRI : RI (P 202)) (hzLN : LN κ ln) (hk_this : κ this = 11) (hk_p0 : κ p0 = 100) : wp (f_X10_find G P U V X O kd ln cnt this p0 p1 p2) (QX_X10_find κ wd G P U V X O kd ln cnt this p0 p1 p2) := by
  unfold f_X10_find
  have zkm1 : (-1 : Int32).toInt = -1 := by decide +kernel
  have zk0 : (0 : Int32).toInt = 0 := by decide +kernel
  have r_p1 := i32r p1
  have r_p2 := i32r p2
  obtain ⟨u1, hn_u1⟩ := PBs (hzP201 this) hk_this
  have hk_u1 := ((hzP201 this).2 u1 hn_u1).1
  have hl1_u1 := ((hzP201 this).2 u1 hn_u1).2.1
  have hl2_u1 := ((hzP201 this).2 u1 hn_u1).2.2.1
  have hw_u1 := ((hzP201 this).2 u1 hn_u1).2.2.2
  have hz_u1 : (Int32.ofNat (ln u1)).toInt = ((ln u1 : Nat) : Int) := ofN_eq (by first | exact Nat.le_trans hl2_u1 (by decide) | omega)
  obtain ⟨u2, hn_u2⟩ := PBs (hzP202 this) hk_this
  have hk_u2 := ((hzP202 this).2 u2 hn_u2).1
  have hl1_u2 := ((hzP202 this).2 u2 hn_u2).2.1
  have hl2_u2 := ((hzP202 this).2 u2 hn_u2).2.2.1
  have hw_u2 := ((hzP202 this).2 u2 hn_u2).2.2.2
  have hz_u2 : (Int32.ofNat (ln u2)).toInt = ((ln u2 : Nat) : Int) := ofN_eq (by first | exact Nat.le_trans hl2_u2 (by decide) | omega)
  have rb3 := (hzRB this u2 hk_this hn_u2).1
  have ra4 := hzRA this u1 u2 hk_this hn_u1 hn_u2
  have bw5 := hzG200 this
  have lp3 : ∀ (n3 : Nat) (y3_4 : Int32), (100 - y3_4.toInt).toNat < n3 → (0 ≤ y3_4.toInt ∧ y3_4.toInt ≤ 100) → (∀ l s, (P 201) this = some l → (P 202) this = some s → ∀ j : Nat, (j : Int) < y3_4.toInt → ¬ mtw ((G 200) this).toInt ((V 0) l) (ln l) ((V 1) s) ((V 0) p0) p1.toInt (ln p0) p2.toInt j) → wp (L_X10_find_3 G P U V X O kd ln cnt this p0 p1 p2 n3 y3_4) (QX_X10_find κ wd G P U V X O kd ln cnt this p0 p1 p2) := by
    intro n3
    induction n3 with
    | zero => intro y3_4 hm; exact absurd hm (Nat.not_lt_zero _)
    | succ n3 ih3 =>
      intro y3_4 hm3 f6 im3
      show wp (B_X10_find_3 G P U V X O kd ln cnt this p0 p1 p2 (L_X10_find_3 G P U V X O kd ln cnt this p0 p1 p2 n3) y3_4) _
      unfold B_X10_find_3
      have b7 := hzG203 this
      refine wp_ite (fun c9 => ?_) (fun c9 => ?_)
      · have c9 := (z_le _ _).mp c9
        exact ⟨_, rfl, ⟨(show ((-1) ≤ (-1 : Int32).toInt ∧ (-1 : Int32).toInt < 100) from by omega), (show ((-1 : Int32).toInt = -1 ∨ (-1 : Int32).toInt < ((G 203) this).toInt) from by omega), (show (∀ l s, (P 201) this = some l → (P 202) this = some s → fnd ((G 200) this).toInt ((V 0) l) (ln l) ((V 1) s) ((V 0) p0) p1.toInt (ln p0) p2.toInt ((G 203) this).toInt (-1 : Int32).toInt) from by intro l s hl hs; exact Or.inr ⟨by omega, fun j hj => im3 l s hl hs j (by omega)⟩)⟩⟩
      · have c9 := z_nle c9
        refine wp_nne hn_u2 ?_
        refine wp_if ⟨by omega, by omega⟩ ?_
        have b11 := hzV1 u2 (Int32.toNatClampNeg y3_4)
        have rl12 := (hzRB this u2 hk_this hn_u2).2 (Int32.toNatClampNeg y3_4)
        refine wp_jn (fun j46 => (∀ l s, (P 201) this = some l → (P 202) this = some s → ¬ mtw ((G 200) this).toInt ((V 0) l) (ln l) ((V 1) s) ((V 0) p0) p1.toInt (ln p0) p2.toInt (Int32.toNatClampNeg y3_4)) → wp (j46 ()) (QX_X10_find κ wd G P U V X O kd ln cnt this p0 p1 p2)) ?_ ?_
        · intro jm46
          show wp _ _
          have f13 : (y3_4 + 1).toInt = y3_4.toInt + (1) := z_addc (by decide +kernel) (by omega) (by omega)
          exact ih3 (y3_4 + 1) (show (100 - (y3_4 + 1).toInt).toNat < n3 from by omega) (show (0 ≤ (y3_4 + 1).toInt ∧ (y3_4 + 1).toInt ≤ 100) from by omega) (show (∀ l s, (P 201) this = some l → (P 202) this = some s → ∀ j : Nat, (j : Int) < (y3_4 + 1).toInt → ¬ mtw ((G 200) this).toInt ((V 0) l) (ln l) ((V 1) s) ((V 0) p0) p1.toInt (ln p0) p2.toInt j) from by intro l s hl hs j hj; by_cases q : (j : Int) < y3_4.toInt; (exact im3 l s hl hs j q); (have hcl := clampI (x := y3_4) (by omega); rw [show j = Int32.toNatClampNeg y3_4 by omega]; exact jm46 l s hl hs))
        intro j46 Jj46
        refine wp_ite (fun c20 => ?_) (fun c20 => ?_)
        · have c20 := congrArg Int32.toInt c20
          refine wp_nne hn_u1 ?_
          have b14 := hzG200 this
          have f15 := zmw (x := y3_4) (y := ((G 200) this)) (by omega) (by omega) (by omega) (by omega)
          have ix16 := rowix (x := y3_4) (hzRA this u1 u2 hk_this hn_u1 hn_u2) (hzG200 this).1
          obtain ⟨r37, hc37, hq37⟩ := fx_X10_same κ wd G P U V X O kd ln cnt u1 (y3_4 * ((G 200) this)) p0 p1 p2 hzLN hk_u1 hk_p0
          obtain ⟨f17, f18⟩ : ((0 ≤ r37.toInt ∧ r37.toInt ≤ 1)) ∧ (((r37.toInt = 1 ∧ smc ((V 0) u1) (y3_4 * ((G 200) this)).toInt (ln u1) ((V 0) p0) p1.toInt (ln p0) p2.toInt) ∨ (r37.toInt = 0 ∧ ¬ smc ((V 0) u1) (y3_4 * ((G 200) this)).toInt (ln u1) ((V 0) p0) p1.toInt (ln p0) p2.toInt))) := hq37
          refine wp_b1 hc37 ?_
          clear hc37
          have hsame := f18
          have hmul : (y3_4 * ((G 200) this)).toInt = y3_4.toInt * ((G 200) this).toInt := (zmw (x := y3_4) (y := (G 200) this) (by omega) (by omega) (by omega) (by omega)).1
          have hcl := clampI (x := y3_4) (by omega)
          refine wp_ite (fun c40 => ?_) (fun c40 => ?_)
          · have c40 := congrArg Int32.toInt c40
            exact Jj46 (show (∀ l s, (P 201) this = some l → (P 202) this = some s → ¬ mtw ((G 200) this).toInt ((V 0) l) (ln l) ((V 1) s) ((V 0) p0) p1.toInt (ln p0) p2.toInt (Int32.toNatClampNeg y3_4)) from by first | (exact fun l s hl hs h => by obtain rfl : u2 = s := Option.some.inj (hn_u2.symm.trans hs); exact c20 h.1) | (exact fun l s hl hs h => by obtain rfl : u1 = l := Option.some.inj (hn_u1.symm.trans hl); obtain ⟨_, h2⟩ := h; rw [hcl, ← hmul] at h2; rcases hsame with ⟨h3, _⟩ | ⟨_, h3⟩; (exfalso; omega); (exact h3 h2)))
          · have c40 := z_ne c40
            exact ⟨_, rfl, ⟨(show ((-1) ≤ y3_4.toInt ∧ y3_4.toInt < 100) from by omega), (show (y3_4.toInt = -1 ∨ y3_4.toInt < ((G 203) this).toInt) from by omega), (show (∀ l s, (P 201) this = some l → (P 202) this = some s → fnd ((G 200) this).toInt ((V 0) l) (ln l) ((V 1) s) ((V 0) p0) p1.toInt (ln p0) p2.toInt ((G 203) this).toInt y3_4.toInt) from by intro l s hl hs; obtain rfl : u1 = l := Option.some.inj (hn_u1.symm.trans hl); obtain rfl : u2 = s := Option.some.inj (hn_u2.symm.trans hs); rcases hsame with ⟨_, h3⟩ | ⟨h3, _⟩; (rw [hmul, ← hcl] at h3; exact Or.inl ⟨Int32.toNatClampNeg y3_4, by omega, by omega, ⟨c20, h3⟩, fun j hj => im3 _ _ hl hs j (by omega)⟩); (exfalso; omega))⟩⟩
        · have c20 := z_ne c20
          exact Jj46 (show (∀ l s, (P 201) this = some l → (P 202) this = some s → ¬ mtw ((G 200) this).toInt ((V 0) l) (ln l) ((V 1) s) ((V 0) p0) p1.toInt (ln p0) p2.toInt (Int32.toNatClampNeg y3_4)) from by first | (exact fun l s hl hs h => by obtain rfl : u2 = s := Option.some.inj (hn_u2.symm.trans hs); exact c20 h.1) | (exact fun l s hl hs h => by obtain rfl : u1 = l := Option.some.inj (hn_u1.symm.trans hl); obtain ⟨_, h2⟩ := h; rw [hcl, ← hmul] at h2; rcases hsame with ⟨h3, _⟩ | ⟨_, h3⟩; (exfalso; omega); (exact h3 h2)))
  exact lp3 NN (0 : Int32) (by have := NN_eq; omega) (show (0 ≤ (0 : Int32).toInt ∧ (0 : Int32).toInt ≤ 100) from by omega) (show (∀ l s, (P 201) this = some l → (P 202) this = some s → ∀ j : Nat, (j : Int) < (0 : Int32).toInt → ¬ mtw ((G 200) this).toInt ((V 0) l) (ln l) ((V 1) s) ((V 0) p0) p1.toInt (ln p0) p2.toInt j) from by intro l s hl hs j hj; omega)
abbrev QX_X10_add (κ : Nat → Nat) (wd : Nat) (G : Nat → Nat → Int32) (P : Nat → Nat → Option Nat) (U : Nat → Nat → Int64) (V : Nat → Nat → Nat → Int32) (X : Nat → Nat → Nat → Int64) (O : Nat → Nat → Nat → Option Nat) (kd : Nat → Nat) (ln : Nat → Nat) (cnt : Nat) (this : Nat) (p0 : Nat) (p1 : Int32) (p2 : Int32) : ((Nat → Int32) × (Nat → Nat → Int32) × (Nat → Nat → Int32)) → Prop := (fun t => (rng (0) 100 (t.1)) ∧ (rng2 (0) 24 (t.2.2)) ∧ (RB κ ln (G 200) (t.1) (P 202) (t.2.2)) ∧ ((this ≠ wd → (t.1) wd = (G 203) wd)) ∧ (((G 203) this).toInt ≤ ((t.1) this).toInt) ∧ ((∀ l s, (P 201) this = some l → (P 202) this = some s → ((G 203) this).toInt < ((ln s : Nat) : Int) → 0 ≤ p2.toInt → p2.toInt ≤ ((G 200) this).toInt → 0 ≤ p1.toInt → p2.toInt ≤ ((ln p0 : Nat) : Int) - p1.toInt → (t.2.1) = va_up (V 0) l (va_cpy ((V 0) p0) ((V 0) l) p1.toInt.toNat ((G 203) this * (G 200) this).toInt.toNat p2.toInt.toNat) ∧ (t.2.2) = va_up (V 1) s (upd ((V 1) s) ((G 203) this).toInt.toNat p2) ∧ ((t.1) this).toInt = ((G 203) this).toInt + 1)))
set_option maxHeartbeats 4000000 in
set_option maxRecDepth 100000 in
theorem fx_X10_add (κ : Nat → Nat) (wd : Nat) (G : Nat → Nat → Int32) (P : Nat → Nat → Option Nat) (U : Nat → Nat → Int64) (V : Nat → Nat → Nat → Int32) (X : Nat → Nat → Nat → Int64) (O : Nat → Nat → Nat → Option Nat) (kd : Nat → Nat) (ln : Nat → Nat) (cnt : Nat) (this : Nat) (p0 : Nat) (p1 : Int32) (p2 : Int32) (hzG200 : rng (0) 24 (G 200)) (hzG203 : rng (0) 100 (G 203)) (hzP201 : PB κ ln wd 11 100 0 2400 0 (P 201)) (hzP202 : PB κ ln wd 11 101 0 100 0 (P 202)) (hzV1 : rng2 (0) 24 (V 1)) (hzRA : RA κ ln (G 200) (P 201) (P 202)) (hzRB : RB κ ln (G 200) (G 203) (P 202) (V 1)) (hzRI : RI (P 202)) (hzLN : LN κ ln) (hk_this : κ this = 11) (hk_p0 : κ p0 = 100) : wp (f_X10_add G P U V X O kd ln cnt this p0 p1 p2) (QX_X10_add κ wd G P U V X O kd ln cnt this p0 p1 p2) := by
  unfold f_X10_add
  have zk0 : (0 : Int32).toInt = 0 := by decide +kernel
  have zk1 : (1 : Int32).toInt = 1 := by decide +kernel
  have r_p1 := i32r p1
  have r_p2 := i32r p2
  obtain ⟨u1, hn_u1⟩ := PBs (hzP201 this) hk_this
  have hk_u1 := ((hzP201 this).2 u1 hn_u1).1
  have hl1_u1 := ((hzP201 this).2 u1 hn_u1).2.1
  have hl2_u1 := ((hzP201 this).2 u1 hn_u1).2.2.1
  have hw_u1 := ((hzP201 this).2 u1 hn_u1).2.2.2
  have hz_u1 : (Int32.ofNat (ln u1)).toInt = ((ln u1 : Nat) : Int) := ofN_eq (by first | exact Nat.le_trans hl2_u1 (by decide) | omega)
  obtain ⟨u2, hn_u2⟩ := PBs (hzP202 this) hk_this
  have hk_u2 := ((hzP202 this).2 u2 hn_u2).1
  have hl1_u2 := ((hzP202 this).2 u2 hn_u2).2.1
  have hl2_u2 := ((hzP202 this).2 u2 hn_u2).2.2.1
  have hw_u2 := ((hzP202 this).2 u2 hn_u2).2.2.2
  have hz_u2 : (Int32.ofNat (ln u2)).toInt = ((ln u2 : Nat) : Int) := ofN_eq (by first | exact Nat.le_trans hl2_u2 (by decide) | omega)
  have rb3 := (hzRB this u2 hk_this hn_u2).1
  have ra4 := hzRA this u1 u2 hk_this hn_u1 hn_u2
  have bw5 := hzG200 this
  obtain ⟨r1, hc1, hq1⟩ := fx_X10_isFull κ wd G P U V X O kd ln cnt this hzG200 hzG203 hzP201 hzP202 hzV1 hzRA hzRB hzRI hzLN hk_this
  obtain ⟨f6, f7, f8⟩ : ((0 ≤ r1.toInt ∧ r1.toInt ≤ 1)) ∧ ((∀ s, (P 202) this = some s → r1.toInt = 0 → ((G 203) this).toInt < ((ln s : Nat) : Int))) ∧ ((∀ s, (P 202) this = some s → r1.toInt = 1 → ((ln s : Nat) : Int) ≤ ((G 203) this).toInt)) := hq1
  refine wp_b1 hc1 ?_
  clear hc1
  have hful := f7 _ hn_u2
  have hful2 := f8 _ hn_u2
  refine wp_jn (fun j31 => (((ln u2 : Nat) : Int) ≤ ((G 203) this).toInt ∨ p2.toInt < 0 ∨ ((G 200) this).toInt < p2.toInt ∨ p1.toInt < 0 ∨ ((ln p0 : Nat) : Int) - p1.toInt < p2.toInt) → wp (j31 ()) (QX_X10_add κ wd G P U V X O kd ln cnt this p0 p1 p2)) ?_ ?_
  · intro jf31
    show wp _ _
    exact ⟨_, rfl, ⟨hzG203, hzV1, hzRB, (show (this ≠ wd → (G 203) wd = (G 203) wd) from by first | exact (fun _ => rfl) | exact (fun h => by rw [em68]; exact va_up_ne _ _ (fun q => h q.symm))), (show ((G 203) this).toInt ≤ ((G 203) this).toInt from by omega), (show (∀ l s, (P 201) this = some l → (P 202) this = some s → ((G 203) this).toInt < ((ln s : Nat) : Int) → 0 ≤ p2.toInt → p2.toInt ≤ ((G 200) this).toInt → 0 ≤ p1.toInt → p2.toInt ≤ ((ln p0 : Nat) : Int) - p1.toInt → (V 0) = va_up (V 0) l (va_cpy ((V 0) p0) ((V 0) l) p1.toInt.toNat ((G 203) this * (G 200) this).toInt.toNat p2.toInt.toNat) ∧ (V 1) = va_up (V 1) s (upd ((V 1) s) ((G 203) this).toInt.toNat p2) ∧ ((G 203) this).toInt = ((G 203) this).toInt + 1) from by intro l s hl hs h1 h2 h3 h4 h5; obtain rfl : u2 = s := Option.some.inj (hn_u2.symm.trans hs); exfalso; have := jf31; omega)⟩⟩
  intro j31 Jj31
  refine wp_ite (fun c4 => ?_) (fun c4 => ?_)
  · have c4 := congrArg Int32.toInt c4
    refine wp_ite (fun c8 => ?_) (fun c8 => ?_)
    · have c8 := (z_lt _ _).mp c8
      exact Jj31 (show (((ln u2 : Nat) : Int) ≤ ((G 203) this).toInt ∨ p2.toInt < 0 ∨ ((G 200) this).toInt < p2.toInt ∨ p1.toInt < 0 ∨ ((ln p0 : Nat) : Int) - p1.toInt < p2.toInt) from by omega)
    · have c8 := z_nlt c8
      have b9 := hzG200 this
      refine wp_ite (fun c16 => ?_) (fun c16 => ?_)
      · have c16 := (z_lt _ _).mp c16
        exact Jj31 (show (((ln u2 : Nat) : Int) ≤ ((G 203) this).toInt ∨ p2.toInt < 0 ∨ ((G 200) this).toInt < p2.toInt ∨ p1.toInt < 0 ∨ ((ln p0 : Nat) : Int) - p1.toInt < p2.toInt) from by omega)
      · have c16 := z_nlt c16
        refine wp_ite (fun c20 => ?_) (fun c20 => ?_)
        · have c20 := (z_lt _ _).mp c20
          exact Jj31 (show (((ln u2 : Nat) : Int) ≤ ((G 203) this).toInt ∨ p2.toInt < 0 ∨ ((G 200) this).toInt < p2.toInt ∨ p1.toInt < 0 ∨ ((ln p0 : Nat) : Int) - p1.toInt < p2.toInt) from by omega)
        · have c20 := z_nlt c20
          have hz_p0 : (Int32.ofNat (ln p0)).toInt = ((ln p0 : Nat) : Int) := ofN_eq (hzLN p0 (by rw [hk_p0]; decide))
          have hzb_p0 := hzLN p0 (by rw [hk_p0]; decide)
          have f10 : ((Int32.ofNat (ln p0)) - p1).toInt = (Int32.ofNat (ln p0)).toInt - p1.toInt := z_sub (by omega) (by omega)
          refine wp_ite (fun c28 => ?_) (fun c28 => ?_)
          · have c28 := (z_le _ _).mp c28
            refine wp_nne hn_u1 ?_
            have b11 := hzG203 this
            have f16 := zmw (x := ((G 203) this)) (y := ((G 200) this)) (by omega) (by omega) (by omega) (by omega)
            have ix17 := rowix (x := ((G 203) this)) (hzRA this u1 u2 hk_this hn_u1 hn_u2) (hzG200 this).1
            refine wp_if ⟨by omega, by omega, by omega, by omega, by omega⟩ ?_
            refine wp_vl (fun m48 em48 => ?_)
            refine wp_nne hn_u2 ?_
            refine wp_if ⟨by omega, by omega⟩ ?_
            refine wp_vl (fun m60 em60 => ?_)
            have hv22 : rng2 (0) 24 m60 := by rw [em60]; exact rng2_up hzV1 (by omega) (by omega)
            have hRB23 : RB κ ln (G 200) (G 203) (P 202) m60 := by rw [em60]; exact RB_len hzRB hzRI hn_u2 (by omega)
            have f28 : (((G 203) this) + 1).toInt = ((G 203) this).toInt + 1 := z_addc (by decide +kernel) (by omega) (by omega)
            refine wp_vl (fun x68 ex68 => ?_)
            have f29 : x68.toInt = (((G 203) this) + 1).toInt := congrArg Int32.toInt ex68
            clear ex68
            refine wp_vl (fun m68 em68 => ?_)
            have hg30 : rng (0) 100 m68 := by rw [em68]; exact rng_vup hzG203 (by omega) (by omega)
            have sm68 : (m68 this).toInt = x68.toInt := by rw [em68, va_up_self]
            have b31 := hg30 this
            have hRB32 : RB κ ln (G 200) m68 (P 202) m60 := by rw [em68]; exact RB_cnt hRB23 (fun s hs => by obtain rfl : u2 = s := Option.some.inj (hn_u2.symm.trans hs); omega)
            exact ⟨_, rfl, ⟨hg30, hv22, hRB32, (show (this ≠ wd → m68 wd = (G 203) wd) from by first | exact (fun _ => rfl) | exact (fun h => by rw [em68]; exact va_up_ne _ _ (fun q => h q.symm))), (show ((G 203) this).toInt ≤ (m68 this).toInt from by omega), (show (∀ l s, (P 201) this = some l → (P 202) this = some s → ((G 203) this).toInt < ((ln s : Nat) : Int) → 0 ≤ p2.toInt → p2.toInt ≤ ((G 200) this).toInt → 0 ≤ p1.toInt → p2.toInt ≤ ((ln p0 : Nat) : Int) - p1.toInt → m48 = va_up (V 0) l (va_cpy ((V 0) p0) ((V 0) l) p1.toInt.toNat ((G 203) this * (G 200) this).toInt.toNat p2.toInt.toNat) ∧ m60 = va_up (V 1) s (upd ((V 1) s) ((G 203) this).toInt.toNat p2) ∧ (m68 this).toInt = ((G 203) this).toInt + 1) from by intro l s hl hs h1 h2 h3 h4 h5; obtain rfl : u1 = l := Option.some.inj (hn_u1.symm.trans hl); obtain rfl : u2 = s := Option.some.inj (hn_u2.symm.trans hs); exact ⟨em48, em60, by omega⟩)⟩⟩
          · have c28 := z_nle c28
            exact Jj31 (show (((ln u2 : Nat) : Int) ≤ ((G 203) this).toInt ∨ p2.toInt < 0 ∨ ((G 200) this).toInt < p2.toInt ∨ p1.toInt < 0 ∨ ((ln p0 : Nat) : Int) - p1.toInt < p2.toInt) from by omega)
  · have c4 := z_ne c4
    exact Jj31 (show (((ln u2 : Nat) : Int) ≤ ((G 203) this).toInt ∨ p2.toInt < 0 ∨ ((G 200) this).toInt < p2.toInt ∨ p1.toInt < 0 ∨ ((ln p0 : Nat) : Int) - p1.toInt < p2.toInt) from by omega)
abbrev QX_X10_letterAt (κ : Nat → Nat) (wd : Nat) (G : Nat → Nat → Int32) (P : Nat → Nat → Option Nat) (U : Nat → Nat → Int64) (V : Nat → Nat → Nat → Int32) (X : Nat → Nat → Nat → Int64) (O : Nat → Nat → Nat → Option Nat) (kd : Nat → Nat) (ln : Nat → Nat) (cnt : Nat) (this : Nat) (p0 : Int32) (p1 : Int32) : (Int32) → Prop := (fun t => ((∀ l s, (P 201) this = some l → (P 202) this = some s → ((G 200) this).toInt = 24 → WRD ((V 0) l) ((V 1) s) ((G 203) this).toInt p0.toInt p1.toInt t)))
set_option maxHeartbeats 4000000 in
set_option maxRecDepth 100000 in
theorem fx_X10_letterAt (κ : Nat → Nat) (wd : Nat) (G : Nat → Nat → Int32) (P : Nat → Nat → Option Nat) (U : Nat → Nat → Int64) (V : Nat → Nat → Nat → Int32) (X : Nat → Nat → Nat → Int64) (O : Nat → Nat → Nat → Option Nat) (kd : Nat → Nat) (ln : Nat → Nat) (cnt : Nat) (this : Nat) (p0 : Int32) (p1 : Int32) (hzG200 : rng (0) 24 (G 200)) (hzG203 : rng (0) 100 (G 203)) (hzP201 : PB κ ln wd 11 100 0 2400 0 (P 201)) (hzP202 : PB κ ln wd 11 101 0 100 0 (P 202)) (hzV1 : rng2 (0) 24 (V 1)) (hzRA : RA κ ln (G 200) (P 201) (P 202)) (hzRB : RB κ ln (G 200) (G 203) (P 202) (V 1)) (hzRI : RI (P 202)) (hzLN : LN κ ln) (hk_this : κ this = 11) : wp (f_X10_letterAt G P U V X O kd ln cnt this p0 p1) (QX_X10_letterAt κ wd G P U V X O kd ln cnt this p0 p1) := by
  unfold f_X10_letterAt
  have zkm1 : (-1 : Int32).toInt = -1 := by decide +kernel
  have zk0 : (0 : Int32).toInt = 0 := by decide +kernel
  have r_p0 := i32r p0
  have r_p1 := i32r p1
  obtain ⟨u1, hn_u1⟩ := PBs (hzP201 this) hk_this
  have hk_u1 := ((hzP201 this).2 u1 hn_u1).1
  have hl1_u1 := ((hzP201 this).2 u1 hn_u1).2.1
  have hl2_u1 := ((hzP201 this).2 u1 hn_u1).2.2.1
  have hw_u1 := ((hzP201 this).2 u1 hn_u1).2.2.2
  have hz_u1 : (Int32.ofNat (ln u1)).toInt = ((ln u1 : Nat) : Int) := ofN_eq (by first | exact Nat.le_trans hl2_u1 (by decide) | omega)
  obtain ⟨u2, hn_u2⟩ := PBs (hzP202 this) hk_this
  have hk_u2 := ((hzP202 this).2 u2 hn_u2).1
  have hl1_u2 := ((hzP202 this).2 u2 hn_u2).2.1
  have hl2_u2 := ((hzP202 this).2 u2 hn_u2).2.2.1
  have hw_u2 := ((hzP202 this).2 u2 hn_u2).2.2.2
  have hz_u2 : (Int32.ofNat (ln u2)).toInt = ((ln u2 : Nat) : Int) := ofN_eq (by first | exact Nat.le_trans hl2_u2 (by decide) | omega)
  have rb3 := (hzRB this u2 hk_this hn_u2).1
  have ra4 := hzRA this u1 u2 hk_this hn_u1 hn_u2
  have bw5 := hzG200 this
  refine wp_jn (fun j26 => (p0.toInt < 0 ∨ ((G 203) this).toInt ≤ p0.toInt ∨ p1.toInt < 0 ∨ ((V 1) u2 p0.toInt.toNat).toInt ≤ p1.toInt) → wp (j26 ()) (QX_X10_letterAt κ wd G P U V X O kd ln cnt this p0 p1)) ?_ ?_
  · intro jl26
    show wp _ _
    exact ⟨_, rfl, (show (∀ l s, (P 201) this = some l → (P 202) this = some s → ((G 200) this).toInt = 24 → WRD ((V 0) l) ((V 1) s) ((G 203) this).toInt p0.toInt p1.toInt (-1 : Int32)) from by intro l s hl hs hw; obtain rfl : u2 = s := Option.some.inj (hn_u2.symm.trans hs); exact Or.inr ⟨jl26, by omega⟩)⟩
  intro j26 Jj26
  refine wp_ite (fun c1 => ?_) (fun c1 => ?_)
  · have c1 := (z_lt _ _).mp c1
    exact Jj26 (show (p0.toInt < 0 ∨ ((G 203) this).toInt ≤ p0.toInt ∨ p1.toInt < 0 ∨ ((V 1) u2 p0.toInt.toNat).toInt ≤ p1.toInt) from by first | omega | (refine Or.inr (Or.inr (Or.inr ?_)); show ((V 1) _ (Int32.toNatClampNeg p0)).toInt ≤ _; omega))
  · have c1 := z_nlt c1
    have b6 := hzG203 this
    refine wp_ite (fun c9 => ?_) (fun c9 => ?_)
    · have c9 := (z_le _ _).mp c9
      exact Jj26 (show (p0.toInt < 0 ∨ ((G 203) this).toInt ≤ p0.toInt ∨ p1.toInt < 0 ∨ ((V 1) u2 p0.toInt.toNat).toInt ≤ p1.toInt) from by first | omega | (refine Or.inr (Or.inr (Or.inr ?_)); show ((V 1) _ (Int32.toNatClampNeg p0)).toInt ≤ _; omega))
    · have c9 := z_nle c9
      refine wp_ite (fun c13 => ?_) (fun c13 => ?_)
      · have c13 := (z_lt _ _).mp c13
        exact Jj26 (show (p0.toInt < 0 ∨ ((G 203) this).toInt ≤ p0.toInt ∨ p1.toInt < 0 ∨ ((V 1) u2 p0.toInt.toNat).toInt ≤ p1.toInt) from by first | omega | (refine Or.inr (Or.inr (Or.inr ?_)); show ((V 1) _ (Int32.toNatClampNeg p0)).toInt ≤ _; omega))
      · have c13 := z_nlt c13
        refine wp_nne hn_u2 ?_
        refine wp_if ⟨by omega, by omega⟩ ?_
        have b10 := hzV1 u2 (Int32.toNatClampNeg p0)
        have rl11 := (hzRB this u2 hk_this hn_u2).2 (Int32.toNatClampNeg p0)
        refine wp_ite (fun c23 => ?_) (fun c23 => ?_)
        · have c23 := (z_lt _ _).mp c23
          refine wp_nne hn_u1 ?_
          have b12 := hzG200 this
          have f13 := zmw (x := p0) (y := ((G 200) this)) (by omega) (by omega) (by omega) (by omega)
          have ix14 := rowix (x := p0) (hzRA this u1 u2 hk_this hn_u1 hn_u2) (hzG200 this).1
          have f15 : ((p0 * ((G 200) this)) + p1).toInt = (p0 * ((G 200) this)).toInt + p1.toInt := z_add (by omega) (by omega)
          refine wp_if ⟨by omega, by omega⟩ ?_
          exact ⟨_, rfl, (show (∀ l s, (P 201) this = some l → (P 202) this = some s → ((G 200) this).toInt = 24 → WRD ((V 0) l) ((V 1) s) ((G 203) this).toInt p0.toInt p1.toInt (((V 0) u1) (Int32.toNatClampNeg ((p0 * ((G 200) this)) + p1)))) from by intro l s hl hs hw; obtain rfl : u1 = l := Option.some.inj (hn_u1.symm.trans hl); obtain rfl : u2 = s := Option.some.inj (hn_u2.symm.trans hs); have hmul : (p0 * (G 200) this).toInt = p0.toInt * ((G 200) this).toInt := (zmw (by omega) (by omega) (by omega) (by omega)).1; rw [hw] at hmul; have hlt : p1.toInt < ((V 1) _ (Int32.toNatClampNeg p0)).toInt := c23; have hz24 := (hzV1 u2 (Int32.toNatClampNeg p0)).2; have hadd : (p0 * (G 200) this + p1).toInt = p0.toInt * 24 + p1.toInt := (by rw [z_add (by omega) (by omega), hmul]); exact Or.inl ⟨by omega, by omega, by omega, hlt, congrArg ((V 0) _) (by have := clampI (x := p0 * (G 200) this + p1) (by omega); omega)⟩)⟩
        · have c23 := z_nlt c23
          exact Jj26 (show (p0.toInt < 0 ∨ ((G 203) this).toInt ≤ p0.toInt ∨ p1.toInt < 0 ∨ ((V 1) u2 p0.toInt.toNat).toInt ≤ p1.toInt) from by first | omega | (refine Or.inr (Or.inr (Or.inr ?_)); show ((V 1) _ (Int32.toNatClampNeg p0)).toInt ≤ _; omega))
abbrev QX_X7_append (κ : Nat → Nat) (wd : Nat) (G : Nat → Nat → Int32) (P : Nat → Nat → Option Nat) (U : Nat → Nat → Int64) (V : Nat → Nat → Nat → Int32) (X : Nat → Nat → Nat → Int64) (O : Nat → Nat → Nat → Option Nat) (kd : Nat → Nat) (ln : Nat → Nat) (cnt : Nat) (this : Nat) (p0 : Int32) : ((Nat → Int32) × (Nat → Nat → Int32)) → Prop := (fun t => (rng (0) 2000 (t.1)) ∧ ((((G 141) this).toInt + 4 ≤ 2000 → ((t.1) this).toInt = ((G 141) this).toInt + 4)) ∧ ((∀ tb, (P 140) this = some tb → ((G 141) this).toInt + 4 ≤ 2000 → (t.2) tb = app ((V 0) tb) ((G 141) this).toInt.toNat p0 4)))
set_option maxHeartbeats 4000000 in
set_option maxRecDepth 100000 in
theorem fx_X7_append (κ : Nat → Nat) (wd : Nat) (G : Nat → Nat → Int32) (P : Nat → Nat → Option Nat) (U : Nat → Nat → Int64) (V : Nat → Nat → Nat → Int32) (X : Nat → Nat → Nat → Int64) (O : Nat → Nat → Nat → Option Nat) (kd : Nat → Nat) (ln : Nat → Nat) (cnt : Nat) (this : Nat) (p0 : Int32) (hzG141 : rng (0) 2000 (G 141)) (hzP140 : PB κ ln wd 8 100 2000 2000 0 (P 140)) (hzLN : LN κ ln) (hk_this : κ this = 8) : wp (f_X7_append G P U V X O kd ln cnt this p0) (QX_X7_append κ wd G P U V X O kd ln cnt this p0) := by
  unfold f_X7_append
  have zk0 : (0 : Int32).toInt = 0 := by decide +kernel
  have zk1 : (1 : Int32).toInt = 1 := by decide +kernel
  have zk24 : (24 : Int32).toInt = 24 := by decide +kernel
  have zk2000 : (2000 : Int32).toInt = 2000 := by decide +kernel
  have r_p0 := i32r p0
  have hb0 := hzG141 this
  refine wp_jn (fun k46 => ∀ (c46_G141 : Nat → Int32) (c46_V0 : Nat → Nat → Int32), rng (0) 2000 c46_G141 → ((c46_G141 this).toInt = ((G 141) this).toInt + 4 ∨ (2000 ≤ (c46_G141 this).toInt ∧ (c46_G141 this).toInt ≤ ((G 141) this).toInt + 4)) → (∀ tb, (P 140) this = some tb → c46_V0 tb = app ((V 0) tb) ((G 141) this).toInt.toNat p0 ((c46_G141 this).toInt - ((G 141) this).toInt).toNat) → wp (k46 c46_G141 c46_V0) (QX_X7_append κ wd G P U V X O kd ln cnt this p0)) ?_ ?_
  · intro c46_G141 c46_V0 hg1 f2 ja46
    show wp _ _
    exact ⟨_, rfl, ⟨hg1, (show (((G 141) this).toInt + 4 ≤ 2000 → (c46_G141 this).toInt = ((G 141) this).toInt + 4) from by omega), (show (∀ tb, (P 140) this = some tb → ((G 141) this).toInt + 4 ≤ 2000 → c46_V0 tb = app ((V 0) tb) ((G 141) this).toInt.toNat p0 4) from by intro tb htb hle; have h := ja46 tb htb; rw [show ((c46_G141 this).toInt - ((G 141) this).toInt).toNat = 4 by omega] at h; exact h)⟩⟩
  intro k46 Jk46
  have lp3 : ∀ (n3 : Nat) (y3_2 : Int32) (d3_G141 : Nat → Int32) (d3_V0 : Nat → Nat → Int32), (y3_2.toInt + 8).toNat < n3 → rng (0) 2000 d3_G141 → y3_2.toInt = 24 - 8 * ((d3_G141 this).toInt - ((G 141) this).toInt) → (((G 141) this).toInt ≤ (d3_G141 this).toInt ∧ (d3_G141 this).toInt ≤ ((G 141) this).toInt + 4) → (∀ tb, (P 140) this = some tb → d3_V0 tb = app ((V 0) tb) ((G 141) this).toInt.toNat p0 ((d3_G141 this).toInt - ((G 141) this).toInt).toNat) → wp (L_X7_append_3 P ln this p0 k46 n3 y3_2 d3_G141 d3_V0) (QX_X7_append κ wd G P U V X O kd ln cnt this p0) := by
    intro n3
    induction n3 with
    | zero => intro y3_2 d3_G141 d3_V0 hm; exact absurd hm (Nat.not_lt_zero _)
    | succ n3 ih3 =>
      intro y3_2 d3_G141 d3_V0 hm3 hg3 f4 f5 ia3
      show wp (B_X7_append_3 P ln this p0 k46 (L_X7_append_3 P ln this p0 k46 n3) y3_2 d3_G141 d3_V0) _
      unfold B_X7_append_3
      refine wp_ite (fun c4 => ?_) (fun c4 => ?_)
      · have c4 := (z_lt _ _).mp c4
        exact Jk46 d3_G141 d3_V0 hg3 (show ((d3_G141 this).toInt = ((G 141) this).toInt + 4 ∨ (2000 ≤ (d3_G141 this).toInt ∧ (d3_G141 this).toInt ≤ ((G 141) this).toInt + 4)) from by omega) (show (∀ tb, (P 140) this = some tb → d3_V0 tb = app ((V 0) tb) ((G 141) this).toInt.toNat p0 ((d3_G141 this).toInt - ((G 141) this).toInt).toNat) from by exact ia3)
      · have c4 := z_nlt c4
        have b6 := hg3 this
        refine wp_ite (fun c14 => ?_) (fun c14 => ?_)
        · have c14 := (z_le _ _).mp c14
          exact Jk46 d3_G141 d3_V0 hg3 (show ((d3_G141 this).toInt = ((G 141) this).toInt + 4 ∨ (2000 ≤ (d3_G141 this).toInt ∧ (d3_G141 this).toInt ≤ ((G 141) this).toInt + 4)) from by omega) (show (∀ tb, (P 140) this = some tb → d3_V0 tb = app ((V 0) tb) ((G 141) this).toInt.toNat p0 ((d3_G141 this).toInt - ((G 141) this).toInt).toNat) from by exact ia3)
        · have c14 := z_nle c14
          refine wp_nn ((hzP140 this).1 hk_this) (fun a18 hn_a18 => ?_)
          have hk_a18 := ((hzP140 this).2 a18 hn_a18).1
          have hl1_a18 := ((hzP140 this).2 a18 hn_a18).2.1
          have hl2_a18 := ((hzP140 this).2 a18 hn_a18).2.2.1
          have hw_a18 := ((hzP140 this).2 a18 hn_a18).2.2.2
          have hz_a18 : (Int32.ofNat (ln a18)).toInt = ((ln a18 : Nat) : Int) := ofN_eq (by first | exact Nat.le_trans hl2_a18 (by decide) | omega)
          refine wp_if ⟨by omega, by omega⟩ ?_
          refine wp_vl (fun m29 em29 => ?_)
          have f9 : ((d3_G141 this) + 1).toInt = (d3_G141 this).toInt + 1 := z_addc (by decide +kernel) (by omega) (by omega)
          refine wp_vl (fun x37 ex37 => ?_)
          have f10 : x37.toInt = ((d3_G141 this) + 1).toInt := congrArg Int32.toInt ex37
          clear ex37
          refine wp_vl (fun m37 em37 => ?_)
          have hg11 : rng (0) 2000 m37 := by rw [em37]; exact rng_vup hg3 (by omega) (by omega)
          have sm37 : (m37 this).toInt = x37.toInt := by rw [em37, va_up_self]
          have b12 := hg11 this
          clear em37
          have f13 : (y3_2 + (-8)).toInt = y3_2.toInt + (-8) := z_addc (by decide +kernel) (by omega) (by omega)
          obtain ⟨z14, ez14⟩ : ∃ z : Int32, z = (y3_2 + (-8)) := ⟨_, rfl⟩
          have fz14 : z14.toInt = y3_2.toInt + (-8) := by rw [ez14]; exact f13
          rw [← ez14]
          clear f13 ez14
          exact ih3 z14 m37 m29 (show (z14.toInt + 8).toNat < n3 from by omega) hg11 (show z14.toInt = 24 - 8 * ((m37 this).toInt - ((G 141) this).toInt) from by omega) (show (((G 141) this).toInt ≤ (m37 this).toInt ∧ (m37 this).toInt ≤ ((G 141) this).toInt + 4) from by omega) (show (∀ tb, (P 140) this = some tb → m29 tb = app ((V 0) tb) ((G 141) this).toInt.toNat p0 ((m37 this).toInt - ((G 141) this).toInt).toNat) from by intro tb htb; obtain rfl : a18 = tb := Option.some.inj (hn_a18.symm.trans htb); rw [em29, va_up_self, show ((m37 this).toInt - ((G 141) this).toInt).toNat = ((d3_G141 this).toInt - ((G 141) this).toInt).toNat + 1 by omega]; exact app_step (ia3 _ htb) (by omega) (by omega) (by omega))
  exact lp3 NN (24 : Int32) (G 141) (V 0) (by have := NN_eq; omega) hzG141 (show (24 : Int32).toInt = 24 - 8 * (((G 141) this).toInt - ((G 141) this).toInt) from by omega) (show (((G 141) this).toInt ≤ ((G 141) this).toInt ∧ ((G 141) this).toInt ≤ ((G 141) this).toInt + 4) from by omega) (show (∀ tb, (P 140) this = some tb → (V 0) tb = app ((V 0) tb) ((G 141) this).toInt.toNat p0 (((G 141) this).toInt - ((G 141) this).toInt).toNat) from by intro tb htb; rw [show (((G 141) this).toInt - ((G 141) this).toInt).toNat = 0 by omega]; rfl)
abbrev QX_X7_isWord (κ : Nat → Nat) (wd : Nat) (G : Nat → Nat → Int32) (P : Nat → Nat → Option Nat) (U : Nat → Nat → Int64) (V : Nat → Nat → Nat → Int32) (X : Nat → Nat → Nat → Int64) (O : Nat → Nat → Nat → Option Nat) (kd : Nat → Nat) (ln : Nat → Nat) (cnt : Nat) (this : Nat) (p0 : Int32) : (Int32) → Prop := (fun t => ((0 ≤ t.toInt ∧ t.toInt ≤ 1)) ∧ ((t.toInt = 1 → 1 ≤ p0.toInt ∧ p0.toInt ≤ 24)) ∧ ((∀ tb, (P 140) this = some tb → (t.toInt = 1 ∧ isw ((V 0) tb) p0.toInt) ∨ (t.toInt = 0 ∧ ¬ isw ((V 0) tb) p0.toInt))))
set_option maxHeartbeats 4000000 in
set_option maxRecDepth 100000 in
theorem fx_X7_isWord (κ : Nat → Nat) (wd : Nat) (G : Nat → Nat → Int32) (P : Nat → Nat → Option Nat) (U : Nat → Nat → Int64) (V : Nat → Nat → Nat → Int32) (X : Nat → Nat → Nat → Int64) (O : Nat → Nat → Nat → Option Nat) (kd : Nat → Nat) (ln : Nat → Nat) (cnt : Nat) (this : Nat) (p0 : Int32) (hzP140 : PB κ ln wd 8 100 2000 2000 0 (P 140)) (hzLN : LN κ ln) (hk_this : κ this = 8) : wp (f_X7_isWord G P U V X O kd ln cnt this p0) (QX_X7_isWord κ wd G P U V X O kd ln cnt this p0) := by
  unfold f_X7_isWord
  have zk0 : (0 : Int32).toInt = 0 := by decide +kernel
  have zk1 : (1 : Int32).toInt = 1 := by decide +kernel
  have zk24 : (24 : Int32).toInt = 24 := by decide +kernel
  have r_p0 := i32r p0
  refine wp_jn (fun j11 => (p0.toInt < 1 ∨ 24 < p0.toInt) → wp (j11 ()) (QX_X7_isWord κ wd G P U V X O kd ln cnt this p0)) ?_ ?_
  · intro f1
    show wp _ _
    exact ⟨_, rfl, ⟨(show 0 ≤ (0 : Int32).toInt ∧ (0 : Int32).toInt ≤ 1 from ⟨by omega, by omega⟩), (show ((0 : Int32).toInt = 1 → 1 ≤ p0.toInt ∧ p0.toInt ≤ 24) from by omega), (show (∀ tb, (P 140) this = some tb → ((0 : Int32).toInt = 1 ∧ isw ((V 0) tb) p0.toInt) ∨ ((0 : Int32).toInt = 0 ∧ ¬ isw ((V 0) tb) p0.toInt)) from by intro tb htb; exact Or.inr ⟨by omega, fun h => by have h1 := h.1; have h2 := h.2.1; omega⟩)⟩⟩
  intro j11 Jj11
  refine wp_ite (fun c2 => ?_) (fun c2 => ?_)
  · have c2 := (z_lt _ _).mp c2
    exact Jj11 (show (p0.toInt < 1 ∨ 24 < p0.toInt) from by omega)
  · have c2 := z_nlt c2
    refine wp_ite (fun c8 => ?_) (fun c8 => ?_)
    · have c8 := (z_le _ _).mp c8
      have lp15 : ∀ (n15 : Nat) (y15_2 : Int32), (24 - y15_2.toInt).toNat < n15 → 0 ≤ y15_2.toInt → (∀ tb, (P 140) this = some tb → ∀ i : Nat, (i : Int) < y15_2.toInt → 97 ≤ ((V 0) tb i).toInt ∧ ((V 0) tb i).toInt ≤ 122) → wp (L_X7_isWord_15 G P U V X O kd ln cnt this p0 n15 y15_2) (QX_X7_isWord κ wd G P U V X O kd ln cnt this p0) := by
        intro n15
        induction n15 with
        | zero => intro y15_2 hm; exact absurd hm (Nat.not_lt_zero _)
        | succ n15 ih15 =>
          intro y15_2 hm15 f2 iw15
          show wp (B_X7_isWord_15 G P U V X O kd ln cnt this p0 (L_X7_isWord_15 G P U V X O kd ln cnt this p0 n15) y15_2) _
          unfold B_X7_isWord_15
          refine wp_ite (fun c17 => ?_) (fun c17 => ?_)
          · have c17 := (z_le _ _).mp c17
            exact ⟨_, rfl, ⟨(show 0 ≤ (1 : Int32).toInt ∧ (1 : Int32).toInt ≤ 1 from ⟨by omega, by omega⟩), (show ((1 : Int32).toInt = 1 → 1 ≤ p0.toInt ∧ p0.toInt ≤ 24) from by omega), (show (∀ tb, (P 140) this = some tb → ((1 : Int32).toInt = 1 ∧ isw ((V 0) tb) p0.toInt) ∨ ((1 : Int32).toInt = 0 ∧ ¬ isw ((V 0) tb) p0.toInt)) from by intro tb htb; exact Or.inl ⟨by omega, by omega, by omega, fun i hi => iw15 tb htb i (by omega)⟩)⟩⟩
          · have c17 := z_nle c17
            refine wp_nn ((hzP140 this).1 hk_this) (fun a21 hn_a21 => ?_)
            have hk_a21 := ((hzP140 this).2 a21 hn_a21).1
            have hl1_a21 := ((hzP140 this).2 a21 hn_a21).2.1
            have hl2_a21 := ((hzP140 this).2 a21 hn_a21).2.2.1
            have hw_a21 := ((hzP140 this).2 a21 hn_a21).2.2.2
            have hz_a21 : (Int32.ofNat (ln a21)).toInt = ((ln a21 : Nat) : Int) := ofN_eq (by first | exact Nat.le_trans hl2_a21 (by decide) | omega)
            refine wp_if ⟨by omega, by omega⟩ ?_
            obtain ⟨r26, hc26, hq26⟩ := fx_X10_isSmall κ wd G P U V X O kd ln cnt (((V 0) a21) (Int32.toNatClampNeg y15_2)) hzLN
            obtain ⟨f3, f4⟩ : ((0 ≤ r26.toInt ∧ r26.toInt ≤ 1)) ∧ (((r26.toInt = 1 ∧ 97 ≤ (((V 0) a21) (Int32.toNatClampNeg y15_2)).toInt ∧ (((V 0) a21) (Int32.toNatClampNeg y15_2)).toInt ≤ 122) ∨ (r26.toInt = 0 ∧ ((((V 0) a21) (Int32.toNatClampNeg y15_2)).toInt < 97 ∨ 122 < (((V 0) a21) (Int32.toNatClampNeg y15_2)).toInt)))) := hq26
            refine wp_b1 hc26 ?_
            clear hc26
            refine wp_ite (fun c29 => ?_) (fun c29 => ?_)
            · have c29 := congrArg Int32.toInt c29
              exact ⟨_, rfl, ⟨(show 0 ≤ (0 : Int32).toInt ∧ (0 : Int32).toInt ≤ 1 from ⟨by omega, by omega⟩), (show ((0 : Int32).toInt = 1 → 1 ≤ p0.toInt ∧ p0.toInt ≤ 24) from by omega), (show (∀ tb, (P 140) this = some tb → ((0 : Int32).toInt = 1 ∧ isw ((V 0) tb) p0.toInt) ∨ ((0 : Int32).toInt = 0 ∧ ¬ isw ((V 0) tb) p0.toInt)) from by intro tb htb; obtain rfl : a21 = tb := Option.some.inj (hn_a21.symm.trans htb); exact Or.inr ⟨by omega, fun h => by have e := clampI (x := y15_2) (by omega); have h2 := h.2.2 (Int32.toNatClampNeg y15_2) (by omega); omega⟩)⟩⟩
            · have c29 := z_ne c29
              have f5 : (y15_2 + 1).toInt = y15_2.toInt + (1) := z_addc (by decide +kernel) (by omega) (by omega)
              exact ih15 (y15_2 + 1) (show (24 - (y15_2 + 1).toInt).toNat < n15 from by omega) (show 0 ≤ (y15_2 + 1).toInt from by omega) (show (∀ tb, (P 140) this = some tb → ∀ i : Nat, (i : Int) < (y15_2 + 1).toInt → 97 ≤ ((V 0) tb i).toInt ∧ ((V 0) tb i).toInt ≤ 122) from by intro tb htb i hi; obtain rfl : a21 = tb := Option.some.inj (hn_a21.symm.trans htb); by_cases q : (i : Int) < y15_2.toInt; (exact iw15 _ htb i q); (have e := clampI (x := y15_2) (by omega); rw [show i = Int32.toNatClampNeg y15_2 by omega]; omega))
      exact lp15 NN (0 : Int32) (by have := NN_eq; omega) (show 0 ≤ (0 : Int32).toInt from by omega) (show (∀ tb, (P 140) this = some tb → ∀ i : Nat, (i : Int) < (0 : Int32).toInt → 97 ≤ ((V 0) tb i).toInt ∧ ((V 0) tb i).toInt ≤ 122) from by intro tb htb i hi; omega)
    · have c8 := z_nle c8
      exact Jj11 (show (p0.toInt < 1 ∨ 24 < p0.toInt) from by omega)
abbrev QX_X11_feed (κ : Nat → Nat) (wd : Nat) (G : Nat → Nat → Int32) (P : Nat → Nat → Option Nat) (U : Nat → Nat → Int64) (V : Nat → Nat → Nat → Int32) (X : Nat → Nat → Nat → Int64) (O : Nat → Nat → Nat → Option Nat) (kd : Nat → Nat) (ln : Nat → Nat) (cnt : Nat) (this : Nat) (p0 : Int32) (p1 : Int32) (p2 : Int32) (p3 : Int32) (p4 : Int32) : (Int32 × (Nat → Int32) × (Nat → Nat → Int32)) → Prop := (fun t => (rng (0) 2000 (t.2.1)) ∧ ((∀ tp, (P 220) this = some tp → (((G 141) tp).toInt + 20 ≤ 2000 → ((t.2.1) tp).toInt = ((G 141) tp).toInt + 20 ∧ (t.1).toInt = ((G 141) tp).toInt + 20) ∧ (2000 < ((G 141) tp).toInt + 20 → ((t.2.1) tp).toInt = ((G 141) tp).toInt ∧ (t.1).toInt = -3))) ∧ ((∀ tp tb, (P 220) this = some tp → (P 140) tp = some tb → (((G 141) tp).toInt + 20 ≤ 2000 → (t.2.2) tb = fds ((V 0) tb) ((G 141) tp).toInt.toNat (vs5 p0 p1 p2 p3 p4) 5) ∧ (2000 < ((G 141) tp).toInt + 20 → (t.2.2) = (V 0)))))
set_option maxHeartbeats 4000000 in
set_option maxRecDepth 100000 in
theorem fx_X11_feed (κ : Nat → Nat) (wd : Nat) (G : Nat → Nat → Int32) (P : Nat → Nat → Option Nat) (U : Nat → Nat → Int64) (V : Nat → Nat → Nat → Int32) (X : Nat → Nat → Nat → Int64) (O : Nat → Nat → Nat → Option Nat) (kd : Nat → Nat) (ln : Nat → Nat) (cnt : Nat) (this : Nat) (p0 : Int32) (p1 : Int32) (p2 : Int32) (p3 : Int32) (p4 : Int32) (hzG141 : rng (0) 2000 (G 141)) (hzP140 : PB κ ln wd 8 100 2000 2000 0 (P 140)) (hzP220 : PB κ ln wd 12 8 0 2500 0 (P 220)) (hzLN : LN κ ln) (hk_this : κ this = 12) : wp (f_X11_feed G P U V X O kd ln cnt this p0 p1 p2 p3 p4) (QX_X11_feed κ wd G P U V X O kd ln cnt this p0 p1 p2 p3 p4) := by
  unfold f_X11_feed
  have zkm3 : (-3 : Int32).toInt = -3 := by decide +kernel
  have zk20 : (20 : Int32).toInt = 20 := by decide +kernel
  have zk2000 : (2000 : Int32).toInt = 2000 := by decide +kernel
  have r_p0 := i32r p0
  have r_p1 := i32r p1
  have r_p2 := i32r p2
  have r_p3 := i32r p3
  have r_p4 := i32r p4
  obtain ⟨u1, hn_u1⟩ := PBs (hzP220 this) hk_this
  have hk_u1 := ((hzP220 this).2 u1 hn_u1).1
  have hl1_u1 := ((hzP220 this).2 u1 hn_u1).2.1
  have hl2_u1 := ((hzP220 this).2 u1 hn_u1).2.2.1
  have hw_u1 := ((hzP220 this).2 u1 hn_u1).2.2.2
  obtain ⟨u2, hn_u2⟩ := PBs (hzP140 u1) hk_u1
  have hk_u2 := ((hzP140 u1).2 u2 hn_u2).1
  have hl1_u2 := ((hzP140 u1).2 u2 hn_u2).2.1
  have hl2_u2 := ((hzP140 u1).2 u2 hn_u2).2.2.1
  have hw_u2 := ((hzP140 u1).2 u2 hn_u2).2.2.2
  have hz_u2 : (Int32.ofNat (ln u2)).toInt = ((ln u2 : Nat) : Int) := ofN_eq (by first | exact Nat.le_trans hl2_u2 (by decide) | omega)
  refine wp_nne hn_u1 ?_
  have b3 := hzG141 u1
  have f4 : (((G 141) u1) + 20).toInt = ((G 141) u1).toInt + 20 := z_addc (by decide +kernel) (by omega) (by omega)
  refine wp_ite (fun c13 => ?_) (fun c13 => ?_)
  · have c13 := (z_le _ _).mp c13
    refine wp_nne hn_u1 ?_
    obtain ⟨⟨c24_G141, c24_V0⟩, hc24, hq24⟩ := fx_X7_append κ wd G P U V X O kd ln cnt u1 p0 hzG141 hzP140 hzLN hk_u1
    obtain ⟨hg5, f6, f7⟩ : (rng (0) 2000 c24_G141) ∧ ((((G 141) u1).toInt + 4 ≤ 2000 → (c24_G141 u1).toInt = ((G 141) u1).toInt + 4)) ∧ ((∀ tb, (P 140) u1 = some tb → ((G 141) u1).toInt + 4 ≤ 2000 → c24_V0 tb = app ((V 0) tb) ((G 141) u1).toInt.toNat p0 4)) := hq24
    refine wp_b2 hc24 ?_
    clear hc24
    have ha1 := f7 _ hn_u2 (by omega)
    refine wp_nne hn_u1 ?_
    obtain ⟨⟨c32_G141, c32_V0⟩, hc32, hq32⟩ := fx_X7_append κ wd (va_up G 141 c24_G141) P U (va_up V 0 c24_V0) X O kd ln cnt u1 p1 hg5 hzP140 hzLN hk_u1
    obtain ⟨hg8, f9, f10⟩ : (rng (0) 2000 c32_G141) ∧ (((c24_G141 u1).toInt + 4 ≤ 2000 → (c32_G141 u1).toInt = (c24_G141 u1).toInt + 4)) ∧ ((∀ tb, (P 140) u1 = some tb → (c24_G141 u1).toInt + 4 ≤ 2000 → c32_V0 tb = app (c24_V0 tb) (c24_G141 u1).toInt.toNat p1 4)) := hq32
    refine wp_b2 hc32 ?_
    clear hc32
    have ha2 := f10 _ hn_u2 (by omega)
    refine wp_nne hn_u1 ?_
    obtain ⟨⟨c40_G141, c40_V0⟩, hc40, hq40⟩ := fx_X7_append κ wd (va_up (va_up G 141 c24_G141) 141 c32_G141) P U (va_up (va_up V 0 c24_V0) 0 c32_V0) X O kd ln cnt u1 p2 hg8 hzP140 hzLN hk_u1
    obtain ⟨hg11, f12, f13⟩ : (rng (0) 2000 c40_G141) ∧ (((c32_G141 u1).toInt + 4 ≤ 2000 → (c40_G141 u1).toInt = (c32_G141 u1).toInt + 4)) ∧ ((∀ tb, (P 140) u1 = some tb → (c32_G141 u1).toInt + 4 ≤ 2000 → c40_V0 tb = app (c32_V0 tb) (c32_G141 u1).toInt.toNat p2 4)) := hq40
    refine wp_b2 hc40 ?_
    clear hc40
    have ha3 := f13 _ hn_u2 (by omega)
    refine wp_nne hn_u1 ?_
    obtain ⟨⟨c49_G141, c49_V0⟩, hc49, hq49⟩ := fx_X7_append κ wd (va_up (va_up (va_up G 141 c24_G141) 141 c32_G141) 141 c40_G141) P U (va_up (va_up (va_up V 0 c24_V0) 0 c32_V0) 0 c40_V0) X O kd ln cnt u1 p3 hg11 hzP140 hzLN hk_u1
    obtain ⟨hg14, f15, f16⟩ : (rng (0) 2000 c49_G141) ∧ (((c40_G141 u1).toInt + 4 ≤ 2000 → (c49_G141 u1).toInt = (c40_G141 u1).toInt + 4)) ∧ ((∀ tb, (P 140) u1 = some tb → (c40_G141 u1).toInt + 4 ≤ 2000 → c49_V0 tb = app (c40_V0 tb) (c40_G141 u1).toInt.toNat p3 4)) := hq49
    refine wp_b2 hc49 ?_
    clear hc49
    have ha4 := f16 _ hn_u2 (by omega)
    refine wp_nne hn_u1 ?_
    obtain ⟨⟨c58_G141, c58_V0⟩, hc58, hq58⟩ := fx_X7_append κ wd (va_up (va_up (va_up (va_up G 141 c24_G141) 141 c32_G141) 141 c40_G141) 141 c49_G141) P U (va_up (va_up (va_up (va_up V 0 c24_V0) 0 c32_V0) 0 c40_V0) 0 c49_V0) X O kd ln cnt u1 p4 hg14 hzP140 hzLN hk_u1
    obtain ⟨hg17, f18, f19⟩ : (rng (0) 2000 c58_G141) ∧ (((c49_G141 u1).toInt + 4 ≤ 2000 → (c58_G141 u1).toInt = (c49_G141 u1).toInt + 4)) ∧ ((∀ tb, (P 140) u1 = some tb → (c49_G141 u1).toInt + 4 ≤ 2000 → c58_V0 tb = app (c49_V0 tb) (c49_G141 u1).toInt.toNat p4 4)) := hq58
    refine wp_b2 hc58 ?_
    clear hc58
    have ha5 := f19 _ hn_u2 (by omega)
    refine wp_nne hn_u1 ?_
    have b20 := hg17 u1
    exact ⟨_, rfl, ⟨hg17, (show (∀ tp, (P 220) this = some tp → (((G 141) tp).toInt + 20 ≤ 2000 → (c58_G141 tp).toInt = ((G 141) tp).toInt + 20 ∧ (c58_G141 u1).toInt = ((G 141) tp).toInt + 20) ∧ (2000 < ((G 141) tp).toInt + 20 → (c58_G141 tp).toInt = ((G 141) tp).toInt ∧ (c58_G141 u1).toInt = -3)) from by intro tp htp; obtain rfl : u1 = tp := Option.some.inj (hn_u1.symm.trans htp); omega), (show (∀ tp tb, (P 220) this = some tp → (P 140) tp = some tb → (((G 141) tp).toInt + 20 ≤ 2000 → c58_V0 tb = fds ((V 0) tb) ((G 141) tp).toInt.toNat (vs5 p0 p1 p2 p3 p4) 5) ∧ (2000 < ((G 141) tp).toInt + 20 → c58_V0 = (V 0))) from by intro tp tb htp htb; obtain rfl : u1 = tp := Option.some.inj (hn_u1.symm.trans htp); obtain rfl : u2 = tb := Option.some.inj (hn_u2.symm.trans htb); exact ⟨fun _ => fds5 ha1 ha2 ha3 ha4 ha5 (by omega) (by omega) (by omega) (by omega), fun h => by omega⟩)⟩⟩
  · have c13 := z_nle c13
    exact ⟨_, rfl, ⟨hzG141, (show (∀ tp, (P 220) this = some tp → (((G 141) tp).toInt + 20 ≤ 2000 → ((G 141) tp).toInt = ((G 141) tp).toInt + 20 ∧ (-3 : Int32).toInt = ((G 141) tp).toInt + 20) ∧ (2000 < ((G 141) tp).toInt + 20 → ((G 141) tp).toInt = ((G 141) tp).toInt ∧ (-3 : Int32).toInt = -3)) from by intro tp htp; obtain rfl : u1 = tp := Option.some.inj (hn_u1.symm.trans htp); omega), (show (∀ tp tb, (P 220) this = some tp → (P 140) tp = some tb → (((G 141) tp).toInt + 20 ≤ 2000 → (V 0) tb = fds ((V 0) tb) ((G 141) tp).toInt.toNat (vs5 p0 p1 p2 p3 p4) 5) ∧ (2000 < ((G 141) tp).toInt + 20 → (V 0) = (V 0))) from by intro tp tb htp htb; obtain rfl : u1 = tp := Option.some.inj (hn_u1.symm.trans htp); obtain rfl : u2 = tb := Option.some.inj (hn_u2.symm.trans htb); exact ⟨fun h => by omega, fun _ => rfl⟩)⟩⟩
abbrev QX_X11_learn (κ : Nat → Nat) (wd : Nat) (G : Nat → Nat → Int32) (P : Nat → Nat → Option Nat) (U : Nat → Nat → Int64) (V : Nat → Nat → Nat → Int32) (X : Nat → Nat → Nat → Int64) (O : Nat → Nat → Nat → Option Nat) (kd : Nat → Nat) (ln : Nat → Nat) (cnt : Nat) (this : Nat) : (Int32 × (Nat → Int32) × (Nat → Int32) × (Nat → Nat → Int32) × (Nat → Nat → Int32)) → Prop := (fun t => (rng (0) 2000 (t.2.1)) ∧ (rng (0) 100 (t.2.2.1)) ∧ (rng2 (0) 24 (t.2.2.2.2)) ∧ (RB κ ln (G 200) (t.2.2.1) (P 202) (t.2.2.2.2)) ∧ (FL wd (t.2.2.1) (V 3)) ∧ ((∀ tp, (P 220) this = some tp → ((t.2.1) tp).toInt = 0)) ∧ ((∀ tp tb wl wz, (P 220) this = some tp → (P 140) tp = some tb → (P 201) wd = some wl → (P 202) wd = some wz → ((G 200) wd).toInt = 24 → ln wz = 100 → LRN ((V 0) tb) ((G 141) tp).toInt ((V 0) wl) ((V 1) wz) ((G 203) wd) (t.1) ((t.2.2.2.1) wl) ((t.2.2.2.2) wz) ((t.2.2.1) wd))))
set_option maxHeartbeats 4000000 in
set_option maxRecDepth 100000 in
theorem fx_X11_learn (κ : Nat → Nat) (wd : Nat) (G : Nat → Nat → Int32) (P : Nat → Nat → Option Nat) (U : Nat → Nat → Int64) (V : Nat → Nat → Nat → Int32) (X : Nat → Nat → Nat → Int64) (O : Nat → Nat → Nat → Option Nat) (kd : Nat → Nat) (ln : Nat → Nat) (cnt : Nat) (this : Nat) (hzG141 : rng (0) 2000 (G 141)) (hzG200 : rng (0) 24 (G 200)) (hzG203 : rng (0) 100 (G 203)) (hzP0 : PB κ ln wd 1 11 0 2500 0 (P 0)) (hzP140 : PB κ ln wd 8 100 2000 2000 0 (P 140)) (hzP201 : PB κ ln wd 11 100 0 2400 0 (P 201)) (hzP202 : PB κ ln wd 11 101 0 100 0 (P 202)) (hzP220 : PB κ ln wd 12 8 0 2500 0 (P 220)) (hzP229 : PB κ ln wd 12 1 0 2500 0 (P 229)) (hzV1 : rng2 (0) 24 (V 1)) (hzV3 : rng2 (0) 100 (V 3)) (hzRA : RA κ ln (G 200) (P 201) (P 202)) (hzRB : RB κ ln (G 200) (G 203) (P 202) (V 1)) (hzRI : RI (P 202)) (hzLN : LN κ ln) (hzFL : FL wd (G 203) (V 3)) (hzW0 : W0 wd (P 0)) (hk_this : κ this = 12) : wp (f_X11_learn G P U V X O kd ln cnt this) (QX_X11_learn κ wd G P U V X O kd ln cnt this) := by
  unfold f_X11_learn
  have zkm3 : (-3 : Int32).toInt = -3 := by decide +kernel
  have zkm2 : (-2 : Int32).toInt = -2 := by decide +kernel
  have zkm1 : (-1 : Int32).toInt = -1 := by decide +kernel
  have zk0 : (0 : Int32).toInt = 0 := by decide +kernel
  have zk1 : (1 : Int32).toInt = 1 := by decide +kernel
  obtain ⟨u1, hn_u1⟩ := PBs (hzP220 this) hk_this
  have hk_u1 := ((hzP220 this).2 u1 hn_u1).1
  have hl1_u1 := ((hzP220 this).2 u1 hn_u1).2.1
  have hl2_u1 := ((hzP220 this).2 u1 hn_u1).2.2.1
  have hw_u1 := ((hzP220 this).2 u1 hn_u1).2.2.2
  obtain ⟨u2, hn_u2⟩ := PBs (hzP140 u1) hk_u1
  have hk_u2 := ((hzP140 u1).2 u2 hn_u2).1
  have hl1_u2 := ((hzP140 u1).2 u2 hn_u2).2.1
  have hl2_u2 := ((hzP140 u1).2 u2 hn_u2).2.2.1
  have hw_u2 := ((hzP140 u1).2 u2 hn_u2).2.2.2
  have hz_u2 : (Int32.ofNat (ln u2)).toInt = ((ln u2 : Nat) : Int) := ofN_eq (by first | exact Nat.le_trans hl2_u2 (by decide) | omega)
  refine wp_nne hn_u1 ?_
  obtain ⟨⟨r4, c4_G141⟩, hc4, hq4⟩ := ok_X7_take κ wd G P U V X O kd ln cnt u1 hzG141 hzLN hk_u1
  obtain ⟨hg3, f4, f5, f6⟩ : (rng (0) 2000 c4_G141) ∧ (r4.toInt = ((G 141) u1).toInt) ∧ ((c4_G141 u1).toInt = 0) ∧ ((0 ≤ r4.toInt ∧ r4.toInt ≤ 2000)) := hq4
  refine wp_b2 hc4 ?_
  clear hc4
  refine wp_nne hn_u1 ?_
  obtain ⟨r13, hc13, hq13⟩ := fx_X7_isWord κ wd (va_up G 141 c4_G141) P U V X O kd ln cnt u1 r4 hzP140 hzLN hk_u1
  obtain ⟨f7, f8, f9⟩ : ((0 ≤ r13.toInt ∧ r13.toInt ≤ 1)) ∧ ((r13.toInt = 1 → 1 ≤ r4.toInt ∧ r4.toInt ≤ 24)) ∧ ((∀ tb, (P 140) u1 = some tb → (r13.toInt = 1 ∧ isw ((V 0) tb) r4.toInt) ∨ (r13.toInt = 0 ∧ ¬ isw ((V 0) tb) r4.toInt))) := hq13
  refine wp_b1 hc13 ?_
  clear hc13
  have hlen : r4.toInt = ((G 141) u1).toInt := by omega
  have hwd := f9 _ hn_u2
  rw [hlen] at hwd
  refine wp_ite (fun c16 => ?_) (fun c16 => ?_)
  · have c16 := congrArg Int32.toInt c16
    exact ⟨_, rfl, ⟨hg3, hzG203, hzV1, hzRB, hzFL, (show (∀ tp, (P 220) this = some tp → (c4_G141 tp).toInt = 0) from by intro tp htp; obtain rfl : u1 = tp := Option.some.inj (hn_u1.symm.trans htp); omega), (show (∀ tp tb wl wz, (P 220) this = some tp → (P 140) tp = some tb → (P 201) wd = some wl → (P 202) wd = some wz → ((G 200) wd).toInt = 24 → ln wz = 100 → LRN ((V 0) tb) ((G 141) tp).toInt ((V 0) wl) ((V 1) wz) ((G 203) wd) (-2 : Int32) ((V 0) wl) ((V 1) wz) ((G 203) wd)) from by intro tp tb wl wz htp htb hwl hwz hw hl; obtain rfl : u1 = tp := Option.some.inj (hn_u1.symm.trans htp); obtain rfl : u2 = tb := Option.some.inj (hn_u2.symm.trans htb); exact Or.inl ⟨(hwd.resolve_left (fun z => by have := z.1; omega)).2, by omega, rfl, rfl, rfl⟩)⟩⟩
  · have c16 := z_ne c16
    refine wp_nn ((hzP229 this).1 hk_this) (fun a23 hn_a23 => ?_)
    have hk_a23 := ((hzP229 this).2 a23 hn_a23).1
    have hl1_a23 := ((hzP229 this).2 a23 hn_a23).2.1
    have hl2_a23 := ((hzP229 this).2 a23 hn_a23).2.2.1
    have hw_a23 := ((hzP229 this).2 a23 hn_a23).2.2.2
    refine wp_nn ((hzP0 a23).1 hk_a23) (fun a26 hn_a26 => ?_)
    obtain rfl : wd = a26 := (hzW0 _ _ hn_a26).symm
    have hk_wd := ((hzP0 a23).2 wd hn_a26).1
    have hl1_wd := ((hzP0 a23).2 wd hn_a26).2.1
    have hl2_wd := ((hzP0 a23).2 wd hn_a26).2.2.1
    have hw_wd := ((hzP0 a23).2 wd hn_a26).2.2.2
    obtain ⟨u10, hn_u10⟩ := PBs (hzP201 wd) hk_wd
    have hk_u10 := ((hzP201 wd).2 u10 hn_u10).1
    have hl1_u10 := ((hzP201 wd).2 u10 hn_u10).2.1
    have hl2_u10 := ((hzP201 wd).2 u10 hn_u10).2.2.1
    have hw_u10 := ((hzP201 wd).2 u10 hn_u10).2.2.2
    have hz_u10 : (Int32.ofNat (ln u10)).toInt = ((ln u10 : Nat) : Int) := ofN_eq (by first | exact Nat.le_trans hl2_u10 (by decide) | omega)
    obtain ⟨u11, hn_u11⟩ := PBs (hzP202 wd) hk_wd
    have hk_u11 := ((hzP202 wd).2 u11 hn_u11).1
    have hl1_u11 := ((hzP202 wd).2 u11 hn_u11).2.1
    have hl2_u11 := ((hzP202 wd).2 u11 hn_u11).2.2.1
    have hw_u11 := ((hzP202 wd).2 u11 hn_u11).2.2.2
    have hz_u11 : (Int32.ofNat (ln u11)).toInt = ((ln u11 : Nat) : Int) := ofN_eq (by first | exact Nat.le_trans hl2_u11 (by decide) | omega)
    have rb12 := (hzRB wd u11 hk_wd hn_u11).1
    have ra13 := hzRA wd u10 u11 hk_wd hn_u10 hn_u11
    have bw14 := hzG200 wd
    refine wp_nne hn_u1 ?_
    refine wp_nne hn_u2 ?_
    obtain ⟨r38, hc38, hq38⟩ := fx_X10_find κ wd (va_up G 141 c4_G141) P U V X O kd ln cnt wd u2 (0 : Int32) r4 hzG200 hzG203 hzP201 hzP202 hzV1 hzRA hzRB hzRI hzLN hk_wd hk_u2
    obtain ⟨f15, f16, f17⟩ : (((-1) ≤ r38.toInt ∧ r38.toInt < 100)) ∧ ((r38.toInt = -1 ∨ r38.toInt < ((G 203) wd).toInt)) ∧ ((∀ l s, (P 201) wd = some l → (P 202) wd = some s → fnd ((G 200) wd).toInt ((V 0) l) (ln l) ((V 1) s) ((V 0) u2) (0 : Int32).toInt (ln u2) r4.toInt ((G 203) wd).toInt r38.toInt)) := hq38
    refine wp_b1 hc38 ?_
    clear hc38
    have hfn := f17 _ _ hn_u10 hn_u11
    rw [zk0, hlen] at hfn
    refine wp_ite (fun c44 => ?_) (fun c44 => ?_)
    · have c44 := congrArg Int32.toInt c44
      refine wp_nne hn_a23 ?_
      refine wp_nne hn_a26 ?_
      obtain ⟨r56, hc56, hq56⟩ := fx_X10_isFull κ wd (va_up G 141 c4_G141) P U V X O kd ln cnt wd hzG200 hzG203 hzP201 hzP202 hzV1 hzRA hzRB hzRI hzLN hk_wd
      obtain ⟨f18, f19, f20⟩ : ((0 ≤ r56.toInt ∧ r56.toInt ≤ 1)) ∧ ((∀ s, (P 202) wd = some s → r56.toInt = 0 → ((G 203) wd).toInt < ((ln s : Nat) : Int))) ∧ ((∀ s, (P 202) wd = some s → r56.toInt = 1 → ((ln s : Nat) : Int) ≤ ((G 203) wd).toInt)) := hq56
      refine wp_b1 hc56 ?_
      clear hc56
      have hfu := f20 _ hn_u11
      have hfu0 := f19 _ hn_u11
      refine wp_ite (fun c59 => ?_) (fun c59 => ?_)
      · have c59 := congrArg Int32.toInt c59
        refine wp_nne hn_a23 ?_
        refine wp_nne hn_a26 ?_
        refine wp_nne hn_u1 ?_
        refine wp_nne hn_u2 ?_
        obtain ⟨⟨c81_G203, c81_V0, c81_V1⟩, hc81, hq81⟩ := fx_X10_add κ wd (va_up G 141 c4_G141) P U V X O kd ln cnt wd u2 (0 : Int32) r4 hzG200 hzG203 hzP201 hzP202 hzV1 hzRA hzRB hzRI hzLN hk_wd hk_u2
        obtain ⟨hg21, hg22, hRB23, f24, f25, f26⟩ : (rng (0) 100 c81_G203) ∧ (rng2 (0) 24 c81_V1) ∧ (RB κ ln (G 200) c81_G203 (P 202) c81_V1) ∧ ((wd ≠ wd → c81_G203 wd = (G 203) wd)) ∧ (((G 203) wd).toInt ≤ (c81_G203 wd).toInt) ∧ ((∀ l s, (P 201) wd = some l → (P 202) wd = some s → ((G 203) wd).toInt < ((ln s : Nat) : Int) → 0 ≤ r4.toInt → r4.toInt ≤ ((G 200) wd).toInt → 0 ≤ (0 : Int32).toInt → r4.toInt ≤ ((ln u2 : Nat) : Int) - (0 : Int32).toInt → c81_V0 = va_up (V 0) l (va_cpy ((V 0) u2) ((V 0) l) (0 : Int32).toInt.toNat ((G 203) wd * (G 200) wd).toInt.toNat r4.toInt.toNat) ∧ c81_V1 = va_up (V 1) s (upd ((V 1) s) ((G 203) wd).toInt.toNat r4) ∧ (c81_G203 wd).toInt = ((G 203) wd).toInt + 1)) := hq81
        refine wp_b3 hc81 ?_
        clear hc81
        have hFL27 : FL wd c81_G203 (V 3) := by exact FL_le hzFL (by omega)
        have had := f26 _ _ hn_u10 hn_u11
        have hb3 := hg21 wd
        refine wp_nne hn_a23 ?_
        refine wp_nne hn_a26 ?_
        have b28 := hg21 wd
        have rb29 := (hRB23 wd u11 hk_wd hn_u11).1
        have f32 : ((c81_G203 wd) - 1).toInt = (c81_G203 wd).toInt - 1 := z_subc (by decide +kernel) (by omega) (by omega)
        exact ⟨_, rfl, ⟨hg3, hg21, hg22, hRB23, hFL27, (show (∀ tp, (P 220) this = some tp → (c4_G141 tp).toInt = 0) from by intro tp htp; obtain rfl : u1 = tp := Option.some.inj (hn_u1.symm.trans htp); omega), (show (∀ tp tb wl wz, (P 220) this = some tp → (P 140) tp = some tb → (P 201) wd = some wl → (P 202) wd = some wz → ((G 200) wd).toInt = 24 → ln wz = 100 → LRN ((V 0) tb) ((G 141) tp).toInt ((V 0) wl) ((V 1) wz) ((G 203) wd) ((c81_G203 wd) - 1) (c81_V0 wl) (c81_V1 wz) (c81_G203 wd)) from by intro tp tb wl wz htp htb hwl hwz hw hl; obtain rfl : u1 = tp := Option.some.inj (hn_u1.symm.trans htp); obtain rfl : u2 = tb := Option.some.inj (hn_u2.symm.trans htb); obtain rfl : u10 = wl := Option.some.inj (hn_u10.symm.trans hwl); obtain rfl : u11 = wz := Option.some.inj (hn_u11.symm.trans hwz); have hiw := hwd.resolve_right (fun z => by have := z.1; omega); have hra := hzRA wd _ _ hk_wd hn_u10 hn_u11; rw [hl, hw] at hra; have hn1 := hiw.2.1; have hn2 := hiw.2.2.1; have hfn2 := fnd_of hfn hw (by have := (hzG203 wd).2; omega) (by omega) (by omega) (by omega); have hmul : ((G 203) wd * (G 200) wd).toInt = ((G 203) wd).toInt * ((G 200) wd).toInt := (zmw (by have := hzG203 wd; omega) (by have := hzG203 wd; omega) (by omega) (by omega)).1; rw [hw] at hmul; obtain ⟨h1, h2, h3⟩ := had (by omega) (by omega) (by omega) (by omega) (by omega); exact Or.inr (Or.inr (Or.inr ⟨hiw.2, fnt_none hfn2 (by omega), by omega, by omega, h3, by rw [h1, va_up_self, zk0, show ((G 203) wd * (G 200) wd).toInt.toNat = 24 * ((G 203) wd).toInt.toNat by omega, hlen]; try rfl, _, hlen, by rw [h2, va_up_self]⟩)))⟩⟩
      · have c59 := z_ne c59
        exact ⟨_, rfl, ⟨hg3, hzG203, hzV1, hzRB, hzFL, (show (∀ tp, (P 220) this = some tp → (c4_G141 tp).toInt = 0) from by intro tp htp; obtain rfl : u1 = tp := Option.some.inj (hn_u1.symm.trans htp); omega), (show (∀ tp tb wl wz, (P 220) this = some tp → (P 140) tp = some tb → (P 201) wd = some wl → (P 202) wd = some wz → ((G 200) wd).toInt = 24 → ln wz = 100 → LRN ((V 0) tb) ((G 141) tp).toInt ((V 0) wl) ((V 1) wz) ((G 203) wd) (-3 : Int32) ((V 0) wl) ((V 1) wz) ((G 203) wd)) from by intro tp tb wl wz htp htb hwl hwz hw hl; obtain rfl : u1 = tp := Option.some.inj (hn_u1.symm.trans htp); obtain rfl : u2 = tb := Option.some.inj (hn_u2.symm.trans htb); obtain rfl : u10 = wl := Option.some.inj (hn_u10.symm.trans hwl); obtain rfl : u11 = wz := Option.some.inj (hn_u11.symm.trans hwz); have hiw := hwd.resolve_right (fun z => by have := z.1; omega); have hra := hzRA wd _ _ hk_wd hn_u10 hn_u11; rw [hl, hw] at hra; have hn1 := hiw.2.1; have hn2 := hiw.2.2.1; have hfn2 := fnd_of hfn hw (by have := (hzG203 wd).2; omega) (by omega) (by omega) (by omega); exact Or.inr (Or.inr (Or.inl ⟨hiw.2, fnt_none hfn2 (by omega), by omega, by omega, rfl, rfl, rfl⟩)))⟩⟩
    · have c44 := z_ne c44
      exact ⟨_, rfl, ⟨hg3, hzG203, hzV1, hzRB, hzFL, (show (∀ tp, (P 220) this = some tp → (c4_G141 tp).toInt = 0) from by intro tp htp; obtain rfl : u1 = tp := Option.some.inj (hn_u1.symm.trans htp); omega), (show (∀ tp tb wl wz, (P 220) this = some tp → (P 140) tp = some tb → (P 201) wd = some wl → (P 202) wd = some wz → ((G 200) wd).toInt = 24 → ln wz = 100 → LRN ((V 0) tb) ((G 141) tp).toInt ((V 0) wl) ((V 1) wz) ((G 203) wd) r38 ((V 0) wl) ((V 1) wz) ((G 203) wd)) from by intro tp tb wl wz htp htb hwl hwz hw hl; obtain rfl : u1 = tp := Option.some.inj (hn_u1.symm.trans htp); obtain rfl : u2 = tb := Option.some.inj (hn_u2.symm.trans htb); obtain rfl : u10 = wl := Option.some.inj (hn_u10.symm.trans hwl); obtain rfl : u11 = wz := Option.some.inj (hn_u11.symm.trans hwz); have hiw := hwd.resolve_right (fun z => by have := z.1; omega); have hra := hzRA wd _ _ hk_wd hn_u10 hn_u11; rw [hl, hw] at hra; have hn1 := hiw.2.1; have hn2 := hiw.2.2.1; have hfn2 := fnd_of hfn hw (by have := (hzG203 wd).2; omega) (by omega) (by omega) (by omega); exact Or.inr (Or.inl ⟨hiw.2, fnt_some hfn2 (by omega), rfl, rfl, rfl⟩))⟩⟩
abbrev QX_X11_word (κ : Nat → Nat) (wd : Nat) (G : Nat → Nat → Int32) (P : Nat → Nat → Option Nat) (U : Nat → Nat → Int64) (V : Nat → Nat → Nat → Int32) (X : Nat → Nat → Nat → Int64) (O : Nat → Nat → Nat → Option Nat) (kd : Nat → Nat) (ln : Nat → Nat) (cnt : Nat) (this : Nat) (p0 : Int32) (p1 : Int32) : (Int32) → Prop := (fun t => ((∀ wl wz, (P 201) wd = some wl → (P 202) wd = some wz → ((G 200) wd).toInt = 24 → WRD ((V 0) wl) ((V 1) wz) ((G 203) wd).toInt p0.toInt p1.toInt t)))
set_option maxHeartbeats 4000000 in
set_option maxRecDepth 100000 in
theorem fx_X11_word (κ : Nat → Nat) (wd : Nat) (G : Nat → Nat → Int32) (P : Nat → Nat → Option Nat) (U : Nat → Nat → Int64) (V : Nat → Nat → Nat → Int32) (X : Nat → Nat → Nat → Int64) (O : Nat → Nat → Nat → Option Nat) (kd : Nat → Nat) (ln : Nat → Nat) (cnt : Nat) (this : Nat) (p0 : Int32) (p1 : Int32) (hzG200 : rng (0) 24 (G 200)) (hzG203 : rng (0) 100 (G 203)) (hzP0 : PB κ ln wd 1 11 0 2500 0 (P 0)) (hzP201 : PB κ ln wd 11 100 0 2400 0 (P 201)) (hzP202 : PB κ ln wd 11 101 0 100 0 (P 202)) (hzP229 : PB κ ln wd 12 1 0 2500 0 (P 229)) (hzV1 : rng2 (0) 24 (V 1)) (hzRA : RA κ ln (G 200) (P 201) (P 202)) (hzRB : RB κ ln (G 200) (G 203) (P 202) (V 1)) (hzRI : RI (P 202)) (hzLN : LN κ ln) (hzW0 : W0 wd (P 0)) (hk_this : κ this = 12) : wp (f_X11_word G P U V X O kd ln cnt this p0 p1) (QX_X11_word κ wd G P U V X O kd ln cnt this p0 p1) := by
  unfold f_X11_word
  have r_p0 := i32r p0
  have r_p1 := i32r p1
  refine wp_nn ((hzP229 this).1 hk_this) (fun a1 hn_a1 => ?_)
  have hk_a1 := ((hzP229 this).2 a1 hn_a1).1
  have hl1_a1 := ((hzP229 this).2 a1 hn_a1).2.1
  have hl2_a1 := ((hzP229 this).2 a1 hn_a1).2.2.1
  have hw_a1 := ((hzP229 this).2 a1 hn_a1).2.2.2
  refine wp_nn ((hzP0 a1).1 hk_a1) (fun a4 hn_a4 => ?_)
  obtain rfl : wd = a4 := (hzW0 _ _ hn_a4).symm
  have hk_wd := ((hzP0 a1).2 wd hn_a4).1
  have hl1_wd := ((hzP0 a1).2 wd hn_a4).2.1
  have hl2_wd := ((hzP0 a1).2 wd hn_a4).2.2.1
  have hw_wd := ((hzP0 a1).2 wd hn_a4).2.2.2
  obtain ⟨r9, hc9, hq9⟩ := fx_X10_letterAt κ wd G P U V X O kd ln cnt wd p0 p1 hzG200 hzG203 hzP201 hzP202 hzV1 hzRA hzRB hzRI hzLN hk_wd
  have f1 : (∀ l s, (P 201) wd = some l → (P 202) wd = some s → ((G 200) wd).toInt = 24 → WRD ((V 0) l) ((V 1) s) ((G 203) wd).toInt p0.toInt p1.toInt r9) := hq9
  refine wp_b1 hc9 ?_
  clear hc9
  have hwr := f1
  exact ⟨_, rfl, (show (∀ wl wz, (P 201) wd = some wl → (P 202) wd = some wz → ((G 200) wd).toInt = 24 → WRD ((V 0) wl) ((V 1) wz) ((G 203) wd).toInt p0.toInt p1.toInt r9) from by intro wl wz hwl hwz hw; exact hwr wl wz hwl hwz hw)⟩
