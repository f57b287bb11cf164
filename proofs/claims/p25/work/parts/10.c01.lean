abbrev QC_X10_isSmall (κ : Nat → Nat) (wd : Nat) (G : Nat → Nat → Int32) (P : Nat → Nat → Option Nat) (U : Nat → Nat → Int64) (V : Nat → Nat → Nat → Int32) (X : Nat → Nat → Nat → Int64) (O : Nat → Nat → Nat → Option Nat) (kd : Nat → Nat) (ln : Nat → Nat) (cnt : Nat) (p0 : Int32) : (Int32) → Prop := (fun t => ((0 ≤ t.toInt ∧ t.toInt ≤ 1)))
set_option maxHeartbeats 4000000 in
set_option maxRecDepth 100000 in
theorem ok_X10_isSmall (κ : Nat → Nat) (wd : Nat) (G : Nat → Nat → Int32) (P : Nat → Nat → Option Nat) (U : Nat → Nat → Int64) (V : Nat → Nat → Nat → Int32) (X : Nat → Nat → Nat → Int64) (O : Nat → Nat → Nat → Option Nat) (kd : Nat → Nat) (ln : Nat → Nat) (cnt : Nat) (p0 : Int32) (hzLN : LN κ ln) : wp (f_X10_isSmall G P U V X O kd ln cnt p0) (QC_X10_isSmall κ wd G P U V X O kd ln cnt p0) := by
  unfold f_X10_isSmall
  have zk0 : (0 : Int32).toInt = 0 := by decide +kernel
  have zk1 : (1 : Int32).toInt = 1 := by decide +kernel
  have zk97 : (97 : Int32).toInt = 97 := by decide +kernel
  have zk122 : (122 : Int32).toInt = 122 := by decide +kernel
  have r_p0 := i32r p0
  refine wp_jn (fun j17 => ∀ (t17_0 : Int32), (0 ≤ t17_0.toInt ∧ t17_0.toInt ≤ 1) → wp (j17 t17_0) (QC_X10_isSmall κ wd G P U V X O kd ln cnt p0)) ?_ ?_
  · intro t17_0 f1
    show wp _ _
    refine wp_if ⟨by omega, by omega⟩ ?_
    exact ⟨_, rfl, (show 0 ≤ t17_0.toInt ∧ t17_0.toInt ≤ 1 from ⟨by omega, by omega⟩)⟩
  intro j17 Jj17
  refine wp_jn (fun j16 => wp (j16 ()) (QC_X10_isSmall κ wd G P U V X O kd ln cnt p0)) ?_ ?_
  · show wp _ _
    exact Jj17 (0 : Int32) (show (0 ≤ (0 : Int32).toInt ∧ (0 : Int32).toInt ≤ 1) from by omega)
  intro j16 Jj16
  refine wp_ite (fun c3 => ?_) (fun c3 => ?_)
  · have c3 := (z_lt _ _).mp c3
    exact Jj16
  · have c3 := z_nlt c3
    refine wp_ite (fun c9 => ?_) (fun c9 => ?_)
    · have c9 := (z_lt _ _).mp c9
      exact Jj16
    · have c9 := z_nlt c9
      exact Jj17 (1 : Int32) (show (0 ≤ (1 : Int32).toInt ∧ (1 : Int32).toInt ≤ 1) from by omega)
abbrev QC_X10_isCapital (κ : Nat → Nat) (wd : Nat) (G : Nat → Nat → Int32) (P : Nat → Nat → Option Nat) (U : Nat → Nat → Int64) (V : Nat → Nat → Nat → Int32) (X : Nat → Nat → Nat → Int64) (O : Nat → Nat → Nat → Option Nat) (kd : Nat → Nat) (ln : Nat → Nat) (cnt : Nat) (p0 : Int32) : (Int32) → Prop := (fun t => ((0 ≤ t.toInt ∧ t.toInt ≤ 1)))
set_option maxHeartbeats 4000000 in
set_option maxRecDepth 100000 in
theorem ok_X10_isCapital (κ : Nat → Nat) (wd : Nat) (G : Nat → Nat → Int32) (P : Nat → Nat → Option Nat) (U : Nat → Nat → Int64) (V : Nat → Nat → Nat → Int32) (X : Nat → Nat → Nat → Int64) (O : Nat → Nat → Nat → Option Nat) (kd : Nat → Nat) (ln : Nat → Nat) (cnt : Nat) (p0 : Int32) (hzLN : LN κ ln) : wp (f_X10_isCapital G P U V X O kd ln cnt p0) (QC_X10_isCapital κ wd G P U V X O kd ln cnt p0) := by
  unfold f_X10_isCapital
  have zk0 : (0 : Int32).toInt = 0 := by decide +kernel
  have zk1 : (1 : Int32).toInt = 1 := by decide +kernel
  have zk65 : (65 : Int32).toInt = 65 := by decide +kernel
  have zk90 : (90 : Int32).toInt = 90 := by decide +kernel
  have r_p0 := i32r p0
  refine wp_jn (fun j17 => ∀ (t17_0 : Int32), (0 ≤ t17_0.toInt ∧ t17_0.toInt ≤ 1) → wp (j17 t17_0) (QC_X10_isCapital κ wd G P U V X O kd ln cnt p0)) ?_ ?_
  · intro t17_0 f1
    show wp _ _
    refine wp_if ⟨by omega, by omega⟩ ?_
    exact ⟨_, rfl, (show 0 ≤ t17_0.toInt ∧ t17_0.toInt ≤ 1 from ⟨by omega, by omega⟩)⟩
  intro j17 Jj17
  refine wp_jn (fun j16 => wp (j16 ()) (QC_X10_isCapital κ wd G P U V X O kd ln cnt p0)) ?_ ?_
  · show wp _ _
    exact Jj17 (0 : Int32) (show (0 ≤ (0 : Int32).toInt ∧ (0 : Int32).toInt ≤ 1) from by omega)
  intro j16 Jj16
  refine wp_ite (fun c3 => ?_) (fun c3 => ?_)
  · have c3 := (z_lt _ _).mp c3
    exact Jj16
  · have c3 := z_nlt c3
    refine wp_ite (fun c9 => ?_) (fun c9 => ?_)
    · have c9 := (z_lt _ _).mp c9
      exact Jj16
    · have c9 := z_nlt c9
      exact Jj17 (1 : Int32) (show (0 ≤ (1 : Int32).toInt ∧ (1 : Int32).toInt ≤ 1) from by omega)
abbrev QC_X10_isFull (κ : Nat → Nat) (wd : Nat) (G : Nat → Nat → Int32) (P : Nat → Nat → Option Nat) (U : Nat → Nat → Int64) (V : Nat → Nat → Nat → Int32) (X : Nat → Nat → Nat → Int64) (O : Nat → Nat → Nat → Option Nat) (kd : Nat → Nat) (ln : Nat → Nat) (cnt : Nat) (this : Nat) : (Int32) → Prop := (fun t => ((0 ≤ t.toInt ∧ t.toInt ≤ 1)) ∧ ((∀ s, (P 202) this = some s → t.toInt = 0 → ((G 203) this).toInt < ((ln s : Nat) : Int))))
set_option maxHeartbeats 4000000 in
set_option maxRecDepth 100000 in
theorem ok_X10_isFull (κ : Nat → Nat) (wd : Nat) (G : Nat → Nat → Int32) (P : Nat → Nat → Option Nat) (U : Nat → Nat → Int64) (V : Nat → Nat → Nat → Int32) (X : Nat → Nat → Nat → Int64) (O : Nat → Nat → Nat → Option Nat) (kd : Nat → Nat) (ln : Nat → Nat) (cnt : Nat) (this : Nat) (hzG200 : rng (0) 24 (G 200)) (hzG203 : rng (0) 100 (G 203)) (hzP201 : PB κ ln wd 11 100 0 2400 0 (P 201)) (hzP202 : PB κ ln wd 11 101 0 100 0 (P 202)) (hzV1 : rng2 (0) 24 (V 1)) (hzRA : RA κ ln (G 200) (P 201) (P 202)) (hzRB : RB κ ln (G 200) (G 203) (P 202) (V 1)) (hzRI : RI (P 202)) (hzLN : LN κ ln) (hk_this : κ this = 11) : wp (f_X10_isFull G P U V X O kd ln cnt this) (QC_X10_isFull κ wd G P U V X O kd ln cnt this) := by
  unfold f_X10_isFull
  have zk0 : (0 : Int32).toInt = 0 := by decide +kernel
  have zk1 : (1 : Int32).toInt = 1 := by decide +kernel
  have b1 := hzG203 this
  refine wp_nn ((hzP202 this).1 hk_this) (fun a5 hn_a5 => ?_)
  have hk_a5 := ((hzP202 this).2 a5 hn_a5).1
  have hl1_a5 := ((hzP202 this).2 a5 hn_a5).2.1
  have hl2_a5 := ((hzP202 this).2 a5 hn_a5).2.2.1
  have hw_a5 := ((hzP202 this).2 a5 hn_a5).2.2.2
  have hz_a5 : (Int32.ofNat (ln a5)).toInt = ((ln a5 : Nat) : Int) := ofN_eq (by first | exact Nat.le_trans hl2_a5 (by decide) | omega)
  have rb2 := (hzRB this a5 hk_this hn_a5).1
  have hzb_a5 := hzLN a5 (by rw [hk_a5]; decide)
  refine wp_jn (fun j17 => ∀ (t17_0 : Int32), (0 ≤ t17_0.toInt ∧ t17_0.toInt ≤ 1) → (t17_0.toInt = 0 → ((G 203) this).toInt < ((ln a5 : Nat) : Int)) → wp (j17 t17_0) (QC_X10_isFull κ wd G P U V X O kd ln cnt this)) ?_ ?_
  · intro t17_0 f3 f4
    show wp _ _
    refine wp_if ⟨by omega, by omega⟩ ?_
    exact ⟨_, rfl, ⟨(show 0 ≤ t17_0.toInt ∧ t17_0.toInt ≤ 1 from ⟨by omega, by omega⟩), (show (∀ s, (P 202) this = some s → t17_0.toInt = 0 → ((G 203) this).toInt < ((ln s : Nat) : Int)) from by intro s hs h0; obtain rfl : a5 = s := Option.some.inj (hn_a5.symm.trans hs); omega)⟩⟩
  intro j17 Jj17
  refine wp_ite (fun c9 => ?_) (fun c9 => ?_)
  · have c9 := (z_lt _ _).mp c9
    exact Jj17 (0 : Int32) (show (0 ≤ (0 : Int32).toInt ∧ (0 : Int32).toInt ≤ 1) from by omega) (show ((0 : Int32).toInt = 0 → ((G 203) this).toInt < ((ln a5 : Nat) : Int)) from by omega)
  · have c9 := z_nlt c9
    exact Jj17 (1 : Int32) (show (0 ≤ (1 : Int32).toInt ∧ (1 : Int32).toInt ≤ 1) from by omega) (show ((1 : Int32).toInt = 0 → ((G 203) this).toInt < ((ln a5 : Nat) : Int)) from by omega)
abbrev QC_X10_same (κ : Nat → Nat) (wd : Nat) (G : Nat → Nat → Int32) (P : Nat → Nat → Option Nat) (U : Nat → Nat → Int64) (V : Nat → Nat → Nat → Int32) (X : Nat → Nat → Nat → Int64) (O : Nat → Nat → Nat → Option Nat) (kd : Nat → Nat) (ln : Nat → Nat) (cnt : Nat) (p0 : Nat) (p1 : Int32) (p2 : Nat) (p3 : Int32) (p4 : Int32) : (Int32) → Prop := (fun t => ((0 ≤ t.toInt ∧ t.toInt ≤ 1)))
set_option maxHeartbeats 4000000 in
set_option maxRecDepth 100000 in
theorem ok_X10_same (κ : Nat → Nat) (wd : Nat) (G : Nat → Nat → Int32) (P : Nat → Nat → Option Nat) (U : Nat → Nat → Int64) (V : Nat → Nat → Nat → Int32) (X : Nat → Nat → Nat → Int64) (O : Nat → Nat → Nat → Option Nat) (kd : Nat → Nat) (ln : Nat → Nat) (cnt : Nat) (p0 : Nat) (p1 : Int32) (p2 : Nat) (p3 : Int32) (p4 : Int32) (hzLN : LN κ ln) (hk_p0 : κ p0 = 100) (hk_p2 : κ p2 = 100) : wp (f_X10_same G P U V X O kd ln cnt p0 p1 p2 p3 p4) (QC_X10_same κ wd G P U V X O kd ln cnt p0 p1 p2 p3 p4) := by
  unfold f_X10_same
  have zk0 : (0 : Int32).toInt = 0 := by decide +kernel
  have zk1 : (1 : Int32).toInt = 1 := by decide +kernel
  have r_p1 := i32r p1
  have r_p3 := i32r p3
  have r_p4 := i32r p4
  refine wp_jn (fun j26 => wp (j26 ()) (QC_X10_same κ wd G P U V X O kd ln cnt p0 p1 p2 p3 p4)) ?_ ?_
  · show wp _ _
    exact ⟨_, rfl, (show 0 ≤ (0 : Int32).toInt ∧ (0 : Int32).toInt ≤ 1 from ⟨by omega, by omega⟩)⟩
  intro j26 Jj26
  refine wp_ite (fun c1 => ?_) (fun c1 => ?_)
  · have c1 := (z_lt _ _).mp c1
    exact Jj26
  · have c1 := z_nlt c1
    refine wp_ite (fun c5 => ?_) (fun c5 => ?_)
    · have c5 := (z_lt _ _).mp c5
      exact Jj26
    · have c5 := z_nlt c5
      have hz_p0 : (Int32.ofNat (ln p0)).toInt = ((ln p0 : Nat) : Int) := ofN_eq (hzLN p0 (by rw [hk_p0]; decide))
      have hzb_p0 := hzLN p0 (by rw [hk_p0]; decide)
      have f1 : ((Int32.ofNat (ln p0)) - p1).toInt = (Int32.ofNat (ln p0)).toInt - p1.toInt := z_sub (by omega) (by omega)
      refine wp_ite (fun c14 => ?_) (fun c14 => ?_)
      · have c14 := (z_lt _ _).mp c14
        exact Jj26
      · have c14 := z_nlt c14
        have hz_p2 : (Int32.ofNat (ln p2)).toInt = ((ln p2 : Nat) : Int) := ofN_eq (hzLN p2 (by rw [hk_p2]; decide))
        have hzb_p2 := hzLN p2 (by rw [hk_p2]; decide)
        have f2 : ((Int32.ofNat (ln p2)) - p3).toInt = (Int32.ofNat (ln p2)).toInt - p3.toInt := z_sub (by omega) (by omega)
        refine wp_ite (fun c23 => ?_) (fun c23 => ?_)
        · have c23 := (z_le _ _).mp c23
          have lp31 : ∀ (n31 : Nat) (y31_5 : Int32), (p4.toInt - y31_5.toInt).toNat < n31 → 0 ≤ y31_5.toInt → wp (L_X10_same_31 V ln p0 p1 p2 p3 p4 n31 y31_5) (QC_X10_same κ wd G P U V X O kd ln cnt p0 p1 p2 p3 p4) := by
            intro n31
            induction n31 with
            | zero => intro y31_5 hm; exact absurd hm (Nat.not_lt_zero _)
            | succ n31 ih31 =>
              intro y31_5 hm31 f3
              show wp (B_X10_same_31 V ln p0 p1 p2 p3 p4 (L_X10_same_31 V ln p0 p1 p2 p3 p4 n31) y31_5) _
              unfold B_X10_same_31
              refine wp_ite (fun c35 => ?_) (fun c35 => ?_)
              · have c35 := (z_le _ _).mp c35
                exact ⟨_, rfl, (show 0 ≤ (1 : Int32).toInt ∧ (1 : Int32).toInt ≤ 1 from ⟨by omega, by omega⟩)⟩
              · have c35 := z_nle c35
                have f4 : (p1 + y31_5).toInt = p1.toInt + y31_5.toInt := z_add (by omega) (by omega)
                refine wp_if ⟨by omega, by omega⟩ ?_
                have f5 : (p3 + y31_5).toInt = p3.toInt + y31_5.toInt := z_add (by omega) (by omega)
                refine wp_if ⟨by omega, by omega⟩ ?_
                refine wp_ite (fun c50 => ?_) (fun c50 => ?_)
                · have c50 := congrArg Int32.toInt c50
                  have f6 : (y31_5 + 1).toInt = y31_5.toInt + (1) := z_addc (by decide +kernel) (by omega) (by omega)
                  exact ih31 (y31_5 + 1) (show (p4.toInt - (y31_5 + 1).toInt).toNat < n31 from by omega) (show 0 ≤ (y31_5 + 1).toInt from by omega)
                · have c50 := z_ne c50
                  exact ⟨_, rfl, (show 0 ≤ (0 : Int32).toInt ∧ (0 : Int32).toInt ≤ 1 from ⟨by omega, by omega⟩)⟩
          exact lp31 NN (0 : Int32) (by have := NN_eq; omega) (show 0 ≤ (0 : Int32).toInt from by omega)
        · have c23 := z_nle c23
          exact Jj26
abbrev QC_X10_add (κ : Nat → Nat) (wd : Nat) (G : Nat → Nat → Int32) (P : Nat → Nat → Option Nat) (U : Nat → Nat → Int64) (V : Nat → Nat → Nat → Int32) (X : Nat → Nat → Nat → Int64) (O : Nat → Nat → Nat → Option Nat) (kd : Nat → Nat) (ln : Nat → Nat) (cnt : Nat) (this : Nat) (p0 : Nat) (p1 : Int32) (p2 : Int32) : ((Nat → Int32) × (Nat → Nat → Int32) × (Nat → Nat → Int32)) → Prop := (fun t => (rng (0) 100 (t.1)) ∧ (rng2 (0) 24 (t.2.2)) ∧ (RB κ ln (G 200) (t.1) (P 202) (t.2.2)) ∧ ((this ≠ wd → (t.1) wd = (G 203) wd)) ∧ (((G 203) this).toInt ≤ ((t.1) this).toInt))
set_option maxHeartbeats 4000000 in
set_option maxRecDepth 100000 in
theorem ok_X10_add (κ : Nat → Nat) (wd : Nat) (G : Nat → Nat → Int32) (P : Nat → Nat → Option Nat) (U : Nat → Nat → Int64) (V : Nat → Nat → Nat → Int32) (X : Nat → Nat → Nat → Int64) (O : Nat → Nat → Nat → Option Nat) (kd : Nat → Nat) (ln : Nat → Nat) (cnt : Nat) (this : Nat) (p0 : Nat) (p1 : Int32) (p2 : Int32) (hzG200 : rng (0) 24 (G 200)) (hzG203 : rng (0) 100 (G 203)) (hzP201 : PB κ ln wd 11 100 0 2400 0 (P 201)) (hzP202 : PB κ ln wd 11 101 0 100 0 (P 202)) (hzV1 : rng2 (0) 24 (V 1)) (hzRA : RA κ ln (G 200) (P 201) (P 202)) (hzRB : RB κ ln (G 200) (G 203) (P 202) (V 1)) (hzRI : RI (P 202)) (hzLN : LN κ ln) (hk_this : κ this = 11) (hk_p0 : κ p0 = 100) : wp (f_X10_add G P U V X O kd ln cnt this p0 p1 p2) (QC_X10_add κ wd G P U V X O kd ln cnt this p0 p1 p2) := by
  unfold f_X10_add
  have zk0 : (0 : Int32).toInt = 0 := by decide +kernel
  have zk1 : (1 : Int32).toInt = 1 := by decide +kernel
  have r_p1 := i32r p1
  have r_p2 := i32r p2
  obtain ⟨u1, hn_u1⟩ := PBs (hzP201 this) hk_this
  have hk_u1 := ((hzP201 this).2 u1 hn_u1).1
  have hl1_u1 := ((hzP201 this).2 u1 hn_u1).2.1
  have hl2_u1 := ((hzP201 this).2 u1 hn_u1).2.2.1
  have hw_u1 := ((hzP201 this).2 u1 hn_u1).2.2.2
  have hz_u1 : (Int32.ofNat (ln u1)).toInt = ((ln u1 : Nat) : Int) := ofN_eq (by first | exact Nat.le_trans hl2_u1 (by decide) | omega)
  obtain ⟨u2, hn_u2⟩ := PBs (hzP202 this) hk_this
  have hk_u2 := ((hzP202 this).2 u2 hn_u2).1
  have hl1_u2 := ((hzP202 this).2 u2 hn_u2).2.1
  have hl2_u2 := ((hzP202 this).2 u2 hn_u2).2.2.1
  have hw_u2 := ((hzP202 this).2 u2 hn_u2).2.2.2
  have hz_u2 : (Int32.ofNat (ln u2)).toInt = ((ln u2 : Nat) : Int) := ofN_eq (by first | exact Nat.le_trans hl2_u2 (by decide) | omega)
  have rb3 := (hzRB this u2 hk_this hn_u2).1
  have ra4 := hzRA this u1 u2 hk_this hn_u1 hn_u2
  have bw5 := hzG200 this
  obtain ⟨r1, hc1, hq1⟩ := ok_X10_isFull κ wd G P U V X O kd ln cnt this hzG200 hzG203 hzP201 hzP202 hzV1 hzRA hzRB hzRI hzLN hk_this
  obtain ⟨f6, f7⟩ : ((0 ≤ r1.toInt ∧ r1.toInt ≤ 1)) ∧ ((∀ s, (P 202) this = some s → r1.toInt = 0 → ((G 203) this).toInt < ((ln s : Nat) : Int))) := hq1
  refine wp_b1 hc1 ?_
  clear hc1
  have hful := f7 _ hn_u2
  refine wp_jn (fun j31 => wp (j31 ()) (QC_X10_add κ wd G P U V X O kd ln cnt this p0 p1 p2)) ?_ ?_
  · show wp _ _
    exact ⟨_, rfl, ⟨hzG203, hzV1, hzRB, (show (this ≠ wd → (G 203) wd = (G 203) wd) from by first | exact (fun _ => rfl) | exact (fun h => by rw [em68]; exact va_up_ne _ _ (fun q => h q.symm))), (show ((G 203) this).toInt ≤ ((G 203) this).toInt from by omega)⟩⟩
  intro j31 Jj31
  refine wp_ite (fun c4 => ?_) (fun c4 => ?_)
  · have c4 := congrArg Int32.toInt c4
    refine wp_ite (fun c8 => ?_) (fun c8 => ?_)
    · have c8 := (z_lt _ _).mp c8
      exact Jj31
    · have c8 := z_nlt c8
      have b8 := hzG200 this
      refine wp_ite (fun c16 => ?_) (fun c16 => ?_)
      · have c16 := (z_lt _ _).mp c16
        exact Jj31
      · have c16 := z_nlt c16
        refine wp_ite (fun c20 => ?_) (fun c20 => ?_)
        · have c20 := (z_lt _ _).mp c20
          exact Jj31
        · have c20 := z_nlt c20
          have hz_p0 : (Int32.ofNat (ln p0)).toInt = ((ln p0 : Nat) : Int) := ofN_eq (hzLN p0 (by rw [hk_p0]; decide))
          have hzb_p0 := hzLN p0 (by rw [hk_p0]; decide)
          have f9 : ((Int32.ofNat (ln p0)) - p1).toInt = (Int32.ofNat (ln p0)).toInt - p1.toInt := z_sub (by omega) (by omega)
          refine wp_ite (fun c28 => ?_) (fun c28 => ?_)
          · have c28 := (z_le _ _).mp c28
            refine wp_nne hn_u1 ?_
            have b10 := hzG203 this
            have f15 := zmw (x := ((G 203) this)) (y := ((G 200) this)) (by omega) (by omega) (by omega) (by omega)
            have ix16 := rowix (x := ((G 203) this)) (hzRA this u1 u2 hk_this hn_u1 hn_u2) (hzG200 this).1
            refine wp_if ⟨by omega, by omega, by omega, by omega, by omega⟩ ?_
            refine wp_vl (fun m48 em48 => ?_)
            clear em48
            refine wp_nne hn_u2 ?_
            refine wp_if ⟨by omega, by omega⟩ ?_
            refine wp_vl (fun m60 em60 => ?_)
            have hv21 : rng2 (0) 24 m60 := by rw [em60]; exact rng2_up hzV1 (by omega) (by omega)
            have hRB22 : RB κ ln (G 200) (G 203) (P 202) m60 := by rw [em60]; exact RB_len hzRB hzRI hn_u2 (by omega)
            clear em60
            have f27 : (((G 203) this) + 1).toInt = ((G 203) this).toInt + 1 := z_addc (by decide +kernel) (by omega) (by omega)
            refine wp_vl (fun x68 ex68 => ?_)
            have f28 : x68.toInt = (((G 203) this) + 1).toInt := congrArg Int32.toInt ex68
            clear ex68
            refine wp_vl (fun m68 em68 => ?_)
            have hg29 : rng (0) 100 m68 := by rw [em68]; exact rng_vup hzG203 (by omega) (by omega)
            have sm68 : (m68 this).toInt = x68.toInt := by rw [em68, va_up_self]
            have b30 := hg29 this
            have hRB31 : RB κ ln (G 200) m68 (P 202) m60 := by rw [em68]; exact RB_cnt hRB22 (fun s hs => by obtain rfl : u2 = s := Option.some.inj (hn_u2.symm.trans hs); omega)
            exact ⟨_, rfl, ⟨hg29, hv21, hRB31, (show (this ≠ wd → m68 wd = (G 203) wd) from by first | exact (fun _ => rfl) | exact (fun h => by rw [em68]; exact va_up_ne _ _ (fun q => h q.symm))), (show ((G 203) this).toInt ≤ (m68 this).toInt from by omega)⟩⟩
          · have c28 := z_nle c28
            exact Jj31
  · have c4 := z_ne c4
    exact Jj31
abbrev QC_X10_find (κ : Nat → Nat) (wd : Nat) (G : Nat → Nat → Int32) (P : Nat → Nat → Option Nat) (U : Nat → Nat → Int64) (V : Nat → Nat → Nat → Int32) (X : Nat → Nat → Nat → Int64) (O : Nat → Nat → Nat → Option Nat) (kd : Nat → Nat) (ln : Nat → Nat) (cnt : Nat) (this : Nat) (p0 : Nat) (p1 : Int32) (p2 : Int32) : (Int32) → Prop := (fun t => (((-1) ≤ t.toInt ∧ t.toInt < 100)) ∧ ((t.toInt = -1 ∨ t.toInt < ((G 203) this).toInt)))
set_option maxHeartbeats 4000000 in
set_option maxRecDepth 100000 in
theorem ok_X10_find (κ : Nat → Nat) (wd : Nat) (G : Nat → Nat → Int32) (P : Nat → Nat → Option Nat) (U : Nat → Nat → Int64) (V : Nat → Nat → Nat → Int32) (X : Nat → Nat → Nat → Int64) (O : Nat → Nat → Nat → Option Nat) (kd : Nat → Nat) (ln : Nat → Nat) (cnt : Nat) (this : Nat) (p0 : Nat) (p1 : Int32) (p2 : Int32) (hzG200 : rng (0) 24 (G 200)) (hzG203 : rng (0) 100 (G 203)) (hzP201 : PB κ ln wd 11 100 0 2400 0 (P 201)) (hzP202 : PB κ ln wd 11 101 0 100 0 (P 202)) (hzV1 : rng2 (0) 24 (V 1)) (hzRA : RA κ ln (G 200) (P 201) (P 202)) (hzRB : RB κ ln (G 200) (G 203) (P 202) (V 1)) (hzRI : RI (P 202)) (hzLN : LN κ ln) (hk_this : κ this = 11) (hk_p0 : κ p0 = 100) : wp (f_X10_find G P U V X O kd ln cnt this p0 p1 p2) (QC_X10_find κ wd G P U V X O kd ln cnt this p0 p1 p2) := by
  unfold f_X10_find
  have zkm1 : (-1 : Int32).toInt = -1 := by decide +kernel
  have zk0 : (0 : Int32).toInt = 0 := by decide +kernel
  have r_p1 := i32r p1
  have r_p2 := i32r p2
  obtain ⟨u1, hn_u1⟩ := PBs (hzP201 this) hk_this
  have hk_u1 := ((hzP201 this).2 u1 hn_u1).1
  have hl1_u1 := ((hzP201 this).2 u1 hn_u1).2.1
  have hl2_u1 := ((hzP201 this).2 u1 hn_u1).2.2.1
  have hw_u1 := ((hzP201 this).2 u1 hn_u1).2.2.2
  have hz_u1 : (Int32.ofNat (ln u1)).toInt = ((ln u1 : Nat) : Int) := ofN_eq (by first | exact Nat.le_trans hl2_u1 (by decide) | omega)
  obtain ⟨u2, hn_u2⟩ := PBs (hzP202 this) hk_this
  have hk_u2 := ((hzP202 this).2 u2 hn_u2).1
  have hl1_u2 := ((hzP202 this).2 u2 hn_u2).2.1
  have hl2_u2 := ((hzP202 this).2 u2 hn_u2).2.2.1
  have hw_u2 := ((hzP202 this).2 u2 hn_u2).2.2.2
  have hz_u2 : (Int32.ofNat (ln u2)).toInt = ((ln u2 : Nat) : Int) := ofN_eq (by first | exact Nat.le_trans hl2_u2 (by decide) | omega)
  have rb3 := (hzRB this u2 hk_this hn_u2).1
  have ra4 := hzRA this u1 u2 hk_this hn_u1 hn_u2
  have bw5 := hzG200 this
  have lp3 : ∀ (n3 : Nat) (y3_4 : Int32), (100 - y3_4.toInt).toNat < n3 → (0 ≤ y3_4.toInt ∧ y3_4.toInt ≤ 100) → wp (L_X10_find_3 G P U V X O kd ln cnt this p0 p1 p2 n3 y3_4) (QC_X10_find κ wd G P U V X O kd ln cnt this p0 p1 p2) := by
    intro n3
    induction n3 with
    | zero => intro y3_4 hm; exact absurd hm (Nat.not_lt_zero _)
    | succ n3 ih3 =>
      intro y3_4 hm3 f6
      show wp (B_X10_find_3 G P U V X O kd ln cnt this p0 p1 p2 (L_X10_find_3 G P U V X O kd ln cnt this p0 p1 p2 n3) y3_4) _
      unfold B_X10_find_3
      have b7 := hzG203 this
      refine wp_ite (fun c9 => ?_) (fun c9 => ?_)
      · have c9 := (z_le _ _).mp c9
        exact ⟨_, rfl, ⟨(show ((-1) ≤ (-1 : Int32).toInt ∧ (-1 : Int32).toInt < 100) from by omega), (show ((-1 : Int32).toInt = -1 ∨ (-1 : Int32).toInt < ((G 203) this).toInt) from by omega)⟩⟩
      · have c9 := z_nle c9
        refine wp_nne hn_u2 ?_
        refine wp_if ⟨by omega, by omega⟩ ?_
        have b11 := hzV1 u2 (Int32.toNatClampNeg y3_4)
        have rl12 := (hzRB this u2 hk_this hn_u2).2 (Int32.toNatClampNeg y3_4)
        refine wp_jn (fun j46 => wp (j46 ()) (QC_X10_find κ wd G P U V X O kd ln cnt this p0 p1 p2)) ?_ ?_
        · show wp _ _
          have f13 : (y3_4 + 1).toInt = y3_4.toInt + (1) := z_addc (by decide +kernel) (by omega) (by omega)
          exact ih3 (y3_4 + 1) (show (100 - (y3_4 + 1).toInt).toNat < n3 from by omega) (show (0 ≤ (y3_4 + 1).toInt ∧ (y3_4 + 1).toInt ≤ 100) from by omega)
        intro j46 Jj46
        refine wp_ite (fun c20 => ?_) (fun c20 => ?_)
        · have c20 := congrArg Int32.toInt c20
          refine wp_nne hn_u1 ?_
          have b14 := hzG200 this
          have f15 := zmw (x := y3_4) (y := ((G 200) this)) (by omega) (by omega) (by omega) (by omega)
          have ix16 := rowix (x := y3_4) (hzRA this u1 u2 hk_this hn_u1 hn_u2) (hzG200 this).1
          obtain ⟨r37, hc37, hq37⟩ := ok_X10_same κ wd G P U V X O kd ln cnt u1 (y3_4 * ((G 200) this)) p0 p1 p2 hzLN hk_u1 hk_p0
          have f17 : (0 ≤ r37.toInt ∧ r37.toInt ≤ 1) := hq37
          refine wp_b1 hc37 ?_
          clear hc37
          refine wp_ite (fun c40 => ?_) (fun c40 => ?_)
          · have c40 := congrArg Int32.toInt c40
            exact Jj46
          · have c40 := z_ne c40
            exact ⟨_, rfl, ⟨(show ((-1) ≤ y3_4.toInt ∧ y3_4.toInt < 100) from by omega), (show (y3_4.toInt = -1 ∨ y3_4.toInt < ((G 203) this).toInt) from by omega)⟩⟩
        · have c20 := z_ne c20
          exact Jj46
  exact lp3 NN (0 : Int32) (by have := NN_eq; omega) (show (0 ≤ (0 : Int32).toInt ∧ (0 : Int32).toInt ≤ 100) from by omega)
abbrev QC_X10_addForm (κ : Nat → Nat) (wd : Nat) (G : Nat → Nat → Int32) (P : Nat → Nat → Option Nat) (U : Nat → Nat → Int64) (V : Nat → Nat → Nat → Int32) (X : Nat → Nat → Nat → Int64) (O : Nat → Nat → Nat → Option Nat) (kd : Nat → Nat) (ln : Nat → Nat) (cnt : Nat) (this : Nat) (p0 : Nat) (p1 : Int32) (p2 : Int32) : ((Nat → Int32) × (Nat → Nat → Int32) × (Nat → Nat → Int32)) → Prop := (fun t => (rng (0) 100 (t.1)) ∧ (rng2 (0) 24 (t.2.2)) ∧ (RB κ ln (G 200) (t.1) (P 202) (t.2.2)) ∧ ((this ≠ wd → (t.1) wd = (G 203) wd)) ∧ (((G 203) this).toInt ≤ ((t.1) this).toInt))
set_option maxHeartbeats 4000000 in
set_option maxRecDepth 100000 in
theorem ok_X10_addForm (κ : Nat → Nat) (wd : Nat) (G : Nat → Nat → Int32) (P : Nat → Nat → Option Nat) (U : Nat → Nat → Int64) (V : Nat → Nat → Nat → Int32) (X : Nat → Nat → Nat → Int64) (O : Nat → Nat → Nat → Option Nat) (kd : Nat → Nat) (ln : Nat → Nat) (cnt : Nat) (this : Nat) (p0 : Nat) (p1 : Int32) (p2 : Int32) (hzG200 : rng (0) 24 (G 200)) (hzG203 : rng (0) 100 (G 203)) (hzP201 : PB κ ln wd 11 100 0 2400 0 (P 201)) (hzP202 : PB κ ln wd 11 101 0 100 0 (P 202)) (hzV1 : rng2 (0) 24 (V 1)) (hzRA : RA κ ln (G 200) (P 201) (P 202)) (hzRB : RB κ ln (G 200) (G 203) (P 202) (V 1)) (hzRI : RI (P 202)) (hzLN : LN κ ln) (hk_this : κ this = 11) (hk_p0 : κ p0 = 100) : wp (f_X10_addForm G P U V X O kd ln cnt this p0 p1 p2) (QC_X10_addForm κ wd G P U V X O kd ln cnt this p0 p1 p2) := by
  unfold f_X10_addForm
  have zkm1 : (-1 : Int32).toInt = -1 := by decide +kernel
  have zk0 : (0 : Int32).toInt = 0 := by decide +kernel
  have r_p1 := i32r p1
  have r_p2 := i32r p2
  refine wp_jn (fun j22 => ∀ (c22_G203 : Nat → Int32) (c22_V0 : Nat → Nat → Int32) (c22_V1 : Nat → Nat → Int32), rng (0) 100 c22_G203 → rng2 (0) 24 c22_V1 → RB κ ln (G 200) c22_G203 (P 202) c22_V1 → (this ≠ wd → c22_G203 wd = (G 203) wd) → ((G 203) this).toInt ≤ (c22_G203 this).toInt → wp (j22 c22_G203 c22_V0 c22_V1) (QC_X10_addForm κ wd G P U V X O kd ln cnt this p0 p1 p2)) ?_ ?_
  · intro c22_G203 c22_V0 c22_V1 hg1 hg2 hRB3 f4 f5
    show wp _ _
    exact ⟨_, rfl, ⟨hg1, hg2, hRB3, (show (this ≠ wd → c22_G203 wd = (G 203) wd) from by assumption), (show ((G 203) this).toInt ≤ (c22_G203 this).toInt from by omega)⟩⟩
  intro j22 Jj22
  refine wp_ite (fun c1 => ?_) (fun c1 => ?_)
  · have c1 := (z_le _ _).mp c1
    exact Jj22 (G 203) (V 0) (V 1) hzG203 hzV1 hzRB (show (this ≠ wd → (G 203) wd = (G 203) wd) from by first | omega | assumption | exact (fun _ => rfl) | exact frt (by assumption) (by assumption)) (show ((G 203) this).toInt ≤ ((G 203) this).toInt from by first | omega | assumption | exact (fun _ => rfl) | exact frt (by assumption) (by assumption))
  · have c1 := z_nle c1
    obtain ⟨r8, hc8, hq8⟩ := ok_X10_find κ wd G P U V X O kd ln cnt this p0 p1 p2 hzG200 hzG203 hzP201 hzP202 hzV1 hzRA hzRB hzRI hzLN hk_this hk_p0
    obtain ⟨f6, f7⟩ : (((-1) ≤ r8.toInt ∧ r8.toInt < 100)) ∧ ((r8.toInt = -1 ∨ r8.toInt < ((G 203) this).toInt)) := hq8
    refine wp_b1 hc8 ?_
    clear hc8
    refine wp_ite (fun c12 => ?_) (fun c12 => ?_)
    · have c12 := congrArg Int32.toInt c12
      obtain ⟨⟨c19_G203, c19_V0, c19_V1⟩, hc19, hq19⟩ := ok_X10_add κ wd G P U V X O kd ln cnt this p0 p1 p2 hzG200 hzG203 hzP201 hzP202 hzV1 hzRA hzRB hzRI hzLN hk_this hk_p0
      obtain ⟨hg8, hg9, hRB10, f11, f12⟩ : (rng (0) 100 c19_G203) ∧ (rng2 (0) 24 c19_V1) ∧ (RB κ ln (G 200) c19_G203 (P 202) c19_V1) ∧ ((this ≠ wd → c19_G203 wd = (G 203) wd)) ∧ (((G 203) this).toInt ≤ (c19_G203 this).toInt) := hq19
      refine wp_b3 hc19 ?_
      clear hc19
      exact Jj22 c19_G203 c19_V0 c19_V1 hg8 hg9 hRB10 (show (this ≠ wd → c19_G203 wd = (G 203) wd) from by first | omega | assumption | exact (fun _ => rfl) | exact frt (by assumption) (by assumption)) (show ((G 203) this).toInt ≤ (c19_G203 this).toInt from by first | omega | assumption | exact (fun _ => rfl) | exact frt (by assumption) (by assumption))
    · have c12 := z_ne c12
      exact Jj22 (G 203) (V 0) (V 1) hzG203 hzV1 hzRB (show (this ≠ wd → (G 203) wd = (G 203) wd) from by first | omega | assumption | exact (fun _ => rfl) | exact frt (by assumption) (by assumption)) (show ((G 203) this).toInt ≤ ((G 203) this).toInt from by first | omega | assumption | exact (fun _ => rfl) | exact frt (by assumption) (by assumption))
abbrev QC_X10_copy (κ : Nat → Nat) (wd : Nat) (G : Nat → Nat → Int32) (P : Nat → Nat → Option Nat) (U : Nat → Nat → Int64) (V : Nat → Nat → Nat → Int32) (X : Nat → Nat → Nat → Int64) (O : Nat → Nat → Nat → Option Nat) (kd : Nat → Nat) (ln : Nat → Nat) (cnt : Nat) (this : Nat) (p0 : Nat) : ((Nat → Int32) × (Nat → Nat → Int32) × (Nat → Nat → Int32)) → Prop := (fun t => (rng (0) 100 (t.1)) ∧ (rng2 (0) 24 (t.2.2)) ∧ (RB κ ln (G 200) (t.1) (P 202) (t.2.2)) ∧ ((this ≠ wd → (t.1) wd = (G 203) wd)))
set_option maxHeartbeats 4000000 in
set_option maxRecDepth 100000 in
theorem ok_X10_copy (κ : Nat → Nat) (wd : Nat) (G : Nat → Nat → Int32) (P : Nat → Nat → Option Nat) (U : Nat → Nat → Int64) (V : Nat → Nat → Nat → Int32) (X : Nat → Nat → Nat → Int64) (O : Nat → Nat → Nat → Option Nat) (kd : Nat → Nat) (ln : Nat → Nat) (cnt : Nat) (this : Nat) (p0 : Nat) (hzG200 : rng (0) 24 (G 200)) (hzG203 : rng (0) 100 (G 203)) (hzP201 : PB κ ln wd 11 100 0 2400 0 (P 201)) (hzP202 : PB κ ln wd 11 101 0 100 0 (P 202)) (hzV1 : rng2 (0) 24 (V 1)) (hzRA : RA κ ln (G 200) (P 201) (P 202)) (hzRB : RB κ ln (G 200) (G 203) (P 202) (V 1)) (hzRI : RI (P 202)) (hzLN : LN κ ln) (hk_this : κ this = 11) (hk_p0 : κ p0 = 11) : wp (f_X10_copy G P U V X O kd ln cnt this p0) (QC_X10_copy κ wd G P U V X O kd ln cnt this p0) := by
  unfold f_X10_copy
  have zk0 : (0 : Int32).toInt = 0 := by decide +kernel
  refine wp_vl (fun m2 em2 => ?_)
  have hg1 : rng (0) 100 m2 := by rw [em2]; exact rng_vup hzG203 (by omega) (by omega)
  have sm2 : (m2 this).toInt = 0 := by rw [em2, va_up_self]; decide +kernel
  have b2 := hg1 this
  have hRB3 : RB κ ln (G 200) m2 (P 202) (V 1) := by rw [em2]; exact RB_cnt hzRB (fun s hs => by omega)
  have lp7 : ∀ (n7 : Nat) (y7_2 : Int32) (d7_G203 : Nat → Int32) (d7_V0 : Nat → Nat → Int32) (d7_V1 : Nat → Nat → Int32), (100 - y7_2.toInt).toNat < n7 → rng (0) 100 d7_G203 → rng2 (0) 24 d7_V1 → RB κ ln (G 200) d7_G203 (P 202) d7_V1 → (0 ≤ y7_2.toInt ∧ y7_2.toInt ≤ 100) → (this ≠ wd → d7_G203 wd = (G 203) wd) → wp (L_X10_copy_7 G P U V X O kd ln cnt this p0 n7 y7_2 d7_G203 d7_V0 d7_V1) (QC_X10_copy κ wd G P U V X O kd ln cnt this p0) := by
    intro n7
    induction n7 with
    | zero => intro y7_2 d7_G203 d7_V0 d7_V1 hm; exact absurd hm (Nat.not_lt_zero _)
    | succ n7 ih7 =>
      intro y7_2 d7_G203 d7_V0 d7_V1 hm7 hg4 hg5 hRB6 f7 f8
      show wp (B_X10_copy_7 G P U V X O kd ln cnt this p0 (L_X10_copy_7 G P U V X O kd ln cnt this p0 n7) y7_2 d7_G203 d7_V0 d7_V1) _
      unfold B_X10_copy_7
      have b9 := hg4 p0
      refine wp_ite (fun c12 => ?_) (fun c12 => ?_)
      · have c12 := (z_le _ _).mp c12
        exact ⟨_, rfl, ⟨hg4, hg5, hRB6, (show (this ≠ wd → d7_G203 wd = (G 203) wd) from by assumption)⟩⟩
      · have c12 := z_nle c12
        refine wp_nn ((hzP201 p0).1 hk_p0) (fun a17 hn_a17 => ?_)
        have hk_a17 := ((hzP201 p0).2 a17 hn_a17).1
        have hl1_a17 := ((hzP201 p0).2 a17 hn_a17).2.1
        have hl2_a17 := ((hzP201 p0).2 a17 hn_a17).2.2.1
        have hw_a17 := ((hzP201 p0).2 a17 hn_a17).2.2.2
        have hz_a17 : (Int32.ofNat (ln a17)).toInt = ((ln a17 : Nat) : Int) := ofN_eq (by first | exact Nat.le_trans hl2_a17 (by decide) | omega)
        have b10 := hzG200 p0
        have f11 := zmw (x := y7_2) (y := ((G 200) p0)) (by omega) (by omega) (by omega) (by omega)
        refine wp_nn ((hzP202 p0).1 hk_p0) (fun a27 hn_a27 => ?_)
        have hk_a27 := ((hzP202 p0).2 a27 hn_a27).1
        have hl1_a27 := ((hzP202 p0).2 a27 hn_a27).2.1
        have hl2_a27 := ((hzP202 p0).2 a27 hn_a27).2.2.1
        have hw_a27 := ((hzP202 p0).2 a27 hn_a27).2.2.2
        have hz_a27 : (Int32.ofNat (ln a27)).toInt = ((ln a27 : Nat) : Int) := ofN_eq (by first | exact Nat.le_trans hl2_a27 (by decide) | omega)
        have rb12 := (hRB6 p0 a27 hk_p0 hn_a27).1
        have ra13 := hzRA p0 a17 a27 hk_p0 hn_a17 hn_a27
        have bw14 := hzG200 p0
        refine wp_if ⟨by omega, by omega⟩ ?_
        have b15 := hg5 a27 (Int32.toNatClampNeg y7_2)
        have rl16 := (hRB6 p0 a27 hk_p0 hn_a27).2 (Int32.toNatClampNeg y7_2)
        obtain ⟨⟨c32_G203, c32_V0, c32_V1⟩, hc32, hq32⟩ := ok_X10_add κ wd (va_up G 203 d7_G203) P U (va_up (va_up V 0 d7_V0) 1 d7_V1) X O kd ln cnt this a17 (y7_2 * ((G 200) p0)) ((d7_V1 a27) (Int32.toNatClampNeg y7_2)) hzG200 hg4 hzP201 hzP202 hg5 hzRA hRB6 hzRI hzLN hk_this hk_a17
        obtain ⟨hg17, hg18, hRB19, f20, f21⟩ : (rng (0) 100 c32_G203) ∧ (rng2 (0) 24 c32_V1) ∧ (RB κ ln (G 200) c32_G203 (P 202) c32_V1) ∧ ((this ≠ wd → c32_G203 wd = d7_G203 wd)) ∧ ((d7_G203 this).toInt ≤ (c32_G203 this).toInt) := hq32
        refine wp_b3 hc32 ?_
        clear hc32
        have f22 : (y7_2 + 1).toInt = y7_2.toInt + (1) := z_addc (by decide +kernel) (by omega) (by omega)
        exact ih7 (y7_2 + 1) c32_G203 c32_V0 c32_V1 (show (100 - (y7_2 + 1).toInt).toNat < n7 from by omega) hg17 hg18 hRB19 (show (0 ≤ (y7_2 + 1).toInt ∧ (y7_2 + 1).toInt ≤ 100) from by first | omega | assumption | exact (fun _ => rfl) | exact frt (by assumption) (by assumption)) (show (this ≠ wd → c32_G203 wd = (G 203) wd) from by first | omega | assumption | exact (fun _ => rfl) | exact frt (by assumption) (by assumption))
  exact lp7 NN (0 : Int32) m2 (V 0) (V 1) (by have := NN_eq; omega) hg1 hzV1 hRB3 (show (0 ≤ (0 : Int32).toInt ∧ (0 : Int32).toInt ≤ 100) from by first | omega | exact (fun h => by rw [em2]; exact va_up_ne _ _ (fun q => h q.symm))) (show (this ≠ wd → m2 wd = (G 203) wd) from by first | omega | exact (fun h => by rw [em2]; exact va_up_ne _ _ (fun q => h q.symm)))
abbrev QC_X10_standsIn (κ : Nat → Nat) (wd : Nat) (G : Nat → Nat → Int32) (P : Nat → Nat → Option Nat) (U : Nat → Nat → Int64) (V : Nat → Nat → Nat → Int32) (X : Nat → Nat → Nat → Int64) (O : Nat → Nat → Nat → Option Nat) (kd : Nat → Nat) (ln : Nat → Nat) (cnt : Nat) (this : Nat) (p0 : Int32) (p1 : Nat) (p2 : Int32) : (Int32) → Prop := (fun t => ((0 ≤ t.toInt ∧ t.toInt ≤ 1)))
set_option maxHeartbeats 4000000 in
set_option maxRecDepth 100000 in
theorem ok_X10_standsIn (κ : Nat → Nat) (wd : Nat) (G : Nat → Nat → Int32) (P : Nat → Nat → Option Nat) (U : Nat → Nat → Int64) (V : Nat → Nat → Nat → Int32) (X : Nat → Nat → Nat → Int64) (O : Nat → Nat → Nat → Option Nat) (kd : Nat → Nat) (ln : Nat → Nat) (cnt : Nat) (this : Nat) (p0 : Int32) (p1 : Nat) (p2 : Int32) (hzG200 : rng (0) 24 (G 200)) (hzG203 : rng (0) 100 (G 203)) (hzP201 : PB κ ln wd 11 100 0 2400 0 (P 201)) (hzP202 : PB κ ln wd 11 101 0 100 0 (P 202)) (hzV1 : rng2 (0) 24 (V 1)) (hzRA : RA κ ln (G 200) (P 201) (P 202)) (hzRB : RB κ ln (G 200) (G 203) (P 202) (V 1)) (hzRI : RI (P 202)) (hzLN : LN κ ln) (hk_this : κ this = 11) (hk_p1 : κ p1 = 100) (hp0 : (0 ≤ p0.toInt ∧ p0.toInt < ((G 203) this).toInt)) : wp (f_X10_standsIn G P U V X O kd ln cnt this p0 p1 p2) (QC_X10_standsIn κ wd G P U V X O kd ln cnt this p0 p1 p2) := by
  unfold f_X10_standsIn
  have r_p0 := i32r p0
  have r_p2 := i32r p2
  obtain ⟨u1, hn_u1⟩ := PBs (hzP201 this) hk_this
  have hk_u1 := ((hzP201 this).2 u1 hn_u1).1
  have hl1_u1 := ((hzP201 this).2 u1 hn_u1).2.1
  have hl2_u1 := ((hzP201 this).2 u1 hn_u1).2.2.1
  have hw_u1 := ((hzP201 this).2 u1 hn_u1).2.2.2
  have hz_u1 : (Int32.ofNat (ln u1)).toInt = ((ln u1 : Nat) : Int) := ofN_eq (by first | exact Nat.le_trans hl2_u1 (by decide) | omega)
  obtain ⟨u2, hn_u2⟩ := PBs (hzP202 this) hk_this
  have hk_u2 := ((hzP202 this).2 u2 hn_u2).1
  have hl1_u2 := ((hzP202 this).2 u2 hn_u2).2.1
  have hl2_u2 := ((hzP202 this).2 u2 hn_u2).2.2.1
  have hw_u2 := ((hzP202 this).2 u2 hn_u2).2.2.2
  have hz_u2 : (Int32.ofNat (ln u2)).toInt = ((ln u2 : Nat) : Int) := ofN_eq (by first | exact Nat.le_trans hl2_u2 (by decide) | omega)
  have rb3 := (hzRB this u2 hk_this hn_u2).1
  have ra4 := hzRA this u1 u2 hk_this hn_u1 hn_u2
  have bw5 := hzG200 this
  have hb0 := hzG203 this
  refine wp_nne hn_u1 ?_
  have b6 := hzG200 this
  have f7 := zmw (x := p0) (y := ((G 200) this)) (by omega) (by omega) (by omega) (by omega)
  have ix8 := rowix (x := p0) (hzRA this u1 u2 hk_this hn_u1 hn_u2) (hzG200 this).1
  refine wp_nne hn_u2 ?_
  refine wp_if ⟨by omega, by omega⟩ ?_
  have b9 := hzV1 u2 (Int32.toNatClampNeg p0)
  have rl10 := (hzRB this u2 hk_this hn_u2).2 (Int32.toNatClampNeg p0)
  obtain ⟨r18, hc18, hq18⟩ := ok_X10_same κ wd G P U V X O kd ln cnt u1 (p0 * ((G 200) this)) p1 p2 (((V 1) u2) (Int32.toNatClampNeg p0)) hzLN hk_u1 hk_p1
  have f11 : (0 ≤ r18.toInt ∧ r18.toInt ≤ 1) := hq18
  refine wp_b1 hc18 ?_
  clear hc18
  refine wp_if ⟨by omega, by omega⟩ ?_
  exact ⟨_, rfl, (show 0 ≤ r18.toInt ∧ r18.toInt ≤ 1 from ⟨by omega, by omega⟩)⟩
abbrev QC_X10_endsAlike (κ : Nat → Nat) (wd : Nat) (G : Nat → Nat → Int32) (P : Nat → Nat → Option Nat) (U : Nat → Nat → Int64) (V : Nat → Nat → Nat → Int32) (X : Nat → Nat → Nat → Int64) (O : Nat → Nat → Nat → Option Nat) (kd : Nat → Nat) (ln : Nat → Nat) (cnt : Nat) (this : Nat) (p0 : Int32) (p1 : Nat) (p2 : Int32) : (Int32) → Prop := (fun t => ((0 ≤ t.toInt ∧ t.toInt ≤ 1)))
set_option maxHeartbeats 4000000 in
set_option maxRecDepth 100000 in
theorem ok_X10_endsAlike (κ : Nat → Nat) (wd : Nat) (G : Nat → Nat → Int32) (P : Nat → Nat → Option Nat) (U : Nat → Nat → Int64) (V : Nat → Nat → Nat → Int32) (X : Nat → Nat → Nat → Int64) (O : Nat → Nat → Nat → Option Nat) (kd : Nat → Nat) (ln : Nat → Nat) (cnt : Nat) (this : Nat) (p0 : Int32) (p1 : Nat) (p2 : Int32) (hzG200 : rng (0) 24 (G 200)) (hzG203 : rng (0) 100 (G 203)) (hzP201 : PB κ ln wd 11 100 0 2400 0 (P 201)) (hzP202 : PB κ ln wd 11 101 0 100 0 (P 202)) (hzV1 : rng2 (0) 24 (V 1)) (hzRA : RA κ ln (G 200) (P 201) (P 202)) (hzRB : RB κ ln (G 200) (G 203) (P 202) (V 1)) (hzRI : RI (P 202)) (hzLN : LN κ ln) (hk_this : κ this = 11) (hk_p1 : κ p1 = 11) (hp0 : (0 ≤ p0.toInt ∧ p0.toInt < ((G 203) this).toInt)) (hp1 : (0 ≤ p2.toInt ∧ p2.toInt < ((G 203) p1).toInt)) : wp (f_X10_endsAlike G P U V X O kd ln cnt this p0 p1 p2) (QC_X10_endsAlike κ wd G P U V X O kd ln cnt this p0 p1 p2) := by
  unfold f_X10_endsAlike
  have zk0 : (0 : Int32).toInt = 0 := by decide +kernel
  have zk3 : (3 : Int32).toInt = 3 := by decide +kernel
  have r_p0 := i32r p0
  have r_p2 := i32r p2
  obtain ⟨u1, hn_u1⟩ := PBs (hzP201 this) hk_this
  have hk_u1 := ((hzP201 this).2 u1 hn_u1).1
  have hl1_u1 := ((hzP201 this).2 u1 hn_u1).2.1
  have hl2_u1 := ((hzP201 this).2 u1 hn_u1).2.2.1
  have hw_u1 := ((hzP201 this).2 u1 hn_u1).2.2.2
  have hz_u1 : (Int32.ofNat (ln u1)).toInt = ((ln u1 : Nat) : Int) := ofN_eq (by first | exact Nat.le_trans hl2_u1 (by decide) | omega)
  obtain ⟨u2, hn_u2⟩ := PBs (hzP202 this) hk_this
  have hk_u2 := ((hzP202 this).2 u2 hn_u2).1
  have hl1_u2 := ((hzP202 this).2 u2 hn_u2).2.1
  have hl2_u2 := ((hzP202 this).2 u2 hn_u2).2.2.1
  have hw_u2 := ((hzP202 this).2 u2 hn_u2).2.2.2
  have hz_u2 : (Int32.ofNat (ln u2)).toInt = ((ln u2 : Nat) : Int) := ofN_eq (by first | exact Nat.le_trans hl2_u2 (by decide) | omega)
  have rb3 := (hzRB this u2 hk_this hn_u2).1
  have ra4 := hzRA this u1 u2 hk_this hn_u1 hn_u2
  have bw5 := hzG200 this
  obtain ⟨u6, hn_u6⟩ := PBs (hzP201 p1) hk_p1
  have hk_u6 := ((hzP201 p1).2 u6 hn_u6).1
  have hl1_u6 := ((hzP201 p1).2 u6 hn_u6).2.1
  have hl2_u6 := ((hzP201 p1).2 u6 hn_u6).2.2.1
  have hw_u6 := ((hzP201 p1).2 u6 hn_u6).2.2.2
  have hz_u6 : (Int32.ofNat (ln u6)).toInt = ((ln u6 : Nat) : Int) := ofN_eq (by first | exact Nat.le_trans hl2_u6 (by decide) | omega)
  obtain ⟨u7, hn_u7⟩ := PBs (hzP202 p1) hk_p1
  have hk_u7 := ((hzP202 p1).2 u7 hn_u7).1
  have hl1_u7 := ((hzP202 p1).2 u7 hn_u7).2.1
  have hl2_u7 := ((hzP202 p1).2 u7 hn_u7).2.2.1
  have hw_u7 := ((hzP202 p1).2 u7 hn_u7).2.2.2
  have hz_u7 : (Int32.ofNat (ln u7)).toInt = ((ln u7 : Nat) : Int) := ofN_eq (by first | exact Nat.le_trans hl2_u7 (by decide) | omega)
  have rb8 := (hzRB p1 u7 hk_p1 hn_u7).1
  have ra9 := hzRA p1 u6 u7 hk_p1 hn_u6 hn_u7
  have bw10 := hzG200 p1
  have hb0 := hzG203 this
  have hb1 := hzG203 p1
  refine wp_nne hn_u2 ?_
  refine wp_if ⟨by omega, by omega⟩ ?_
  have b11 := hzV1 u2 (Int32.toNatClampNeg p0)
  have rl12 := (hzRB this u2 hk_this hn_u2).2 (Int32.toNatClampNeg p0)
  refine wp_vl (fun x6 ex6 => ?_)
  have f13 : x6.toInt = (((V 1) u2) (Int32.toNatClampNeg p0)).toInt := congrArg Int32.toInt ex6
  clear ex6
  refine wp_nne hn_u7 ?_
  refine wp_if ⟨by omega, by omega⟩ ?_
  have b14 := hzV1 u7 (Int32.toNatClampNeg p2)
  have rl15 := (hzRB p1 u7 hk_p1 hn_u7).2 (Int32.toNatClampNeg p2)
  refine wp_vl (fun x14 ex14 => ?_)
  have f16 : x14.toInt = (((V 1) u7) (Int32.toNatClampNeg p2)).toInt := congrArg Int32.toInt ex14
  clear ex14
  refine wp_jn (fun j28 => wp (j28 ()) (QC_X10_endsAlike κ wd G P U V X O kd ln cnt this p0 p1 p2)) ?_ ?_
  · show wp _ _
    exact ⟨_, rfl, (show 0 ≤ (0 : Int32).toInt ∧ (0 : Int32).toInt ≤ 1 from ⟨by omega, by omega⟩)⟩
  intro j28 Jj28
  refine wp_ite (fun c19 => ?_) (fun c19 => ?_)
  · have c19 := (z_lt _ _).mp c19
    exact Jj28
  · have c19 := z_nlt c19
    refine wp_ite (fun c25 => ?_) (fun c25 => ?_)
    · have c25 := (z_le _ _).mp c25
      refine wp_nne hn_u1 ?_
      have b17 := hzG200 this
      have f18 := zmw (x := p0) (y := ((G 200) this)) (by omega) (by omega) (by omega) (by omega)
      have ix19 := rowix (x := p0) (hzRA this u1 u2 hk_this hn_u1 hn_u2) (hzG200 this).1
      have f20 : ((p0 * ((G 200) this)) + x6).toInt = (p0 * ((G 200) this)).toInt + x6.toInt := z_add (by omega) (by omega)
      have f21 : (((p0 * ((G 200) this)) + x6) - 3).toInt = ((p0 * ((G 200) this)) + x6).toInt - 3 := z_subc (by decide +kernel) (by omega) (by omega)
      refine wp_nne hn_u6 ?_
      have b22 := hzG200 p1
      have f23 := zmw (x := p2) (y := ((G 200) p1)) (by omega) (by omega) (by omega) (by omega)
      have ix24 := rowix (x := p2) (hzRA p1 u6 u7 hk_p1 hn_u6 hn_u7) (hzG200 p1).1
      have f25 : ((p2 * ((G 200) p1)) + x14).toInt = (p2 * ((G 200) p1)).toInt + x14.toInt := z_add (by omega) (by omega)
      have f26 : (((p2 * ((G 200) p1)) + x14) - 3).toInt = ((p2 * ((G 200) p1)) + x14).toInt - 3 := z_subc (by decide +kernel) (by omega) (by omega)
      obtain ⟨r61, hc61, hq61⟩ := ok_X10_same κ wd G P U V X O kd ln cnt u1 (((p0 * ((G 200) this)) + x6) - 3) u6 (((p2 * ((G 200) p1)) + x14) - 3) (3 : Int32) hzLN hk_u1 hk_u6
      have f27 : (0 ≤ r61.toInt ∧ r61.toInt ≤ 1) := hq61
      refine wp_b1 hc61 ?_
      clear hc61
      refine wp_if ⟨by omega, by omega⟩ ?_
      exact ⟨_, rfl, (show 0 ≤ r61.toInt ∧ r61.toInt ≤ 1 from ⟨by omega, by omega⟩)⟩
    · have c25 := z_nle c25
      exact Jj28
abbrev QC_X10_letterAt (κ : Nat → Nat) (wd : Nat) (G : Nat → Nat → Int32) (P : Nat → Nat → Option Nat) (U : Nat → Nat → Int64) (V : Nat → Nat → Nat → Int32) (X : Nat → Nat → Nat → Int64) (O : Nat → Nat → Nat → Option Nat) (kd : Nat → Nat) (ln : Nat → Nat) (cnt : Nat) (this : Nat) (p0 : Int32) (p1 : Int32) : (Int32) → Prop := (fun t => True)
set_option maxHeartbeats 4000000 in
set_option maxRecDepth 100000 in
theorem ok_X10_letterAt (κ : Nat → Nat) (wd : Nat) (G : Nat → Nat → Int32) (P : Nat → Nat → Option Nat) (U : Nat → Nat → Int64) (V : Nat → Nat → Nat → Int32) (X : Nat → Nat → Nat → Int64) (O : Nat → Nat → Nat → Option Nat) (kd : Nat → Nat) (ln : Nat → Nat) (cnt : Nat) (this : Nat) (p0 : Int32) (p1 : Int32) (hzG200 : rng (0) 24 (G 200)) (hzG203 : rng (0) 100 (G 203)) (hzP201 : PB κ ln wd 11 100 0 2400 0 (P 201)) (hzP202 : PB κ ln wd 11 101 0 100 0 (P 202)) (hzV1 : rng2 (0) 24 (V 1)) (hzRA : RA κ ln (G 200) (P 201) (P 202)) (hzRB : RB κ ln (G 200) (G 203) (P 202) (V 1)) (hzRI : RI (P 202)) (hzLN : LN κ ln) (hk_this : κ this = 11) : wp (f_X10_letterAt G P U V X O kd ln cnt this p0 p1) (QC_X10_letterAt κ wd G P U V X O kd ln cnt this p0 p1) := by
  unfold f_X10_letterAt
  have zkm1 : (-1 : Int32).toInt = -1 := by decide +kernel
  have zk0 : (0 : Int32).toInt = 0 := by decide +kernel
  have r_p0 := i32r p0
  have r_p1 := i32r p1
  obtain ⟨u1, hn_u1⟩ := PBs (hzP201 this) hk_this
  have hk_u1 := ((hzP201 this).2 u1 hn_u1).1
  have hl1_u1 := ((hzP201 this).2 u1 hn_u1).2.1
  have hl2_u1 := ((hzP201 this).2 u1 hn_u1).2.2.1
  have hw_u1 := ((hzP201 this).2 u1 hn_u1).2.2.2
  have hz_u1 : (Int32.ofNat (ln u1)).toInt = ((ln u1 : Nat) : Int) := ofN_eq (by first | exact Nat.le_trans hl2_u1 (by decide) | omega)
  obtain ⟨u2, hn_u2⟩ := PBs (hzP202 this) hk_this
  have hk_u2 := ((hzP202 this).2 u2 hn_u2).1
  have hl1_u2 := ((hzP202 this).2 u2 hn_u2).2.1
  have hl2_u2 := ((hzP202 this).2 u2 hn_u2).2.2.1
  have hw_u2 := ((hzP202 this).2 u2 hn_u2).2.2.2
  have hz_u2 : (Int32.ofNat (ln u2)).toInt = ((ln u2 : Nat) : Int) := ofN_eq (by first | exact Nat.le_trans hl2_u2 (by decide) | omega)
  have rb3 := (hzRB this u2 hk_this hn_u2).1
  have ra4 := hzRA this u1 u2 hk_this hn_u1 hn_u2
  have bw5 := hzG200 this
  refine wp_jn (fun j26 => wp (j26 ()) (QC_X10_letterAt κ wd G P U V X O kd ln cnt this p0 p1)) ?_ ?_
  · show wp _ _
    exact ⟨_, rfl, trivial⟩
  intro j26 Jj26
  refine wp_ite (fun c1 => ?_) (fun c1 => ?_)
  · have c1 := (z_lt _ _).mp c1
    exact Jj26
  · have c1 := z_nlt c1
    have b6 := hzG203 this
    refine wp_ite (fun c9 => ?_) (fun c9 => ?_)
    · have c9 := (z_le _ _).mp c9
      exact Jj26
    · have c9 := z_nle c9
      refine wp_ite (fun c13 => ?_) (fun c13 => ?_)
      · have c13 := (z_lt _ _).mp c13
        exact Jj26
      · have c13 := z_nlt c13
        refine wp_nne hn_u2 ?_
        refine wp_if ⟨by omega, by omega⟩ ?_
        have b10 := hzV1 u2 (Int32.toNatClampNeg p0)
        have rl11 := (hzRB this u2 hk_this hn_u2).2 (Int32.toNatClampNeg p0)
        refine wp_ite (fun c23 => ?_) (fun c23 => ?_)
        · have c23 := (z_lt _ _).mp c23
          refine wp_nne hn_u1 ?_
          have b12 := hzG200 this
          have f13 := zmw (x := p0) (y := ((G 200) this)) (by omega) (by omega) (by omega) (by omega)
          have ix14 := rowix (x := p0) (hzRA this u1 u2 hk_this hn_u1 hn_u2) (hzG200 this).1
          have f15 : ((p0 * ((G 200) this)) + p1).toInt = (p0 * ((G 200) this)).toInt + p1.toInt := z_add (by omega) (by omega)
          refine wp_if ⟨by omega, by omega⟩ ?_
          exact ⟨_, rfl, trivial⟩
        · have c23 := z_nlt c23
          exact Jj26
abbrev QC_X7_take (κ : Nat → Nat) (wd : Nat) (G : Nat → Nat → Int32) (P : Nat → Nat → Option Nat) (U : Nat → Nat → Int64) (V : Nat → Nat → Nat → Int32) (X : Nat → Nat → Nat → Int64) (O : Nat → Nat → Nat → Option Nat) (kd : Nat → Nat) (ln : Nat → Nat) (cnt : Nat) (this : Nat) : (Int32 × (Nat → Int32)) → Prop := (fun t => (rng (0) 2000 (t.2)) ∧ ((t.1).toInt = ((G 141) this).toInt) ∧ (((t.2) this).toInt = 0) ∧ ((0 ≤ (t.1).toInt ∧ (t.1).toInt ≤ 2000)))
set_option maxHeartbeats 4000000 in
set_option maxRecDepth 100000 in
theorem ok_X7_take (κ : Nat → Nat) (wd : Nat) (G : Nat → Nat → Int32) (P : Nat → Nat → Option Nat) (U : Nat → Nat → Int64) (V : Nat → Nat → Nat → Int32) (X : Nat → Nat → Nat → Int64) (O : Nat → Nat → Nat → Option Nat) (kd : Nat → Nat) (ln : Nat → Nat) (cnt : Nat) (this : Nat) (hzG141 : rng (0) 2000 (G 141)) (hzLN : LN κ ln) (hk_this : κ this = 8) : wp (f_X7_take G P U V X O kd ln cnt this) (QC_X7_take κ wd G P U V X O kd ln cnt this) := by
  unfold f_X7_take
  have zk0 : (0 : Int32).toInt = 0 := by decide +kernel
  have b1 := hzG141 this
  refine wp_vl (fun x4 ex4 => ?_)
  have f2 : x4.toInt = ((G 141) this).toInt := congrArg Int32.toInt ex4
  clear ex4
  refine wp_vl (fun m7 em7 => ?_)
  have hg3 : rng (0) 2000 m7 := by rw [em7]; exact rng_vup hzG141 (by omega) (by omega)
  have sm7 : (m7 this).toInt = 0 := by rw [em7, va_up_self]; decide +kernel
  have b4 := hg3 this
  clear em7
  exact ⟨_, rfl, ⟨hg3, (show x4.toInt = ((G 141) this).toInt from by omega), (show (m7 this).toInt = 0 from by omega), (show (0 ≤ x4.toInt ∧ x4.toInt ≤ 2000) from by omega)⟩⟩
abbrev QC_X7_append (κ : Nat → Nat) (wd : Nat) (G : Nat → Nat → Int32) (P : Nat → Nat → Option Nat) (U : Nat → Nat → Int64) (V : Nat → Nat → Nat → Int32) (X : Nat → Nat → Nat → Int64) (O : Nat → Nat → Nat → Option Nat) (kd : Nat → Nat) (ln : Nat → Nat) (cnt : Nat) (this : Nat) (p0 : Int32) : ((Nat → Int32) × (Nat → Nat → Int32)) → Prop := (fun t => (rng (0) 2000 (t.1)) ∧ ((((G 141) this).toInt + 4 ≤ 2000 → ((t.1) this).toInt = ((G 141) this).toInt + 4)))
set_option maxHeartbeats 4000000 in
set_option maxRecDepth 100000 in
theorem ok_X7_append (κ : Nat → Nat) (wd : Nat) (G : Nat → Nat → Int32) (P : Nat → Nat → Option Nat) (U : Nat → Nat → Int64) (V : Nat → Nat → Nat → Int32) (X : Nat → Nat → Nat → Int64) (O : Nat → Nat → Nat → Option Nat) (kd : Nat → Nat) (ln : Nat → Nat) (cnt : Nat) (this : Nat) (p0 : Int32) (hzG141 : rng (0) 2000 (G 141)) (hzP140 : PB κ ln wd 8 100 2000 2000 0 (P 140)) (hzLN : LN κ ln) (hk_this : κ this = 8) : wp (f_X7_append G P U V X O kd ln cnt this p0) (QC_X7_append κ wd G P U V X O kd ln cnt this p0) := by
  unfold f_X7_append
  have zk0 : (0 : Int32).toInt = 0 := by decide +kernel
  have zk1 : (1 : Int32).toInt = 1 := by decide +kernel
  have zk24 : (24 : Int32).toInt = 24 := by decide +kernel
  have zk2000 : (2000 : Int32).toInt = 2000 := by decide +kernel
  have r_p0 := i32r p0
  refine wp_jn (fun k46 => ∀ (c46_G141 : Nat → Int32) (c46_V0 : Nat → Nat → Int32), rng (0) 2000 c46_G141 → ((c46_G141 this).toInt = ((G 141) this).toInt + 4 ∨ (2000 ≤ (c46_G141 this).toInt ∧ (c46_G141 this).toInt ≤ ((G 141) this).toInt + 4)) → wp (k46 c46_G141 c46_V0) (QC_X7_append κ wd G P U V X O kd ln cnt this p0)) ?_ ?_
  · intro c46_G141 c46_V0 hg1 f2
    show wp _ _
    exact ⟨_, rfl, ⟨hg1, (show (((G 141) this).toInt + 4 ≤ 2000 → (c46_G141 this).toInt = ((G 141) this).toInt + 4) from by omega)⟩⟩
  intro k46 Jk46
  have lp3 : ∀ (n3 : Nat) (y3_2 : Int32) (d3_G141 : Nat → Int32) (d3_V0 : Nat → Nat → Int32), (y3_2.toInt + 8).toNat < n3 → rng (0) 2000 d3_G141 → y3_2.toInt = 24 - 8 * ((d3_G141 this).toInt - ((G 141) this).toInt) → (((G 141) this).toInt ≤ (d3_G141 this).toInt ∧ (d3_G141 this).toInt ≤ ((G 141) this).toInt + 4) → wp (L_X7_append_3 P ln this p0 k46 n3 y3_2 d3_G141 d3_V0) (QC_X7_append κ wd G P U V X O kd ln cnt this p0) := by
    intro n3
    induction n3 with
    | zero => intro y3_2 d3_G141 d3_V0 hm; exact absurd hm (Nat.not_lt_zero _)
    | succ n3 ih3 =>
      intro y3_2 d3_G141 d3_V0 hm3 hg3 f4 f5
      show wp (B_X7_append_3 P ln this p0 k46 (L_X7_append_3 P ln this p0 k46 n3) y3_2 d3_G141 d3_V0) _
      unfold B_X7_append_3
      refine wp_ite (fun c4 => ?_) (fun c4 => ?_)
      · have c4 := (z_lt _ _).mp c4
        exact Jk46 d3_G141 d3_V0 hg3 (show ((d3_G141 this).toInt = ((G 141) this).toInt + 4 ∨ (2000 ≤ (d3_G141 this).toInt ∧ (d3_G141 this).toInt ≤ ((G 141) this).toInt + 4)) from by omega)
      · have c4 := z_nlt c4
        have b6 := hg3 this
        refine wp_ite (fun c14 => ?_) (fun c14 => ?_)
        · have c14 := (z_le _ _).mp c14
          exact Jk46 d3_G141 d3_V0 hg3 (show ((d3_G141 this).toInt = ((G 141) this).toInt + 4 ∨ (2000 ≤ (d3_G141 this).toInt ∧ (d3_G141 this).toInt ≤ ((G 141) this).toInt + 4)) from by omega)
        · have c14 := z_nle c14
          refine wp_nn ((hzP140 this).1 hk_this) (fun a18 hn_a18 => ?_)
          have hk_a18 := ((hzP140 this).2 a18 hn_a18).1
          have hl1_a18 := ((hzP140 this).2 a18 hn_a18).2.1
          have hl2_a18 := ((hzP140 this).2 a18 hn_a18).2.2.1
          have hw_a18 := ((hzP140 this).2 a18 hn_a18).2.2.2
          have hz_a18 : (Int32.ofNat (ln a18)).toInt = ((ln a18 : Nat) : Int) := ofN_eq (by first | exact Nat.le_trans hl2_a18 (by decide) | omega)
          refine wp_if ⟨by omega, by omega⟩ ?_
          refine wp_vl (fun m29 em29 => ?_)
          clear em29
          have f9 : ((d3_G141 this) + 1).toInt = (d3_G141 this).toInt + 1 := z_addc (by decide +kernel) (by omega) (by omega)
          refine wp_vl (fun x37 ex37 => ?_)
          have f10 : x37.toInt = ((d3_G141 this) + 1).toInt := congrArg Int32.toInt ex37
          clear ex37
          refine wp_vl (fun m37 em37 => ?_)
          have hg11 : rng (0) 2000 m37 := by rw [em37]; exact rng_vup hg3 (by omega) (by omega)
          have sm37 : (m37 this).toInt = x37.toInt := by rw [em37, va_up_self]
          have b12 := hg11 this
          clear em37
          have f13 : (y3_2 + (-8)).toInt = y3_2.toInt + (-8) := z_addc (by decide +kernel) (by omega) (by omega)
          obtain ⟨z14, ez14⟩ : ∃ z : Int32, z = (y3_2 + (-8)) := ⟨_, rfl⟩
          have fz14 : z14.toInt = y3_2.toInt + (-8) := by rw [ez14]; exact f13
          rw [← ez14]
          clear f13 ez14
          exact ih3 z14 m37 m29 (show (z14.toInt + 8).toNat < n3 from by omega) hg11 (show z14.toInt = 24 - 8 * ((m37 this).toInt - ((G 141) this).toInt) from by omega) (show (((G 141) this).toInt ≤ (m37 this).toInt ∧ (m37 this).toInt ≤ ((G 141) this).toInt + 4) from by omega)
  exact lp3 NN (24 : Int32) (G 141) (V 0) (by have := NN_eq; omega) hzG141 (show (24 : Int32).toInt = 24 - 8 * (((G 141) this).toInt - ((G 141) this).toInt) from by omega) (show (((G 141) this).toInt ≤ ((G 141) this).toInt ∧ ((G 141) this).toInt ≤ ((G 141) this).toInt + 4) from by omega)
abbrev QC_X7_isWord (κ : Nat → Nat) (wd : Nat) (G : Nat → Nat → Int32) (P : Nat → Nat → Option Nat) (U : Nat → Nat → Int64) (V : Nat → Nat → Nat → Int32) (X : Nat → Nat → Nat → Int64) (O : Nat → Nat → Nat → Option Nat) (kd : Nat → Nat) (ln : Nat → Nat) (cnt : Nat) (this : Nat) (p0 : Int32) : (Int32) → Prop := (fun t => ((0 ≤ t.toInt ∧ t.toInt ≤ 1)) ∧ ((t.toInt = 1 → 1 ≤ p0.toInt ∧ p0.toInt ≤ 24)))
set_option maxHeartbeats 4000000 in
set_option maxRecDepth 100000 in
theorem ok_X7_isWord (κ : Nat → Nat) (wd : Nat) (G : Nat → Nat → Int32) (P : Nat → Nat → Option Nat) (U : Nat → Nat → Int64) (V : Nat → Nat → Nat → Int32) (X : Nat → Nat → Nat → Int64) (O : Nat → Nat → Nat → Option Nat) (kd : Nat → Nat) (ln : Nat → Nat) (cnt : Nat) (this : Nat) (p0 : Int32) (hzP140 : PB κ ln wd 8 100 2000 2000 0 (P 140)) (hzLN : LN κ ln) (hk_this : κ this = 8) : wp (f_X7_isWord G P U V X O kd ln cnt this p0) (QC_X7_isWord κ wd G P U V X O kd ln cnt this p0) := by
  unfold f_X7_isWord
  have zk0 : (0 : Int32).toInt = 0 := by decide +kernel
  have zk1 : (1 : Int32).toInt = 1 := by decide +kernel
  have zk24 : (24 : Int32).toInt = 24 := by decide +kernel
  have r_p0 := i32r p0
  refine wp_jn (fun j11 => wp (j11 ()) (QC_X7_isWord κ wd G P U V X O kd ln cnt this p0)) ?_ ?_
  · show wp _ _
    exact ⟨_, rfl, ⟨(show 0 ≤ (0 : Int32).toInt ∧ (0 : Int32).toInt ≤ 1 from ⟨by omega, by omega⟩), (show ((0 : Int32).toInt = 1 → 1 ≤ p0.toInt ∧ p0.toInt ≤ 24) from by omega)⟩⟩
  intro j11 Jj11
  refine wp_ite (fun c2 => ?_) (fun c2 => ?_)
  · have c2 := (z_lt _ _).mp c2
    exact Jj11
  · have c2 := z_nlt c2
    refine wp_ite (fun c8 => ?_) (fun c8 => ?_)
    · have c8 := (z_le _ _).mp c8
      have lp15 : ∀ (n15 : Nat) (y15_2 : Int32), (24 - y15_2.toInt).toNat < n15 → 0 ≤ y15_2.toInt → wp (L_X7_isWord_15 G P U V X O kd ln cnt this p0 n15 y15_2) (QC_X7_isWord κ wd G P U V X O kd ln cnt this p0) := by
        intro n15
        induction n15 with
        | zero => intro y15_2 hm; exact absurd hm (Nat.not_lt_zero _)
        | succ n15 ih15 =>
          intro y15_2 hm15 f1
          show wp (B_X7_isWord_15 G P U V X O kd ln cnt this p0 (L_X7_isWord_15 G P U V X O kd ln cnt this p0 n15) y15_2) _
          unfold B_X7_isWord_15
          refine wp_ite (fun c17 => ?_) (fun c17 => ?_)
          · have c17 := (z_le _ _).mp c17
            exact ⟨_, rfl, ⟨(show 0 ≤ (1 : Int32).toInt ∧ (1 : Int32).toInt ≤ 1 from ⟨by omega, by omega⟩), (show ((1 : Int32).toInt = 1 → 1 ≤ p0.toInt ∧ p0.toInt ≤ 24) from by omega)⟩⟩
          · have c17 := z_nle c17
            refine wp_nn ((hzP140 this).1 hk_this) (fun a21 hn_a21 => ?_)
            have hk_a21 := ((hzP140 this).2 a21 hn_a21).1
            have hl1_a21 := ((hzP140 this).2 a21 hn_a21).2.1
            have hl2_a21 := ((hzP140 this).2 a21 hn_a21).2.2.1
            have hw_a21 := ((hzP140 this).2 a21 hn_a21).2.2.2
            have hz_a21 : (Int32.ofNat (ln a21)).toInt = ((ln a21 : Nat) : Int) := ofN_eq (by first | exact Nat.le_trans hl2_a21 (by decide) | omega)
            refine wp_if ⟨by omega, by omega⟩ ?_
            obtain ⟨r26, hc26, hq26⟩ := ok_X10_isSmall κ wd G P U V X O kd ln cnt (((V 0) a21) (Int32.toNatClampNeg y15_2)) hzLN
            have f2 : (0 ≤ r26.toInt ∧ r26.toInt ≤ 1) := hq26
            refine wp_b1 hc26 ?_
            clear hc26
            refine wp_ite (fun c29 => ?_) (fun c29 => ?_)
            · have c29 := congrArg Int32.toInt c29
              exact ⟨_, rfl, ⟨(show 0 ≤ (0 : Int32).toInt ∧ (0 : Int32).toInt ≤ 1 from ⟨by omega, by omega⟩), (show ((0 : Int32).toInt = 1 → 1 ≤ p0.toInt ∧ p0.toInt ≤ 24) from by omega)⟩⟩
            · have c29 := z_ne c29
              have f3 : (y15_2 + 1).toInt = y15_2.toInt + (1) := z_addc (by decide +kernel) (by omega) (by omega)
              exact ih15 (y15_2 + 1) (show (24 - (y15_2 + 1).toInt).toNat < n15 from by omega) (show 0 ≤ (y15_2 + 1).toInt from by omega)
      exact lp15 NN (0 : Int32) (by have := NN_eq; omega) (show 0 ≤ (0 : Int32).toInt from by omega)
    · have c8 := z_nle c8
      exact Jj11
abbrev QC_X7_occurrences (κ : Nat → Nat) (wd : Nat) (G : Nat → Nat → Int32) (P : Nat → Nat → Option Nat) (U : Nat → Nat → Int64) (V : Nat → Nat → Nat → Int32) (X : Nat → Nat → Nat → Int64) (O : Nat → Nat → Nat → Option Nat) (kd : Nat → Nat) (ln : Nat → Nat) (cnt : Nat) (this : Nat) (p0 : Int32) (p1 : Int32) : (Int32) → Prop := (fun t => ((0 ≤ t.toInt ∧ t.toInt ≤ 2000)))
set_option maxHeartbeats 4000000 in
set_option maxRecDepth 100000 in
theorem ok_X7_occurrences (κ : Nat → Nat) (wd : Nat) (G : Nat → Nat → Int32) (P : Nat → Nat → Option Nat) (U : Nat → Nat → Int64) (V : Nat → Nat → Nat → Int32) (X : Nat → Nat → Nat → Int64) (O : Nat → Nat → Nat → Option Nat) (kd : Nat → Nat) (ln : Nat → Nat) (cnt : Nat) (this : Nat) (p0 : Int32) (p1 : Int32) (hzP140 : PB κ ln wd 8 100 2000 2000 0 (P 140)) (hzLN : LN κ ln) (hk_this : κ this = 8) : wp (f_X7_occurrences G P U V X O kd ln cnt this p0 p1) (QC_X7_occurrences κ wd G P U V X O kd ln cnt this p0 p1) := by
  unfold f_X7_occurrences
  have zk0 : (0 : Int32).toInt = 0 := by decide +kernel
  have zk2000 : (2000 : Int32).toInt = 2000 := by decide +kernel
  have r_p0 := i32r p0
  have r_p1 := i32r p1
  refine wp_jn (fun k39 => ∀ (x39_3 : Int32), (0 ≤ x39_3.toInt ∧ x39_3.toInt ≤ 2000) → wp (k39 x39_3) (QC_X7_occurrences κ wd G P U V X O kd ln cnt this p0 p1)) ?_ ?_
  · intro x39_3 f1
    show wp _ _
    exact ⟨_, rfl, (show (0 ≤ x39_3.toInt ∧ x39_3.toInt ≤ 2000) from by omega)⟩
  intro k39 Jk39
  have lp5 : ∀ (n5 : Nat) (y5_3 : Int32) (y5_4 : Int32), (2000 - y5_4.toInt).toNat < n5 → (0 ≤ y5_3.toInt ∧ y5_3.toInt ≤ 2000) → y5_3.toInt ≤ y5_4.toInt → (0 ≤ y5_4.toInt ∧ y5_4.toInt ≤ 2000) → wp (L_X7_occurrences_5 P V ln this p0 p1 k39 n5 y5_3 y5_4) (QC_X7_occurrences κ wd G P U V X O kd ln cnt this p0 p1) := by
    intro n5
    induction n5 with
    | zero => intro y5_3 y5_4 hm; exact absurd hm (Nat.not_lt_zero _)
    | succ n5 ih5 =>
      intro y5_3 y5_4 hm5 f2 f3 f4
      show wp (B_X7_occurrences_5 P V ln this p0 p1 k39 (L_X7_occurrences_5 P V ln this p0 p1 k39 n5) y5_3 y5_4) _
      unfold B_X7_occurrences_5
      refine wp_ite (fun c8 => ?_) (fun c8 => ?_)
      · have c8 := (z_le _ _).mp c8
        exact Jk39 y5_3 (show (0 ≤ y5_3.toInt ∧ y5_3.toInt ≤ 2000) from by omega)
      · have c8 := z_nle c8
        refine wp_ite (fun c16 => ?_) (fun c16 => ?_)
        · have c16 := (z_le _ _).mp c16
          exact Jk39 y5_3 (show (0 ≤ y5_3.toInt ∧ y5_3.toInt ≤ 2000) from by omega)
        · have c16 := z_nle c16
          refine wp_nn ((hzP140 this).1 hk_this) (fun a20 hn_a20 => ?_)
          have hk_a20 := ((hzP140 this).2 a20 hn_a20).1
          have hl1_a20 := ((hzP140 this).2 a20 hn_a20).2.1
          have hl2_a20 := ((hzP140 this).2 a20 hn_a20).2.2.1
          have hw_a20 := ((hzP140 this).2 a20 hn_a20).2.2.2
          have hz_a20 : (Int32.ofNat (ln a20)).toInt = ((ln a20 : Nat) : Int) := ofN_eq (by first | exact Nat.le_trans hl2_a20 (by decide) | omega)
          refine wp_if ⟨by omega, by omega⟩ ?_
          refine wp_jn (fun j33 => ∀ (x33_3 : Int32), (0 ≤ x33_3.toInt ∧ x33_3.toInt ≤ y5_4.toInt + 1) → wp (j33 x33_3) (QC_X7_occurrences κ wd G P U V X O kd ln cnt this p0 p1)) ?_ ?_
          · intro x33_3 f5
            show wp _ _
            have f6 : (y5_4 + 1).toInt = y5_4.toInt + (1) := z_addc (by decide +kernel) (by omega) (by omega)
            exact ih5 x33_3 (y5_4 + 1) (show (2000 - (y5_4 + 1).toInt).toNat < n5 from by omega) (show (0 ≤ x33_3.toInt ∧ x33_3.toInt ≤ 2000) from by omega) (show x33_3.toInt ≤ (y5_4 + 1).toInt from by omega) (show (0 ≤ (y5_4 + 1).toInt ∧ (y5_4 + 1).toInt ≤ 2000) from by omega)
          intro j33 Jj33
          refine wp_ite (fun c27 => ?_) (fun c27 => ?_)
          · have c27 := congrArg Int32.toInt c27
            have f7 : (y5_3 + 1).toInt = y5_3.toInt + (1) := z_addc (by decide +kernel) (by omega) (by omega)
            exact Jj33 (y5_3 + 1) (show (0 ≤ (y5_3 + 1).toInt ∧ (y5_3 + 1).toInt ≤ y5_4.toInt + 1) from by omega)
          · have c27 := z_ne c27
            exact Jj33 y5_3 (show (0 ≤ y5_3.toInt ∧ y5_3.toInt ≤ y5_4.toInt + 1) from by omega)
  exact lp5 NN (0 : Int32) (0 : Int32) (by have := NN_eq; omega) (show (0 ≤ (0 : Int32).toInt ∧ (0 : Int32).toInt ≤ 2000) from by omega) (show (0 : Int32).toInt ≤ (0 : Int32).toInt from by omega) (show (0 ≤ (0 : Int32).toInt ∧ (0 : Int32).toInt ≤ 2000) from by omega)
abbrev QC_X7_hasZero (κ : Nat → Nat) (wd : Nat) (G : Nat → Nat → Int32) (P : Nat → Nat → Option Nat) (U : Nat → Nat → Int64) (V : Nat → Nat → Nat → Int32) (X : Nat → Nat → Nat → Int64) (O : Nat → Nat → Nat → Option Nat) (kd : Nat → Nat) (ln : Nat → Nat) (cnt : Nat) (this : Nat) (p0 : Int32) : (Int32) → Prop := (fun t => ((0 ≤ t.toInt ∧ t.toInt ≤ 1)))
set_option maxHeartbeats 4000000 in
set_option maxRecDepth 100000 in
theorem ok_X7_hasZero (κ : Nat → Nat) (wd : Nat) (G : Nat → Nat → Int32) (P : Nat → Nat → Option Nat) (U : Nat → Nat → Int64) (V : Nat → Nat → Nat → Int32) (X : Nat → Nat → Nat → Int64) (O : Nat → Nat → Nat → Option Nat) (kd : Nat → Nat) (ln : Nat → Nat) (cnt : Nat) (this : Nat) (p0 : Int32) (hzP140 : PB κ ln wd 8 100 2000 2000 0 (P 140)) (hzLN : LN κ ln) (hk_this : κ this = 8) : wp (f_X7_hasZero G P U V X O kd ln cnt this p0) (QC_X7_hasZero κ wd G P U V X O kd ln cnt this p0) := by
  unfold f_X7_hasZero
  have zk0 : (0 : Int32).toInt = 0 := by decide +kernel
  have zk1 : (1 : Int32).toInt = 1 := by decide +kernel
  have r_p0 := i32r p0
  obtain ⟨r3, hc3, hq3⟩ := ok_X7_occurrences κ wd G P U V X O kd ln cnt this (0 : Int32) p0 hzP140 hzLN hk_this
  have f1 : (0 ≤ r3.toInt ∧ r3.toInt ≤ 2000) := hq3
  refine wp_b1 hc3 ?_
  clear hc3
  refine wp_jn (fun j14 => ∀ (t14_0 : Int32), (0 ≤ t14_0.toInt ∧ t14_0.toInt ≤ 1) → wp (j14 t14_0) (QC_X7_hasZero κ wd G P U V X O kd ln cnt this p0)) ?_ ?_
  · intro t14_0 f2
    show wp _ _
    refine wp_if ⟨by omega, by omega⟩ ?_
    exact ⟨_, rfl, (show 0 ≤ t14_0.toInt ∧ t14_0.toInt ≤ 1 from ⟨by omega, by omega⟩)⟩
  intro j14 Jj14
  refine wp_ite (fun c6 => ?_) (fun c6 => ?_)
  · have c6 := (z_le _ _).mp c6
    exact Jj14 (0 : Int32) (show (0 ≤ (0 : Int32).toInt ∧ (0 : Int32).toInt ≤ 1) from by omega)
  · have c6 := z_nle c6
    exact Jj14 (1 : Int32) (show (0 ≤ (1 : Int32).toInt ∧ (1 : Int32).toInt ≤ 1) from by omega)
abbrev QC_X7_lines (κ : Nat → Nat) (wd : Nat) (G : Nat → Nat → Int32) (P : Nat → Nat → Option Nat) (U : Nat → Nat → Int64) (V : Nat → Nat → Nat → Int32) (X : Nat → Nat → Nat → Int64) (O : Nat → Nat → Nat → Option Nat) (kd : Nat → Nat) (ln : Nat → Nat) (cnt : Nat) (this : Nat) (p0 : Int32) : (Int32) → Prop := (fun t => ((1 ≤ t.toInt ∧ t.toInt ≤ 2001)))
set_option maxHeartbeats 4000000 in
set_option maxRecDepth 100000 in
theorem ok_X7_lines (κ : Nat → Nat) (wd : Nat) (G : Nat → Nat → Int32) (P : Nat → Nat → Option Nat) (U : Nat → Nat → Int64) (V : Nat → Nat → Nat → Int32) (X : Nat → Nat → Nat → Int64) (O : Nat → Nat → Nat → Option Nat) (kd : Nat → Nat) (ln : Nat → Nat) (cnt : Nat) (this : Nat) (p0 : Int32) (hzP140 : PB κ ln wd 8 100 2000 2000 0 (P 140)) (hzLN : LN κ ln) (hk_this : κ this = 8) : wp (f_X7_lines G P U V X O kd ln cnt this p0) (QC_X7_lines κ wd G P U V X O kd ln cnt this p0) := by
  unfold f_X7_lines
  have zk1 : (1 : Int32).toInt = 1 := by decide +kernel
  have zk10 : (10 : Int32).toInt = 10 := by decide +kernel
  have r_p0 := i32r p0
  obtain ⟨r5, hc5, hq5⟩ := ok_X7_occurrences κ wd G P U V X O kd ln cnt this (10 : Int32) p0 hzP140 hzLN hk_this
  have f1 : (0 ≤ r5.toInt ∧ r5.toInt ≤ 2000) := hq5
  refine wp_b1 hc5 ?_
  clear hc5
  have f2 : (1 + r5).toInt = 1 + r5.toInt := z_addd (by decide +kernel) (by omega) (by omega)
  exact ⟨_, rfl, (show (1 ≤ (1 + r5).toInt ∧ (1 + r5).toInt ≤ 2001) from by omega)⟩
abbrev QC_X11_feed (κ : Nat → Nat) (wd : Nat) (G : Nat → Nat → Int32) (P : Nat → Nat → Option Nat) (U : Nat → Nat → Int64) (V : Nat → Nat → Nat → Int32) (X : Nat → Nat → Nat → Int64) (O : Nat → Nat → Nat → Option Nat) (kd : Nat → Nat) (ln : Nat → Nat) (cnt : Nat) (this : Nat) (p0 : Int32) (p1 : Int32) (p2 : Int32) (p3 : Int32) (p4 : Int32) : (Int32 × (Nat → Int32) × (Nat → Nat → Int32)) → Prop := (fun t => (rng (0) 2000 (t.2.1)) ∧ ((∀ tp, (P 220) this = some tp → (((G 141) tp).toInt + 20 ≤ 2000 → ((t.2.1) tp).toInt = ((G 141) tp).toInt + 20 ∧ (t.1).toInt = ((G 141) tp).toInt + 20) ∧ (2000 < ((G 141) tp).toInt + 20 → ((t.2.1) tp).toInt = ((G 141) tp).toInt ∧ (t.1).toInt = -3))))
set_option maxHeartbeats 4000000 in
set_option maxRecDepth 100000 in
theorem ok_X11_feed (κ : Nat → Nat) (wd : Nat) (G : Nat → Nat → Int32) (P : Nat → Nat → Option Nat) (U : Nat → Nat → Int64) (V : Nat → Nat → Nat → Int32) (X : Nat → Nat → Nat → Int64) (O : Nat → Nat → Nat → Option Nat) (kd : Nat → Nat) (ln : Nat → Nat) (cnt : Nat) (this : Nat) (p0 : Int32) (p1 : Int32) (p2 : Int32) (p3 : Int32) (p4 : Int32) (hzG141 : rng (0) 2000 (G 141)) (hzP140 : PB κ ln wd 8 100 2000 2000 0 (P 140)) (hzP220 : PB κ ln wd 12 8 0 2500 0 (P 220)) (hzLN : LN κ ln) (hk_this : κ this = 12) : wp (f_X11_feed G P U V X O kd ln cnt this p0 p1 p2 p3 p4) (QC_X11_feed κ wd G P U V X O kd ln cnt this p0 p1 p2 p3 p4) := by
  unfold f_X11_feed
  have zkm3 : (-3 : Int32).toInt = -3 := by decide +kernel
  have zk20 : (20 : Int32).toInt = 20 := by decide +kernel
  have zk2000 : (2000 : Int32).toInt = 2000 := by decide +kernel
  have r_p0 := i32r p0
  have r_p1 := i32r p1
  have r_p2 := i32r p2
  have r_p3 := i32r p3
  have r_p4 := i32r p4
  refine wp_nn ((hzP220 this).1 hk_this) (fun a1 hn_a1 => ?_)
  have hk_a1 := ((hzP220 this).2 a1 hn_a1).1
  have hl1_a1 := ((hzP220 this).2 a1 hn_a1).2.1
  have hl2_a1 := ((hzP220 this).2 a1 hn_a1).2.2.1
  have hw_a1 := ((hzP220 this).2 a1 hn_a1).2.2.2
  have b1 := hzG141 a1
  have f2 : (((G 141) a1) + 20).toInt = ((G 141) a1).toInt + 20 := z_addc (by decide +kernel) (by omega) (by omega)
  refine wp_ite (fun c13 => ?_) (fun c13 => ?_)
  · have c13 := (z_le _ _).mp c13
    refine wp_nne hn_a1 ?_
    obtain ⟨⟨c24_G141, c24_V0⟩, hc24, hq24⟩ := ok_X7_append κ wd G P U V X O kd ln cnt a1 p0 hzG141 hzP140 hzLN hk_a1
    obtain ⟨hg3, f4⟩ : (rng (0) 2000 c24_G141) ∧ ((((G 141) a1).toInt + 4 ≤ 2000 → (c24_G141 a1).toInt = ((G 141) a1).toInt + 4)) := hq24
    refine wp_b2 hc24 ?_
    clear hc24
    refine wp_nne hn_a1 ?_
    obtain ⟨⟨c32_G141, c32_V0⟩, hc32, hq32⟩ := ok_X7_append κ wd (va_up G 141 c24_G141) P U (va_up V 0 c24_V0) X O kd ln cnt a1 p1 hg3 hzP140 hzLN hk_a1
    obtain ⟨hg5, f6⟩ : (rng (0) 2000 c32_G141) ∧ (((c24_G141 a1).toInt + 4 ≤ 2000 → (c32_G141 a1).toInt = (c24_G141 a1).toInt + 4)) := hq32
    refine wp_b2 hc32 ?_
    clear hc32
    refine wp_nne hn_a1 ?_
    obtain ⟨⟨c40_G141, c40_V0⟩, hc40, hq40⟩ := ok_X7_append κ wd (va_up (va_up G 141 c24_G141) 141 c32_G141) P U (va_up (va_up V 0 c24_V0) 0 c32_V0) X O kd ln cnt a1 p2 hg5 hzP140 hzLN hk_a1
    obtain ⟨hg7, f8⟩ : (rng (0) 2000 c40_G141) ∧ (((c32_G141 a1).toInt + 4 ≤ 2000 → (c40_G141 a1).toInt = (c32_G141 a1).toInt + 4)) := hq40
    refine wp_b2 hc40 ?_
    clear hc40
    refine wp_nne hn_a1 ?_
    obtain ⟨⟨c49_G141, c49_V0⟩, hc49, hq49⟩ := ok_X7_append κ wd (va_up (va_up (va_up G 141 c24_G141) 141 c32_G141) 141 c40_G141) P U (va_up (va_up (va_up V 0 c24_V0) 0 c32_V0) 0 c40_V0) X O kd ln cnt a1 p3 hg7 hzP140 hzLN hk_a1
    obtain ⟨hg9, f10⟩ : (rng (0) 2000 c49_G141) ∧ (((c40_G141 a1).toInt + 4 ≤ 2000 → (c49_G141 a1).toInt = (c40_G141 a1).toInt + 4)) := hq49
    refine wp_b2 hc49 ?_
    clear hc49
    refine wp_nne hn_a1 ?_
    obtain ⟨⟨c58_G141, c58_V0⟩, hc58, hq58⟩ := ok_X7_append κ wd (va_up (va_up (va_up (va_up G 141 c24_G141) 141 c32_G141) 141 c40_G141) 141 c49_G141) P U (va_up (va_up (va_up (va_up V 0 c24_V0) 0 c32_V0) 0 c40_V0) 0 c49_V0) X O kd ln cnt a1 p4 hg9 hzP140 hzLN hk_a1
    obtain ⟨hg11, f12⟩ : (rng (0) 2000 c58_G141) ∧ (((c49_G141 a1).toInt + 4 ≤ 2000 → (c58_G141 a1).toInt = (c49_G141 a1).toInt + 4)) := hq58
    refine wp_b2 hc58 ?_
    clear hc58
    refine wp_nne hn_a1 ?_
    have b13 := hg11 a1
    exact ⟨_, rfl, ⟨hg11, (show (∀ tp, (P 220) this = some tp → (((G 141) tp).toInt + 20 ≤ 2000 → (c58_G141 tp).toInt = ((G 141) tp).toInt + 20 ∧ (c58_G141 a1).toInt = ((G 141) tp).toInt + 20) ∧ (2000 < ((G 141) tp).toInt + 20 → (c58_G141 tp).toInt = ((G 141) tp).toInt ∧ (c58_G141 a1).toInt = -3)) from by intro tp htp; obtain rfl : a1 = tp := Option.some.inj (hn_a1.symm.trans htp); omega)⟩⟩
  · have c13 := z_nle c13
    exact ⟨_, rfl, ⟨hzG141, (show (∀ tp, (P 220) this = some tp → (((G 141) tp).toInt + 20 ≤ 2000 → ((G 141) tp).toInt = ((G 141) tp).toInt + 20 ∧ (-3 : Int32).toInt = ((G 141) tp).toInt + 20) ∧ (2000 < ((G 141) tp).toInt + 20 → ((G 141) tp).toInt = ((G 141) tp).toInt ∧ (-3 : Int32).toInt = -3)) from by intro tp htp; obtain rfl : a1 = tp := Option.some.inj (hn_a1.symm.trans htp); omega)⟩⟩
abbrev QC_X11_end (κ : Nat → Nat) (wd : Nat) (G : Nat → Nat → Int32) (P : Nat → Nat → Option Nat) (U : Nat → Nat → Int64) (V : Nat → Nat → Nat → Int32) (X : Nat → Nat → Nat → Int64) (O : Nat → Nat → Nat → Option Nat) (kd : Nat → Nat) (ln : Nat → Nat) (cnt : Nat) (this : Nat) (p0 : Int32) : (Int32 × (Nat → Int32)) → Prop := (fun t => (rng (0) 2000 (t.2)) ∧ ((∀ tp, (P 220) this = some tp → (0 ≤ p0.toInt ∧ p0.toInt ≤ ((G 141) tp).toInt → ((t.2) tp).toInt = p0.toInt ∧ (t.1).toInt = p0.toInt) ∧ (p0.toInt < 0 ∨ ((G 141) tp).toInt < p0.toInt → ((t.2) tp).toInt = ((G 141) tp).toInt ∧ (t.1).toInt = -1))))
set_option maxHeartbeats 4000000 in
set_option maxRecDepth 100000 in
theorem ok_X11_end (κ : Nat → Nat) (wd : Nat) (G : Nat → Nat → Int32) (P : Nat → Nat → Option Nat) (U : Nat → Nat → Int64) (V : Nat → Nat → Nat → Int32) (X : Nat → Nat → Nat → Int64) (O : Nat → Nat → Nat → Option Nat) (kd : Nat → Nat) (ln : Nat → Nat) (cnt : Nat) (this : Nat) (p0 : Int32) (hzG141 : rng (0) 2000 (G 141)) (hzP220 : PB κ ln wd 12 8 0 2500 0 (P 220)) (hzLN : LN κ ln) (hk_this : κ this = 12) : wp (f_X11_end G P U V X O kd ln cnt this p0) (QC_X11_end κ wd G P U V X O kd ln cnt this p0) := by
  unfold f_X11_end
  have zkm1 : (-1 : Int32).toInt = -1 := by decide +kernel
  have zk0 : (0 : Int32).toInt = 0 := by decide +kernel
  have r_p0 := i32r p0
  obtain ⟨u1, hn_u1⟩ := PBs (hzP220 this) hk_this
  have hk_u1 := ((hzP220 this).2 u1 hn_u1).1
  have hl1_u1 := ((hzP220 this).2 u1 hn_u1).2.1
  have hl2_u1 := ((hzP220 this).2 u1 hn_u1).2.2.1
  have hw_u1 := ((hzP220 this).2 u1 hn_u1).2.2.2
  refine wp_jn (fun j15 => (p0.toInt < 0 ∨ ((G 141) u1).toInt < p0.toInt) → wp (j15 ()) (QC_X11_end κ wd G P U V X O kd ln cnt this p0)) ?_ ?_
  · intro f2
    show wp _ _
    exact ⟨_, rfl, ⟨hzG141, (show (∀ tp, (P 220) this = some tp → (0 ≤ p0.toInt ∧ p0.toInt ≤ ((G 141) tp).toInt → ((G 141) tp).toInt = p0.toInt ∧ (-1 : Int32).toInt = p0.toInt) ∧ (p0.toInt < 0 ∨ ((G 141) tp).toInt < p0.toInt → ((G 141) tp).toInt = ((G 141) tp).toInt ∧ (-1 : Int32).toInt = -1)) from by intro tp htp; obtain rfl : u1 = tp := Option.some.inj (hn_u1.symm.trans htp); omega)⟩⟩
  intro j15 Jj15
  refine wp_ite (fun c1 => ?_) (fun c1 => ?_)
  · have c1 := (z_lt _ _).mp c1
    exact Jj15 (show (p0.toInt < 0 ∨ ((G 141) u1).toInt < p0.toInt) from by omega)
  · have c1 := z_nlt c1
    refine wp_nne hn_u1 ?_
    have b3 := hzG141 u1
    refine wp_ite (fun c12 => ?_) (fun c12 => ?_)
    · have c12 := (z_le _ _).mp c12
      refine wp_nne hn_u1 ?_
      refine wp_vl (fun m22 em22 => ?_)
      have hg4 : rng (0) 2000 m22 := by rw [em22]; exact rng_vup hzG141 (by omega) (by omega)
      have sm22 : (m22 u1).toInt = p0.toInt := by rw [em22, va_up_self]
      have b5 := hg4 u1
      clear em22
      exact ⟨_, rfl, ⟨hg4, (show (∀ tp, (P 220) this = some tp → (0 ≤ p0.toInt ∧ p0.toInt ≤ ((G 141) tp).toInt → (m22 tp).toInt = p0.toInt ∧ p0.toInt = p0.toInt) ∧ (p0.toInt < 0 ∨ ((G 141) tp).toInt < p0.toInt → (m22 tp).toInt = ((G 141) tp).toInt ∧ p0.toInt = -1)) from by intro tp htp; obtain rfl : u1 = tp := Option.some.inj (hn_u1.symm.trans htp); omega)⟩⟩
    · have c12 := z_nle c12
      exact Jj15 (show (p0.toInt < 0 ∨ ((G 141) u1).toInt < p0.toInt) from by omega)
abbrev QC_X11_reformAt (κ : Nat → Nat) (wd : Nat) (G : Nat → Nat → Int32) (P : Nat → Nat → Option Nat) (U : Nat → Nat → Int64) (V : Nat → Nat → Nat → Int32) (X : Nat → Nat → Nat → Int64) (O : Nat → Nat → Nat → Option Nat) (kd : Nat → Nat) (ln : Nat → Nat) (cnt : Nat) (this : Nat) (p0 : Int32) : (Option Nat) → Prop := (fun t => ((∀ b, t = some b → κ b = 6)) ∧ ((∀ b, t = some b → 0 ≤ p0.toInt ∧ p0.toInt < ((G 222) this).toInt)))
set_option maxHeartbeats 4000000 in
set_option maxRecDepth 100000 in
theorem ok_X11_reformAt (κ : Nat → Nat) (wd : Nat) (G : Nat → Nat → Int32) (P : Nat → Nat → Option Nat) (U : Nat → Nat → Int64) (V : Nat → Nat → Nat → Int32) (X : Nat → Nat → Nat → Int64) (O : Nat → Nat → Nat → Option Nat) (kd : Nat → Nat) (ln : Nat → Nat) (cnt : Nat) (this : Nat) (p0 : Int32) (hzG222 : rng (0) 6 (G 222)) (hzP221 : PB κ ln wd 12 302 6 6 0 (P 221)) (hzO2 : OB κ 6 (O 2)) (hzLN : LN κ ln) (hk_this : κ this = 12) : wp (f_X11_reformAt G P U V X O kd ln cnt this p0) (QC_X11_reformAt κ wd G P U V X O kd ln cnt this p0) := by
  unfold f_X11_reformAt
  have zk0 : (0 : Int32).toInt = 0 := by decide +kernel
  have r_p0 := i32r p0
  refine wp_jn (fun j22 => ∀ (t22_0 : Option Nat), (∀ b, t22_0 = some b → κ b = 6) → (∀ b, t22_0 = some b → 0 ≤ p0.toInt ∧ p0.toInt < ((G 222) this).toInt) → wp (j22 t22_0) (QC_X11_reformAt κ wd G P U V X O kd ln cnt this p0)) ?_ ?_
  · intro t22_0 hk1 f2
    show wp _ _
    exact ⟨_, rfl, ⟨hk1, (show (∀ b, t22_0 = some b → 0 ≤ p0.toInt ∧ p0.toInt < ((G 222) this).toInt) from by assumption)⟩⟩
  intro j22 Jj22
  refine wp_jn (fun j12 => wp (j12 ()) (QC_X11_reformAt κ wd G P U V X O kd ln cnt this p0)) ?_ ?_
  · show wp _ _
    exact Jj22 none (fun b hq => by cases hq) (show (∀ b, none = some b → 0 ≤ p0.toInt ∧ p0.toInt < ((G 222) this).toInt) from by first | exact (fun b hq => by omega) | exact (fun b hq => nomatch hq))
  intro j12 Jj12
  refine wp_ite (fun c1 => ?_) (fun c1 => ?_)
  · have c1 := (z_lt _ _).mp c1
    exact Jj12
  · have c1 := z_nlt c1
    have b3 := hzG222 this
    refine wp_ite (fun c9 => ?_) (fun c9 => ?_)
    · have c9 := (z_lt _ _).mp c9
      refine wp_nn ((hzP221 this).1 hk_this) (fun a17 hn_a17 => ?_)
      have hk_a17 := ((hzP221 this).2 a17 hn_a17).1
      have hl1_a17 := ((hzP221 this).2 a17 hn_a17).2.1
      have hl2_a17 := ((hzP221 this).2 a17 hn_a17).2.2.1
      have hw_a17 := ((hzP221 this).2 a17 hn_a17).2.2.2
      have hz_a17 : (Int32.ofNat (ln a17)).toInt = ((ln a17 : Nat) : Int) := ofN_eq (by first | exact Nat.le_trans hl2_a17 (by decide) | omega)
      refine wp_if ⟨by omega, by omega⟩ ?_
      refine wp_vl (fun o21 eo21 => ?_)
      have hk_o21 : ∀ b, o21 = some b → κ b = 6 := fun b hq => hzO2 _ _ b (eo21.symm.trans hq)
      clear eo21
      exact Jj22 o21 hk_o21 (show (∀ b, o21 = some b → 0 ≤ p0.toInt ∧ p0.toInt < ((G 222) this).toInt) from by first | exact (fun b hq => by omega) | exact (fun b hq => nomatch hq))
    · have c9 := z_nlt c9
      exact Jj12
abbrev QC_X11_stage (κ : Nat → Nat) (wd : Nat) (G : Nat → Nat → Int32) (P : Nat → Nat → Option Nat) (U : Nat → Nat → Int64) (V : Nat → Nat → Nat → Int32) (X : Nat → Nat → Nat → Int64) (O : Nat → Nat → Nat → Option Nat) (kd : Nat → Nat) (ln : Nat → Nat) (cnt : Nat) (this : Nat) (p0 : Int32) : (Int32) → Prop := (fun t => True)
set_option maxHeartbeats 4000000 in
set_option maxRecDepth 100000 in
theorem ok_X11_stage (κ : Nat → Nat) (wd : Nat) (G : Nat → Nat → Int32) (P : Nat → Nat → Option Nat) (U : Nat → Nat → Int64) (V : Nat → Nat → Nat → Int32) (X : Nat → Nat → Nat → Int64) (O : Nat → Nat → Nat → Option Nat) (kd : Nat → Nat) (ln : Nat → Nat) (cnt : Nat) (this : Nat) (p0 : Int32) (hzG222 : rng (0) 6 (G 222)) (hzP221 : PB κ ln wd 12 302 6 6 0 (P 221)) (hzO2 : OB κ 6 (O 2)) (hzLN : LN κ ln) (hk_this : κ this = 12) : wp (f_X11_stage G P U V X O kd ln cnt this p0) (QC_X11_stage κ wd G P U V X O kd ln cnt this p0) := by
  unfold f_X11_stage
  have zkm2 : (-2 : Int32).toInt = -2 := by decide +kernel
  have zk0 : (0 : Int32).toInt = 0 := by decide +kernel
  have zk100000 : (100000 : Int32).toInt = 100000 := by decide +kernel
  have r_p0 := i32r p0
  refine wp_jn (fun j10 => wp (j10 ()) (QC_X11_stage κ wd G P U V X O kd ln cnt this p0)) ?_ ?_
  · show wp _ _
    exact ⟨_, rfl, trivial⟩
  intro j10 Jj10
  refine wp_ite (fun c1 => ?_) (fun c1 => ?_)
  · have c1 := (z_lt _ _).mp c1
    exact Jj10
  · have c1 := z_nlt c1
    refine wp_ite (fun c7 => ?_) (fun c7 => ?_)
    · have c7 := (z_le _ _).mp c7
      have lp17 : ∀ (n17 : Nat) (y17_2 : Int32) (y17_3 : Int32), (6 - y17_3.toInt).toNat < n17 → (0 ≤ y17_3.toInt ∧ y17_3.toInt ≤ 6) → (0 ≤ y17_2.toInt ∧ y17_2.toInt ≤ y17_3.toInt) → wp (L_X11_stage_17 G P O ln this p0 n17 y17_2 y17_3) (QC_X11_stage κ wd G P U V X O kd ln cnt this p0) := by
        intro n17
        induction n17 with
        | zero => intro y17_2 y17_3 hm; exact absurd hm (Nat.not_lt_zero _)
        | succ n17 ih17 =>
          intro y17_2 y17_3 hm17 f1 f2
          show wp (B_X11_stage_17 G P O ln this p0 (L_X11_stage_17 G P O ln this p0 n17) y17_2 y17_3) _
          unfold B_X11_stage_17
          have b3 := hzG222 this
          refine wp_ite (fun c22 => ?_) (fun c22 => ?_)
          · have c22 := (z_le _ _).mp c22
            exact ⟨_, rfl, trivial⟩
          · have c22 := z_nle c22
            refine wp_nn ((hzP221 this).1 hk_this) (fun a26 hn_a26 => ?_)
            have hk_a26 := ((hzP221 this).2 a26 hn_a26).1
            have hl1_a26 := ((hzP221 this).2 a26 hn_a26).2.1
            have hl2_a26 := ((hzP221 this).2 a26 hn_a26).2.2.1
            have hw_a26 := ((hzP221 this).2 a26 hn_a26).2.2.2
            have hz_a26 : (Int32.ofNat (ln a26)).toInt = ((ln a26 : Nat) : Int) := ofN_eq (by first | exact Nat.le_trans hl2_a26 (by decide) | omega)
            refine wp_if ⟨by omega, by omega⟩ ?_
            refine wp_vl (fun o30 eo30 => ?_)
            have hk_o30 : ∀ b, o30 = some b → κ b = 6 := fun b hq => hzO2 _ _ b (eo30.symm.trans hq)
            clear eo30
            refine wp_jn (fun j50 => ∀ (x50_2 : Int32), (0 ≤ x50_2.toInt ∧ x50_2.toInt ≤ y17_3.toInt + 1) → wp (j50 x50_2) (QC_X11_stage κ wd G P U V X O kd ln cnt this p0)) ?_ ?_
            · intro x50_2 f4
              show wp _ _
              have f5 : (y17_3 + 1).toInt = y17_3.toInt + (1) := z_addc (by decide +kernel) (by omega) (by omega)
              exact ih17 x50_2 (y17_3 + 1) (show (6 - (y17_3 + 1).toInt).toNat < n17 from by omega) (show (0 ≤ (y17_3 + 1).toInt ∧ (y17_3 + 1).toInt ≤ 6) from by omega) (show (0 ≤ x50_2.toInt ∧ x50_2.toInt ≤ (y17_3 + 1).toInt) from by omega)
            intro j50 Jj50
            refine wp_oc (fun c35 => ?_) (fun b35 c35 => ?_)
            · skip
              exact Jj50 y17_2 (show (0 ≤ y17_2.toInt ∧ y17_2.toInt ≤ y17_3.toInt + 1) from by omega)
            · skip
              have hk_b35 := hk_o30 b35 c35
              refine wp_ite (fun c44 => ?_) (fun c44 => ?_)
              · have c44 := (z_lt _ _).mp c44
                exact Jj50 y17_2 (show (0 ≤ y17_2.toInt ∧ y17_2.toInt ≤ y17_3.toInt + 1) from by omega)
              · have c44 := z_nlt c44
                have f6 : (y17_2 + 1).toInt = y17_2.toInt + (1) := z_addc (by decide +kernel) (by omega) (by omega)
                exact Jj50 (y17_2 + 1) (show (0 ≤ (y17_2 + 1).toInt ∧ (y17_2 + 1).toInt ≤ y17_3.toInt + 1) from by omega)
      exact lp17 NN (0 : Int32) (0 : Int32) (by have := NN_eq; omega) (show (0 ≤ (0 : Int32).toInt ∧ (0 : Int32).toInt ≤ 6) from by omega) (show (0 ≤ (0 : Int32).toInt ∧ (0 : Int32).toInt ≤ (0 : Int32).toInt) from by omega)
    · have c7 := z_nle c7
      exact Jj10
abbrev QC_X11_about (κ : Nat → Nat) (wd : Nat) (G : Nat → Nat → Int32) (P : Nat → Nat → Option Nat) (U : Nat → Nat → Int64) (V : Nat → Nat → Nat → Int32) (X : Nat → Nat → Nat → Int64) (O : Nat → Nat → Nat → Option Nat) (kd : Nat → Nat) (ln : Nat → Nat) (cnt : Nat) (this : Nat) (p0 : Int32) (p1 : Int32) : (Int32) → Prop := (fun t => True)
set_option maxHeartbeats 4000000 in
set_option maxRecDepth 100000 in
theorem ok_X11_about (κ : Nat → Nat) (wd : Nat) (G : Nat → Nat → Int32) (P : Nat → Nat → Option Nat) (U : Nat → Nat → Int64) (V : Nat → Nat → Nat → Int32) (X : Nat → Nat → Nat → Int64) (O : Nat → Nat → Nat → Option Nat) (kd : Nat → Nat) (ln : Nat → Nat) (cnt : Nat) (this : Nat) (p0 : Int32) (p1 : Int32) (hzG102 : rng (0) 40 (G 102)) (hzG200 : rng (0) 24 (G 200)) (hzG203 : rng (0) 100 (G 203)) (hzG222 : rng (0) 6 (G 222)) (hzP103 : PB κ ln wd 6 11 0 2500 1 (P 103)) (hzP104 : PB κ ln wd 6 11 0 2500 1 (P 104)) (hzP201 : PB κ ln wd 11 100 0 2400 0 (P 201)) (hzP202 : PB κ ln wd 11 101 0 100 0 (P 202)) (hzP221 : PB κ ln wd 12 302 6 6 0 (P 221)) (hzV1 : rng2 (0) 24 (V 1)) (hzO2 : OB κ 6 (O 2)) (hzRA : RA κ ln (G 200) (P 201) (P 202)) (hzRB : RB κ ln (G 200) (G 203) (P 202) (V 1)) (hzRI : RI (P 202)) (hzRM103 : RM ln 40 (P 103) (P 202)) (hzRM104 : RM ln 40 (P 104) (P 202)) (hzLN : LN κ ln) (hk_this : κ this = 12) : wp (f_X11_about G P U V X O kd ln cnt this p0 p1) (QC_X11_about κ wd G P U V X O kd ln cnt this p0 p1) := by
  unfold f_X11_about
  have zkm1 : (-1 : Int32).toInt = -1 := by decide +kernel
  have zk0 : (0 : Int32).toInt = 0 := by decide +kernel
  have zk1 : (1 : Int32).toInt = 1 := by decide +kernel
  have zk2 : (2 : Int32).toInt = 2 := by decide +kernel
  have zk3 : (3 : Int32).toInt = 3 := by decide +kernel
  have zk4 : (4 : Int32).toInt = 4 := by decide +kernel
  have r_p0 := i32r p0
  have r_p1 := i32r p1
  obtain ⟨r2, hc2, hq2⟩ := ok_X11_reformAt κ wd G P U V X O kd ln cnt this p0 hzG222 hzP221 hzO2 hzLN hk_this
  obtain ⟨hk1, f2⟩ : ((∀ b, r2 = some b → κ b = 6)) ∧ ((∀ b, r2 = some b → 0 ≤ p0.toInt ∧ p0.toInt < ((G 222) this).toInt)) := hq2
  refine wp_b1 hc2 ?_
  clear hc2
  refine wp_oc (fun c7 => ?_) (fun b7 c7 => ?_)
  · skip
    exact ⟨_, rfl, trivial⟩
  · skip
    have hk_b7 := hk1 b7 c7
    refine wp_ite (fun c13_0 => ?_) (fun c13_0 => ?_)
    · have c13_0 := congrArg Int32.toInt c13_0
      exact ⟨_, rfl, trivial⟩
    · have c13_0 := z_ne c13_0
      refine wp_ite (fun c13_1 => ?_) (fun c13_1 => ?_)
      · have c13_1 := congrArg Int32.toInt c13_1
        have b3 := hzG102 b7
        exact ⟨_, rfl, trivial⟩
      · have c13_1 := z_ne c13_1
        refine wp_ite (fun c13_2 => ?_) (fun c13_2 => ?_)
        · have c13_2 := congrArg Int32.toInt c13_2
          refine wp_nn ((hzP103 b7).1 hk_b7) (fun a59 hn_a59 => ?_)
          have hk_a59 := ((hzP103 b7).2 a59 hn_a59).1
          have hl1_a59 := ((hzP103 b7).2 a59 hn_a59).2.1
          have hl2_a59 := ((hzP103 b7).2 a59 hn_a59).2.2.1
          have hw_a59 := ((hzP103 b7).2 a59 hn_a59).2.2.2
          have b4 := hzG203 a59
          exact ⟨_, rfl, trivial⟩
        · have c13_2 := z_ne c13_2
          refine wp_ite (fun c13_3 => ?_) (fun c13_3 => ?_)
          · have c13_3 := congrArg Int32.toInt c13_3
            exact ⟨_, rfl, trivial⟩
          · have c13_3 := z_ne c13_3
            refine wp_ite (fun c13_4 => ?_) (fun c13_4 => ?_)
            · have c13_4 := congrArg Int32.toInt c13_4
              refine wp_nn ((hzP104 b7).1 hk_b7) (fun a72 hn_a72 => ?_)
              have hk_a72 := ((hzP104 b7).2 a72 hn_a72).1
              have hl1_a72 := ((hzP104 b7).2 a72 hn_a72).2.1
              have hl2_a72 := ((hzP104 b7).2 a72 hn_a72).2.2.1
              have hw_a72 := ((hzP104 b7).2 a72 hn_a72).2.2.2
              have b5 := hzG203 a72
              exact ⟨_, rfl, trivial⟩
            · have c13_4 := z_ne c13_4
              exact ⟨_, rfl, trivial⟩
abbrev QC_X11_fault (κ : Nat → Nat) (wd : Nat) (G : Nat → Nat → Int32) (P : Nat → Nat → Option Nat) (U : Nat → Nat → Int64) (V : Nat → Nat → Nat → Int32) (X : Nat → Nat → Nat → Int64) (O : Nat → Nat → Nat → Option Nat) (kd : Nat → Nat) (ln : Nat → Nat) (cnt : Nat) (this : Nat) (p0 : Int32) : (Int32) → Prop := (fun t => True)
set_option maxHeartbeats 4000000 in
set_option maxRecDepth 100000 in
theorem ok_X11_fault (κ : Nat → Nat) (wd : Nat) (G : Nat → Nat → Int32) (P : Nat → Nat → Option Nat) (U : Nat → Nat → Int64) (V : Nat → Nat → Nat → Int32) (X : Nat → Nat → Nat → Int64) (O : Nat → Nat → Nat → Option Nat) (kd : Nat → Nat) (ln : Nat → Nat) (cnt : Nat) (this : Nat) (p0 : Int32) (hzP225 : PB κ ln wd 12 5 0 2500 0 (P 225)) (hzLN : LN κ ln) (hk_this : κ this = 12) : wp (f_X11_fault G P U V X O kd ln cnt this p0) (QC_X11_fault κ wd G P U V X O kd ln cnt this p0) := by
  unfold f_X11_fault
  have zkm1 : (-1 : Int32).toInt = -1 := by decide +kernel
  have zk0 : (0 : Int32).toInt = 0 := by decide +kernel
  have zk1 : (1 : Int32).toInt = 1 := by decide +kernel
  have r_p0 := i32r p0
  refine wp_ite (fun c1_0 => ?_) (fun c1_0 => ?_)
  · have c1_0 := congrArg Int32.toInt c1_0
    refine wp_nn ((hzP225 this).1 hk_this) (fun a29 hn_a29 => ?_)
    have hk_a29 := ((hzP225 this).2 a29 hn_a29).1
    have hl1_a29 := ((hzP225 this).2 a29 hn_a29).2.1
    have hl2_a29 := ((hzP225 this).2 a29 hn_a29).2.2.1
    have hw_a29 := ((hzP225 this).2 a29 hn_a29).2.2.2
    exact ⟨_, rfl, trivial⟩
  · have c1_0 := z_ne c1_0
    refine wp_ite (fun c1_1 => ?_) (fun c1_1 => ?_)
    · have c1_1 := congrArg Int32.toInt c1_1
      refine wp_nn ((hzP225 this).1 hk_this) (fun a37 hn_a37 => ?_)
      have hk_a37 := ((hzP225 this).2 a37 hn_a37).1
      have hl1_a37 := ((hzP225 this).2 a37 hn_a37).2.1
      have hl2_a37 := ((hzP225 this).2 a37 hn_a37).2.2.1
      have hw_a37 := ((hzP225 this).2 a37 hn_a37).2.2.2
      exact ⟨_, rfl, trivial⟩
    · have c1_1 := z_ne c1_1
      exact ⟨_, rfl, trivial⟩
abbrev QC_X0_formsAt (κ : Nat → Nat) (wd : Nat) (G : Nat → Nat → Int32) (P : Nat → Nat → Option Nat) (U : Nat → Nat → Int64) (V : Nat → Nat → Nat → Int32) (X : Nat → Nat → Nat → Int64) (O : Nat → Nat → Nat → Option Nat) (kd : Nat → Nat) (ln : Nat → Nat) (cnt : Nat) (this : Nat) (p0 : Int32) (p1 : Int32) : (Nat) → Prop := (fun t => (κ t = 11))
set_option maxHeartbeats 4000000 in
set_option maxRecDepth 100000 in
theorem ok_X0_formsAt (κ : Nat → Nat) (wd : Nat) (G : Nat → Nat → Int32) (P : Nat → Nat → Option Nat) (U : Nat → Nat → Int64) (V : Nat → Nat → Nat → Int32) (X : Nat → Nat → Nat → Int64) (O : Nat → Nat → Nat → Option Nat) (kd : Nat → Nat) (ln : Nat → Nat) (cnt : Nat) (this : Nat) (p0 : Int32) (p1 : Int32) (hzP1 : PB κ ln wd 1 301 700 700 0 (P 1)) (hzP5 : PB κ ln wd 1 11 0 2500 0 (P 5)) (hzO1 : OB κ 11 (O 1)) (hzLN : LN κ ln) (hk_this : κ this = 1) (hp0 : (0 ≤ p0.toInt ∧ p0.toInt ≤ 6)) (hp1 : (0 ≤ p1.toInt ∧ p1.toInt < 100)) : wp (f_X0_formsAt G P U V X O kd ln cnt this p0 p1) (QC_X0_formsAt κ wd G P U V X O kd ln cnt this p0 p1) := by
  unfold f_X0_formsAt
  have zk100 : (100 : Int32).toInt = 100 := by decide +kernel
  have r_p0 := i32r p0
  have r_p1 := i32r p1
  refine wp_nn ((hzP1 this).1 hk_this) (fun a1 hn_a1 => ?_)
  have hk_a1 := ((hzP1 this).2 a1 hn_a1).1
  have hl1_a1 := ((hzP1 this).2 a1 hn_a1).2.1
  have hl2_a1 := ((hzP1 this).2 a1 hn_a1).2.2.1
  have hw_a1 := ((hzP1 this).2 a1 hn_a1).2.2.2
  have hz_a1 : (Int32.ofNat (ln a1)).toInt = ((ln a1 : Nat) : Int) := ofN_eq (by first | exact Nat.le_trans hl2_a1 (by decide) | omega)
  have f1 : (p0 * 100).toInt = p0.toInt * 100 := z_mulc (by decide +kernel) (by omega) (by omega)
  have f2 : ((p0 * 100) + p1).toInt = (p0 * 100).toInt + p1.toInt := z_add (by omega) (by omega)
  refine wp_if ⟨by omega, by omega⟩ ?_
  refine wp_vl (fun o10 eo10 => ?_)
  have hk_o10 : ∀ b, o10 = some b → κ b = 11 := fun b hq => hzO1 _ _ b (eo10.symm.trans hq)
  clear eo10
  refine wp_jn (fun j24 => ∀ (t24_0 : Nat), κ t24_0 = 11 → wp (j24 t24_0) (QC_X0_formsAt κ wd G P U V X O kd ln cnt this p0 p1)) ?_ ?_
  · intro t24_0 hk3
    show wp _ _
    exact ⟨_, rfl, hk3⟩
  intro j24 Jj24
  refine wp_oc (fun c13 => ?_) (fun b13 c13 => ?_)
  · skip
    refine wp_nn ((hzP5 this).1 hk_this) (fun a17 hn_a17 => ?_)
    have hk_a17 := ((hzP5 this).2 a17 hn_a17).1
    have hl1_a17 := ((hzP5 this).2 a17 hn_a17).2.1
    have hl2_a17 := ((hzP5 this).2 a17 hn_a17).2.2.1
    have hw_a17 := ((hzP5 this).2 a17 hn_a17).2.2.2
    exact Jj24 a17 hk_a17
  · skip
    have hk_b13 := hk_o10 b13 c13
    exact Jj24 b13 hk_b13
