abbrev RF_X10_add (la : Nat → Nat) (G : Nat → Nat → Int32) (P : Nat → Nat → Option Nat) (U : Nat → Nat → Int64) (V : Nat → Nat → Nat → Int32) (X : Nat → Nat → Nat → Int64) (O : Nat → Nat → Nat → Option Nat) (kd : Nat → Nat) (ln : Nat → Nat) (cnt : Nat) (this : Nat) (p0 : Nat) (p1 : Int32) (p2 : Int32) : ((Nat → Int32) × (Nat → Nat → Int32) × (Nat → Nat → Int32)) → Prop := fun t => (∀ z, ((la z < la this ∨ la this < la z)) → (t.1) z = (G 203) z) ∧ (∀ z, ((la z < la this ∨ la this < la z)) → (t.2.1) z = (V 0) z) ∧ (∀ z, ((la z < la this ∨ la this < la z)) → (t.2.2) z = (V 1) z)
set_option maxHeartbeats 4000000 in
set_option maxRecDepth 100000 in
theorem fr_X10_add (la : Nat → Nat) (G : Nat → Nat → Int32) (P : Nat → Nat → Option Nat) (U : Nat → Nat → Int64) (V : Nat → Nat → Nat → Int32) (X : Nat → Nat → Nat → Int64) (O : Nat → Nat → Nat → Option Nat) (kd : Nat → Nat) (ln : Nat → Nat) (cnt : Nat) (this : Nat) (p0 : Nat) (p1 : Int32) (p2 : Int32) (hB : LB la cnt P) : pw (f_X10_add G P U V X O kd ln cnt this p0 p1 p2) (RF_X10_add la G P U V X O kd ln cnt this p0 p1 p2) := by
  unfold f_X10_add
  refine pw_b1 (fun r1 hc1 => ?_)
  clear hc1
  refine pw_jn (fun j31 => pw (j31 ()) (RF_X10_add la G P U V X O kd ln cnt this p0 p1 p2)) ?_ ?_
  · show pw _ _
    exact pw_some ⟨(fun _ _ => rfl), (fun _ _ => rfl), (fun _ _ => rfl)⟩
  intro j31 Jj31
  refine pw_ite (fun _ => ?_) (fun _ => ?_)
  · skip
    refine pw_ite (fun _ => ?_) (fun _ => ?_)
    · skip
      exact Jj31
    · skip
      refine pw_ite (fun _ => ?_) (fun _ => ?_)
      · skip
        exact Jj31
      · skip
        refine pw_ite (fun _ => ?_) (fun _ => ?_)
        · skip
          exact Jj31
        · skip
          refine pw_ite (fun _ => ?_) (fun _ => ?_)
          · skip
            refine pw_nn (fun a35 hn_a35 => ?_)
            have lt_a35 := ((hB.1 201 fl_201) this a35 hn_a35).2.1
            have lb_a35 : la a35 = la this + 0 := lk_201.mp ((hB.1 201 fl_201) this a35 hn_a35).2.2
            refine pw_if (fun _ => ?_)
            refine pw_vl (fun m48 em48 => ?_)
            have hf1 : ∀ z, ((la z < la this ∨ la this < la z)) → m48 z = (V 0) z := fr_up (e0 := (V 0)) (fun _ _ => rfl) em48 (show ¬ ((la a35 < la this ∨ la this < la a35)) from by omega)
            refine pw_nn (fun a52 hn_a52 => ?_)
            have lt_a52 := ((hB.1 202 fl_202) this a52 hn_a52).2.1
            have lb_a52 : la a52 = la this + 0 := lk_202.mp ((hB.1 202 fl_202) this a52 hn_a52).2.2
            refine pw_if (fun _ => ?_)
            refine pw_vl (fun m60 em60 => ?_)
            have hf2 : ∀ z, ((la z < la this ∨ la this < la z)) → m60 z = (V 1) z := fr_up (e0 := (V 1)) (fun _ _ => rfl) em60 (show ¬ ((la a52 < la this ∨ la this < la a52)) from by omega)
            refine pw_vl (fun x68 _ => ?_)
            refine pw_vl (fun m68 em68 => ?_)
            have hf3 : ∀ z, ((la z < la this ∨ la this < la z)) → m68 z = (G 203) z := fr_up (e0 := (G 203)) (fun _ _ => rfl) em68 (show ¬ ((la this < la this ∨ la this < la this)) from by omega)
            exact pw_some ⟨hf3, hf1, hf2⟩
          · skip
            exact Jj31
  · skip
    exact Jj31
abbrev RF_X10_addForm (la : Nat → Nat) (G : Nat → Nat → Int32) (P : Nat → Nat → Option Nat) (U : Nat → Nat → Int64) (V : Nat → Nat → Nat → Int32) (X : Nat → Nat → Nat → Int64) (O : Nat → Nat → Nat → Option Nat) (kd : Nat → Nat) (ln : Nat → Nat) (cnt : Nat) (this : Nat) (p0 : Nat) (p1 : Int32) (p2 : Int32) : ((Nat → Int32) × (Nat → Nat → Int32) × (Nat → Nat → Int32)) → Prop := fun t => (∀ z, ((la z < la this ∨ la this < la z)) → (t.1) z = (G 203) z) ∧ (∀ z, ((la z < la this ∨ la this < la z)) → (t.2.1) z = (V 0) z) ∧ (∀ z, ((la z < la this ∨ la this < la z)) → (t.2.2) z = (V 1) z)
set_option maxHeartbeats 4000000 in
set_option maxRecDepth 100000 in
theorem fr_X10_addForm (la : Nat → Nat) (G : Nat → Nat → Int32) (P : Nat → Nat → Option Nat) (U : Nat → Nat → Int64) (V : Nat → Nat → Nat → Int32) (X : Nat → Nat → Nat → Int64) (O : Nat → Nat → Nat → Option Nat) (kd : Nat → Nat) (ln : Nat → Nat) (cnt : Nat) (this : Nat) (p0 : Nat) (p1 : Int32) (p2 : Int32) (hB : LB la cnt P) : pw (f_X10_addForm G P U V X O kd ln cnt this p0 p1 p2) (RF_X10_addForm la G P U V X O kd ln cnt this p0 p1 p2) := by
  unfold f_X10_addForm
  refine pw_jn (fun j22 => ∀ (c22_G203 : Nat → Int32) (c22_V0 : Nat → Nat → Int32) (c22_V1 : Nat → Nat → Int32), (∀ z, ((la z < la this ∨ la this < la z)) → c22_G203 z = (G 203) z) → (∀ z, ((la z < la this ∨ la this < la z)) → c22_V0 z = (V 0) z) → (∀ z, ((la z < la this ∨ la this < la z)) → c22_V1 z = (V 1) z) → pw (j22 c22_G203 c22_V0 c22_V1) (RF_X10_addForm la G P U V X O kd ln cnt this p0 p1 p2)) ?_ ?_
  · intro c22_G203 c22_V0 c22_V1 hf1 hf2 hf3
    show pw _ _
    exact pw_some ⟨hf1, hf2, hf3⟩
  intro j22 Jj22
  refine pw_ite (fun _ => ?_) (fun _ => ?_)
  · skip
    exact Jj22 (G 203) (V 0) (V 1) (fun _ _ => rfl) (fun _ _ => rfl) (fun _ _ => rfl)
  · skip
    refine pw_b1 (fun r8 hc8 => ?_)
    clear hc8
    refine pw_ite (fun _ => ?_) (fun _ => ?_)
    · skip
      refine pw_b3 (fun c19_G203 c19_V0 c19_V1 hc19 => ?_)
      have hq19 := fr_X10_add la G P U V X O kd ln cnt this p0 p1 p2 hB _ hc19
      obtain ⟨q19_G203, q19_V0, q19_V1⟩ : (∀ z, (la z < la this ∨ la this < la z) → c19_G203 z = (G 203) z) ∧ (∀ z, (la z < la this ∨ la this < la z) → c19_V0 z = (V 0) z) ∧ (∀ z, (la z < la this ∨ la this < la z) → c19_V1 z = (V 1) z) := hq19
      have tz19 : ∀ z, ((la z < la this ∨ la this < la z)) → ((la z < la this ∨ la this < la z)) := fun z hz => by omega
      have hf4 : ∀ z, ((la z < la this ∨ la this < la z)) → c19_G203 z = (G 203) z := fun z hz => (q19_G203 z (tz19 z hz)).trans (rfl)
      have hf5 : ∀ z, ((la z < la this ∨ la this < la z)) → c19_V0 z = (V 0) z := fun z hz => (q19_V0 z (tz19 z hz)).trans (rfl)
      have hf6 : ∀ z, ((la z < la this ∨ la this < la z)) → c19_V1 z = (V 1) z := fun z hz => (q19_V1 z (tz19 z hz)).trans (rfl)
      clear hc19
      exact Jj22 c19_G203 c19_V0 c19_V1 hf4 hf5 hf6
    · skip
      exact Jj22 (G 203) (V 0) (V 1) (fun _ _ => rfl) (fun _ _ => rfl) (fun _ _ => rfl)
abbrev RF_X10_copy (la : Nat → Nat) (G : Nat → Nat → Int32) (P : Nat → Nat → Option Nat) (U : Nat → Nat → Int64) (V : Nat → Nat → Nat → Int32) (X : Nat → Nat → Nat → Int64) (O : Nat → Nat → Nat → Option Nat) (kd : Nat → Nat) (ln : Nat → Nat) (cnt : Nat) (this : Nat) (p0 : Nat) : ((Nat → Int32) × (Nat → Nat → Int32) × (Nat → Nat → Int32)) → Prop := fun t => (∀ z, ((la z < la this ∨ la this < la z)) → (t.1) z = (G 203) z) ∧ (∀ z, ((la z < la this ∨ la this < la z)) → (t.2.1) z = (V 0) z) ∧ (∀ z, ((la z < la this ∨ la this < la z)) → (t.2.2) z = (V 1) z)
set_option maxHeartbeats 4000000 in
set_option maxRecDepth 100000 in
theorem fr_X10_copy (la : Nat → Nat) (G : Nat → Nat → Int32) (P : Nat → Nat → Option Nat) (U : Nat → Nat → Int64) (V : Nat → Nat → Nat → Int32) (X : Nat → Nat → Nat → Int64) (O : Nat → Nat → Nat → Option Nat) (kd : Nat → Nat) (ln : Nat → Nat) (cnt : Nat) (this : Nat) (p0 : Nat) (hB : LB la cnt P) : pw (f_X10_copy G P U V X O kd ln cnt this p0) (RF_X10_copy la G P U V X O kd ln cnt this p0) := by
  unfold f_X10_copy
  refine pw_vl (fun m2 em2 => ?_)
  have hf1 : ∀ z, ((la z < la this ∨ la this < la z)) → m2 z = (G 203) z := fr_up (e0 := (G 203)) (fun _ _ => rfl) em2 (show ¬ ((la this < la this ∨ la this < la this)) from by omega)
  have lp7 : ∀ (n7 : Nat) (y7_2 : Int32) (d7_G203 : Nat → Int32) (d7_V0 : Nat → Nat → Int32) (d7_V1 : Nat → Nat → Int32), (∀ z, ((la z < la this ∨ la this < la z)) → d7_G203 z = (G 203) z) → (∀ z, ((la z < la this ∨ la this < la z)) → d7_V0 z = (V 0) z) → (∀ z, ((la z < la this ∨ la this < la z)) → d7_V1 z = (V 1) z) → pw (L_X10_copy_7 G P U V X O kd ln cnt this p0 n7 y7_2 d7_G203 d7_V0 d7_V1) (RF_X10_copy la G P U V X O kd ln cnt this p0) := by
    intro n7
    induction n7 with
    | zero => intros; exact pw_none
    | succ n7 ih7 =>
      intro y7_2 d7_G203 d7_V0 d7_V1 hf2 hf3 hf4
      show pw (B_X10_copy_7 G P U V X O kd ln cnt this p0 (L_X10_copy_7 G P U V X O kd ln cnt this p0 n7) y7_2 d7_G203 d7_V0 d7_V1) _
      unfold B_X10_copy_7
      refine pw_ite (fun _ => ?_) (fun _ => ?_)
      · skip
        exact pw_some ⟨hf2, hf3, hf4⟩
      · skip
        refine pw_nn (fun a17 hn_a17 => ?_)
        have lt_a17 := ((hB.1 201 fl_201) p0 a17 hn_a17).2.1
        have lb_a17 : la a17 = la p0 + 0 := lk_201.mp ((hB.1 201 fl_201) p0 a17 hn_a17).2.2
        refine pw_nn (fun a27 hn_a27 => ?_)
        have lt_a27 := ((hB.1 202 fl_202) p0 a27 hn_a27).2.1
        have lb_a27 : la a27 = la p0 + 0 := lk_202.mp ((hB.1 202 fl_202) p0 a27 hn_a27).2.2
        refine pw_if (fun _ => ?_)
        refine pw_b3 (fun c32_G203 c32_V0 c32_V1 hc32 => ?_)
        have hq32 := fr_X10_add la (va_up G 203 d7_G203) P U (va_up (va_up V 0 d7_V0) 1 d7_V1) X O kd ln cnt this a17 (y7_2 * ((G 200) p0)) ((d7_V1 a27) (Int32.toNatClampNeg y7_2)) hB _ hc32
        obtain ⟨q32_G203, q32_V0, q32_V1⟩ : (∀ z, (la z < la this ∨ la this < la z) → c32_G203 z = d7_G203 z) ∧ (∀ z, (la z < la this ∨ la this < la z) → c32_V0 z = d7_V0 z) ∧ (∀ z, (la z < la this ∨ la this < la z) → c32_V1 z = d7_V1 z) := hq32
        have tz32 : ∀ z, ((la z < la this ∨ la this < la z)) → ((la z < la this ∨ la this < la z)) := fun z hz => by omega
        have hf5 : ∀ z, ((la z < la this ∨ la this < la z)) → c32_G203 z = (G 203) z := fun z hz => (q32_G203 z (tz32 z hz)).trans (hf2 z hz)
        have hf6 : ∀ z, ((la z < la this ∨ la this < la z)) → c32_V0 z = (V 0) z := fun z hz => (q32_V0 z (tz32 z hz)).trans (hf3 z hz)
        have hf7 : ∀ z, ((la z < la this ∨ la this < la z)) → c32_V1 z = (V 1) z := fun z hz => (q32_V1 z (tz32 z hz)).trans (hf4 z hz)
        clear hc32
        exact ih7 (y7_2 + 1) c32_G203 c32_V0 c32_V1 hf5 hf6 hf7
  exact lp7 NN 0 m2 (V 0) (V 1) hf1 (fun _ _ => rfl) (fun _ _ => rfl)
abbrev RF_X7_take (la : Nat → Nat) (G : Nat → Nat → Int32) (P : Nat → Nat → Option Nat) (U : Nat → Nat → Int64) (V : Nat → Nat → Nat → Int32) (X : Nat → Nat → Nat → Int64) (O : Nat → Nat → Nat → Option Nat) (kd : Nat → Nat) (ln : Nat → Nat) (cnt : Nat) (this : Nat) : (Int32 × (Nat → Int32)) → Prop := fun t => (∀ z, ((la z < la this ∨ la this < la z)) → (t.2) z = (G 141) z)
set_option maxHeartbeats 4000000 in
set_option maxRecDepth 100000 in
theorem fr_X7_take (la : Nat → Nat) (G : Nat → Nat → Int32) (P : Nat → Nat → Option Nat) (U : Nat → Nat → Int64) (V : Nat → Nat → Nat → Int32) (X : Nat → Nat → Nat → Int64) (O : Nat → Nat → Nat → Option Nat) (kd : Nat → Nat) (ln : Nat → Nat) (cnt : Nat) (this : Nat) (hB : LB la cnt P) : pw (f_X7_take G P U V X O kd ln cnt this) (RF_X7_take la G P U V X O kd ln cnt this) := by
  unfold f_X7_take
  refine pw_vl (fun x4 _ => ?_)
  refine pw_vl (fun m7 em7 => ?_)
  have hf1 : ∀ z, ((la z < la this ∨ la this < la z)) → m7 z = (G 141) z := fr_up (e0 := (G 141)) (fun _ _ => rfl) em7 (show ¬ ((la this < la this ∨ la this < la this)) from by omega)
  exact pw_some hf1
abbrev RF_X7_append (la : Nat → Nat) (G : Nat → Nat → Int32) (P : Nat → Nat → Option Nat) (U : Nat → Nat → Int64) (V : Nat → Nat → Nat → Int32) (X : Nat → Nat → Nat → Int64) (O : Nat → Nat → Nat → Option Nat) (kd : Nat → Nat) (ln : Nat → Nat) (cnt : Nat) (this : Nat) (p0 : Int32) : ((Nat → Int32) × (Nat → Nat → Int32)) → Prop := fun t => (∀ z, ((la z < la this ∨ la this + 1 < la z)) → (t.1) z = (G 141) z) ∧ (∀ z, ((la z < la this ∨ la this + 1 < la z)) → (t.2) z = (V 0) z)
set_option maxHeartbeats 4000000 in
set_option maxRecDepth 100000 in
theorem fr_X7_append (la : Nat → Nat) (G : Nat → Nat → Int32) (P : Nat → Nat → Option Nat) (U : Nat → Nat → Int64) (V : Nat → Nat → Nat → Int32) (X : Nat → Nat → Nat → Int64) (O : Nat → Nat → Nat → Option Nat) (kd : Nat → Nat) (ln : Nat → Nat) (cnt : Nat) (this : Nat) (p0 : Int32) (hB : LB la cnt P) : pw (f_X7_append G P U V X O kd ln cnt this p0) (RF_X7_append la G P U V X O kd ln cnt this p0) := by
  unfold f_X7_append
  refine pw_jn (fun k46 => ∀ (c46_G141 : Nat → Int32) (c46_V0 : Nat → Nat → Int32), (∀ z, ((la z < la this ∨ la this + 1 < la z)) → c46_G141 z = (G 141) z) → (∀ z, ((la z < la this ∨ la this + 1 < la z)) → c46_V0 z = (V 0) z) → pw (k46 c46_G141 c46_V0) (RF_X7_append la G P U V X O kd ln cnt this p0)) ?_ ?_
  · intro c46_G141 c46_V0 hf1 hf2
    show pw _ _
    exact pw_some ⟨hf1, hf2⟩
  intro k46 Jk46
  have lp3 : ∀ (n3 : Nat) (y3_2 : Int32) (d3_G141 : Nat → Int32) (d3_V0 : Nat → Nat → Int32), (∀ z, ((la z < la this ∨ la this + 1 < la z)) → d3_G141 z = (G 141) z) → (∀ z, ((la z < la this ∨ la this + 1 < la z)) → d3_V0 z = (V 0) z) → pw (L_X7_append_3 P ln this p0 k46 n3 y3_2 d3_G141 d3_V0) (RF_X7_append la G P U V X O kd ln cnt this p0) := by
    intro n3
    induction n3 with
    | zero => intros; exact pw_none
    | succ n3 ih3 =>
      intro y3_2 d3_G141 d3_V0 hf3 hf4
      show pw (B_X7_append_3 P ln this p0 k46 (L_X7_append_3 P ln this p0 k46 n3) y3_2 d3_G141 d3_V0) _
      unfold B_X7_append_3
      refine pw_ite (fun _ => ?_) (fun _ => ?_)
      · skip
        exact Jk46 d3_G141 d3_V0 hf3 hf4
      · skip
        refine pw_ite (fun _ => ?_) (fun _ => ?_)
        · skip
          exact Jk46 d3_G141 d3_V0 hf3 hf4
        · skip
          refine pw_nn (fun a18 hn_a18 => ?_)
          have lt_a18 := ((hB.1 140 fl_140) this a18 hn_a18).2.1
          have lb_a18 : la a18 = la this + 1 := lk_140.mp ((hB.1 140 fl_140) this a18 hn_a18).2.2
          refine pw_if (fun _ => ?_)
          refine pw_vl (fun m29 em29 => ?_)
          have hf5 : ∀ z, ((la z < la this ∨ la this + 1 < la z)) → m29 z = (V 0) z := fr_up (e0 := (V 0)) hf4 em29 (show ¬ ((la a18 < la this ∨ la this + 1 < la a18)) from by omega)
          refine pw_vl (fun x37 _ => ?_)
          refine pw_vl (fun m37 em37 => ?_)
          have hf6 : ∀ z, ((la z < la this ∨ la this + 1 < la z)) → m37 z = (G 141) z := fr_up (e0 := (G 141)) hf3 em37 (show ¬ ((la this < la this ∨ la this + 1 < la this)) from by omega)
          exact ih3 (y3_2 + (-8)) m37 m29 hf6 hf5
  exact lp3 NN 24 (G 141) (V 0) (fun _ _ => rfl) (fun _ _ => rfl)
abbrev RF_X11_feed (la : Nat → Nat) (G : Nat → Nat → Int32) (P : Nat → Nat → Option Nat) (U : Nat → Nat → Int64) (V : Nat → Nat → Nat → Int32) (X : Nat → Nat → Nat → Int64) (O : Nat → Nat → Nat → Option Nat) (kd : Nat → Nat) (ln : Nat → Nat) (cnt : Nat) (this : Nat) (p0 : Int32) (p1 : Int32) (p2 : Int32) (p3 : Int32) (p4 : Int32) : (Int32 × (Nat → Int32) × (Nat → Nat → Int32)) → Prop := fun t => (∀ z, ((la z < 10 ∨ 10 + 1 < la z)) → (t.2.1) z = (G 141) z) ∧ (∀ z, ((la z < 10 ∨ 10 + 1 < la z)) → (t.2.2) z = (V 0) z)
set_option maxHeartbeats 4000000 in
set_option maxRecDepth 100000 in
theorem fr_X11_feed (la : Nat → Nat) (G : Nat → Nat → Int32) (P : Nat → Nat → Option Nat) (U : Nat → Nat → Int64) (V : Nat → Nat → Nat → Int32) (X : Nat → Nat → Nat → Int64) (O : Nat → Nat → Nat → Option Nat) (kd : Nat → Nat) (ln : Nat → Nat) (cnt : Nat) (this : Nat) (p0 : Int32) (p1 : Int32) (p2 : Int32) (p3 : Int32) (p4 : Int32) (hB : LB la cnt P) (hp0 : la this = 200) : pw (f_X11_feed G P U V X O kd ln cnt this p0 p1 p2 p3 p4) (RF_X11_feed la G P U V X O kd ln cnt this p0 p1 p2 p3 p4) := by
  unfold f_X11_feed
  refine pw_nn (fun a1 hn_a1 => ?_)
  have lt_a1 := ((hB.1 220 fl_220) this a1 hn_a1).2.1
  have lb_a1 : la a1 = 10 := lk_220.mp ((hB.1 220 fl_220) this a1 hn_a1).2.2
  refine pw_ite (fun _ => ?_) (fun _ => ?_)
  · skip
    refine pw_nn (fun a20 hn_a20 => ?_)
    have lt_a20 := ((hB.1 220 fl_220) this a20 hn_a20).2.1
    have lb_a20 : la a20 = 10 := lk_220.mp ((hB.1 220 fl_220) this a20 hn_a20).2.2
    refine pw_b2 (fun c24_G141 c24_V0 hc24 => ?_)
    have hq24 := fr_X7_append la G P U V X O kd ln cnt a20 p0 hB _ hc24
    obtain ⟨q24_G141, q24_V0⟩ : (∀ z, (la z < la a20 ∨ la a20 + 1 < la z) → c24_G141 z = (G 141) z) ∧ (∀ z, (la z < la a20 ∨ la a20 + 1 < la z) → c24_V0 z = (V 0) z) := hq24
    have tz24 : ∀ z, ((la z < 10 ∨ 10 + 1 < la z)) → ((la z < la a20 ∨ la a20 + 1 < la z)) := fun z hz => by omega
    have hf1 : ∀ z, ((la z < 10 ∨ 10 + 1 < la z)) → c24_G141 z = (G 141) z := fun z hz => (q24_G141 z (tz24 z hz)).trans (rfl)
    have hf2 : ∀ z, ((la z < 10 ∨ 10 + 1 < la z)) → c24_V0 z = (V 0) z := fun z hz => (q24_V0 z (tz24 z hz)).trans (rfl)
    clear hc24
    refine pw_nn (fun a28 hn_a28 => ?_)
    have lt_a28 := ((hB.1 220 fl_220) this a28 hn_a28).2.1
    have lb_a28 : la a28 = 10 := lk_220.mp ((hB.1 220 fl_220) this a28 hn_a28).2.2
    refine pw_b2 (fun c32_G141 c32_V0 hc32 => ?_)
    have hq32 := fr_X7_append la (va_up G 141 c24_G141) P U (va_up V 0 c24_V0) X O kd ln cnt a28 p1 hB _ hc32
    obtain ⟨q32_G141, q32_V0⟩ : (∀ z, (la z < la a28 ∨ la a28 + 1 < la z) → c32_G141 z = c24_G141 z) ∧ (∀ z, (la z < la a28 ∨ la a28 + 1 < la z) → c32_V0 z = c24_V0 z) := hq32
    have tz32 : ∀ z, ((la z < 10 ∨ 10 + 1 < la z)) → ((la z < la a28 ∨ la a28 + 1 < la z)) := fun z hz => by omega
    have hf3 : ∀ z, ((la z < 10 ∨ 10 + 1 < la z)) → c32_G141 z = (G 141) z := fun z hz => (q32_G141 z (tz32 z hz)).trans (hf1 z hz)
    have hf4 : ∀ z, ((la z < 10 ∨ 10 + 1 < la z)) → c32_V0 z = (V 0) z := fun z hz => (q32_V0 z (tz32 z hz)).trans (hf2 z hz)
    clear hc32
    refine pw_nn (fun a36 hn_a36 => ?_)
    have lt_a36 := ((hB.1 220 fl_220) this a36 hn_a36).2.1
    have lb_a36 : la a36 = 10 := lk_220.mp ((hB.1 220 fl_220) this a36 hn_a36).2.2
    refine pw_b2 (fun c40_G141 c40_V0 hc40 => ?_)
    have hq40 := fr_X7_append la (va_up (va_up G 141 c24_G141) 141 c32_G141) P U (va_up (va_up V 0 c24_V0) 0 c32_V0) X O kd ln cnt a36 p2 hB _ hc40
    obtain ⟨q40_G141, q40_V0⟩ : (∀ z, (la z < la a36 ∨ la a36 + 1 < la z) → c40_G141 z = c32_G141 z) ∧ (∀ z, (la z < la a36 ∨ la a36 + 1 < la z) → c40_V0 z = c32_V0 z) := hq40
    have tz40 : ∀ z, ((la z < 10 ∨ 10 + 1 < la z)) → ((la z < la a36 ∨ la a36 + 1 < la z)) := fun z hz => by omega
    have hf5 : ∀ z, ((la z < 10 ∨ 10 + 1 < la z)) → c40_G141 z = (G 141) z := fun z hz => (q40_G141 z (tz40 z hz)).trans (hf3 z hz)
    have hf6 : ∀ z, ((la z < 10 ∨ 10 + 1 < la z)) → c40_V0 z = (V 0) z := fun z hz => (q40_V0 z (tz40 z hz)).trans (hf4 z hz)
    clear hc40
    refine pw_nn (fun a44 hn_a44 => ?_)
    have lt_a44 := ((hB.1 220 fl_220) this a44 hn_a44).2.1
    have lb_a44 : la a44 = 10 := lk_220.mp ((hB.1 220 fl_220) this a44 hn_a44).2.2
    refine pw_b2 (fun c49_G141 c49_V0 hc49 => ?_)
    have hq49 := fr_X7_append la (va_up (va_up (va_up G 141 c24_G141) 141 c32_G141) 141 c40_G141) P U (va_up (va_up (va_up V 0 c24_V0) 0 c32_V0) 0 c40_V0) X O kd ln cnt a44 p3 hB _ hc49
    obtain ⟨q49_G141, q49_V0⟩ : (∀ z, (la z < la a44 ∨ la a44 + 1 < la z) → c49_G141 z = c40_G141 z) ∧ (∀ z, (la z < la a44 ∨ la a44 + 1 < la z) → c49_V0 z = c40_V0 z) := hq49
    have tz49 : ∀ z, ((la z < 10 ∨ 10 + 1 < la z)) → ((la z < la a44 ∨ la a44 + 1 < la z)) := fun z hz => by omega
    have hf7 : ∀ z, ((la z < 10 ∨ 10 + 1 < la z)) → c49_G141 z = (G 141) z := fun z hz => (q49_G141 z (tz49 z hz)).trans (hf5 z hz)
    have hf8 : ∀ z, ((la z < 10 ∨ 10 + 1 < la z)) → c49_V0 z = (V 0) z := fun z hz => (q49_V0 z (tz49 z hz)).trans (hf6 z hz)
    clear hc49
    refine pw_nn (fun a53 hn_a53 => ?_)
    have lt_a53 := ((hB.1 220 fl_220) this a53 hn_a53).2.1
    have lb_a53 : la a53 = 10 := lk_220.mp ((hB.1 220 fl_220) this a53 hn_a53).2.2
    refine pw_b2 (fun c58_G141 c58_V0 hc58 => ?_)
    have hq58 := fr_X7_append la (va_up (va_up (va_up (va_up G 141 c24_G141) 141 c32_G141) 141 c40_G141) 141 c49_G141) P U (va_up (va_up (va_up (va_up V 0 c24_V0) 0 c32_V0) 0 c40_V0) 0 c49_V0) X O kd ln cnt a53 p4 hB _ hc58
    obtain ⟨q58_G141, q58_V0⟩ : (∀ z, (la z < la a53 ∨ la a53 + 1 < la z) → c58_G141 z = c49_G141 z) ∧ (∀ z, (la z < la a53 ∨ la a53 + 1 < la z) → c58_V0 z = c49_V0 z) := hq58
    have tz58 : ∀ z, ((la z < 10 ∨ 10 + 1 < la z)) → ((la z < la a53 ∨ la a53 + 1 < la z)) := fun z hz => by omega
    have hf9 : ∀ z, ((la z < 10 ∨ 10 + 1 < la z)) → c58_G141 z = (G 141) z := fun z hz => (q58_G141 z (tz58 z hz)).trans (hf7 z hz)
    have hf10 : ∀ z, ((la z < 10 ∨ 10 + 1 < la z)) → c58_V0 z = (V 0) z := fun z hz => (q58_V0 z (tz58 z hz)).trans (hf8 z hz)
    clear hc58
    refine pw_nn (fun a62 hn_a62 => ?_)
    have lt_a62 := ((hB.1 220 fl_220) this a62 hn_a62).2.1
    have lb_a62 : la a62 = 10 := lk_220.mp ((hB.1 220 fl_220) this a62 hn_a62).2.2
    exact pw_some ⟨hf9, hf10⟩
  · skip
    exact pw_some ⟨(fun _ _ => rfl), (fun _ _ => rfl)⟩
abbrev RF_X11_end (la : Nat → Nat) (G : Nat → Nat → Int32) (P : Nat → Nat → Option Nat) (U : Nat → Nat → Int64) (V : Nat → Nat → Nat → Int32) (X : Nat → Nat → Nat → Int64) (O : Nat → Nat → Nat → Option Nat) (kd : Nat → Nat) (ln : Nat → Nat) (cnt : Nat) (this : Nat) (p0 : Int32) : (Int32 × (Nat → Int32)) → Prop := fun t => (∀ z, ((la z < 10 ∨ 10 < la z)) → (t.2) z = (G 141) z)
set_option maxHeartbeats 4000000 in
set_option maxRecDepth 100000 in
theorem fr_X11_end (la : Nat → Nat) (G : Nat → Nat → Int32) (P : Nat → Nat → Option Nat) (U : Nat → Nat → Int64) (V : Nat → Nat → Nat → Int32) (X : Nat → Nat → Nat → Int64) (O : Nat → Nat → Nat → Option Nat) (kd : Nat → Nat) (ln : Nat → Nat) (cnt : Nat) (this : Nat) (p0 : Int32) (hB : LB la cnt P) (hp0 : la this = 200) : pw (f_X11_end G P U V X O kd ln cnt this p0) (RF_X11_end la G P U V X O kd ln cnt this p0) := by
  unfold f_X11_end
  refine pw_jn (fun j15 => pw (j15 ()) (RF_X11_end la G P U V X O kd ln cnt this p0)) ?_ ?_
  · show pw _ _
    exact pw_some (fun _ _ => rfl)
  intro j15 Jj15
  refine pw_ite (fun _ => ?_) (fun _ => ?_)
  · skip
    exact Jj15
  · skip
    refine pw_nn (fun a6 hn_a6 => ?_)
    have lt_a6 := ((hB.1 220 fl_220) this a6 hn_a6).2.1
    have lb_a6 : la a6 = 10 := lk_220.mp ((hB.1 220 fl_220) this a6 hn_a6).2.2
    refine pw_ite (fun _ => ?_) (fun _ => ?_)
    · skip
      refine pw_nn (fun a18 hn_a18 => ?_)
      have lt_a18 := ((hB.1 220 fl_220) this a18 hn_a18).2.1
      have lb_a18 : la a18 = 10 := lk_220.mp ((hB.1 220 fl_220) this a18 hn_a18).2.2
      refine pw_vl (fun m22 em22 => ?_)
      have hf1 : ∀ z, ((la z < 10 ∨ 10 < la z)) → m22 z = (G 141) z := fr_up (e0 := (G 141)) (fun _ _ => rfl) em22 (show ¬ ((la a18 < 10 ∨ 10 < la a18)) from by omega)
      exact pw_some hf1
    · skip
      exact Jj15
