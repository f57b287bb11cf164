abbrev RF_X2_charge (la : Nat → Nat) (G : Nat → Nat → Int32) (P : Nat → Nat → Option Nat) (U : Nat → Nat → Int64) (V : Nat → Nat → Nat → Int32) (X : Nat → Nat → Nat → Int64) (O : Nat → Nat → Nat → Option Nat) (kd : Nat → Nat) (ln : Nat → Nat) (cnt : Nat) (this : Nat) (p0 : Int32) (p1 : Int32) : ((Nat → Nat → Int32)) → Prop := fun t => (∀ z, ((la z < la this ∨ la this < la z)) → t z = (V 7) z)
set_option maxHeartbeats 4000000 in
set_option maxRecDepth 100000 in
theorem fr_X2_charge (la : Nat → Nat) (G : Nat → Nat → Int32) (P : Nat → Nat → Option Nat) (U : Nat → Nat → Int64) (V : Nat → Nat → Nat → Int32) (X : Nat → Nat → Nat → Int64) (O : Nat → Nat → Nat → Option Nat) (kd : Nat → Nat) (ln : Nat → Nat) (cnt : Nat) (this : Nat) (p0 : Int32) (p1 : Int32) (hB : LB la cnt P) : pw (f_X2_charge G P U V X O kd ln cnt this p0 p1) (RF_X2_charge la G P U V X O kd ln cnt this p0 p1) := by
  unfold f_X2_charge
  refine pw_jn (fun j31 => ∀ (c31_V7 : Nat → Nat → Int32), (∀ z, ((la z < la this ∨ la this < la z)) → c31_V7 z = (V 7) z) → pw (j31 c31_V7) (RF_X2_charge la G P U V X O kd ln cnt this p0 p1)) ?_ ?_
  · intro c31_V7 hf1
    show pw _ _
    exact pw_some hf1
  intro j31 Jj31
  refine pw_ite (fun _ => ?_) (fun _ => ?_)
  · skip
    exact Jj31 (V 7) (fun _ _ => rfl)
  · skip
    refine pw_ite (fun _ => ?_) (fun _ => ?_)
    · skip
      exact Jj31 (V 7) (fun _ _ => rfl)
    · skip
      refine pw_nn (fun a17 hn_a17 => ?_)
      have lt_a17 := ((hB.1 40 fl_40) this a17 hn_a17).2.1
      have lb_a17 : la a17 = la this + 0 := lk_40.mp ((hB.1 40 fl_40) this a17 hn_a17).2.2
      refine pw_if (fun _ => ?_)
      refine pw_if (fun _ => ?_)
      refine pw_vl (fun m30 em30 => ?_)
      have hf2 : ∀ z, ((la z < la this ∨ la this < la z)) → m30 z = (V 7) z := fr_up (e0 := (V 7)) (fun _ _ => rfl) em30 (show ¬ ((la a17 < la this ∨ la this < la a17)) from by omega)
      exact Jj31 m30 hf2
abbrev RF_X11_chargeWord (la : Nat → Nat) (G : Nat → Nat → Int32) (P : Nat → Nat → Option Nat) (U : Nat → Nat → Int64) (V : Nat → Nat → Nat → Int32) (X : Nat → Nat → Nat → Int64) (O : Nat → Nat → Nat → Option Nat) (kd : Nat → Nat) (ln : Nat → Nat) (cnt : Nat) (this : Nat) : ((Nat → Nat → Int32)) → Prop := fun t => (∀ z, ((la z < 330 ∨ 330 < la z)) → t z = (V 7) z)
set_option maxHeartbeats 4000000 in
set_option maxRecDepth 100000 in
theorem fr_X11_chargeWord (la : Nat → Nat) (G : Nat → Nat → Int32) (P : Nat → Nat → Option Nat) (U : Nat → Nat → Int64) (V : Nat → Nat → Nat → Int32) (X : Nat → Nat → Nat → Int64) (O : Nat → Nat → Nat → Option Nat) (kd : Nat → Nat) (ln : Nat → Nat) (cnt : Nat) (this : Nat) (hB : LB la cnt P) (hp0 : la this = 200) : pw (f_X11_chargeWord G P U V X O kd ln cnt this) (RF_X11_chargeWord la G P U V X O kd ln cnt this) := by
  unfold f_X11_chargeWord
  have lp2 : ∀ (n2 : Nat) (y2_1 : Int32) (d2_V7 : Nat → Nat → Int32), (∀ z, ((la z < 330 ∨ 330 < la z)) → d2_V7 z = (V 7) z) → pw (L_X11_chargeWord_2 G P U V X O kd ln cnt this n2 y2_1 d2_V7) (RF_X11_chargeWord la G P U V X O kd ln cnt this) := by
    intro n2
    induction n2 with
    | zero => intros; exact pw_none
    | succ n2 ih2 =>
      intro y2_1 d2_V7 hf1
      show pw (B_X11_chargeWord_2 G P U V X O kd ln cnt this (L_X11_chargeWord_2 G P U V X O kd ln cnt this n2) y2_1 d2_V7) _
      unfold B_X11_chargeWord_2
      refine pw_ite (fun _ => ?_) (fun _ => ?_)
      · skip
        exact pw_some hf1
      · skip
        refine pw_nn (fun a11 hn_a11 => ?_)
        have lt_a11 := ((hB.1 229 fl_229) this a11 hn_a11).2.1
        have lb_a11 : la a11 = 70 := lk_229.mp ((hB.1 229 fl_229) this a11 hn_a11).2.2
        refine pw_nn (fun a16 hn_a16 => ?_)
        have lt_a16 := ((hB.1 220 fl_220) this a16 hn_a16).2.1
        have lb_a16 : la a16 = 10 := lk_220.mp ((hB.1 220 fl_220) this a16 hn_a16).2.2
        refine pw_nn (fun a19 hn_a19 => ?_)
        have lt_a19 := ((hB.1 140 fl_140) a16 a19 hn_a19).2.1
        have lb_a19 : la a19 = la a16 + 1 := lk_140.mp ((hB.1 140 fl_140) a16 a19 hn_a19).2.2
        refine pw_nn (fun a23 hn_a23 => ?_)
        have lt_a23 := ((hB.1 234 fl_234) this a23 hn_a23).2.1
        have lb_a23 : la a23 = 310 := lk_234.mp ((hB.1 234 fl_234) this a23 hn_a23).2.2
        refine pw_nn (fun a30 hn_a30 => ?_)
        have lt_a30 := ((hB.1 234 fl_234) this a30 hn_a30).2.1
        have lb_a30 : la a30 = 310 := lk_234.mp ((hB.1 234 fl_234) this a30 hn_a30).2.2
        refine pw_b1 (fun r36 hc36 => ?_)
        clear hc36
        refine pw_jn (fun j57 => ∀ (c57_V7 : Nat → Nat → Int32), (∀ z, ((la z < 330 ∨ 330 < la z)) → c57_V7 z = (V 7) z) → pw (j57 c57_V7) (RF_X11_chargeWord la G P U V X O kd ln cnt this)) ?_ ?_
        · intro c57_V7 hf2
          show pw _ _
          exact ih2 (y2_1 + 1) c57_V7 hf2
        intro j57 Jj57
        refine pw_ite (fun _ => ?_) (fun _ => ?_)
        · skip
          refine pw_nn (fun a43 hn_a43 => ?_)
          have lt_a43 := ((hB.1 236 fl_236) this a43 hn_a43).2.1
          have lb_a43 : la a43 = 330 := lk_236.mp ((hB.1 236 fl_236) this a43 hn_a43).2.2
          refine pw_nn (fun a47 hn_a47 => ?_)
          have lt_a47 := ((hB.1 234 fl_234) this a47 hn_a47).2.1
          have lb_a47 : la a47 = 310 := lk_234.mp ((hB.1 234 fl_234) this a47 hn_a47).2.2
          refine pw_b1 (fun c54_V7 hc54 => ?_)
          have hq54 := fr_X2_charge la G P U (va_up V 7 d2_V7) X O kd ln cnt a43 ((G 162) a47) y2_1 hB _ hc54
          have q54_V7 : (∀ z, (la z < la a43 ∨ la a43 < la z) → c54_V7 z = d2_V7 z) := hq54
          have tz54 : ∀ z, ((la z < 330 ∨ 330 < la z)) → ((la z < la a43 ∨ la a43 < la z)) := fun z hz => by omega
          have hf3 : ∀ z, ((la z < 330 ∨ 330 < la z)) → c54_V7 z = (V 7) z := fun z hz => (q54_V7 z (tz54 z hz)).trans (hf1 z hz)
          clear hc54 hq54
          exact Jj57 c54_V7 hf3
        · skip
          exact Jj57 d2_V7 hf1
  exact lp2 NN 0 (V 7) (fun _ _ => rfl)
abbrev RF_X11_learn (la : Nat → Nat) (G : Nat → Nat → Int32) (P : Nat → Nat → Option Nat) (U : Nat → Nat → Int64) (V : Nat → Nat → Nat → Int32) (X : Nat → Nat → Nat → Int64) (O : Nat → Nat → Nat → Option Nat) (kd : Nat → Nat) (ln : Nat → Nat) (cnt : Nat) (this : Nat) : (Int32 × (Nat → Int32) × (Nat → Int32) × (Nat → Nat → Int32) × (Nat → Nat → Int32)) → Prop := fun t => (∀ z, ((la z < 10 ∨ 10 < la z) ∧ (la z < 20 ∨ 20 < la z)) → (t.2.1) z = (G 141) z) ∧ (∀ z, ((la z < 10 ∨ 10 < la z) ∧ (la z < 20 ∨ 20 < la z)) → (t.2.2.1) z = (G 203) z) ∧ (∀ z, ((la z < 10 ∨ 10 < la z) ∧ (la z < 20 ∨ 20 < la z)) → (t.2.2.2.1) z = (V 0) z) ∧ (∀ z, ((la z < 10 ∨ 10 < la z) ∧ (la z < 20 ∨ 20 < la z)) → (t.2.2.2.2) z = (V 1) z)
set_option maxHeartbeats 4000000 in
set_option maxRecDepth 100000 in
theorem fr_X11_learn (la : Nat → Nat) (G : Nat → Nat → Int32) (P : Nat → Nat → Option Nat) (U : Nat → Nat → Int64) (V : Nat → Nat → Nat → Int32) (X : Nat → Nat → Nat → Int64) (O : Nat → Nat → Nat → Option Nat) (kd : Nat → Nat) (ln : Nat → Nat) (cnt : Nat) (this : Nat) (hB : LB la cnt P) (hp0 : la this = 200) : pw (f_X11_learn G P U V X O kd ln cnt this) (RF_X11_learn la G P U V X O kd ln cnt this) := by
  unfold f_X11_learn
  refine pw_nn (fun a1 hn_a1 => ?_)
  have lt_a1 := ((hB.1 220 fl_220) this a1 hn_a1).2.1
  have lb_a1 : la a1 = 10 := lk_220.mp ((hB.1 220 fl_220) this a1 hn_a1).2.2
  refine pw_b2 (fun r4 c4_G141 hc4 => ?_)
  have hq4 := fr_X7_take la G P U V X O kd ln cnt a1 hB _ hc4
  have q4_G141 : (∀ z, (la z < la a1 ∨ la a1 < la z) → c4_G141 z = (G 141) z) := hq4
  have tz4 : ∀ z, ((la z < 10 ∨ 10 < la z) ∧ (la z < 20 ∨ 20 < la z)) → ((la z < la a1 ∨ la a1 < la z)) := fun z hz => by omega
  have hf1 : ∀ z, ((la z < 10 ∨ 10 < la z) ∧ (la z < 20 ∨ 20 < la z)) → c4_G141 z = (G 141) z := fun z hz => (q4_G141 z (tz4 z hz)).trans (rfl)
  clear hc4 hq4
  refine pw_nn (fun a9 hn_a9 => ?_)
  have lt_a9 := ((hB.1 220 fl_220) this a9 hn_a9).2.1
  have lb_a9 : la a9 = 10 := lk_220.mp ((hB.1 220 fl_220) this a9 hn_a9).2.2
  refine pw_b1 (fun r13 hc13 => ?_)
  clear hc13
  refine pw_ite (fun _ => ?_) (fun _ => ?_)
  · skip
    exact pw_some ⟨hf1, (fun _ _ => rfl), (fun _ _ => rfl), (fun _ _ => rfl)⟩
  · skip
    refine pw_nn (fun a23 hn_a23 => ?_)
    have lt_a23 := ((hB.1 229 fl_229) this a23 hn_a23).2.1
    have lb_a23 : la a23 = 70 := lk_229.mp ((hB.1 229 fl_229) this a23 hn_a23).2.2
    refine pw_nn (fun a26 hn_a26 => ?_)
    have lt_a26 := ((hB.1 0 fl_0) a23 a26 hn_a26).2.1
    have lb_a26 : la a26 = 20 := lk_0.mp ((hB.1 0 fl_0) a23 a26 hn_a26).2.2
    refine pw_nn (fun a30 hn_a30 => ?_)
    have lt_a30 := ((hB.1 220 fl_220) this a30 hn_a30).2.1
    have lb_a30 : la a30 = 10 := lk_220.mp ((hB.1 220 fl_220) this a30 hn_a30).2.2
    refine pw_nn (fun a33 hn_a33 => ?_)
    have lt_a33 := ((hB.1 140 fl_140) a30 a33 hn_a33).2.1
    have lb_a33 : la a33 = la a30 + 1 := lk_140.mp ((hB.1 140 fl_140) a30 a33 hn_a33).2.2
    refine pw_b1 (fun r38 hc38 => ?_)
    clear hc38
    refine pw_ite (fun _ => ?_) (fun _ => ?_)
    · skip
      refine pw_nn (fun a50 hn_a50 => ?_)
      have lt_a50 := ((hB.1 229 fl_229) this a50 hn_a50).2.1
      have lb_a50 : la a50 = 70 := lk_229.mp ((hB.1 229 fl_229) this a50 hn_a50).2.2
      refine pw_nn (fun a53 hn_a53 => ?_)
      have lt_a53 := ((hB.1 0 fl_0) a50 a53 hn_a53).2.1
      have lb_a53 : la a53 = 20 := lk_0.mp ((hB.1 0 fl_0) a50 a53 hn_a53).2.2
      refine pw_b1 (fun r56 hc56 => ?_)
      clear hc56
      refine pw_ite (fun _ => ?_) (fun _ => ?_)
      · skip
        refine pw_nn (fun a66 hn_a66 => ?_)
        have lt_a66 := ((hB.1 229 fl_229) this a66 hn_a66).2.1
        have lb_a66 : la a66 = 70 := lk_229.mp ((hB.1 229 fl_229) this a66 hn_a66).2.2
        refine pw_nn (fun a69 hn_a69 => ?_)
        have lt_a69 := ((hB.1 0 fl_0) a66 a69 hn_a69).2.1
        have lb_a69 : la a69 = 20 := lk_0.mp ((hB.1 0 fl_0) a66 a69 hn_a69).2.2
        refine pw_nn (fun a73 hn_a73 => ?_)
        have lt_a73 := ((hB.1 220 fl_220) this a73 hn_a73).2.1
        have lb_a73 : la a73 = 10 := lk_220.mp ((hB.1 220 fl_220) this a73 hn_a73).2.2
        refine pw_nn (fun a76 hn_a76 => ?_)
        have lt_a76 := ((hB.1 140 fl_140) a73 a76 hn_a76).2.1
        have lb_a76 : la a76 = la a73 + 1 := lk_140.mp ((hB.1 140 fl_140) a73 a76 hn_a76).2.2
        refine pw_b3 (fun c81_G203 c81_V0 c81_V1 hc81 => ?_)
        have hq81 := fr_X10_add la (va_up G 141 c4_G141) P U V X O kd ln cnt a69 a76 (0 : Int32) r4 hB _ hc81
        obtain ⟨q81_G203, q81_V0, q81_V1⟩ : (∀ z, (la z < la a69 ∨ la a69 < la z) → c81_G203 z = (G 203) z) ∧ (∀ z, (la z < la a69 ∨ la a69 < la z) → c81_V0 z = (V 0) z) ∧ (∀ z, (la z < la a69 ∨ la a69 < la z) → c81_V1 z = (V 1) z) := hq81
        have tz81 : ∀ z, ((la z < 10 ∨ 10 < la z) ∧ (la z < 20 ∨ 20 < la z)) → ((la z < la a69 ∨ la a69 < la z)) := fun z hz => by omega
        have hf2 : ∀ z, ((la z < 10 ∨ 10 < la z) ∧ (la z < 20 ∨ 20 < la z)) → c81_G203 z = (G 203) z := fun z hz => (q81_G203 z (tz81 z hz)).trans (rfl)
        have hf3 : ∀ z, ((la z < 10 ∨ 10 < la z) ∧ (la z < 20 ∨ 20 < la z)) → c81_V0 z = (V 0) z := fun z hz => (q81_V0 z (tz81 z hz)).trans (rfl)
        have hf4 : ∀ z, ((la z < 10 ∨ 10 < la z) ∧ (la z < 20 ∨ 20 < la z)) → c81_V1 z = (V 1) z := fun z hz => (q81_V1 z (tz81 z hz)).trans (rfl)
        clear hc81
        refine pw_nn (fun a85 hn_a85 => ?_)
        have lt_a85 := ((hB.1 229 fl_229) this a85 hn_a85).2.1
        have lb_a85 : la a85 = 70 := lk_229.mp ((hB.1 229 fl_229) this a85 hn_a85).2.2
        refine pw_nn (fun a88 hn_a88 => ?_)
        have lt_a88 := ((hB.1 0 fl_0) a85 a88 hn_a88).2.1
        have lb_a88 : la a88 = 20 := lk_0.mp ((hB.1 0 fl_0) a85 a88 hn_a88).2.2
        exact pw_some ⟨hf1, hf2, hf3, hf4⟩
      · skip
        exact pw_some ⟨hf1, (fun _ _ => rfl), (fun _ _ => rfl), (fun _ _ => rfl)⟩
    · skip
      exact pw_some ⟨hf1, (fun _ _ => rfl), (fun _ _ => rfl), (fun _ _ => rfl)⟩
abbrev RF_X11_notePair (la : Nat → Nat) (G : Nat → Nat → Int32) (P : Nat → Nat → Option Nat) (U : Nat → Nat → Int64) (V : Nat → Nat → Nat → Int32) (X : Nat → Nat → Nat → Int64) (O : Nat → Nat → Nat → Option Nat) (kd : Nat → Nat) (ln : Nat → Nat) (cnt : Nat) (this : Nat) (p0 : Int32) : ((Nat → Int32) × (Nat → Nat → Int32)) → Prop := fun t => (∀ z, ((la z < la this ∨ la this + 3 < la z)) → (t.1) z = (G 233) z) ∧ (∀ z, ((la z < la this ∨ la this + 3 < la z)) → (t.2) z = (V 5) z)
set_option maxHeartbeats 4000000 in
set_option maxRecDepth 100000 in
theorem fr_X11_notePair (la : Nat → Nat) (G : Nat → Nat → Int32) (P : Nat → Nat → Option Nat) (U : Nat → Nat → Int64) (V : Nat → Nat → Nat → Int32) (X : Nat → Nat → Nat → Int64) (O : Nat → Nat → Nat → Option Nat) (kd : Nat → Nat) (ln : Nat → Nat) (cnt : Nat) (this : Nat) (p0 : Int32) (hB : LB la cnt P) (hp0 : la this = 200) : pw (f_X11_notePair G P U V X O kd ln cnt this p0) (RF_X11_notePair la G P U V X O kd ln cnt this p0) := by
  unfold f_X11_notePair
  refine pw_jn (fun j30 => ∀ (c30_G233 : Nat → Int32) (c30_V5 : Nat → Nat → Int32), (∀ z, ((la z < la this ∨ la this + 3 < la z)) → c30_G233 z = (G 233) z) → (∀ z, ((la z < la this ∨ la this + 3 < la z)) → c30_V5 z = (V 5) z) → pw (j30 c30_G233 c30_V5) (RF_X11_notePair la G P U V X O kd ln cnt this p0)) ?_ ?_
  · intro c30_G233 c30_V5 hf1 hf2
    show pw _ _
    exact pw_some ⟨hf1, hf2⟩
  intro j30 Jj30
  refine pw_ite (fun _ => ?_) (fun _ => ?_)
  · skip
    exact Jj30 (G 233) (V 5) (fun _ _ => rfl) (fun _ _ => rfl)
  · skip
    refine pw_nn (fun a11 hn_a11 => ?_)
    have lt_a11 := ((hB.1 232 fl_232) this a11 hn_a11).2.1
    have lb_a11 : la a11 = la this + 2 := lk_232.mp ((hB.1 232 fl_232) this a11 hn_a11).2.2
    refine pw_if (fun _ => ?_)
    refine pw_vl (fun m19 em19 => ?_)
    have hf3 : ∀ z, ((la z < la this ∨ la this + 3 < la z)) → m19 z = (V 5) z := fr_up (e0 := (V 5)) (fun _ _ => rfl) em19 (show ¬ ((la a11 < la this ∨ la this + 3 < la a11)) from by omega)
    refine pw_vl (fun x27 _ => ?_)
    refine pw_vl (fun m27 em27 => ?_)
    have hf4 : ∀ z, ((la z < la this ∨ la this + 3 < la z)) → m27 z = (G 233) z := fr_up (e0 := (G 233)) (fun _ _ => rfl) em27 (show ¬ ((la this < la this ∨ la this + 3 < la this)) from by omega)
    exact Jj30 m27 m19 hf4 hf3
abbrev RF_J7_fill_53178_107 (la : Nat → Nat) (G : Nat → Nat → Int32) (P : Nat → Nat → Option Nat) (U : Nat → Nat → Int64) (V : Nat → Nat → Nat → Int32) (X : Nat → Nat → Nat → Int64) (O : Nat → Nat → Nat → Option Nat) (kd : Nat → Nat) (ln : Nat → Nat) (cnt : Nat) (p0 : Nat) (p1 : Int32) : ((Nat → Nat → Int32)) → Prop := fun t => (∀ z, ((la z < la p0 ∨ la p0 < la z)) → t z = (V 7) z)
set_option maxHeartbeats 4000000 in
set_option maxRecDepth 100000 in
theorem fr_J7_fill_53178_107 (la : Nat → Nat) (G : Nat → Nat → Int32) (P : Nat → Nat → Option Nat) (U : Nat → Nat → Int64) (V : Nat → Nat → Nat → Int32) (X : Nat → Nat → Nat → Int64) (O : Nat → Nat → Nat → Option Nat) (kd : Nat → Nat) (ln : Nat → Nat) (cnt : Nat) (p0 : Nat) (p1 : Int32) (hB : LB la cnt P) : pw (f_J7_fill_53178_107 G P U V X O kd ln cnt p0 p1) (RF_J7_fill_53178_107 la G P U V X O kd ln cnt p0 p1) := by
  unfold f_J7_fill_53178_107
  refine pw_vl (fun x4 _ => ?_)
  have lp5 : ∀ (n5 : Nat) (y5_2 : Int32) (d5_V7 : Nat → Nat → Int32), (∀ z, ((la z < la p0 ∨ la p0 < la z)) → d5_V7 z = (V 7) z) → pw (L_J7_fill_53178_107_5 ln p0 p1 x4 n5 y5_2 d5_V7) (RF_J7_fill_53178_107 la G P U V X O kd ln cnt p0 p1) := by
    intro n5
    induction n5 with
    | zero => intros; exact pw_none
    | succ n5 ih5 =>
      intro y5_2 d5_V7 hf1
      show pw (B_J7_fill_53178_107_5 ln p0 p1 x4 (L_J7_fill_53178_107_5 ln p0 p1 x4 n5) y5_2 d5_V7) _
      unfold B_J7_fill_53178_107_5
      refine pw_ite (fun _ => ?_) (fun _ => ?_)
      · skip
        exact pw_some hf1
      · skip
        refine pw_if (fun _ => ?_)
        refine pw_vl (fun m13 em13 => ?_)
        have hf2 : ∀ z, ((la z < la p0 ∨ la p0 < la z)) → m13 z = (V 7) z := fr_up (e0 := (V 7)) hf1 em13 (show ¬ ((la p0 < la p0 ∨ la p0 < la p0)) from by omega)
        exact ih5 (y5_2 + 1) m13 hf2
  exact lp5 NN 0 (V 7) (fun _ _ => rfl)
abbrev RF_X2_begin (la : Nat → Nat) (G : Nat → Nat → Int32) (P : Nat → Nat → Option Nat) (U : Nat → Nat → Int64) (V : Nat → Nat → Nat → Int32) (X : Nat → Nat → Nat → Int64) (O : Nat → Nat → Nat → Option Nat) (kd : Nat → Nat) (ln : Nat → Nat) (cnt : Nat) (this : Nat) (p0 : Int32) (p1 : Int32) : ((Nat → Int32) × (Nat → Int32) × (Nat → Nat → Int32)) → Prop := fun t => (∀ z, ((la z < la this ∨ la this < la z)) → (t.1) z = (G 44) z) ∧ (∀ z, ((la z < la this ∨ la this < la z)) → (t.2.1) z = (G 45) z) ∧ (∀ z, ((la z < la this ∨ la this < la z)) → (t.2.2) z = (V 7) z)
set_option maxHeartbeats 4000000 in
set_option maxRecDepth 100000 in
theorem fr_X2_begin (la : Nat → Nat) (G : Nat → Nat → Int32) (P : Nat → Nat → Option Nat) (U : Nat → Nat → Int64) (V : Nat → Nat → Nat → Int32) (X : Nat → Nat → Nat → Int64) (O : Nat → Nat → Nat → Option Nat) (kd : Nat → Nat) (ln : Nat → Nat) (cnt : Nat) (this : Nat) (p0 : Int32) (p1 : Int32) (hB : LB la cnt P) : pw (f_X2_begin G P U V X O kd ln cnt this p0 p1) (RF_X2_begin la G P U V X O kd ln cnt this p0 p1) := by
  unfold f_X2_begin
  refine pw_vl (fun x7 _ => ?_)
  refine pw_vl (fun m7 em7 => ?_)
  have hf1 : ∀ z, ((la z < la this ∨ la this < la z)) → m7 z = (G 44) z := fr_up (e0 := (G 44)) (fun _ _ => rfl) em7 (show ¬ ((la this < la this ∨ la this < la this)) from by omega)
  refine pw_vl (fun x17 _ => ?_)
  refine pw_vl (fun m17 em17 => ?_)
  have hf2 : ∀ z, ((la z < la this ∨ la this < la z)) → m17 z = (G 45) z := fr_up (e0 := (G 45)) (fun _ _ => rfl) em17 (show ¬ ((la this < la this ∨ la this < la this)) from by omega)
  refine pw_nn (fun a21 hn_a21 => ?_)
  have lt_a21 := ((hB.1 40 fl_40) this a21 hn_a21).2.1
  have lb_a21 : la a21 = la this + 0 := lk_40.mp ((hB.1 40 fl_40) this a21 hn_a21).2.2
  refine pw_b1 (fun c25_V7 hc25 => ?_)
  have hq25 := fr_J7_fill_53178_107 la (va_up (va_up G 44 m7) 45 m17) P U V X O kd ln cnt a21 (0 : Int32) hB _ hc25
  have q25_V7 : (∀ z, (la z < la a21 ∨ la a21 < la z) → c25_V7 z = (V 7) z) := hq25
  have tz25 : ∀ z, ((la z < la this ∨ la this < la z)) → ((la z < la a21 ∨ la a21 < la z)) := fun z hz => by omega
  have hf3 : ∀ z, ((la z < la this ∨ la this < la z)) → c25_V7 z = (V 7) z := fun z hz => (q25_V7 z (tz25 z hz)).trans (rfl)
  clear hc25 hq25
  exact pw_some ⟨hf1, hf2, hf3⟩
abbrev RF_X2_settle (la : Nat → Nat) (G : Nat → Nat → Int32) (P : Nat → Nat → Option Nat) (U : Nat → Nat → Int64) (V : Nat → Nat → Nat → Int32) (X : Nat → Nat → Nat → Int64) (O : Nat → Nat → Nat → Option Nat) (kd : Nat → Nat) (ln : Nat → Nat) (cnt : Nat) (this : Nat) (p0 : Int32) : (Int32 × (Nat → Int32) × (Nat → Nat → Int32) × (Nat → Nat → Int32)) → Prop := fun t => (∀ z, ((la z < la this ∨ la this < la z)) → (t.2.1) z = (G 43) z) ∧ (∀ z, ((la z < la this ∨ la this < la z)) → (t.2.2.1) z = (V 8) z) ∧ (∀ z, ((la z < la this ∨ la this < la z)) → (t.2.2.2) z = (V 9) z)
set_option maxHeartbeats 4000000 in
set_option maxRecDepth 100000 in
theorem fr_X2_settle (la : Nat → Nat) (G : Nat → Nat → Int32) (P : Nat → Nat → Option Nat) (U : Nat → Nat → Int64) (V : Nat → Nat → Nat → Int32) (X : Nat → Nat → Nat → Int64) (O : Nat → Nat → Nat → Option Nat) (kd : Nat → Nat) (ln : Nat → Nat) (cnt : Nat) (this : Nat) (p0 : Int32) (hB : LB la cnt P) : pw (f_X2_settle G P U V X O kd ln cnt this p0) (RF_X2_settle la G P U V X O kd ln cnt this p0) := by
  unfold f_X2_settle
  refine pw_vl (fun x6 _ => ?_)
  refine pw_jn (fun k92 => ∀ (c92_V8 : Nat → Nat → Int32), (∀ z, ((la z < la this ∨ la this < la z)) → c92_V8 z = (V 8) z) → pw (k92 c92_V8) (RF_X2_settle la G P U V X O kd ln cnt this p0)) ?_ ?_
  · intro c92_V8 hf1
    show pw _ _
    refine pw_jn (fun k125 => ∀ (c125_V9 : Nat → Nat → Int32), (∀ z, ((la z < la this ∨ la this < la z)) → c125_V9 z = (V 9) z) → pw (k125 c125_V9) (RF_X2_settle la G P U V X O kd ln cnt this p0)) ?_ ?_
    · intro c125_V9 hf2
      show pw _ _
      refine pw_vl (fun x130 _ => ?_)
      refine pw_vl (fun m130 em130 => ?_)
      have hf3 : ∀ z, ((la z < la this ∨ la this < la z)) → m130 z = (G 43) z := fr_up (e0 := (G 43)) (fun _ _ => rfl) em130 (show ¬ ((la this < la this ∨ la this < la this)) from by omega)
      refine pw_nn (fun a136 hn_a136 => ?_)
      have lt_a136 := ((hB.1 42 fl_42) this a136 hn_a136).2.1
      have lb_a136 : la a136 = la this + 0 := lk_42.mp ((hB.1 42 fl_42) this a136 hn_a136).2.2
      refine pw_if (fun _ => ?_)
      refine pw_b1 (fun r143 hc143 => ?_)
      clear hc143
      exact pw_some ⟨hf3, hf1, hf2⟩
    intro k125 Jk125
    have lp96 : ∀ (n96 : Nat) (y96_2 : Int32) (y96_3 : Int32) (d96_V9 : Nat → Nat → Int32), (∀ z, ((la z < la this ∨ la this < la z)) → d96_V9 z = (V 9) z) → pw (L_X2_settle_96 G P U V X O kd ln cnt this p0 c92_V8 k125 n96 y96_2 y96_3 d96_V9) (RF_X2_settle la G P U V X O kd ln cnt this p0) := by
      intro n96
      induction n96 with
      | zero => intros; exact pw_none
      | succ n96 ih96 =>
        intro y96_2 y96_3 d96_V9 hf4
        show pw (B_X2_settle_96 G P U V X O kd ln cnt this p0 c92_V8 k125 (L_X2_settle_96 G P U V X O kd ln cnt this p0 c92_V8 k125 n96) y96_2 y96_3 d96_V9) _
        unfold B_X2_settle_96
        refine pw_ite (fun _ => ?_) (fun _ => ?_)
        · skip
          exact Jk125 d96_V9 hf4
        · skip
          refine pw_b1 (fun r108 hc108 => ?_)
          clear hc108
          refine pw_nn (fun a113 hn_a113 => ?_)
          have lt_a113 := ((hB.1 42 fl_42) this a113 hn_a113).2.1
          have lb_a113 : la a113 = la this + 0 := lk_42.mp ((hB.1 42 fl_42) this a113 hn_a113).2.2
          refine pw_if (fun _ => ?_)
          refine pw_vl (fun m118 em118 => ?_)
          have hf5 : ∀ z, ((la z < la this ∨ la this < la z)) → m118 z = (V 9) z := fr_up (e0 := (V 9)) hf4 em118 (show ¬ ((la a113 < la this ∨ la this < la a113)) from by omega)
          exact ih96 r108 (y96_3 + 1) m118 hf5
    exact lp96 NN (-1) 0 (V 9) (fun _ _ => rfl)
  intro k92 Jk92
  have lp7 : ∀ (n7 : Nat) (y7_2 : Int32) (d7_V8 : Nat → Nat → Int32), (∀ z, ((la z < la this ∨ la this < la z)) → d7_V8 z = (V 8) z) → pw (L_X2_settle_7 G P U V X O kd ln cnt this p0 k92 n7 y7_2 d7_V8) (RF_X2_settle la G P U V X O kd ln cnt this p0) := by
    intro n7
    induction n7 with
    | zero => intros; exact pw_none
    | succ n7 ih7 =>
      intro y7_2 d7_V8 hf6
      show pw (B_X2_settle_7 G P U V X O kd ln cnt this p0 k92 (L_X2_settle_7 G P U V X O kd ln cnt this p0 k92 n7) y7_2 d7_V8) _
      unfold B_X2_settle_7
      refine pw_ite (fun _ => ?_) (fun _ => ?_)
      · skip
        exact Jk92 d7_V8 hf6
      · skip
        refine pw_jn (fun k86 => ∀ (c86_V8 : Nat → Nat → Int32), (∀ z, ((la z < la this ∨ la this < la z)) → c86_V8 z = (V 8) z) → pw (k86 c86_V8) (RF_X2_settle la G P U V X O kd ln cnt this p0)) ?_ ?_
        · intro c86_V8 hf7
          show pw _ _
          exact ih7 (y7_2 + (-1)) c86_V8 hf7
        intro k86 Jk86
        have lp13 : ∀ (n13 : Nat) (y13_3 : Int32) (d13_V8 : Nat → Nat → Int32), (∀ z, ((la z < la this ∨ la this < la z)) → d13_V8 z = (V 8) z) → pw (L_X2_settle_13 G P U V X O kd ln cnt this p0 y7_2 k86 n13 y13_3 d13_V8) (RF_X2_settle la G P U V X O kd ln cnt this p0) := by
          intro n13
          induction n13 with
          | zero => intros; exact pw_none
          | succ n13 ih13 =>
            intro y13_3 d13_V8 hf8
            show pw (B_X2_settle_13 G P U V X O kd ln cnt this p0 y7_2 k86 (L_X2_settle_13 G P U V X O kd ln cnt this p0 y7_2 k86 n13) y13_3 d13_V8) _
            unfold B_X2_settle_13
            refine pw_ite (fun _ => ?_) (fun _ => ?_)
            · skip
              exact Jk86 d13_V8 hf8
            · skip
              refine pw_jn (fun j53 => ∀ (t53_0 : Int32), pw (j53 t53_0) (RF_X2_settle la G P U V X O kd ln cnt this p0)) ?_ ?_
              · intro t53_0
                show pw _ _
                refine pw_nn (fun a56 hn_a56 => ?_)
                have lt_a56 := ((hB.1 41 fl_41) this a56 hn_a56).2.1
                have lb_a56 : la a56 = la this + 0 := lk_41.mp ((hB.1 41 fl_41) this a56 hn_a56).2.2
                refine pw_nn (fun a66 hn_a66 => ?_)
                have lt_a66 := ((hB.1 40 fl_40) this a66 hn_a66).2.1
                have lb_a66 : la a66 = la this + 0 := lk_40.mp ((hB.1 40 fl_40) this a66 hn_a66).2.2
                refine pw_if (fun _ => ?_)
                refine pw_if (fun _ => ?_)
                refine pw_vl (fun m79 em79 => ?_)
                have hf9 : ∀ z, ((la z < la this ∨ la this < la z)) → m79 z = (V 8) z := fr_up (e0 := (V 8)) hf8 em79 (show ¬ ((la a56 < la this ∨ la this < la a56)) from by omega)
                exact ih13 (y13_3 + 1) m79 hf9
              intro j53 Jj53
              refine pw_ite (fun _ => ?_) (fun _ => ?_)
              · skip
                exact Jj53 0
              · skip
                refine pw_b1 (fun r41 hc41 => ?_)
                clear hc41
                refine pw_b1 (fun r46 hc46 => ?_)
                clear hc46
                exact Jj53 r46
        exact lp13 NN 0 d7_V8 hf6
  exact lp7 NN x6 (V 8) (fun _ _ => rfl)
