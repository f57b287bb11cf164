abbrev RF_J7_fill_eb02e (la : Nat → Nat) (G : Nat → Nat → Int32) (P : Nat → Nat → Option Nat) (U : Nat → Nat → Int64) (V : Nat → Nat → Nat → Int32) (X : Nat → Nat → Nat → Int64) (O : Nat → Nat → Nat → Option Nat) (kd : Nat → Nat) (ln : Nat → Nat) (cnt : Nat) (p0 : Nat) (p1 : Int32) (p2 : Int32) (p3 : Int32) : ((Nat → Nat → Int32)) → Prop := fun t => (∀ z, ((la z < la p0 ∨ la p0 < la z)) → t z = (V 0) z)
set_option maxHeartbeats 4000000 in
set_option maxRecDepth 100000 in
theorem fr_J7_fill_eb02e (la : Nat → Nat) (G : Nat → Nat → Int32) (P : Nat → Nat → Option Nat) (U : Nat → Nat → Int64) (V : Nat → Nat → Nat → Int32) (X : Nat → Nat → Nat → Int64) (O : Nat → Nat → Nat → Option Nat) (kd : Nat → Nat) (ln : Nat → Nat) (cnt : Nat) (p0 : Nat) (p1 : Int32) (p2 : Int32) (p3 : Int32) (hB : LB la cnt P) : pw (f_J7_fill_eb02e G P U V X O kd ln cnt p0 p1 p2 p3) (RF_J7_fill_eb02e la G P U V X O kd ln cnt p0 p1 p2 p3) := by
  unfold f_J7_fill_eb02e
  refine pw_b0 (fun u4 hc4 => ?_)
  clear hc4
  have lp10 : ∀ (n10 : Nat) (y10_4 : Int32) (d10_V0 : Nat → Nat → Int32), (∀ z, ((la z < la p0 ∨ la p0 < la z)) → d10_V0 z = (V 0) z) → pw (L_J7_fill_eb02e_10 ln p0 p2 p3 n10 y10_4 d10_V0) (RF_J7_fill_eb02e la G P U V X O kd ln cnt p0 p1 p2 p3) := by
    intro n10
    induction n10 with
    | zero => intros; exact pw_none
    | succ n10 ih10 =>
      intro y10_4 d10_V0 hf1
      show pw (B_J7_fill_eb02e_10 ln p0 p2 p3 (L_J7_fill_eb02e_10 ln p0 p2 p3 n10) y10_4 d10_V0) _
      unfold B_J7_fill_eb02e_10
      refine pw_ite (fun _ => ?_) (fun _ => ?_)
      · skip
        exact pw_some hf1
      · skip
        refine pw_if (fun _ => ?_)
        refine pw_vl (fun m20 em20 => ?_)
        have hf2 : ∀ z, ((la z < la p0 ∨ la p0 < la z)) → m20 z = (V 0) z := fr_up (e0 := (V 0)) hf1 em20 (show ¬ ((la p0 < la p0 ∨ la p0 < la p0)) from by omega)
        exact ih10 (y10_4 + 1) m20 hf2
  exact lp10 NN p1 (V 0) (fun _ _ => rfl)
abbrev RF_X3_markFitting (la : Nat → Nat) (G : Nat → Nat → Int32) (P : Nat → Nat → Option Nat) (U : Nat → Nat → Int64) (V : Nat → Nat → Nat → Int32) (X : Nat → Nat → Nat → Int64) (O : Nat → Nat → Nat → Option Nat) (kd : Nat → Nat) (ln : Nat → Nat) (cnt : Nat) (this : Nat) (p0 : Nat) (p1 : Int32) (p2 : Int32) (p3 : Int32) : ((Nat → Nat → Int32) × (Nat → Nat → Int32)) → Prop := fun t => (∀ z, ((la z < la this ∨ la this + 2 < la z)) → (t.1) z = (V 0) z) ∧ (∀ z, ((la z < la this ∨ la this + 2 < la z)) → (t.2) z = (V 12) z)
set_option maxHeartbeats 4000000 in
set_option maxRecDepth 100000 in
theorem fr_X3_markFitting (la : Nat → Nat) (G : Nat → Nat → Int32) (P : Nat → Nat → Option Nat) (U : Nat → Nat → Int64) (V : Nat → Nat → Nat → Int32) (X : Nat → Nat → Nat → Int64) (O : Nat → Nat → Nat → Option Nat) (kd : Nat → Nat) (ln : Nat → Nat) (cnt : Nat) (this : Nat) (p0 : Nat) (p1 : Int32) (p2 : Int32) (p3 : Int32) (hB : LB la cnt P) : pw (f_X3_markFitting G P U V X O kd ln cnt this p0 p1 p2 p3) (RF_X3_markFitting la G P U V X O kd ln cnt this p0 p1 p2 p3) := by
  unfold f_X3_markFitting
  refine pw_nn (fun a1 hn_a1 => ?_)
  have lt_a1 := ((hB.1 64 fl_64) this a1 hn_a1).2.1
  have lb_a1 : la a1 = la this + 0 := lk_64.mp ((hB.1 64 fl_64) this a1 hn_a1).2.2
  refine pw_if (fun _ => ?_)
  refine pw_vl (fun m6 em6 => ?_)
  have hf1 : ∀ z, ((la z < la this ∨ la this + 2 < la z)) → m6 z = (V 12) z := fr_up (e0 := (V 12)) (fun _ _ => rfl) em6 (show ¬ ((la a1 < la this ∨ la this + 2 < la a1)) from by omega)
  refine pw_nn (fun a8 hn_a8 => ?_)
  have lt_a8 := ((hB.1 63 fl_63) this a8 hn_a8).2.1
  have lb_a8 : la a8 = la this + 1 := lk_63.mp ((hB.1 63 fl_63) this a8 hn_a8).2.2
  refine pw_b1 (fun c23_V0 hc23 => ?_)
  have hq23 := fr_J7_fill_eb02e la G P U (va_up V 12 m6) X O kd ln cnt a8 (p2 * 17) ((p2 * 17) + 17) (-1 : Int32) hB _ hc23
  have q23_V0 : (∀ z, (la z < la a8 ∨ la a8 < la z) → c23_V0 z = (V 0) z) := hq23
  have tz23 : ∀ z, ((la z < la this ∨ la this + 2 < la z)) → ((la z < la a8 ∨ la a8 < la z)) := fun z hz => by omega
  have hf2 : ∀ z, ((la z < la this ∨ la this + 2 < la z)) → c23_V0 z = (V 0) z := fun z hz => (q23_V0 z (tz23 z hz)).trans (rfl)
  clear hc23 hq23
  have lp29 : ∀ (n29 : Nat) (y29_5 : Int32) (d29_V0 : Nat → Nat → Int32) (d29_V12 : Nat → Nat → Int32), (∀ z, ((la z < la this ∨ la this + 2 < la z)) → d29_V0 z = (V 0) z) → (∀ z, ((la z < la this ∨ la this + 2 < la z)) → d29_V12 z = (V 12) z) → pw (L_X3_markFitting_29 G P U V X O kd ln cnt this p0 p1 p2 p3 n29 y29_5 d29_V0 d29_V12) (RF_X3_markFitting la G P U V X O kd ln cnt this p0 p1 p2 p3) := by
    intro n29
    induction n29 with
    | zero => intros; exact pw_none
    | succ n29 ih29 =>
      intro y29_5 d29_V0 d29_V12 hf3 hf4
      show pw (B_X3_markFitting_29 G P U V X O kd ln cnt this p0 p1 p2 p3 (L_X3_markFitting_29 G P U V X O kd ln cnt this p0 p1 p2 p3 n29) y29_5 d29_V0 d29_V12) _
      unfold B_X3_markFitting_29
      refine pw_nn (fun a32 hn_a32 => ?_)
      obtain ⟨_, lt_a32, lb_a32⟩ := (hB.1 66 fl_66) this a32 hn_a32
      refine pw_ite (fun _ => ?_) (fun _ => ?_)
      · skip
        exact pw_some ⟨hf3, hf4⟩
      · skip
        refine pw_nn (fun a43 hn_a43 => ?_)
        obtain ⟨_, lt_a43, lb_a43⟩ := (hB.1 66 fl_66) this a43 hn_a43
        refine pw_nn (fun a46 hn_a46 => ?_)
        have lt_a46 := ((hB.1 202 fl_202) a43 a46 hn_a46).2.1
        have lb_a46 : la a46 = la a43 + 0 := lk_202.mp ((hB.1 202 fl_202) a43 a46 hn_a46).2.2
        refine pw_if (fun _ => ?_)
        refine pw_vl (fun x53 _ => ?_)
        refine pw_jn (fun j118 => ∀ (c118_V0 : Nat → Nat → Int32) (c118_V12 : Nat → Nat → Int32), (∀ z, ((la z < la this ∨ la this + 2 < la z)) → c118_V0 z = (V 0) z) → (∀ z, ((la z < la this ∨ la this + 2 < la z)) → c118_V12 z = (V 12) z) → pw (j118 c118_V0 c118_V12) (RF_X3_markFitting la G P U V X O kd ln cnt this p0 p1 p2 p3)) ?_ ?_
        · intro c118_V0 c118_V12 hf5 hf6
          show pw _ _
          exact ih29 (y29_5 + 1) c118_V0 c118_V12 hf5 hf6
        intro j118 Jj118
        refine pw_ite (fun _ => ?_) (fun _ => ?_)
        · skip
          exact Jj118 d29_V0 d29_V12 hf3 hf4
        · skip
          refine pw_nn (fun a63 hn_a63 => ?_)
          have lt_a63 := ((hB.1 64 fl_64) this a63 hn_a63).2.1
          have lb_a63 : la a63 = la this + 0 := lk_64.mp ((hB.1 64 fl_64) this a63 hn_a63).2.2
          refine pw_if (fun _ => ?_)
          refine pw_ite (fun _ => ?_) (fun _ => ?_)
          · skip
            exact Jj118 d29_V0 d29_V12 hf3 hf4
          · skip
            refine pw_nn (fun a73 hn_a73 => ?_)
            obtain ⟨_, lt_a73, lb_a73⟩ := (hB.1 66 fl_66) this a73 hn_a73
            refine pw_b1 (fun r82 hc82 => ?_)
            clear hc82
            refine pw_ite (fun _ => ?_) (fun _ => ?_)
            · skip
              exact Jj118 d29_V0 d29_V12 hf3 hf4
            · skip
              refine pw_nn (fun a89 hn_a89 => ?_)
              have lt_a89 := ((hB.1 63 fl_63) this a89 hn_a89).2.1
              have lb_a89 : la a89 = la this + 1 := lk_63.mp ((hB.1 63 fl_63) this a89 hn_a89).2.2
              refine pw_nn (fun a97 hn_a97 => ?_)
              obtain ⟨_, lt_a97, lb_a97⟩ := (hB.1 66 fl_66) this a97 hn_a97
              refine pw_nn (fun a100 hn_a100 => ?_)
              have lt_a100 := ((hB.1 202 fl_202) a97 a100 hn_a100).2.1
              have lb_a100 : la a100 = la a97 + 0 := lk_202.mp ((hB.1 202 fl_202) a97 a100 hn_a100).2.2
              refine pw_if (fun _ => ?_)
              refine pw_if (fun _ => ?_)
              refine pw_vl (fun m110 em110 => ?_)
              have hf7 : ∀ z, ((la z < la this ∨ la this + 2 < la z)) → m110 z = (V 0) z := fr_up (e0 := (V 0)) hf3 em110 (show ¬ ((la a89 < la this ∨ la this + 2 < la a89)) from by omega)
              refine pw_nn (fun a112 hn_a112 => ?_)
              have lt_a112 := ((hB.1 64 fl_64) this a112 hn_a112).2.1
              have lb_a112 : la a112 = la this + 0 := lk_64.mp ((hB.1 64 fl_64) this a112 hn_a112).2.2
              refine pw_if (fun _ => ?_)
              refine pw_vl (fun m117 em117 => ?_)
              have hf8 : ∀ z, ((la z < la this ∨ la this + 2 < la z)) → m117 z = (V 12) z := fr_up (e0 := (V 12)) hf4 em117 (show ¬ ((la a112 < la this ∨ la this + 2 < la a112)) from by omega)
              exact Jj118 m110 m117 hf7 hf8
  exact lp29 NN 0 c23_V0 m6 hf2 hf1
abbrev RF_X3_note (la : Nat → Nat) (G : Nat → Nat → Int32) (P : Nat → Nat → Option Nat) (U : Nat → Nat → Int64) (V : Nat → Nat → Nat → Int32) (X : Nat → Nat → Nat → Int64) (O : Nat → Nat → Nat → Option Nat) (kd : Nat → Nat) (ln : Nat → Nat) (cnt : Nat) (this : Nat) (p0 : Int32) : ((Nat → Int32) × (Nat → Nat → Int32) × (Nat → Nat → Int32)) → Prop := fun t => (∀ z, ((la z < la this ∨ la this + 2 < la z)) → (t.1) z = (G 60) z) ∧ (∀ z, ((la z < la this ∨ la this + 2 < la z)) → (t.2.1) z = (V 0) z) ∧ (∀ z, ((la z < la this ∨ la this + 2 < la z)) → (t.2.2) z = (V 2) z)
set_option maxHeartbeats 4000000 in
set_option maxRecDepth 100000 in
theorem fr_X3_note (la : Nat → Nat) (G : Nat → Nat → Int32) (P : Nat → Nat → Option Nat) (U : Nat → Nat → Int64) (V : Nat → Nat → Nat → Int32) (X : Nat → Nat → Nat → Int64) (O : Nat → Nat → Nat → Option Nat) (kd : Nat → Nat) (ln : Nat → Nat) (cnt : Nat) (this : Nat) (p0 : Int32) (hB : LB la cnt P) : pw (f_X3_note G P U V X O kd ln cnt this p0) (RF_X3_note la G P U V X O kd ln cnt this p0) := by
  unfold f_X3_note
  refine pw_nn (fun a1 hn_a1 => ?_)
  have lt_a1 := ((hB.1 65 fl_65) this a1 hn_a1).2.1
  have lb_a1 : la a1 = la this + 2 := lk_65.mp ((hB.1 65 fl_65) this a1 hn_a1).2.2
  refine pw_nn (fun a6 hn_a6 => ?_)
  have lt_a6 := ((hB.1 62 fl_62) this a6 hn_a6).2.1
  have lb_a6 : la a6 = la this + 0 := lk_62.mp ((hB.1 62 fl_62) this a6 hn_a6).2.2
  refine pw_if (fun _ => ?_)
  refine pw_vl (fun m17 em17 => ?_)
  have hf1 : ∀ z, ((la z < la this ∨ la this + 2 < la z)) → m17 z = (V 0) z := fr_up (e0 := (V 0)) (fun _ _ => rfl) em17 (show ¬ ((la a6 < la this ∨ la this + 2 < la a6)) from by omega)
  refine pw_nn (fun a21 hn_a21 => ?_)
  have lt_a21 := ((hB.1 61 fl_61) this a21 hn_a21).2.1
  have lb_a21 : la a21 = la this + 0 := lk_61.mp ((hB.1 61 fl_61) this a21 hn_a21).2.2
  refine pw_if (fun _ => ?_)
  refine pw_vl (fun m29 em29 => ?_)
  have hf2 : ∀ z, ((la z < la this ∨ la this + 2 < la z)) → m29 z = (V 2) z := fr_up (e0 := (V 2)) (fun _ _ => rfl) em29 (show ¬ ((la a21 < la this ∨ la this + 2 < la a21)) from by omega)
  refine pw_vl (fun x37 _ => ?_)
  refine pw_vl (fun m37 em37 => ?_)
  have hf3 : ∀ z, ((la z < la this ∨ la this + 2 < la z)) → m37 z = (G 60) z := fr_up (e0 := (G 60)) (fun _ _ => rfl) em37 (show ¬ ((la this < la this ∨ la this + 2 < la this)) from by omega)
  exact pw_some ⟨hf3, hf1, hf2⟩
abbrev RF_X3_walk (la : Nat → Nat) (G : Nat → Nat → Int32) (P : Nat → Nat → Option Nat) (U : Nat → Nat → Int64) (V : Nat → Nat → Nat → Int32) (X : Nat → Nat → Nat → Int64) (O : Nat → Nat → Nat → Option Nat) (kd : Nat → Nat) (ln : Nat → Nat) (cnt : Nat) (this : Nat) (p0 : Int32) (p1 : Int32) (p2 : Int32) : ((Nat → Int32) × (Nat → Nat → Int32) × (Nat → Nat → Int32)) → Prop := fun t => (∀ z, ((la z < la this ∨ la this + 2 < la z)) → (t.1) z = (G 60) z) ∧ (∀ z, ((la z < la this ∨ la this + 2 < la z)) → (t.2.1) z = (V 0) z) ∧ (∀ z, ((la z < la this ∨ la this + 2 < la z)) → (t.2.2) z = (V 2) z)
set_option maxHeartbeats 4000000 in
set_option maxRecDepth 100000 in
theorem fr_X3_walk (dn : Nat) : ∀ (la : Nat → Nat) (G : Nat → Nat → Int32) (P : Nat → Nat → Option Nat) (U : Nat → Nat → Int64) (V : Nat → Nat → Nat → Int32) (X : Nat → Nat → Nat → Int64) (O : Nat → Nat → Nat → Option Nat) (kd : Nat → Nat) (ln : Nat → Nat) (cnt : Nat) (this : Nat) (p0 : Int32) (p1 : Int32) (p2 : Int32) (hB : LB la cnt P), pw (f_X3_walk dn G P U V X O kd ln cnt this p0 p1 p2) (RF_X3_walk la G P U V X O kd ln cnt this p0 p1 p2) := by
  induction dn with
  | zero => intros; exact pw_none
  | succ dn ihd =>
  intro la G P U V X O kd ln cnt this p0 p1 p2 hB
  show pw (F_X3_walk (f_X3_walk dn) G P U V X O kd ln cnt this p0 p1 p2) _
  unfold F_X3_walk
  refine pw_ite (fun _ => ?_) (fun _ => ?_)
  · skip
    refine pw_ite (fun _ => ?_) (fun _ => ?_)
    · skip
      refine pw_jn (fun k91 => ∀ (c91_G60 : Nat → Int32) (c91_V0 : Nat → Nat → Int32) (c91_V2 : Nat → Nat → Int32), (∀ z, ((la z < la this ∨ la this + 2 < la z)) → c91_G60 z = (G 60) z) → (∀ z, ((la z < la this ∨ la this + 2 < la z)) → c91_V0 z = (V 0) z) → (∀ z, ((la z < la this ∨ la this + 2 < la z)) → c91_V2 z = (V 2) z) → pw (k91 c91_G60 c91_V0 c91_V2) (RF_X3_walk la G P U V X O kd ln cnt this p0 p1 p2)) ?_ ?_
      · intro c91_G60 c91_V0 c91_V2 hf1 hf2 hf3
        show pw _ _
        exact pw_some ⟨hf1, hf2, hf3⟩
      intro k91 Jk91
      have lp24 : ∀ (n24 : Nat) (y24_4 : Int32) (d24_G60 : Nat → Int32) (d24_V0 : Nat → Nat → Int32) (d24_V2 : Nat → Nat → Int32), (∀ z, ((la z < la this ∨ la this + 2 < la z)) → d24_G60 z = (G 60) z) → (∀ z, ((la z < la this ∨ la this + 2 < la z)) → d24_V0 z = (V 0) z) → (∀ z, ((la z < la this ∨ la this + 2 < la z)) → d24_V2 z = (V 2) z) → pw (L_X3_walk_24 (f_X3_walk dn) G P U V X O kd ln cnt this p0 p1 p2 k91 n24 y24_4 d24_G60 d24_V0 d24_V2) (RF_X3_walk la G P U V X O kd ln cnt this p0 p1 p2) := by
        intro n24
        induction n24 with
        | zero => intros; exact pw_none
        | succ n24 ih24 =>
          intro y24_4 d24_G60 d24_V0 d24_V2 hf4 hf5 hf6
          show pw (B_X3_walk_24 (f_X3_walk dn) G P U V X O kd ln cnt this p0 p1 p2 k91 (L_X3_walk_24 (f_X3_walk dn) G P U V X O kd ln cnt this p0 p1 p2 k91 n24) y24_4 d24_G60 d24_V0 d24_V2) _
          unfold B_X3_walk_24
          refine pw_ite (fun _ => ?_) (fun _ => ?_)
          · skip
            exact Jk91 d24_G60 d24_V0 d24_V2 hf4 hf5 hf6
          · skip
            refine pw_ite (fun _ => ?_) (fun _ => ?_)
            · skip
              exact Jk91 d24_G60 d24_V0 d24_V2 hf4 hf5 hf6
            · skip
              refine pw_ite (fun _ => ?_) (fun _ => ?_)
              · skip
                exact Jk91 d24_G60 d24_V0 d24_V2 hf4 hf5 hf6
              · skip
                refine pw_nn (fun a46 hn_a46 => ?_)
                have lt_a46 := ((hB.1 63 fl_63) this a46 hn_a46).2.1
                have lb_a46 : la a46 = la this + 1 := lk_63.mp ((hB.1 63 fl_63) this a46 hn_a46).2.2
                refine pw_if (fun _ => ?_)
                refine pw_vl (fun x57 _ => ?_)
                refine pw_jn (fun j85 => ∀ (c85_G60 : Nat → Int32) (c85_V0 : Nat → Nat → Int32) (c85_V2 : Nat → Nat → Int32), (∀ z, ((la z < la this ∨ la this + 2 < la z)) → c85_G60 z = (G 60) z) → (∀ z, ((la z < la this ∨ la this + 2 < la z)) → c85_V0 z = (V 0) z) → (∀ z, ((la z < la this ∨ la this + 2 < la z)) → c85_V2 z = (V 2) z) → pw (j85 c85_G60 c85_V0 c85_V2) (RF_X3_walk la G P U V X O kd ln cnt this p0 p1 p2)) ?_ ?_
                · intro c85_G60 c85_V0 c85_V2 hf7 hf8 hf9
                  show pw _ _
                  exact ih24 (y24_4 + 1) c85_G60 c85_V0 c85_V2 hf7 hf8 hf9
                intro j85 Jj85
                refine pw_ite (fun _ => ?_) (fun _ => ?_)
                · skip
                  exact Jj85 d24_G60 d24_V0 d24_V2 hf4 hf5 hf6
                · skip
                  refine pw_nn (fun a66 hn_a66 => ?_)
                  have lt_a66 := ((hB.1 65 fl_65) this a66 hn_a66).2.1
                  have lb_a66 : la a66 = la this + 2 := lk_65.mp ((hB.1 65 fl_65) this a66 hn_a66).2.2
                  refine pw_if (fun _ => ?_)
                  refine pw_vl (fun m72 em72 => ?_)
                  have hf10 : ∀ z, ((la z < la this ∨ la this + 2 < la z)) → m72 z = (V 0) z := fr_up (e0 := (V 0)) hf5 em72 (show ¬ ((la a66 < la this ∨ la this + 2 < la a66)) from by omega)
                  refine pw_b3 (fun c82_G60 c82_V0 c82_V2 hc82 => ?_)
                  have hq82 := ihd la (va_up G 60 d24_G60) P U (va_up (va_up (va_up V 0 d24_V0) 2 d24_V2) 0 m72) X O kd ln cnt this (p0 + y24_4) p1 (p2 + 1) hB _ hc82
                  obtain ⟨q82_G60, q82_V0, q82_V2⟩ : (∀ z, (la z < la this ∨ la this + 2 < la z) → c82_G60 z = d24_G60 z) ∧ (∀ z, (la z < la this ∨ la this + 2 < la z) → c82_V0 z = m72 z) ∧ (∀ z, (la z < la this ∨ la this + 2 < la z) → c82_V2 z = d24_V2 z) := hq82
                  have tz82 : ∀ z, ((la z < la this ∨ la this + 2 < la z)) → ((la z < la this ∨ la this + 2 < la z)) := fun z hz => by omega
                  have hf11 : ∀ z, ((la z < la this ∨ la this + 2 < la z)) → c82_G60 z = (G 60) z := fun z hz => (q82_G60 z (tz82 z hz)).trans (hf4 z hz)
                  have hf12 : ∀ z, ((la z < la this ∨ la this + 2 < la z)) → c82_V0 z = (V 0) z := fun z hz => (q82_V0 z (tz82 z hz)).trans (hf10 z hz)
                  have hf13 : ∀ z, ((la z < la this ∨ la this + 2 < la z)) → c82_V2 z = (V 2) z := fun z hz => (q82_V2 z (tz82 z hz)).trans (hf6 z hz)
                  clear hc82
                  exact Jj85 c82_G60 c82_V0 c82_V2 hf11 hf12 hf13
      exact lp24 NN 1 (G 60) (V 0) (V 2) (fun _ _ => rfl) (fun _ _ => rfl) (fun _ _ => rfl)
    · skip
      refine pw_b3 (fun c17_G60 c17_V0 c17_V2 hc17 => ?_)
      have hq17 := fr_X3_note la G P U V X O kd ln cnt this p2 hB _ hc17
      obtain ⟨q17_G60, q17_V0, q17_V2⟩ : (∀ z, (la z < la this ∨ la this + 2 < la z) → c17_G60 z = (G 60) z) ∧ (∀ z, (la z < la this ∨ la this + 2 < la z) → c17_V0 z = (V 0) z) ∧ (∀ z, (la z < la this ∨ la this + 2 < la z) → c17_V2 z = (V 2) z) := hq17
      have tz17 : ∀ z, ((la z < la this ∨ la this + 2 < la z)) → ((la z < la this ∨ la this + 2 < la z)) := fun z hz => by omega
      have hf14 : ∀ z, ((la z < la this ∨ la this + 2 < la z)) → c17_G60 z = (G 60) z := fun z hz => (q17_G60 z (tz17 z hz)).trans (rfl)
      have hf15 : ∀ z, ((la z < la this ∨ la this + 2 < la z)) → c17_V0 z = (V 0) z := fun z hz => (q17_V0 z (tz17 z hz)).trans (rfl)
      have hf16 : ∀ z, ((la z < la this ∨ la this + 2 < la z)) → c17_V2 z = (V 2) z := fun z hz => (q17_V2 z (tz17 z hz)).trans (rfl)
      clear hc17
      exact pw_some ⟨hf14, hf15, hf16⟩
  · skip
    exact pw_some ⟨(fun _ _ => rfl), (fun _ _ => rfl), (fun _ _ => rfl)⟩
abbrev RF_X3_find (la : Nat → Nat) (G : Nat → Nat → Int32) (P : Nat → Nat → Option Nat) (U : Nat → Nat → Int64) (V : Nat → Nat → Nat → Int32) (X : Nat → Nat → Nat → Int64) (O : Nat → Nat → Nat → Option Nat) (kd : Nat → Nat) (ln : Nat → Nat) (cnt : Nat) (this : Nat) (p0 : Nat) (p1 : Nat) (p2 : Int32) (p3 : Int32) : ((Nat → Int32) × (Nat → Option Nat) × (Nat → Nat → Int32) × (Nat → Nat → Int32) × (Nat → Nat → Int32)) → Prop := fun t => (∀ z, ((la z < la this ∨ la this + 2 < la z)) → (t.1) z = (G 60) z) ∧ (∀ z, ((la z < la this ∨ la this + 2 < la z)) → (t.2.1) z = (P 66) z) ∧ (∀ z, ((la z < la this ∨ la this + 2 < la z)) → (t.2.2.1) z = (V 0) z) ∧ (∀ z, ((la z < la this ∨ la this + 2 < la z)) → (t.2.2.2.1) z = (V 2) z) ∧ (∀ z, ((la z < la this ∨ la this + 2 < la z)) → (t.2.2.2.2) z = (V 12) z) ∧ LC 66 la cnt (t.2.1)
set_option maxHeartbeats 4000000 in
set_option maxRecDepth 100000 in
theorem fr_X3_find (la : Nat → Nat) (G : Nat → Nat → Int32) (P : Nat → Nat → Option Nat) (U : Nat → Nat → Int64) (V : Nat → Nat → Nat → Int32) (X : Nat → Nat → Nat → Int64) (O : Nat → Nat → Nat → Option Nat) (kd : Nat → Nat) (ln : Nat → Nat) (cnt : Nat) (this : Nat) (p0 : Nat) (p1 : Nat) (p2 : Int32) (p3 : Int32) (hB : LB la cnt P) (hlt_this : this < cnt) (hlt_p0 : p0 < cnt) : pw (f_X3_find G P U V X O kd ln cnt this p0 p1 p2 p3) (RF_X3_find la G P U V X O kd ln cnt this p0 p1 p2 p3) := by
  unfold f_X3_find
  refine pw_vl (fun m2 em2 => ?_)
  have hf1 : ∀ z, ((la z < la this ∨ la this + 2 < la z)) → m2 z = (G 60) z := fr_up (e0 := (G 60)) (fun _ _ => rfl) em2 (show ¬ ((la this < la this ∨ la this + 2 < la this)) from by omega)
  refine pw_vl (fun m7 em7 => ?_)
  have hl2 : LC 66 la cnt m7 := LC_up (hB.1 66 fl_66) em7 (by omega) (by omega) (lk_66 _ _)
  have hf3 : ∀ z, ((la z < la this ∨ la this + 2 < la z)) → m7 z = (P 66) z := fr_up (e0 := (P 66)) (fun _ _ => rfl) em7 (show ¬ ((la this < la this ∨ la this + 2 < la this)) from by omega)
  refine pw_nn (fun a11 hn_a11 => ?_)
  obtain ⟨_, lt_a11, lb_a11⟩ := hl2 this a11 hn_a11
  refine pw_jn (fun j33 => pw (j33 ()) (RF_X3_find la G P U V X O kd ln cnt this p0 p1 p2 p3)) ?_ ?_
  · show pw _ _
    exact pw_some ⟨hf1, hf3, (fun _ _ => rfl), (fun _ _ => rfl), (fun _ _ => rfl), hl2⟩
  intro j33 Jj33
  refine pw_ite (fun _ => ?_) (fun _ => ?_)
  · skip
    exact Jj33
  · skip
    refine pw_ite (fun _ => ?_) (fun _ => ?_)
    · skip
      exact Jj33
    · skip
      refine pw_ite (fun _ => ?_) (fun _ => ?_)
      · skip
        refine pw_nn (fun a35 hn_a35 => ?_)
        have lt_a35 := ((hB.1 64 fl_64) this a35 hn_a35).2.1
        have lb_a35 : la a35 = la this + 0 := lk_64.mp ((hB.1 64 fl_64) this a35 hn_a35).2.2
        refine pw_if (fun _ => ?_)
        refine pw_vl (fun m41 em41 => ?_)
        have hf4 : ∀ z, ((la z < la this ∨ la this + 2 < la z)) → m41 z = (V 12) z := fr_up (e0 := (V 12)) (fun _ _ => rfl) em41 (show ¬ ((la a35 < la this ∨ la this + 2 < la a35)) from by omega)
        refine pw_vl (fun x46 _ => ?_)
        refine pw_jn (fun k69 => ∀ (c69_V0 : Nat → Nat → Int32) (c69_V12 : Nat → Nat → Int32), (∀ z, ((la z < la this ∨ la this + 2 < la z)) → c69_V0 z = (V 0) z) → (∀ z, ((la z < la this ∨ la this + 2 < la z)) → c69_V12 z = (V 12) z) → pw (k69 c69_V0 c69_V12) (RF_X3_find la G P U V X O kd ln cnt this p0 p1 p2 p3)) ?_ ?_
        · intro c69_V0 c69_V12 hf5 hf6
          show pw _ _
          refine pw_nn (fun a70 hn_a70 => ?_)
          have lt_a70 := ((hB.1 64 fl_64) this a70 hn_a70).2.1
          have lb_a70 : la a70 = la this + 0 := lk_64.mp ((hB.1 64 fl_64) this a70 hn_a70).2.2
          refine pw_if (fun _ => ?_)
          refine pw_jn (fun j86 => ∀ (c86_G60 : Nat → Int32) (c86_V0 : Nat → Nat → Int32) (c86_V2 : Nat → Nat → Int32), (∀ z, ((la z < la this ∨ la this + 2 < la z)) → c86_G60 z = (G 60) z) → (∀ z, ((la z < la this ∨ la this + 2 < la z)) → c86_V0 z = (V 0) z) → (∀ z, ((la z < la this ∨ la this + 2 < la z)) → c86_V2 z = (V 2) z) → pw (j86 c86_G60 c86_V0 c86_V2) (RF_X3_find la G P U V X O kd ln cnt this p0 p1 p2 p3)) ?_ ?_
          · intro c86_G60 c86_V0 c86_V2 hf7 hf8 hf9
            show pw _ _
            exact pw_some ⟨hf7, hf3, hf8, hf9, hf6, hl2⟩
          intro j86 Jj86
          refine pw_ite (fun _ => ?_) (fun _ => ?_)
          · skip
            exact Jj86 m2 c69_V0 (V 2) hf1 hf5 (fun _ _ => rfl)
          · skip
            refine pw_b3 (fun c83_G60 c83_V0 c83_V2 hc83 => ?_)
            have hq83 := fr_X3_walk 40 la (va_up G 60 m2) (va_up P 66 m7) U (va_up (va_up V 0 c69_V0) 12 c69_V12) X O kd ln cnt this (0 : Int32) p3 (0 : Int32) (LB_set hB hl2) _ hc83
            obtain ⟨q83_G60, q83_V0, q83_V2⟩ : (∀ z, (la z < la this ∨ la this + 2 < la z) → c83_G60 z = m2 z) ∧ (∀ z, (la z < la this ∨ la this + 2 < la z) → c83_V0 z = c69_V0 z) ∧ (∀ z, (la z < la this ∨ la this + 2 < la z) → c83_V2 z = (V 2) z) := hq83
            have tz83 : ∀ z, ((la z < la this ∨ la this + 2 < la z)) → ((la z < la this ∨ la this + 2 < la z)) := fun z hz => by omega
            have hf10 : ∀ z, ((la z < la this ∨ la this + 2 < la z)) → c83_G60 z = (G 60) z := fun z hz => (q83_G60 z (tz83 z hz)).trans (hf1 z hz)
            have hf11 : ∀ z, ((la z < la this ∨ la this + 2 < la z)) → c83_V0 z = (V 0) z := fun z hz => (q83_V0 z (tz83 z hz)).trans (hf5 z hz)
            have hf12 : ∀ z, ((la z < la this ∨ la this + 2 < la z)) → c83_V2 z = (V 2) z := fun z hz => (q83_V2 z (tz83 z hz)).trans (rfl)
            clear hc83
            exact Jj86 c83_G60 c83_V0 c83_V2 hf10 hf11 hf12
        intro k69 Jk69
        have lp48 : ∀ (n48 : Nat) (y48_5 : Int32) (d48_V0 : Nat → Nat → Int32) (d48_V12 : Nat → Nat → Int32), (∀ z, ((la z < la this ∨ la this + 2 < la z)) → d48_V0 z = (V 0) z) → (∀ z, ((la z < la this ∨ la this + 2 < la z)) → d48_V12 z = (V 12) z) → pw (L_X3_find_48 G P U V X O kd ln cnt this p1 p2 p3 m2 m7 k69 n48 y48_5 d48_V0 d48_V12) (RF_X3_find la G P U V X O kd ln cnt this p0 p1 p2 p3) := by
          intro n48
          induction n48 with
          | zero => intros; exact pw_none
          | succ n48 ih48 =>
            intro y48_5 d48_V0 d48_V12 hf13 hf14
            show pw (B_X3_find_48 G P U V X O kd ln cnt this p1 p2 p3 m2 m7 k69 (L_X3_find_48 G P U V X O kd ln cnt this p1 p2 p3 m2 m7 k69 n48) y48_5 d48_V0 d48_V12) _
            unfold B_X3_find_48
            refine pw_ite (fun _ => ?_) (fun _ => ?_)
            · skip
              exact Jk69 d48_V0 d48_V12 hf13 hf14
            · skip
              refine pw_b2 (fun c60_V0 c60_V12 hc60 => ?_)
              have hq60 := fr_X3_markFitting la (va_up G 60 m2) (va_up P 66 m7) U (va_up (va_up V 0 d48_V0) 12 d48_V12) X O kd ln cnt this p1 p2 y48_5 p3 (LB_set hB hl2) _ hc60
              obtain ⟨q60_V0, q60_V12⟩ : (∀ z, (la z < la this ∨ la this + 2 < la z) → c60_V0 z = d48_V0 z) ∧ (∀ z, (la z < la this ∨ la this + 2 < la z) → c60_V12 z = d48_V12 z) := hq60
              have tz60 : ∀ z, ((la z < la this ∨ la this + 2 < la z)) → ((la z < la this ∨ la this + 2 < la z)) := fun z hz => by omega
              have hf15 : ∀ z, ((la z < la this ∨ la this + 2 < la z)) → c60_V0 z = (V 0) z := fun z hz => (q60_V0 z (tz60 z hz)).trans (hf13 z hz)
              have hf16 : ∀ z, ((la z < la this ∨ la this + 2 < la z)) → c60_V12 z = (V 12) z := fun z hz => (q60_V12 z (tz60 z hz)).trans (hf14 z hz)
              clear hc60
              exact ih48 (y48_5 + (-1)) c60_V0 c60_V12 hf15 hf16
        exact lp48 NN x46 (V 0) m41 (fun _ _ => rfl) hf4
      · skip
        exact Jj33
abbrev RF_X11_partings (la : Nat → Nat) (G : Nat → Nat → Int32) (P : Nat → Nat → Option Nat) (U : Nat → Nat → Int64) (V : Nat → Nat → Nat → Int32) (X : Nat → Nat → Nat → Int64) (O : Nat → Nat → Nat → Option Nat) (kd : Nat → Nat) (ln : Nat → Nat) (cnt : Nat) (this : Nat) (p0 : Int32) : (Int32 × (Nat → Int32) × (Nat → Int32) × (Nat → Option Nat) × (Nat → Nat → Int32) × (Nat → Nat → Int32) × (Nat → Nat → Int32)) → Prop := fun t => (∀ z, ((la z < 10 ∨ 10 < la z) ∧ (la z < 60 ∨ 60 + 2 < la z)) → (t.2.1) z = (G 60) z) ∧ (∀ z, ((la z < 10 ∨ 10 < la z) ∧ (la z < 60 ∨ 60 + 2 < la z)) → (t.2.2.1) z = (G 141) z) ∧ (∀ z, ((la z < 10 ∨ 10 < la z) ∧ (la z < 60 ∨ 60 + 2 < la z)) → (t.2.2.2.1) z = (P 66) z) ∧ (∀ z, ((la z < 10 ∨ 10 < la z) ∧ (la z < 60 ∨ 60 + 2 < la z)) → (t.2.2.2.2.1) z = (V 0) z) ∧ (∀ z, ((la z < 10 ∨ 10 < la z) ∧ (la z < 60 ∨ 60 + 2 < la z)) → (t.2.2.2.2.2.1) z = (V 2) z) ∧ (∀ z, ((la z < 10 ∨ 10 < la z) ∧ (la z < 60 ∨ 60 + 2 < la z)) → (t.2.2.2.2.2.2) z = (V 12) z) ∧ LC 66 la cnt (t.2.2.2.1)
set_option maxHeartbeats 4000000 in
set_option maxRecDepth 100000 in
theorem fr_X11_partings (la : Nat → Nat) (G : Nat → Nat → Int32) (P : Nat → Nat → Option Nat) (U : Nat → Nat → Int64) (V : Nat → Nat → Nat → Int32) (X : Nat → Nat → Nat → Int64) (O : Nat → Nat → Nat → Option Nat) (kd : Nat → Nat) (ln : Nat → Nat) (cnt : Nat) (this : Nat) (p0 : Int32) (hB : LB la cnt P) (hlt_this : this < cnt) (hp0 : la this = 200) : pw (f_X11_partings G P U V X O kd ln cnt this p0) (RF_X11_partings la G P U V X O kd ln cnt this p0) := by
  unfold f_X11_partings
  refine pw_nn (fun a1 hn_a1 => ?_)
  have lt_a1 := ((hB.1 220 fl_220) this a1 hn_a1).2.1
  have lb_a1 : la a1 = 10 := lk_220.mp ((hB.1 220 fl_220) this a1 hn_a1).2.2
  refine pw_b2 (fun r4 c4_G141 hc4 => ?_)
  have hq4 := fr_X7_take la G P U V X O kd ln cnt a1 hB _ hc4
  have q4_G141 : (∀ z, (la z < la a1 ∨ la a1 < la z) → c4_G141 z = (G 141) z) := hq4
  have tz4 : ∀ z, ((la z < 10 ∨ 10 < la z) ∧ (la z < 60 ∨ 60 + 2 < la z)) → ((la z < la a1 ∨ la a1 < la z)) := fun z hz => by omega
  have hf1 : ∀ z, ((la z < 10 ∨ 10 < la z) ∧ (la z < 60 ∨ 60 + 2 < la z)) → c4_G141 z = (G 141) z := fun z hz => (q4_G141 z (tz4 z hz)).trans (rfl)
  clear hc4 hq4
  refine pw_b1 (fun r10 hc10 => ?_)
  clear hc10
  refine pw_jn (fun j29 => pw (j29 ()) (RF_X11_partings la G P U V X O kd ln cnt this p0)) ?_ ?_
  · show pw _ _
    exact pw_some ⟨(fun _ _ => rfl), hf1, (fun _ _ => rfl), (fun _ _ => rfl), (fun _ _ => rfl), (fun _ _ => rfl), (hB.1 66 fl_66)⟩
  intro j29 Jj29
  refine pw_oc (fun _ => ?_) (fun b15 _ => ?_)
  · skip
    exact Jj29
  · skip
    refine pw_nn (fun a19 hn_a19 => ?_)
    have lt_a19 := ((hB.1 220 fl_220) this a19 hn_a19).2.1
    have lb_a19 : la a19 = 10 := lk_220.mp ((hB.1 220 fl_220) this a19 hn_a19).2.2
    refine pw_b1 (fun r23 hc23 => ?_)
    clear hc23
    refine pw_ite (fun _ => ?_) (fun _ => ?_)
    · skip
      exact Jj29
    · skip
      refine pw_nn (fun a33 hn_a33 => ?_)
      have lt_a33 := ((hB.1 104 fl_104) b15 a33 hn_a33).2.1
      have lb_a33 : la a33 = la b15 + 2 := lk_104.mp ((hB.1 104 fl_104) b15 a33 hn_a33).2.2
      refine pw_nn (fun a37 hn_a37 => ?_)
      have lt_a37 := ((hB.1 220 fl_220) this a37 hn_a37).2.1
      have lb_a37 : la a37 = 10 := lk_220.mp ((hB.1 220 fl_220) this a37 hn_a37).2.2
      refine pw_nn (fun a40 hn_a40 => ?_)
      have lt_a40 := ((hB.1 140 fl_140) a37 a40 hn_a40).2.1
      have lb_a40 : la a40 = la a37 + 1 := lk_140.mp ((hB.1 140 fl_140) a37 a40 hn_a40).2.2
      refine pw_b1 (fun r45 hc45 => ?_)
      clear hc45
      refine pw_ite (fun _ => ?_) (fun _ => ?_)
      · skip
        refine pw_nn (fun a74 hn_a74 => ?_)
        have lt_a74 := ((hB.1 228 fl_228) this a74 hn_a74).2.1
        have lb_a74 : la a74 = 60 := lk_228.mp ((hB.1 228 fl_228) this a74 hn_a74).2.2
        refine pw_nn (fun a78 hn_a78 => ?_)
        have lt_a78 := ((hB.1 103 fl_103) b15 a78 hn_a78).2.1
        have lb_a78 : la a78 = la b15 + 1 := lk_103.mp ((hB.1 103 fl_103) b15 a78 hn_a78).2.2
        refine pw_nn (fun a82 hn_a82 => ?_)
        have lt_a82 := ((hB.1 220 fl_220) this a82 hn_a82).2.1
        have lb_a82 : la a82 = 10 := lk_220.mp ((hB.1 220 fl_220) this a82 hn_a82).2.2
        refine pw_nn (fun a85 hn_a85 => ?_)
        have lt_a85 := ((hB.1 140 fl_140) a82 a85 hn_a85).2.1
        have lb_a85 : la a85 = la a82 + 1 := lk_140.mp ((hB.1 140 fl_140) a82 a85 hn_a85).2.2
        refine pw_b5 (fun c90_G60 c90_P66 c90_V0 c90_V2 c90_V12 hc90 => ?_)
        have hq90 := fr_X3_find la (va_up G 141 c4_G141) P U V X O kd ln cnt a74 a78 a85 (0 : Int32) r4 hB lt_a74 lt_a78 _ hc90
        obtain ⟨q90_G60, q90_P66, q90_V0, q90_V2, q90_V12, ql90_66⟩ : (∀ z, (la z < la a74 ∨ la a74 + 2 < la z) → c90_G60 z = (G 60) z) ∧ (∀ z, (la z < la a74 ∨ la a74 + 2 < la z) → c90_P66 z = (P 66) z) ∧ (∀ z, (la z < la a74 ∨ la a74 + 2 < la z) → c90_V0 z = (V 0) z) ∧ (∀ z, (la z < la a74 ∨ la a74 + 2 < la z) → c90_V2 z = (V 2) z) ∧ (∀ z, (la z < la a74 ∨ la a74 + 2 < la z) → c90_V12 z = (V 12) z) ∧ LC 66 la cnt c90_P66 := hq90
        have tz90 : ∀ z, ((la z < 10 ∨ 10 < la z) ∧ (la z < 60 ∨ 60 + 2 < la z)) → ((la z < la a74 ∨ la a74 + 2 < la z)) := fun z hz => by omega
        have hf2 : ∀ z, ((la z < 10 ∨ 10 < la z) ∧ (la z < 60 ∨ 60 + 2 < la z)) → c90_G60 z = (G 60) z := fun z hz => (q90_G60 z (tz90 z hz)).trans (rfl)
        have hf3 : ∀ z, ((la z < 10 ∨ 10 < la z) ∧ (la z < 60 ∨ 60 + 2 < la z)) → c90_P66 z = (P 66) z := fun z hz => (q90_P66 z (tz90 z hz)).trans (rfl)
        have hf4 : ∀ z, ((la z < 10 ∨ 10 < la z) ∧ (la z < 60 ∨ 60 + 2 < la z)) → c90_V0 z = (V 0) z := fun z hz => (q90_V0 z (tz90 z hz)).trans (rfl)
        have hf5 : ∀ z, ((la z < 10 ∨ 10 < la z) ∧ (la z < 60 ∨ 60 + 2 < la z)) → c90_V2 z = (V 2) z := fun z hz => (q90_V2 z (tz90 z hz)).trans (rfl)
        have hf6 : ∀ z, ((la z < 10 ∨ 10 < la z) ∧ (la z < 60 ∨ 60 + 2 < la z)) → c90_V12 z = (V 12) z := fun z hz => (q90_V12 z (tz90 z hz)).trans (rfl)
        clear hc90
        refine pw_nn (fun a94 hn_a94 => ?_)
        have lt_a94 := ((hB.1 228 fl_228) this a94 hn_a94).2.1
        have lb_a94 : la a94 = 60 := lk_228.mp ((hB.1 228 fl_228) this a94 hn_a94).2.2
        exact pw_some ⟨hf2, hf1, hf3, hf4, hf5, hf6, ql90_66⟩
      · skip
        refine pw_b1 (fun r59 hc59 => ?_)
        clear hc59
        refine pw_jn (fun j72 => ∀ (t72_0 : Int32), pw (j72 t72_0) (RF_X11_partings la G P U V X O kd ln cnt this p0)) ?_ ?_
        · intro t72_0
          show pw _ _
          exact pw_some ⟨(fun _ _ => rfl), hf1, (fun _ _ => rfl), (fun _ _ => rfl), (fun _ _ => rfl), (fun _ _ => rfl), (hB.1 66 fl_66)⟩
        intro j72 Jj72
        refine pw_ite (fun _ => ?_) (fun _ => ?_)
        · skip
          exact Jj72 (-11)
        · skip
          exact Jj72 (-10)
abbrev RF_X5_addLaw (la : Nat → Nat) (G : Nat → Nat → Int32) (P : Nat → Nat → Option Nat) (U : Nat → Nat → Int64) (V : Nat → Nat → Nat → Int32) (X : Nat → Nat → Nat → Int64) (O : Nat → Nat → Nat → Option Nat) (kd : Nat → Nat) (ln : Nat → Nat) (cnt : Nat) (this : Nat) (p0 : Nat) : ((Nat → Int32) × (Nat → Nat → Option Nat)) → Prop := fun t => (∀ z, ((la z < la this ∨ la this + 3 < la z) ∧ (la z < la this + 5 ∨ la this + 5 < la z)) → (t.1) z = (G 102) z) ∧ (∀ z, ((la z < la this ∨ la this + 3 < la z) ∧ (la z < la this + 5 ∨ la this + 5 < la z)) → (t.2) z = (O 0) z)
set_option maxHeartbeats 4000000 in
set_option maxRecDepth 100000 in
theorem fr_X5_addLaw (la : Nat → Nat) (G : Nat → Nat → Int32) (P : Nat → Nat → Option Nat) (U : Nat → Nat → Int64) (V : Nat → Nat → Nat → Int32) (X : Nat → Nat → Nat → Int64) (O : Nat → Nat → Nat → Option Nat) (kd : Nat → Nat) (ln : Nat → Nat) (cnt : Nat) (this : Nat) (p0 : Nat) (hB : LB la cnt P) : pw (f_X5_addLaw G P U V X O kd ln cnt this p0) (RF_X5_addLaw la G P U V X O kd ln cnt this p0) := by
  unfold f_X5_addLaw
  refine pw_jn (fun j29 => ∀ (c29_G102 : Nat → Int32) (c29_O0 : Nat → Nat → Option Nat), (∀ z, ((la z < la this ∨ la this + 3 < la z) ∧ (la z < la this + 5 ∨ la this + 5 < la z)) → c29_G102 z = (G 102) z) → (∀ z, ((la z < la this ∨ la this + 3 < la z) ∧ (la z < la this + 5 ∨ la this + 5 < la z)) → c29_O0 z = (O 0) z) → pw (j29 c29_G102 c29_O0) (RF_X5_addLaw la G P U V X O kd ln cnt this p0)) ?_ ?_
  · intro c29_G102 c29_O0 hf1 hf2
    show pw _ _
    exact pw_some ⟨hf1, hf2⟩
  intro j29 Jj29
  refine pw_ite (fun _ => ?_) (fun _ => ?_)
  · skip
    exact Jj29 (G 102) (O 0) (fun _ _ => rfl) (fun _ _ => rfl)
  · skip
    refine pw_nn (fun a10 hn_a10 => ?_)
    have lt_a10 := ((hB.1 101 fl_101) this a10 hn_a10).2.1
    have lb_a10 : la a10 = la this + 0 := lk_101.mp ((hB.1 101 fl_101) this a10 hn_a10).2.2
    refine pw_if (fun _ => ?_)
    refine pw_vl (fun m18 em18 => ?_)
    have hf3 : ∀ z, ((la z < la this ∨ la this + 3 < la z) ∧ (la z < la this + 5 ∨ la this + 5 < la z)) → m18 z = (O 0) z := fr_up (e0 := (O 0)) (fun _ _ => rfl) em18 (show ¬ ((la a10 < la this ∨ la this + 3 < la a10) ∧ (la a10 < la this + 5 ∨ la this + 5 < la a10)) from by omega)
    refine pw_vl (fun x26 _ => ?_)
    refine pw_vl (fun m26 em26 => ?_)
    have hf4 : ∀ z, ((la z < la this ∨ la this + 3 < la z) ∧ (la z < la this + 5 ∨ la this + 5 < la z)) → m26 z = (G 102) z := fr_up (e0 := (G 102)) (fun _ _ => rfl) em26 (show ¬ ((la this < la this ∨ la this + 3 < la this) ∧ (la this < la this + 5 ∨ la this + 5 < la this)) from by omega)
    exact Jj29 m26 m18 hf4 hf3
abbrev RF_X5_addEntry (la : Nat → Nat) (G : Nat → Nat → Int32) (P : Nat → Nat → Option Nat) (U : Nat → Nat → Int64) (V : Nat → Nat → Nat → Int32) (X : Nat → Nat → Nat → Int64) (O : Nat → Nat → Nat → Option Nat) (kd : Nat → Nat) (ln : Nat → Nat) (cnt : Nat) (this : Nat) (p0 : Nat) (p1 : Int32) (p2 : Int32) (p3 : Int32) : ((Nat → Int32) × (Nat → Int32) × (Nat → Nat → Int32) × (Nat → Nat → Int32) × (Nat → Nat → Int32)) → Prop := fun t => (∀ z, ((la z < la this ∨ la this + 3 < la z) ∧ (la z < la this + 5 ∨ la this + 5 < la z)) → (t.1) z = (G 107) z) ∧ (∀ z, ((la z < la this ∨ la this + 3 < la z) ∧ (la z < la this + 5 ∨ la this + 5 < la z)) → (t.2.1) z = (G 203) z) ∧ (∀ z, ((la z < la this ∨ la this + 3 < la z) ∧ (la z < la this + 5 ∨ la this + 5 < la z)) → (t.2.2.1) z = (V 0) z) ∧ (∀ z, ((la z < la this ∨ la this + 3 < la z) ∧ (la z < la this + 5 ∨ la this + 5 < la z)) → (t.2.2.2.1) z = (V 1) z) ∧ (∀ z, ((la z < la this ∨ la this + 3 < la z) ∧ (la z < la this + 5 ∨ la this + 5 < la z)) → (t.2.2.2.2) z = (V 10) z)
set_option maxHeartbeats 4000000 in
set_option maxRecDepth 100000 in
theorem fr_X5_addEntry (la : Nat → Nat) (G : Nat → Nat → Int32) (P : Nat → Nat → Option Nat) (U : Nat → Nat → Int64) (V : Nat → Nat → Nat → Int32) (X : Nat → Nat → Nat → Int64) (O : Nat → Nat → Nat → Option Nat) (kd : Nat → Nat) (ln : Nat → Nat) (cnt : Nat) (this : Nat) (p0 : Nat) (p1 : Int32) (p2 : Int32) (p3 : Int32) (hB : LB la cnt P) : pw (f_X5_addEntry G P U V X O kd ln cnt this p0 p1 p2 p3) (RF_X5_addEntry la G P U V X O kd ln cnt this p0 p1 p2 p3) := by
  unfold f_X5_addEntry
  refine pw_nn (fun a1 hn_a1 => ?_)
  have lt_a1 := ((hB.1 104 fl_104) this a1 hn_a1).2.1
  have lb_a1 : la a1 = la this + 2 := lk_104.mp ((hB.1 104 fl_104) this a1 hn_a1).2.2
  refine pw_b1 (fun r4 hc4 => ?_)
  clear hc4
  refine pw_jn (fun j53 => ∀ (c53_G107 : Nat → Int32) (c53_G203 : Nat → Int32) (c53_V0 : Nat → Nat → Int32) (c53_V1 : Nat → Nat → Int32) (c53_V10 : Nat → Nat → Int32), (∀ z, ((la z < la this ∨ la this + 3 < la z) ∧ (la z < la this + 5 ∨ la this + 5 < la z)) → c53_G107 z = (G 107) z) → (∀ z, ((la z < la this ∨ la this + 3 < la z) ∧ (la z < la this + 5 ∨ la this + 5 < la z)) → c53_G203 z = (G 203) z) → (∀ z, ((la z < la this ∨ la this + 3 < la z) ∧ (la z < la this + 5 ∨ la this + 5 < la z)) → c53_V0 z = (V 0) z) → (∀ z, ((la z < la this ∨ la this + 3 < la z) ∧ (la z < la this + 5 ∨ la this + 5 < la z)) → c53_V1 z = (V 1) z) → (∀ z, ((la z < la this ∨ la this + 3 < la z) ∧ (la z < la this + 5 ∨ la this + 5 < la z)) → c53_V10 z = (V 10) z) → pw (j53 c53_G107 c53_G203 c53_V0 c53_V1 c53_V10) (RF_X5_addEntry la G P U V X O kd ln cnt this p0 p1 p2 p3)) ?_ ?_
  · intro c53_G107 c53_G203 c53_V0 c53_V1 c53_V10 hf1 hf2 hf3 hf4 hf5
    show pw _ _
    exact pw_some ⟨hf1, hf2, hf3, hf4, hf5⟩
  intro j53 Jj53
  refine pw_ite (fun _ => ?_) (fun _ => ?_)
  · skip
    refine pw_nn (fun a11 hn_a11 => ?_)
    have lt_a11 := ((hB.1 106 fl_106) this a11 hn_a11).2.1
    have lb_a11 : la a11 = la this + 0 := lk_106.mp ((hB.1 106 fl_106) this a11 hn_a11).2.2
    refine pw_nn (fun a15 hn_a15 => ?_)
    have lt_a15 := ((hB.1 104 fl_104) this a15 hn_a15).2.1
    have lb_a15 : la a15 = la this + 2 := lk_104.mp ((hB.1 104 fl_104) this a15 hn_a15).2.2
    refine pw_if (fun _ => ?_)
    refine pw_vl (fun m23 em23 => ?_)
    have hf6 : ∀ z, ((la z < la this ∨ la this + 3 < la z) ∧ (la z < la this + 5 ∨ la this + 5 < la z)) → m23 z = (V 10) z := fr_up (e0 := (V 10)) (fun _ _ => rfl) em23 (show ¬ ((la a11 < la this ∨ la this + 3 < la a11) ∧ (la a11 < la this + 5 ∨ la this + 5 < la a11)) from by omega)
    refine pw_jn (fun j39 => ∀ (t39_0 : Int32), pw (j39 t39_0) (RF_X5_addEntry la G P U V X O kd ln cnt this p0 p1 p2 p3)) ?_ ?_
    · intro t39_0
      show pw _ _
      refine pw_vl (fun x40 _ => ?_)
      refine pw_vl (fun m40 em40 => ?_)
      have hf7 : ∀ z, ((la z < la this ∨ la this + 3 < la z) ∧ (la z < la this + 5 ∨ la this + 5 < la z)) → m40 z = (G 107) z := fr_up (e0 := (G 107)) (fun _ _ => rfl) em40 (show ¬ ((la this < la this ∨ la this + 3 < la this) ∧ (la this < la this + 5 ∨ la this + 5 < la this)) from by omega)
      refine pw_nn (fun a44 hn_a44 => ?_)
      have lt_a44 := ((hB.1 104 fl_104) this a44 hn_a44).2.1
      have lb_a44 : la a44 = la this + 2 := lk_104.mp ((hB.1 104 fl_104) this a44 hn_a44).2.2
      refine pw_b3 (fun c50_G203 c50_V0 c50_V1 hc50 => ?_)
      have hq50 := fr_X10_add la (va_up G 107 m40) P U (va_up V 10 m23) X O kd ln cnt a44 p0 p1 p2 hB _ hc50
      obtain ⟨q50_G203, q50_V0, q50_V1⟩ : (∀ z, (la z < la a44 ∨ la a44 < la z) → c50_G203 z = (G 203) z) ∧ (∀ z, (la z < la a44 ∨ la a44 < la z) → c50_V0 z = (V 0) z) ∧ (∀ z, (la z < la a44 ∨ la a44 < la z) → c50_V1 z = (V 1) z) := hq50
      have tz50 : ∀ z, ((la z < la this ∨ la this + 3 < la z) ∧ (la z < la this + 5 ∨ la this + 5 < la z)) → ((la z < la a44 ∨ la a44 < la z)) := fun z hz => by omega
      have hf8 : ∀ z, ((la z < la this ∨ la this + 3 < la z) ∧ (la z < la this + 5 ∨ la this + 5 < la z)) → c50_G203 z = (G 203) z := fun z hz => (q50_G203 z (tz50 z hz)).trans (rfl)
      have hf9 : ∀ z, ((la z < la this ∨ la this + 3 < la z) ∧ (la z < la this + 5 ∨ la this + 5 < la z)) → c50_V0 z = (V 0) z := fun z hz => (q50_V0 z (tz50 z hz)).trans (rfl)
      have hf10 : ∀ z, ((la z < la this ∨ la this + 3 < la z) ∧ (la z < la this + 5 ∨ la this + 5 < la z)) → c50_V1 z = (V 1) z := fun z hz => (q50_V1 z (tz50 z hz)).trans (rfl)
      clear hc50
      exact Jj53 m40 c50_G203 c50_V0 c50_V1 m23 hf7 hf8 hf9 hf10 hf6
    intro j39 Jj39
    refine pw_ite (fun _ => ?_) (fun _ => ?_)
    · skip
      exact Jj39 0
    · skip
      exact Jj39 1
  · skip
    exact Jj53 (G 107) (G 203) (V 0) (V 1) (V 10) (fun _ _ => rfl) (fun _ _ => rfl) (fun _ _ => rfl) (fun _ _ => rfl) (fun _ _ => rfl)
abbrev RF_X5_addKept (la : Nat → Nat) (G : Nat → Nat → Int32) (P : Nat → Nat → Option Nat) (U : Nat → Nat → Int64) (V : Nat → Nat → Nat → Int32) (X : Nat → Nat → Nat → Int64) (O : Nat → Nat → Nat → Option Nat) (kd : Nat → Nat) (ln : Nat → Nat) (cnt : Nat) (this : Nat) (p0 : Nat) (p1 : Int32) (p2 : Int32) : ((Nat → Int32) × (Nat → Int32) × (Nat → Nat → Int32) × (Nat → Nat → Int32) × (Nat → Nat → Int32)) → Prop := fun t => (∀ z, ((la z < la this ∨ la this + 3 < la z) ∧ (la z < la this + 5 ∨ la this + 5 < la z)) → (t.1) z = (G 107) z) ∧ (∀ z, ((la z < la this ∨ la this + 3 < la z) ∧ (la z < la this + 5 ∨ la this + 5 < la z)) → (t.2.1) z = (G 203) z) ∧ (∀ z, ((la z < la this ∨ la this + 3 < la z) ∧ (la z < la this + 5 ∨ la this + 5 < la z)) → (t.2.2.1) z = (V 0) z) ∧ (∀ z, ((la z < la this ∨ la this + 3 < la z) ∧ (la z < la this + 5 ∨ la this + 5 < la z)) → (t.2.2.2.1) z = (V 1) z) ∧ (∀ z, ((la z < la this ∨ la this + 3 < la z) ∧ (la z < la this + 5 ∨ la this + 5 < la z)) → (t.2.2.2.2) z = (V 10) z)
set_option maxHeartbeats 4000000 in
set_option maxRecDepth 100000 in
theorem fr_X5_addKept (la : Nat → Nat) (G : Nat → Nat → Int32) (P : Nat → Nat → Option Nat) (U : Nat → Nat → Int64) (V : Nat → Nat → Nat → Int32) (X : Nat → Nat → Nat → Int64) (O : Nat → Nat → Nat → Option Nat) (kd : Nat → Nat) (ln : Nat → Nat) (cnt : Nat) (this : Nat) (p0 : Nat) (p1 : Int32) (p2 : Int32) (hB : LB la cnt P) : pw (f_X5_addKept G P U V X O kd ln cnt this p0 p1 p2) (RF_X5_addKept la G P U V X O kd ln cnt this p0 p1 p2) := by
  unfold f_X5_addKept
  refine pw_b5 (fun c5_G107 c5_G203 c5_V0 c5_V1 c5_V10 hc5 => ?_)
  have hq5 := fr_X5_addEntry la G P U V X O kd ln cnt this p0 p1 p2 (1 : Int32) hB _ hc5
  obtain ⟨q5_G107, q5_G203, q5_V0, q5_V1, q5_V10⟩ : (∀ z, (la z < la this ∨ la this + 3 < la z) ∧ (la z < la this + 5 ∨ la this + 5 < la z) → c5_G107 z = (G 107) z) ∧ (∀ z, (la z < la this ∨ la this + 3 < la z) ∧ (la z < la this + 5 ∨ la this + 5 < la z) → c5_G203 z = (G 203) z) ∧ (∀ z, (la z < la this ∨ la this + 3 < la z) ∧ (la z < la this + 5 ∨ la this + 5 < la z) → c5_V0 z = (V 0) z) ∧ (∀ z, (la z < la this ∨ la this + 3 < la z) ∧ (la z < la this + 5 ∨ la this + 5 < la z) → c5_V1 z = (V 1) z) ∧ (∀ z, (la z < la this ∨ la this + 3 < la z) ∧ (la z < la this + 5 ∨ la this + 5 < la z) → c5_V10 z = (V 10) z) := hq5
  have tz5 : ∀ z, ((la z < la this ∨ la this + 3 < la z) ∧ (la z < la this + 5 ∨ la this + 5 < la z)) → ((la z < la this ∨ la this + 3 < la z) ∧ (la z < la this + 5 ∨ la this + 5 < la z)) := fun z hz => by omega
  have hf1 : ∀ z, ((la z < la this ∨ la this + 3 < la z) ∧ (la z < la this + 5 ∨ la this + 5 < la z)) → c5_G107 z = (G 107) z := fun z hz => (q5_G107 z (tz5 z hz)).trans (rfl)
  have hf2 : ∀ z, ((la z < la this ∨ la this + 3 < la z) ∧ (la z < la this + 5 ∨ la this + 5 < la z)) → c5_G203 z = (G 203) z := fun z hz => (q5_G203 z (tz5 z hz)).trans (rfl)
  have hf3 : ∀ z, ((la z < la this ∨ la this + 3 < la z) ∧ (la z < la this + 5 ∨ la this + 5 < la z)) → c5_V0 z = (V 0) z := fun z hz => (q5_V0 z (tz5 z hz)).trans (rfl)
  have hf4 : ∀ z, ((la z < la this ∨ la this + 3 < la z) ∧ (la z < la this + 5 ∨ la this + 5 < la z)) → c5_V1 z = (V 1) z := fun z hz => (q5_V1 z (tz5 z hz)).trans (rfl)
  have hf5 : ∀ z, ((la z < la this ∨ la this + 3 < la z) ∧ (la z < la this + 5 ∨ la this + 5 < la z)) → c5_V10 z = (V 10) z := fun z hz => (q5_V10 z (tz5 z hz)).trans (rfl)
  clear hc5
  refine pw_nn (fun a9 hn_a9 => ?_)
  have lt_a9 := ((hB.1 105 fl_105) this a9 hn_a9).2.1
  have lb_a9 : la a9 = la this + 3 := lk_105.mp ((hB.1 105 fl_105) this a9 hn_a9).2.2
  refine pw_b3 (fun c15_G203 c15_V0 c15_V1 hc15 => ?_)
  have hq15 := fr_X10_add la (va_up (va_up G 107 c5_G107) 203 c5_G203) P U (va_up (va_up (va_up V 0 c5_V0) 1 c5_V1) 10 c5_V10) X O kd ln cnt a9 p0 p1 (0 : Int32) hB _ hc15
  obtain ⟨q15_G203, q15_V0, q15_V1⟩ : (∀ z, (la z < la a9 ∨ la a9 < la z) → c15_G203 z = c5_G203 z) ∧ (∀ z, (la z < la a9 ∨ la a9 < la z) → c15_V0 z = c5_V0 z) ∧ (∀ z, (la z < la a9 ∨ la a9 < la z) → c15_V1 z = c5_V1 z) := hq15
  have tz15 : ∀ z, ((la z < la this ∨ la this + 3 < la z) ∧ (la z < la this + 5 ∨ la this + 5 < la z)) → ((la z < la a9 ∨ la a9 < la z)) := fun z hz => by omega
  have hf6 : ∀ z, ((la z < la this ∨ la this + 3 < la z) ∧ (la z < la this + 5 ∨ la this + 5 < la z)) → c15_G203 z = (G 203) z := fun z hz => (q15_G203 z (tz15 z hz)).trans (hf2 z hz)
  have hf7 : ∀ z, ((la z < la this ∨ la this + 3 < la z) ∧ (la z < la this + 5 ∨ la this + 5 < la z)) → c15_V0 z = (V 0) z := fun z hz => (q15_V0 z (tz15 z hz)).trans (hf3 z hz)
  have hf8 : ∀ z, ((la z < la this ∨ la this + 3 < la z) ∧ (la z < la this + 5 ∨ la this + 5 < la z)) → c15_V1 z = (V 1) z := fun z hz => (q15_V1 z (tz15 z hz)).trans (hf4 z hz)
  clear hc15
  exact pw_some ⟨hf1, hf6, hf7, hf8, hf5⟩
abbrev RF_X5_addListed (la : Nat → Nat) (G : Nat → Nat → Int32) (P : Nat → Nat → Option Nat) (U : Nat → Nat → Int64) (V : Nat → Nat → Nat → Int32) (X : Nat → Nat → Nat → Int64) (O : Nat → Nat → Nat → Option Nat) (kd : Nat → Nat) (ln : Nat → Nat) (cnt : Nat) (this : Nat) (p0 : Nat) (p1 : Int32) (p2 : Int32) : ((Nat → Int32) × (Nat → Int32) × (Nat → Nat → Int32) × (Nat → Nat → Int32) × (Nat → Nat → Int32)) → Prop := fun t => (∀ z, ((la z < la this ∨ la this + 3 < la z) ∧ (la z < la this + 5 ∨ la this + 5 < la z)) → (t.1) z = (G 107) z) ∧ (∀ z, ((la z < la this ∨ la this + 3 < la z) ∧ (la z < la this + 5 ∨ la this + 5 < la z)) → (t.2.1) z = (G 203) z) ∧ (∀ z, ((la z < la this ∨ la this + 3 < la z) ∧ (la z < la this + 5 ∨ la this + 5 < la z)) → (t.2.2.1) z = (V 0) z) ∧ (∀ z, ((la z < la this ∨ la this + 3 < la z) ∧ (la z < la this + 5 ∨ la this + 5 < la z)) → (t.2.2.2.1) z = (V 1) z) ∧ (∀ z, ((la z < la this ∨ la this + 3 < la z) ∧ (la z < la this + 5 ∨ la this + 5 < la z)) → (t.2.2.2.2) z = (V 10) z)
set_option maxHeartbeats 4000000 in
set_option maxRecDepth 100000 in
theorem fr_X5_addListed (la : Nat → Nat) (G : Nat → Nat → Int32) (P : Nat → Nat → Option Nat) (U : Nat → Nat → Int64) (V : Nat → Nat → Nat → Int32) (X : Nat → Nat → Nat → Int64) (O : Nat → Nat → Nat → Option Nat) (kd : Nat → Nat) (ln : Nat → Nat) (cnt : Nat) (this : Nat) (p0 : Nat) (p1 : Int32) (p2 : Int32) (hB : LB la cnt P) : pw (f_X5_addListed G P U V X O kd ln cnt this p0 p1 p2) (RF_X5_addListed la G P U V X O kd ln cnt this p0 p1 p2) := by
  unfold f_X5_addListed
  refine pw_b5 (fun c5_G107 c5_G203 c5_V0 c5_V1 c5_V10 hc5 => ?_)
  have hq5 := fr_X5_addEntry la G P U V X O kd ln cnt this p0 p1 p2 (0 : Int32) hB _ hc5
  obtain ⟨q5_G107, q5_G203, q5_V0, q5_V1, q5_V10⟩ : (∀ z, (la z < la this ∨ la this + 3 < la z) ∧ (la z < la this + 5 ∨ la this + 5 < la z) → c5_G107 z = (G 107) z) ∧ (∀ z, (la z < la this ∨ la this + 3 < la z) ∧ (la z < la this + 5 ∨ la this + 5 < la z) → c5_G203 z = (G 203) z) ∧ (∀ z, (la z < la this ∨ la this + 3 < la z) ∧ (la z < la this + 5 ∨ la this + 5 < la z) → c5_V0 z = (V 0) z) ∧ (∀ z, (la z < la this ∨ la this + 3 < la z) ∧ (la z < la this + 5 ∨ la this + 5 < la z) → c5_V1 z = (V 1) z) ∧ (∀ z, (la z < la this ∨ la this + 3 < la z) ∧ (la z < la this + 5 ∨ la this + 5 < la z) → c5_V10 z = (V 10) z) := hq5
  have tz5 : ∀ z, ((la z < la this ∨ la this + 3 < la z) ∧ (la z < la this + 5 ∨ la this + 5 < la z)) → ((la z < la this ∨ la this + 3 < la z) ∧ (la z < la this + 5 ∨ la this + 5 < la z)) := fun z hz => by omega
  have hf1 : ∀ z, ((la z < la this ∨ la this + 3 < la z) ∧ (la z < la this + 5 ∨ la this + 5 < la z)) → c5_G107 z = (G 107) z := fun z hz => (q5_G107 z (tz5 z hz)).trans (rfl)
  have hf2 : ∀ z, ((la z < la this ∨ la this + 3 < la z) ∧ (la z < la this + 5 ∨ la this + 5 < la z)) → c5_G203 z = (G 203) z := fun z hz => (q5_G203 z (tz5 z hz)).trans (rfl)
  have hf3 : ∀ z, ((la z < la this ∨ la this + 3 < la z) ∧ (la z < la this + 5 ∨ la this + 5 < la z)) → c5_V0 z = (V 0) z := fun z hz => (q5_V0 z (tz5 z hz)).trans (rfl)
  have hf4 : ∀ z, ((la z < la this ∨ la this + 3 < la z) ∧ (la z < la this + 5 ∨ la this + 5 < la z)) → c5_V1 z = (V 1) z := fun z hz => (q5_V1 z (tz5 z hz)).trans (rfl)
  have hf5 : ∀ z, ((la z < la this ∨ la this + 3 < la z) ∧ (la z < la this + 5 ∨ la this + 5 < la z)) → c5_V10 z = (V 10) z := fun z hz => (q5_V10 z (tz5 z hz)).trans (rfl)
  clear hc5
  exact pw_some ⟨hf1, hf2, hf3, hf4, hf5⟩
abbrev RF_X5_clear (la : Nat → Nat) (G : Nat → Nat → Int32) (P : Nat → Nat → Option Nat) (U : Nat → Nat → Int64) (V : Nat → Nat → Nat → Int32) (X : Nat → Nat → Nat → Int64) (O : Nat → Nat → Nat → Option Nat) (kd : Nat → Nat) (ln : Nat → Nat) (cnt : Nat) (this : Nat) (p0 : Int32) : ((Nat → Int32) × (Nat → Int32) × (Nat → Int32) × (Nat → Int32)) → Prop := fun t => (∀ z, ((la z < la this ∨ la this + 5 < la z)) → (t.1) z = (G 100) z) ∧ (∀ z, ((la z < la this ∨ la this + 5 < la z)) → (t.2.1) z = (G 102) z) ∧ (∀ z, ((la z < la this ∨ la this + 5 < la z)) → (t.2.2.1) z = (G 107) z) ∧ (∀ z, ((la z < la this ∨ la this + 5 < la z)) → (t.2.2.2) z = (G 203) z)
set_option maxHeartbeats 4000000 in
set_option maxRecDepth 100000 in
theorem fr_X5_clear (la : Nat → Nat) (G : Nat → Nat → Int32) (P : Nat → Nat → Option Nat) (U : Nat → Nat → Int64) (V : Nat → Nat → Nat → Int32) (X : Nat → Nat → Nat → Int64) (O : Nat → Nat → Nat → Option Nat) (kd : Nat → Nat) (ln : Nat → Nat) (cnt : Nat) (this : Nat) (p0 : Int32) (hB : LB la cnt P) : pw (f_X5_clear G P U V X O kd ln cnt this p0) (RF_X5_clear la G P U V X O kd ln cnt this p0) := by
  unfold f_X5_clear
  refine pw_vl (fun m2 em2 => ?_)
  have hf1 : ∀ z, ((la z < la this ∨ la this + 5 < la z)) → m2 z = (G 100) z := fr_up (e0 := (G 100)) (fun _ _ => rfl) em2 (show ¬ ((la this < la this ∨ la this + 5 < la this)) from by omega)
  refine pw_vl (fun m7 em7 => ?_)
  have hf2 : ∀ z, ((la z < la this ∨ la this + 5 < la z)) → m7 z = (G 102) z := fr_up (e0 := (G 102)) (fun _ _ => rfl) em7 (show ¬ ((la this < la this ∨ la this + 5 < la this)) from by omega)
  refine pw_nn (fun a11 hn_a11 => ?_)
  have lt_a11 := ((hB.1 103 fl_103) this a11 hn_a11).2.1
  have lb_a11 : la a11 = la this + 1 := lk_103.mp ((hB.1 103 fl_103) this a11 hn_a11).2.2
  refine pw_vl (fun m15 em15 => ?_)
  have hf3 : ∀ z, ((la z < la this ∨ la this + 5 < la z)) → m15 z = (G 203) z := fr_up (e0 := (G 203)) (fun _ _ => rfl) em15 (show ¬ ((la a11 < la this ∨ la this + 5 < la a11)) from by omega)
  refine pw_nn (fun a19 hn_a19 => ?_)
  have lt_a19 := ((hB.1 104 fl_104) this a19 hn_a19).2.1
  have lb_a19 : la a19 = la this + 2 := lk_104.mp ((hB.1 104 fl_104) this a19 hn_a19).2.2
  refine pw_vl (fun m23 em23 => ?_)
  have hf4 : ∀ z, ((la z < la this ∨ la this + 5 < la z)) → m23 z = (G 203) z := fr_up (e0 := (G 203)) hf3 em23 (show ¬ ((la a19 < la this ∨ la this + 5 < la a19)) from by omega)
  refine pw_nn (fun a27 hn_a27 => ?_)
  have lt_a27 := ((hB.1 105 fl_105) this a27 hn_a27).2.1
  have lb_a27 : la a27 = la this + 3 := lk_105.mp ((hB.1 105 fl_105) this a27 hn_a27).2.2
  refine pw_vl (fun m31 em31 => ?_)
  have hf5 : ∀ z, ((la z < la this ∨ la this + 5 < la z)) → m31 z = (G 203) z := fr_up (e0 := (G 203)) hf4 em31 (show ¬ ((la a27 < la this ∨ la this + 5 < la a27)) from by omega)
  refine pw_vl (fun m36 em36 => ?_)
  have hf6 : ∀ z, ((la z < la this ∨ la this + 5 < la z)) → m36 z = (G 107) z := fr_up (e0 := (G 107)) (fun _ _ => rfl) em36 (show ¬ ((la this < la this ∨ la this + 5 < la this)) from by omega)
  refine pw_nn (fun a40 hn_a40 => ?_)
  have lt_a40 := ((hB.1 108 fl_108) this a40 hn_a40).2.1
  have lb_a40 : la a40 = la this + 4 := lk_108.mp ((hB.1 108 fl_108) this a40 hn_a40).2.2
  refine pw_vl (fun m44 em44 => ?_)
  have hf7 : ∀ z, ((la z < la this ∨ la this + 5 < la z)) → m44 z = (G 203) z := fr_up (e0 := (G 203)) hf5 em44 (show ¬ ((la a40 < la this ∨ la this + 5 < la a40)) from by omega)
  exact pw_some ⟨hf1, hf2, hf6, hf7⟩
abbrev RF_X9_addEntry (la : Nat → Nat) (G : Nat → Nat → Int32) (P : Nat → Nat → Option Nat) (U : Nat → Nat → Int64) (V : Nat → Nat → Nat → Int32) (X : Nat → Nat → Nat → Int64) (O : Nat → Nat → Nat → Option Nat) (kd : Nat → Nat) (ln : Nat → Nat) (cnt : Nat) (this : Nat) (p0 : Nat) (p1 : Int32) (p2 : Nat) : ((Nat → Int32) × (Nat → Nat → Int32) × (Nat → Nat → Int32)) → Prop := fun t => (∀ z, ((la z < la p2 ∨ la p2 < la z)) → (t.1) z = (G 203) z) ∧ (∀ z, ((la z < la p2 ∨ la p2 < la z)) → (t.2.1) z = (V 0) z) ∧ (∀ z, ((la z < la p2 ∨ la p2 < la z)) → (t.2.2) z = (V 1) z)
set_option maxHeartbeats 4000000 in
set_option maxRecDepth 100000 in
theorem fr_X9_addEntry (la : Nat → Nat) (G : Nat → Nat → Int32) (P : Nat → Nat → Option Nat) (U : Nat → Nat → Int64) (V : Nat → Nat → Nat → Int32) (X : Nat → Nat → Nat → Int64) (O : Nat → Nat → Nat → Option Nat) (kd : Nat → Nat) (ln : Nat → Nat) (cnt : Nat) (this : Nat) (p0 : Nat) (p1 : Int32) (p2 : Nat) (hB : LB la cnt P) : pw (f_X9_addEntry G P U V X O kd ln cnt this p0 p1 p2) (RF_X9_addEntry la G P U V X O kd ln cnt this p0 p1 p2) := by
  unfold f_X9_addEntry
  refine pw_b1 (fun r2 hc2 => ?_)
  clear hc2
  refine pw_jn (fun j19 => ∀ (t19_0 : Nat), pw (j19 t19_0) (RF_X9_addEntry la G P U V X O kd ln cnt this p0 p1 p2)) ?_ ?_
  · intro t19_0
    show pw _ _
    refine pw_jn (fun j53 => ∀ (c53_G203 : Nat → Int32) (c53_V0 : Nat → Nat → Int32) (c53_V1 : Nat → Nat → Int32), (∀ z, ((la z < la p2 ∨ la p2 < la z)) → c53_G203 z = (G 203) z) → (∀ z, ((la z < la p2 ∨ la p2 < la z)) → c53_V0 z = (V 0) z) → (∀ z, ((la z < la p2 ∨ la p2 < la z)) → c53_V1 z = (V 1) z) → pw (j53 c53_G203 c53_V0 c53_V1) (RF_X9_addEntry la G P U V X O kd ln cnt this p0 p1 p2)) ?_ ?_
    · intro c53_G203 c53_V0 c53_V1 hf1 hf2 hf3
      show pw _ _
      exact pw_some ⟨hf1, hf2, hf3⟩
    intro j53 Jj53
    refine pw_ite (fun _ => ?_) (fun _ => ?_)
    · skip
      exact Jj53 (G 203) (V 0) (V 1) (fun _ _ => rfl) (fun _ _ => rfl) (fun _ _ => rfl)
    · skip
      refine pw_nn (fun a33 hn_a33 => ?_)
      have lt_a33 := ((hB.1 201 fl_201) t19_0 a33 hn_a33).2.1
      have lb_a33 : la a33 = la t19_0 + 0 := lk_201.mp ((hB.1 201 fl_201) t19_0 a33 hn_a33).2.2
      refine pw_nn (fun a45 hn_a45 => ?_)
      have lt_a45 := ((hB.1 202 fl_202) t19_0 a45 hn_a45).2.1
      have lb_a45 : la a45 = la t19_0 + 0 := lk_202.mp ((hB.1 202 fl_202) t19_0 a45 hn_a45).2.2
      refine pw_if (fun _ => ?_)
      refine pw_b3 (fun c50_G203 c50_V0 c50_V1 hc50 => ?_)
      have hq50 := fr_X10_addForm la G P U V X O kd ln cnt p2 a33 (p1 * ((G 200) t19_0)) (((V 1) a45) (Int32.toNatClampNeg p1)) hB _ hc50
      obtain ⟨q50_G203, q50_V0, q50_V1⟩ : (∀ z, (la z < la p2 ∨ la p2 < la z) → c50_G203 z = (G 203) z) ∧ (∀ z, (la z < la p2 ∨ la p2 < la z) → c50_V0 z = (V 0) z) ∧ (∀ z, (la z < la p2 ∨ la p2 < la z) → c50_V1 z = (V 1) z) := hq50
      have tz50 : ∀ z, ((la z < la p2 ∨ la p2 < la z)) → ((la z < la p2 ∨ la p2 < la z)) := fun z hz => by omega
      have hf4 : ∀ z, ((la z < la p2 ∨ la p2 < la z)) → c50_G203 z = (G 203) z := fun z hz => (q50_G203 z (tz50 z hz)).trans (rfl)
      have hf5 : ∀ z, ((la z < la p2 ∨ la p2 < la z)) → c50_V0 z = (V 0) z := fun z hz => (q50_V0 z (tz50 z hz)).trans (rfl)
      have hf6 : ∀ z, ((la z < la p2 ∨ la p2 < la z)) → c50_V1 z = (V 1) z := fun z hz => (q50_V1 z (tz50 z hz)).trans (rfl)
      clear hc50
      exact Jj53 c50_G203 c50_V0 c50_V1 hf4 hf5 hf6
  intro j19 Jj19
  refine pw_ite (fun _ => ?_) (fun _ => ?_)
  · skip
    refine pw_nn (fun a16 hn_a16 => ?_)
    have lt_a16 := ((hB.1 105 fl_105) p0 a16 hn_a16).2.1
    have lb_a16 : la a16 = la p0 + 3 := lk_105.mp ((hB.1 105 fl_105) p0 a16 hn_a16).2.2
    exact Jj19 a16
  · skip
    refine pw_nn (fun a9 hn_a9 => ?_)
    have lt_a9 := ((hB.1 104 fl_104) p0 a9 hn_a9).2.1
    have lb_a9 : la a9 = la p0 + 2 := lk_104.mp ((hB.1 104 fl_104) p0 a9 hn_a9).2.2
    exact Jj19 a9
abbrev RF_X9_apply (la : Nat → Nat) (G : Nat → Nat → Int32) (P : Nat → Nat → Option Nat) (U : Nat → Nat → Int64) (V : Nat → Nat → Nat → Int32) (X : Nat → Nat → Nat → Int64) (O : Nat → Nat → Nat → Option Nat) (kd : Nat → Nat) (ln : Nat → Nat) (cnt : Nat) (this : Nat) (p0 : Nat) : (Int32 × (Nat → Int32) × (Nat → Option Nat) × (Nat → Option Nat) × (Nat → Nat → Int32)) → Prop := fun t => (∀ z, ((la z < la this ∨ la this + 8 < la z)) → (t.2.1) z = (G 183) z) ∧ (∀ z, ((la z < la this ∨ la this + 8 < la z)) → (t.2.2.1) z = (P 181) z) ∧ (∀ z, ((la z < la this ∨ la this + 8 < la z)) → (t.2.2.2.1) z = (P 182) z) ∧ (∀ z, ((la z < la this ∨ la this + 8 < la z)) → (t.2.2.2.2) z = (V 0) z) ∧ LC 181 la cnt (t.2.2.1) ∧ LC 182 la cnt (t.2.2.2.1)
set_option maxHeartbeats 4000000 in
set_option maxRecDepth 100000 in
theorem fr_X9_apply (la : Nat → Nat) (G : Nat → Nat → Int32) (P : Nat → Nat → Option Nat) (U : Nat → Nat → Int64) (V : Nat → Nat → Nat → Int32) (X : Nat → Nat → Nat → Int64) (O : Nat → Nat → Nat → Option Nat) (kd : Nat → Nat) (ln : Nat → Nat) (cnt : Nat) (this : Nat) (p0 : Nat) (hB : LB la cnt P) (hlt_this : this < cnt) : pw (f_X9_apply G P U V X O kd ln cnt this p0) (RF_X9_apply la G P U V X O kd ln cnt this p0) := by
  unfold f_X9_apply
  refine pw_jn (fun k113 => ∀ (x113_2 : Int32) (x113_3 : Int32) (c113_V0 : Nat → Nat → Int32), (∀ z, ((la z < la this ∨ la this + 8 < la z)) → c113_V0 z = (V 0) z) → pw (k113 x113_2 x113_3 c113_V0) (RF_X9_apply la G P U V X O kd ln cnt this p0)) ?_ ?_
  · intro x113_2 x113_3 c113_V0 hf1
    show pw _ _
    refine pw_jn (fun j142 => ∀ (c142_G183 : Nat → Int32) (c142_P181 : Nat → Option Nat) (c142_P182 : Nat → Option Nat), (∀ z, ((la z < la this ∨ la this + 8 < la z)) → c142_G183 z = (G 183) z) → (∀ z, ((la z < la this ∨ la this + 8 < la z)) → c142_P181 z = (P 181) z) → LC 181 la cnt c142_P181 → (∀ z, ((la z < la this ∨ la this + 8 < la z)) → c142_P182 z = (P 182) z) → LC 182 la cnt c142_P182 → pw (j142 c142_G183 c142_P181 c142_P182) (RF_X9_apply la G P U V X O kd ln cnt this p0)) ?_ ?_
    · intro c142_G183 c142_P181 c142_P182 hf2 hf3 hl4 hf5 hl6
      show pw _ _
      refine pw_if (fun _ => ?_)
      exact pw_some ⟨hf2, hf3, hf5, hf1, hl4, hl6⟩
    intro j142 Jj142
    refine pw_ite (fun _ => ?_) (fun _ => ?_)
    · skip
      exact Jj142 (G 183) (P 181) (P 182) (fun _ _ => rfl) (fun _ _ => rfl) (hB.1 181 fl_181) (fun _ _ => rfl) (hB.1 182 fl_182)
    · skip
      refine pw_nn (fun a118 hn_a118 => ?_)
      have lt_a118 := ((hB.1 181 fl_181) this a118 hn_a118).2.1
      have lb_a118 : (la a118 = la this + 1 ∨ la a118 = la this + 2) := lk_181.mp ((hB.1 181 fl_181) this a118 hn_a118).2.2
      refine pw_nn (fun a125 hn_a125 => ?_)
      have lt_a125 := ((hB.1 182 fl_182) this a125 hn_a125).2.1
      have lb_a125 : (la a125 = la this + 1 ∨ la a125 = la this + 2) := lk_182.mp ((hB.1 182 fl_182) this a125 hn_a125).2.2
      refine pw_vl (fun m128 em128 => ?_)
      have hl7 : LC 181 la cnt m128 := LC_up (hB.1 181 fl_181) em128 (by omega) (by omega) (lk_181.mpr (by omega))
      have hf8 : ∀ z, ((la z < la this ∨ la this + 8 < la z)) → m128 z = (P 181) z := fr_up (e0 := (P 181)) (fun _ _ => rfl) em128 (show ¬ ((la this < la this ∨ la this + 8 < la this)) from by omega)
      refine pw_vl (fun m134 em134 => ?_)
      have hl9 : LC 182 la cnt m134 := LC_up (hB.1 182 fl_182) em134 (by omega) (by omega) (lk_182.mpr (by omega))
      have hf10 : ∀ z, ((la z < la this ∨ la this + 8 < la z)) → m134 z = (P 182) z := fr_up (e0 := (P 182)) (fun _ _ => rfl) em134 (show ¬ ((la this < la this ∨ la this + 8 < la this)) from by omega)
      refine pw_vl (fun m139 em139 => ?_)
      have hf11 : ∀ z, ((la z < la this ∨ la this + 8 < la z)) → m139 z = (G 183) z := fr_up (e0 := (G 183)) (fun _ _ => rfl) em139 (show ¬ ((la this < la this ∨ la this + 8 < la this)) from by omega)
      exact Jj142 m139 m128 m134 hf11 hf8 hl7 hf10 hl9
  intro k113 Jk113
  have lp7 : ∀ (n7 : Nat) (y7_2 : Int32) (y7_3 : Int32) (y7_4 : Int32) (d7_V0 : Nat → Nat → Int32), (∀ z, ((la z < la this ∨ la this + 8 < la z)) → d7_V0 z = (V 0) z) → pw (L_X9_apply_7 G P U V X O kd ln cnt this p0 k113 n7 y7_2 y7_3 y7_4 d7_V0) (RF_X9_apply la G P U V X O kd ln cnt this p0) := by
    intro n7
    induction n7 with
    | zero => intros; exact pw_none
    | succ n7 ih7 =>
      intro y7_2 y7_3 y7_4 d7_V0 hf12
      show pw (B_X9_apply_7 G P U V X O kd ln cnt this p0 k113 (L_X9_apply_7 G P U V X O kd ln cnt this p0 k113 n7) y7_2 y7_3 y7_4 d7_V0) _
      unfold B_X9_apply_7
      refine pw_ite (fun _ => ?_) (fun _ => ?_)
      · skip
        exact Jk113 y7_2 y7_3 d7_V0 hf12
      · skip
        refine pw_ite (fun _ => ?_) (fun _ => ?_)
        · skip
          exact Jk113 y7_2 y7_3 d7_V0 hf12
        · skip
          refine pw_nn (fun a24 hn_a24 => ?_)
          have lt_a24 := ((hB.1 181 fl_181) this a24 hn_a24).2.1
          have lb_a24 : (la a24 = la this + 1 ∨ la a24 = la this + 2) := lk_181.mp ((hB.1 181 fl_181) this a24 hn_a24).2.2
          refine pw_nn (fun a34 hn_a34 => ?_)
          have lt_a34 := ((hB.1 182 fl_182) this a34 hn_a34).2.1
          have lb_a34 : (la a34 = la this + 1 ∨ la a34 = la this + 2) := lk_182.mp ((hB.1 182 fl_182) this a34 hn_a34).2.2
          refine pw_b1 (fun r38 hc38 => ?_)
          clear hc38
          refine pw_jn (fun j107 => ∀ (x107_2 : Int32) (x107_3 : Int32) (x107_4 : Int32) (c107_V0 : Nat → Nat → Int32), (∀ z, ((la z < la this ∨ la this + 8 < la z)) → c107_V0 z = (V 0) z) → pw (j107 x107_2 x107_3 x107_4 c107_V0) (RF_X9_apply la G P U V X O kd ln cnt this p0)) ?_ ?_
          · intro x107_2 x107_3 x107_4 c107_V0 hf13
            show pw _ _
            exact ih7 x107_2 x107_3 (x107_4 + 1) c107_V0 hf13
          intro j107 Jj107
          refine pw_ite (fun _ => ?_) (fun _ => ?_)
          · skip
            refine pw_nn (fun a92 hn_a92 => ?_)
            have lt_a92 := ((hB.1 182 fl_182) this a92 hn_a92).2.1
            have lb_a92 : (la a92 = la this + 1 ∨ la a92 = la this + 2) := lk_182.mp ((hB.1 182 fl_182) this a92 hn_a92).2.2
            refine pw_nn (fun a97 hn_a97 => ?_)
            have lt_a97 := ((hB.1 181 fl_181) this a97 hn_a97).2.1
            have lb_a97 : (la a97 = la this + 1 ∨ la a97 = la this + 2) := lk_181.mp ((hB.1 181 fl_181) this a97 hn_a97).2.2
            refine pw_if (fun _ => ?_)
            refine pw_if (fun _ => ?_)
            refine pw_vl (fun m103 em103 => ?_)
            have hf14 : ∀ z, ((la z < la this ∨ la this + 8 < la z)) → m103 z = (V 0) z := fr_up (e0 := (V 0)) hf12 em103 (show ¬ ((la a92 < la this ∨ la this + 8 < la a92)) from by omega)
            exact Jj107 y7_2 (y7_3 + 1) y7_4 m103 hf14
          · skip
            refine pw_nn (fun a45 hn_a45 => ?_)
            have lt_a45 := ((hB.1 21 fl_21) p0 a45 hn_a45).2.1
            have lb_a45 : la a45 = la p0 + 0 := lk_21.mp ((hB.1 21 fl_21) p0 a45 hn_a45).2.2
            refine pw_nn (fun a50 hn_a50 => ?_)
            have lt_a50 := ((hB.1 182 fl_182) this a50 hn_a50).2.1
            have lb_a50 : (la a50 = la this + 1 ∨ la a50 = la this + 2) := lk_182.mp ((hB.1 182 fl_182) this a50 hn_a50).2.2
            refine pw_nn (fun a55 hn_a55 => ?_)
            have lt_a55 := ((hB.1 21 fl_21) p0 a55 hn_a55).2.1
            have lb_a55 : la a55 = la p0 + 0 := lk_21.mp ((hB.1 21 fl_21) p0 a55 hn_a55).2.2
            refine pw_if (fun _ => ?_)
            refine pw_vl (fun m59 em59 => ?_)
            have hf15 : ∀ z, ((la z < la this ∨ la this + 8 < la z)) → m59 z = (V 0) z := fr_up (e0 := (V 0)) hf12 em59 (show ¬ ((la a50 < la this ∨ la this + 8 < la a50)) from by omega)
            refine pw_nn (fun a64 hn_a64 => ?_)
            have lt_a64 := ((hB.1 21 fl_21) p0 a64 hn_a64).2.1
            have lb_a64 : la a64 = la p0 + 0 := lk_21.mp ((hB.1 21 fl_21) p0 a64 hn_a64).2.2
            refine pw_vl (fun x69 _ => ?_)
            refine pw_nn (fun a73 hn_a73 => ?_)
            have lt_a73 := ((hB.1 20 fl_20) p0 a73 hn_a73).2.1
            have lb_a73 : la a73 = la p0 + 0 := lk_20.mp ((hB.1 20 fl_20) p0 a73 hn_a73).2.2
            refine pw_vl (fun x84 _ => ?_)
            exact Jj107 1 x69 x84 m59 hf15
  exact lp7 NN 0 0 0 (V 0) (fun _ _ => rfl)
abbrev RF_X9_runLaws (la : Nat → Nat) (G : Nat → Nat → Int32) (P : Nat → Nat → Option Nat) (U : Nat → Nat → Int64) (V : Nat → Nat → Nat → Int32) (X : Nat → Nat → Nat → Int64) (O : Nat → Nat → Nat → Option Nat) (kd : Nat → Nat) (ln : Nat → Nat) (cnt : Nat) (this : Nat) (p0 : Nat) (p1 : Nat) (p2 : Int32) (p3 : Int32) : (Int32 × (Nat → Int32) × (Nat → Option Nat) × (Nat → Option Nat) × (Nat → Int64) × (Nat → Nat → Int32)) → Prop := fun t => (∀ z, ((la z < la this ∨ la this + 8 < la z)) → (t.2.1) z = (G 183) z) ∧ (∀ z, ((la z < la this ∨ la this + 8 < la z)) → (t.2.2.1) z = (P 181) z) ∧ (∀ z, ((la z < la this ∨ la this + 8 < la z)) → (t.2.2.2.1) z = (P 182) z) ∧ (∀ z, ((la z < la this ∨ la this + 8 < la z)) → (t.2.2.2.2.1) z = (U 184) z) ∧ (∀ z, ((la z < la this ∨ la this + 8 < la z)) → (t.2.2.2.2.2) z = (V 0) z) ∧ LC 181 la cnt (t.2.2.1) ∧ LC 182 la cnt (t.2.2.2.1)
set_option maxHeartbeats 4000000 in
set_option maxRecDepth 100000 in
theorem fr_X9_runLaws (la : Nat → Nat) (G : Nat → Nat → Int32) (P : Nat → Nat → Option Nat) (U : Nat → Nat → Int64) (V : Nat → Nat → Nat → Int32) (X : Nat → Nat → Nat → Int64) (O : Nat → Nat → Nat → Option Nat) (kd : Nat → Nat) (ln : Nat → Nat) (cnt : Nat) (this : Nat) (p0 : Nat) (p1 : Nat) (p2 : Int32) (p3 : Int32) (hB : LB la cnt P) (hlt_this : this < cnt) : pw (f_X9_runLaws G P U V X O kd ln cnt this p0 p1 p2 p3) (RF_X9_runLaws la G P U V X O kd ln cnt this p0 p1 p2 p3) := by
  unfold f_X9_runLaws
  refine pw_vl (fun m2 em2 => ?_)
  have hf1 : ∀ z, ((la z < la this ∨ la this + 8 < la z)) → m2 z = (U 184) z := fr_up (e0 := (U 184)) (fun _ _ => rfl) em2 (show ¬ ((la this < la this ∨ la this + 8 < la this)) from by omega)
  refine pw_vl (fun x13 _ => ?_)
  refine pw_vl (fun m13 em13 => ?_)
  have hf2 : ∀ z, ((la z < la this ∨ la this + 8 < la z)) → m13 z = (G 183) z := fr_up (e0 := (G 183)) (fun _ _ => rfl) em13 (show ¬ ((la this < la this ∨ la this + 8 < la this)) from by omega)
  refine pw_nn (fun a19 hn_a19 => ?_)
  have lt_a19 := ((hB.1 181 fl_181) this a19 hn_a19).2.1
  have lb_a19 : (la a19 = la this + 1 ∨ la a19 = la this + 2) := lk_181.mp ((hB.1 181 fl_181) this a19 hn_a19).2.2
  refine pw_if (fun _ => ?_)
  refine pw_vl (fun m27 em27 => ?_)
  have hf3 : ∀ z, ((la z < la this ∨ la this + 8 < la z)) → m27 z = (V 0) z := fr_up (e0 := (V 0)) (fun _ _ => rfl) em27 (show ¬ ((la a19 < la this ∨ la this + 8 < la a19)) from by omega)
  refine pw_jn (fun k93 => ∀ (c93_G183 : Nat → Int32) (c93_P181 : Nat → Option Nat) (c93_P182 : Nat → Option Nat) (c93_U184 : Nat → Int64) (c93_V0 : Nat → Nat → Int32), (∀ z, ((la z < la this ∨ la this + 8 < la z)) → c93_G183 z = (G 183) z) → (∀ z, ((la z < la this ∨ la this + 8 < la z)) → c93_P181 z = (P 181) z) → LC 181 la cnt c93_P181 → (∀ z, ((la z < la this ∨ la this + 8 < la z)) → c93_P182 z = (P 182) z) → LC 182 la cnt c93_P182 → (∀ z, ((la z < la this ∨ la this + 8 < la z)) → c93_U184 z = (U 184) z) → (∀ z, ((la z < la this ∨ la this + 8 < la z)) → c93_V0 z = (V 0) z) → pw (k93 c93_G183 c93_P181 c93_P182 c93_U184 c93_V0) (RF_X9_runLaws la G P U V X O kd ln cnt this p0 p1 p2 p3)) ?_ ?_
  · intro c93_G183 c93_P181 c93_P182 c93_U184 c93_V0 hf4 hf5 hl6 hf7 hl8 hf9 hf10
    show pw _ _
    refine pw_jn (fun j107 => ∀ (t107_0 : Int32), pw (j107 t107_0) (RF_X9_runLaws la G P U V X O kd ln cnt this p0 p1 p2 p3)) ?_ ?_
    · intro t107_0
      show pw _ _
      refine pw_if (fun _ => ?_)
      exact pw_some ⟨hf4, hf5, hf7, hf9, hf10, hl6, hl8⟩
    intro j107 Jj107
    refine pw_ite (fun _ => ?_) (fun _ => ?_)
    · skip
      exact Jj107 0
    · skip
      exact Jj107 1
  intro k93 Jk93
  have lp33 : ∀ (n33 : Nat) (y33_5 : Int32) (d33_G183 : Nat → Int32) (d33_P181 : Nat → Option Nat) (d33_P182 : Nat → Option Nat) (d33_U184 : Nat → Int64) (d33_V0 : Nat → Nat → Int32), (∀ z, ((la z < la this ∨ la this + 8 < la z)) → d33_G183 z = (G 183) z) → (∀ z, ((la z < la this ∨ la this + 8 < la z)) → d33_P181 z = (P 181) z) → LC 181 la cnt d33_P181 → (∀ z, ((la z < la this ∨ la this + 8 < la z)) → d33_P182 z = (P 182) z) → LC 182 la cnt d33_P182 → (∀ z, ((la z < la this ∨ la this + 8 < la z)) → d33_U184 z = (U 184) z) → (∀ z, ((la z < la this ∨ la this + 8 < la z)) → d33_V0 z = (V 0) z) → pw (L_X9_runLaws_33 G P U V X O kd ln cnt this p0 k93 n33 y33_5 d33_G183 d33_P181 d33_P182 d33_U184 d33_V0) (RF_X9_runLaws la G P U V X O kd ln cnt this p0 p1 p2 p3) := by
    intro n33
    induction n33 with
    | zero => intros; exact pw_none
    | succ n33 ih33 =>
      intro y33_5 d33_G183 d33_P181 d33_P182 d33_U184 d33_V0 hf11 hf12 hl13 hf14 hl15 hf16 hf17
      show pw (B_X9_runLaws_33 G P U V X O kd ln cnt this p0 k93 (L_X9_runLaws_33 G P U V X O kd ln cnt this p0 k93 n33) y33_5 d33_G183 d33_P181 d33_P182 d33_U184 d33_V0) _
      unfold B_X9_runLaws_33
      refine pw_ite (fun _ => ?_) (fun _ => ?_)
      · skip
        exact Jk93 d33_G183 d33_P181 d33_P182 d33_U184 d33_V0 hf11 hf12 hl13 hf14 hl15 hf16 hf17
      · skip
        refine pw_ite (fun _ => ?_) (fun _ => ?_)
        · skip
          exact Jk93 d33_G183 d33_P181 d33_P182 d33_U184 d33_V0 hf11 hf12 hl13 hf14 hl15 hf16 hf17
        · skip
          refine pw_nn (fun a52 hn_a52 => ?_)
          have lt_a52 := ((hB.1 101 fl_101) p0 a52 hn_a52).2.1
          have lb_a52 : la a52 = la p0 + 0 := lk_101.mp ((hB.1 101 fl_101) p0 a52 hn_a52).2.2
          refine pw_if (fun _ => ?_)
          refine pw_vl (fun o57 _ => ?_)
          refine pw_jn (fun j87 => ∀ (c87_G183 : Nat → Int32) (c87_P181 : Nat → Option Nat) (c87_P182 : Nat → Option Nat) (c87_U184 : Nat → Int64) (c87_V0 : Nat → Nat → Int32), (∀ z, ((la z < la this ∨ la this + 8 < la z)) → c87_G183 z = (G 183) z) → (∀ z, ((la z < la this ∨ la this + 8 < la z)) → c87_P181 z = (P 181) z) → LC 181 la cnt c87_P181 → (∀ z, ((la z < la this ∨ la this + 8 < la z)) → c87_P182 z = (P 182) z) → LC 182 la cnt c87_P182 → (∀ z, ((la z < la this ∨ la this + 8 < la z)) → c87_U184 z = (U 184) z) → (∀ z, ((la z < la this ∨ la this + 8 < la z)) → c87_V0 z = (V 0) z) → pw (j87 c87_G183 c87_P181 c87_P182 c87_U184 c87_V0) (RF_X9_runLaws la G P U V X O kd ln cnt this p0 p1 p2 p3)) ?_ ?_
          · intro c87_G183 c87_P181 c87_P182 c87_U184 c87_V0 hf18 hf19 hl20 hf21 hl22 hf23 hf24
            show pw _ _
            exact ih33 (y33_5 + 1) c87_G183 c87_P181 c87_P182 c87_U184 c87_V0 hf18 hf19 hl20 hf21 hl22 hf23 hf24
          intro j87 Jj87
          refine pw_oc (fun _ => ?_) (fun b62 _ => ?_)
          · skip
            exact Jj87 d33_G183 d33_P181 d33_P182 d33_U184 d33_V0 hf11 hf12 hl13 hf14 hl15 hf16 hf17
          · skip
            refine pw_b5 (fun r68 c68_G183 c68_P181 c68_P182 c68_V0 hc68 => ?_)
            have hq68 := fr_X9_apply la (va_up G 183 d33_G183) (va_up (va_up P 181 d33_P181) 182 d33_P182) (va_up U 184 d33_U184) (va_up V 0 d33_V0) X O kd ln cnt this b62 (LB_set (LB_set hB hl13) hl15) hlt_this _ hc68
            obtain ⟨q68_G183, q68_P181, q68_P182, q68_V0, ql68_181, ql68_182⟩ : (∀ z, (la z < la this ∨ la this + 8 < la z) → c68_G183 z = d33_G183 z) ∧ (∀ z, (la z < la this ∨ la this + 8 < la z) → c68_P181 z = d33_P181 z) ∧ (∀ z, (la z < la this ∨ la this + 8 < la z) → c68_P182 z = d33_P182 z) ∧ (∀ z, (la z < la this ∨ la this + 8 < la z) → c68_V0 z = d33_V0 z) ∧ LC 181 la cnt c68_P181 ∧ LC 182 la cnt c68_P182 := hq68
            have tz68 : ∀ z, ((la z < la this ∨ la this + 8 < la z)) → ((la z < la this ∨ la this + 8 < la z)) := fun z hz => by omega
            have hf25 : ∀ z, ((la z < la this ∨ la this + 8 < la z)) → c68_G183 z = (G 183) z := fun z hz => (q68_G183 z (tz68 z hz)).trans (hf11 z hz)
            have hf26 : ∀ z, ((la z < la this ∨ la this + 8 < la z)) → c68_P181 z = (P 181) z := fun z hz => (q68_P181 z (tz68 z hz)).trans (hf12 z hz)
            have hf27 : ∀ z, ((la z < la this ∨ la this + 8 < la z)) → c68_P182 z = (P 182) z := fun z hz => (q68_P182 z (tz68 z hz)).trans (hf14 z hz)
            have hf28 : ∀ z, ((la z < la this ∨ la this + 8 < la z)) → c68_V0 z = (V 0) z := fun z hz => (q68_V0 z (tz68 z hz)).trans (hf17 z hz)
            clear hc68
            refine pw_ite (fun _ => ?_) (fun _ => ?_)
            · skip
              exact Jj87 c68_G183 c68_P181 c68_P182 d33_U184 c68_V0 hf25 hf26 ql68_181 hf27 ql68_182 hf16 hf28
            · skip
              refine pw_vl (fun x84 _ => ?_)
              refine pw_vl (fun m84 em84 => ?_)
              have hf29 : ∀ z, ((la z < la this ∨ la this + 8 < la z)) → m84 z = (U 184) z := fr_up (e0 := (U 184)) hf16 em84 (show ¬ ((la this < la this ∨ la this + 8 < la this)) from by omega)
              exact Jj87 c68_G183 c68_P181 c68_P182 m84 c68_V0 hf25 hf26 ql68_181 hf27 ql68_182 hf29 hf28
  exact lp33 NN 0 m13 (P 181) (P 182) m2 m27 hf2 (fun _ _ => rfl) (hB.1 181 fl_181) (fun _ _ => rfl) (hB.1 182 fl_182) hf1 hf3
abbrev RF_X9_turnParting (la : Nat → Nat) (G : Nat → Nat → Int32) (P : Nat → Nat → Option Nat) (U : Nat → Nat → Int64) (V : Nat → Nat → Nat → Int32) (X : Nat → Nat → Nat → Int64) (O : Nat → Nat → Nat → Option Nat) (kd : Nat → Nat) (ln : Nat → Nat) (cnt : Nat) (this : Nat) (p0 : Nat) (p1 : Int32) (p2 : Nat) : (Int64 × (Nat → Int32) × (Nat → Nat → Int32) × (Nat → Nat → Int32)) → Prop := fun t => (∀ z, ((la z < la this ∨ la this + 8 < la z) ∧ (la z < la p2 ∨ la p2 < la z)) → (t.2.1) z = (G 203) z) ∧ (∀ z, ((la z < la this ∨ la this + 8 < la z) ∧ (la z < la p2 ∨ la p2 < la z)) → (t.2.2.1) z = (V 0) z) ∧ (∀ z, ((la z < la this ∨ la this + 8 < la z) ∧ (la z < la p2 ∨ la p2 < la z)) → (t.2.2.2) z = (V 1) z)
set_option maxHeartbeats 4000000 in
set_option maxRecDepth 100000 in
theorem fr_X9_turnParting (la : Nat → Nat) (G : Nat → Nat → Int32) (P : Nat → Nat → Option Nat) (U : Nat → Nat → Int64) (V : Nat → Nat → Nat → Int32) (X : Nat → Nat → Nat → Int64) (O : Nat → Nat → Nat → Option Nat) (kd : Nat → Nat) (ln : Nat → Nat) (cnt : Nat) (this : Nat) (p0 : Nat) (p1 : Int32) (p2 : Nat) (hB : LB la cnt P) : pw (f_X9_turnParting G P U V X O kd ln cnt this p0 p1 p2) (RF_X9_turnParting la G P U V X O kd ln cnt this p0 p1 p2) := by
  unfold f_X9_turnParting
  refine pw_nn (fun a1 hn_a1 => ?_)
  have lt_a1 := ((hB.1 108 fl_108) p0 a1 hn_a1).2.1
  have lb_a1 : la a1 = la p0 + 4 := lk_108.mp ((hB.1 108 fl_108) p0 a1 hn_a1).2.2
  refine pw_jn (fun k149 => ∀ (x149_5 : Int64) (x149_7 : Int32) (c149_V0 : Nat → Nat → Int32), (∀ z, ((la z < la this ∨ la this + 8 < la z) ∧ (la z < la p2 ∨ la p2 < la z)) → c149_V0 z = (V 0) z) → pw (k149 x149_5 x149_7 c149_V0) (RF_X9_turnParting la G P U V X O kd ln cnt this p0 p1 p2)) ?_ ?_
  · intro x149_5 x149_7 c149_V0 hf1
    show pw _ _
    refine pw_jn (fun j167 => ∀ (c167_G203 : Nat → Int32) (c167_V0 : Nat → Nat → Int32) (c167_V1 : Nat → Nat → Int32), (∀ z, ((la z < la this ∨ la this + 8 < la z) ∧ (la z < la p2 ∨ la p2 < la z)) → c167_G203 z = (G 203) z) → (∀ z, ((la z < la this ∨ la this + 8 < la z) ∧ (la z < la p2 ∨ la p2 < la z)) → c167_V0 z = (V 0) z) → (∀ z, ((la z < la this ∨ la this + 8 < la z) ∧ (la z < la p2 ∨ la p2 < la z)) → c167_V1 z = (V 1) z) → pw (j167 c167_G203 c167_V0 c167_V1) (RF_X9_turnParting la G P U V X O kd ln cnt this p0 p1 p2)) ?_ ?_
    · intro c167_G203 c167_V0 c167_V1 hf2 hf3 hf4
      show pw _ _
      exact pw_some ⟨hf2, hf3, hf4⟩
    intro j167 Jj167
    refine pw_ite (fun _ => ?_) (fun _ => ?_)
    · skip
      exact Jj167 (G 203) c149_V0 (V 1) (fun _ _ => rfl) hf1 (fun _ _ => rfl)
    · skip
      refine pw_nn (fun a158 hn_a158 => ?_)
      have lt_a158 := ((hB.1 185 fl_185) this a158 hn_a158).2.1
      have lb_a158 : la a158 = la this + 3 := lk_185.mp ((hB.1 185 fl_185) this a158 hn_a158).2.2
      refine pw_b3 (fun c164_G203 c164_V0 c164_V1 hc164 => ?_)
      have hq164 := fr_X10_addForm la G P U (va_up V 0 c149_V0) X O kd ln cnt p2 a158 (0 : Int32) x149_7 hB _ hc164
      obtain ⟨q164_G203, q164_V0, q164_V1⟩ : (∀ z, (la z < la p2 ∨ la p2 < la z) → c164_G203 z = (G 203) z) ∧ (∀ z, (la z < la p2 ∨ la p2 < la z) → c164_V0 z = c149_V0 z) ∧ (∀ z, (la z < la p2 ∨ la p2 < la z) → c164_V1 z = (V 1) z) := hq164
      have tz164 : ∀ z, ((la z < la this ∨ la this + 8 < la z) ∧ (la z < la p2 ∨ la p2 < la z)) → ((la z < la p2 ∨ la p2 < la z)) := fun z hz => by omega
      have hf5 : ∀ z, ((la z < la this ∨ la this + 8 < la z) ∧ (la z < la p2 ∨ la p2 < la z)) → c164_G203 z = (G 203) z := fun z hz => (q164_G203 z (tz164 z hz)).trans (rfl)
      have hf6 : ∀ z, ((la z < la this ∨ la this + 8 < la z) ∧ (la z < la p2 ∨ la p2 < la z)) → c164_V0 z = (V 0) z := fun z hz => (q164_V0 z (tz164 z hz)).trans (hf1 z hz)
      have hf7 : ∀ z, ((la z < la this ∨ la this + 8 < la z) ∧ (la z < la p2 ∨ la p2 < la z)) → c164_V1 z = (V 1) z := fun z hz => (q164_V1 z (tz164 z hz)).trans (rfl)
      clear hc164
      exact Jj167 c164_G203 c164_V0 c164_V1 hf5 hf6 hf7
  intro k149 Jk149
  refine pw_jn (fun k56 => ∀ (x56_5 : Int64) (c56_V0 : Nat → Nat → Int32), (∀ z, ((la z < la this ∨ la this + 8 < la z) ∧ (la z < la p2 ∨ la p2 < la z)) → c56_V0 z = (V 0) z) → pw (k56 x56_5 c56_V0) (RF_X9_turnParting la G P U V X O kd ln cnt this p0 p1 p2)) ?_ ?_
  · intro x56_5 c56_V0 hf8
    show pw _ _
    exact pw_some ⟨(fun _ _ => rfl), hf8, (fun _ _ => rfl)⟩
  intro k56 Jk56
  have lp15 : ∀ (n15 : Nat) (y15_5 : Int64) (y15_7 : Int32) (y15_8 : Int32) (d15_V0 : Nat → Nat → Int32), (∀ z, ((la z < la this ∨ la this + 8 < la z) ∧ (la z < la p2 ∨ la p2 < la z)) → d15_V0 z = (V 0) z) → pw (L_X9_turnParting_15 G P U V X O kd ln cnt this p0 p1 a1 k149 k56 n15 y15_5 y15_7 y15_8 d15_V0) (RF_X9_turnParting la G P U V X O kd ln cnt this p0 p1 p2) := by
    intro n15
    induction n15 with
    | zero => intros; exact pw_none
    | succ n15 ih15 =>
      intro y15_5 y15_7 y15_8 d15_V0 hf9
      show pw (B_X9_turnParting_15 G P U V X O kd ln cnt this p0 p1 a1 k149 k56 (L_X9_turnParting_15 G P U V X O kd ln cnt this p0 p1 a1 k149 k56 n15) y15_5 y15_7 y15_8 d15_V0) _
      unfold B_X9_turnParting_15
      refine pw_nn (fun a18 hn_a18 => ?_)
      have lt_a18 := ((hB.1 180 fl_180) this a18 hn_a18).2.1
      have lb_a18 : la a18 = la this + 6 := lk_180.mp ((hB.1 180 fl_180) this a18 hn_a18).2.2
      refine pw_nn (fun a21 hn_a21 => ?_)
      have lt_a21 := ((hB.1 61 fl_61) a18 a21 hn_a21).2.1
      have lb_a21 : la a21 = la a18 + 0 := lk_61.mp ((hB.1 61 fl_61) a18 a21 hn_a21).2.2
      refine pw_if (fun _ => ?_)
      refine pw_ite (fun _ => ?_) (fun _ => ?_)
      · skip
        exact Jk149 y15_5 y15_7 d15_V0 hf9
      · skip
        refine pw_nn (fun a30 hn_a30 => ?_)
        have lt_a30 := ((hB.1 180 fl_180) this a30 hn_a30).2.1
        have lb_a30 : la a30 = la this + 6 := lk_180.mp ((hB.1 180 fl_180) this a30 hn_a30).2.2
        refine pw_b1 (fun r36 hc36 => ?_)
        clear hc36
        refine pw_ite (fun _ => ?_) (fun _ => ?_)
        · skip
          exact Jk56 y15_5 d15_V0 hf9
        · skip
          refine pw_ite (fun _ => ?_) (fun _ => ?_)
          · skip
            refine pw_nn (fun a62 hn_a62 => ?_)
            have lt_a62 := ((hB.1 110 fl_110) p0 a62 hn_a62).2.1
            have lb_a62 : la a62 = la p0 + 0 := lk_110.mp ((hB.1 110 fl_110) p0 a62 hn_a62).2.2
            refine pw_if (fun _ => ?_)
            refine pw_vl (fun x69 _ => ?_)
            refine pw_nn (fun a72 hn_a72 => ?_)
            have lt_a72 := ((hB.1 109 fl_109) p0 a72 hn_a72).2.1
            have lb_a72 : la a72 = la p0 + 0 := lk_109.mp ((hB.1 109 fl_109) p0 a72 hn_a72).2.2
            refine pw_if (fun _ => ?_)
            refine pw_ite (fun _ => ?_) (fun _ => ?_)
            · skip
              exact pw_some ⟨(fun _ _ => rfl), hf9, (fun _ _ => rfl)⟩
            · skip
              refine pw_nn (fun a88 hn_a88 => ?_)
              have lt_a88 := ((hB.1 202 fl_202) a1 a88 hn_a88).2.1
              have lb_a88 : la a88 = la a1 + 0 := lk_202.mp ((hB.1 202 fl_202) a1 a88 hn_a88).2.2
              refine pw_if (fun _ => ?_)
              refine pw_jn (fun j130 => ∀ (c130_V0 : Nat → Nat → Int32), (∀ z, ((la z < la this ∨ la this + 8 < la z) ∧ (la z < la p2 ∨ la p2 < la z)) → c130_V0 z = (V 0) z) → pw (j130 c130_V0) (RF_X9_turnParting la G P U V X O kd ln cnt this p0 p1 p2)) ?_ ?_
              · intro c130_V0 hf10
                show pw _ _
                refine pw_nn (fun a134 hn_a134 => ?_)
                have lt_a134 := ((hB.1 202 fl_202) a1 a134 hn_a134).2.1
                have lb_a134 : la a134 = la a1 + 0 := lk_202.mp ((hB.1 202 fl_202) a1 a134 hn_a134).2.2
                refine pw_if (fun _ => ?_)
                refine pw_vl (fun x141 _ => ?_)
                exact ih15 x69 x141 (y15_8 + 1) c130_V0 hf10
              intro j130 Jj130
              refine pw_ite (fun _ => ?_) (fun _ => ?_)
              · skip
                exact Jj130 d15_V0 hf9
              · skip
                refine pw_nn (fun a102 hn_a102 => ?_)
                have lt_a102 := ((hB.1 201 fl_201) a1 a102 hn_a102).2.1
                have lb_a102 : la a102 = la a1 + 0 := lk_201.mp ((hB.1 201 fl_201) a1 a102 hn_a102).2.2
                refine pw_nn (fun a114 hn_a114 => ?_)
                have lt_a114 := ((hB.1 185 fl_185) this a114 hn_a114).2.1
                have lb_a114 : la a114 = la this + 3 := lk_185.mp ((hB.1 185 fl_185) this a114 hn_a114).2.2
                refine pw_nn (fun a121 hn_a121 => ?_)
                have lt_a121 := ((hB.1 202 fl_202) a1 a121 hn_a121).2.1
                have lb_a121 : la a121 = la a1 + 0 := lk_202.mp ((hB.1 202 fl_202) a1 a121 hn_a121).2.2
                refine pw_if (fun _ => ?_)
                refine pw_if (fun _ => ?_)
                refine pw_vl (fun m127 em127 => ?_)
                have hf11 : ∀ z, ((la z < la this ∨ la this + 8 < la z) ∧ (la z < la p2 ∨ la p2 < la z)) → m127 z = (V 0) z := fr_up (e0 := (V 0)) hf9 em127 (show ¬ ((la a114 < la this ∨ la this + 8 < la a114) ∧ (la a114 < la p2 ∨ la p2 < la a114)) from by omega)
                exact Jj130 m127 hf11
          · skip
            exact Jk56 y15_5 d15_V0 hf9
  exact lp15 NN 0 0 0 (V 0) (fun _ _ => rfl)
abbrev RF_X9_turnWord (la : Nat → Nat) (G : Nat → Nat → Int32) (P : Nat → Nat → Option Nat) (U : Nat → Nat → Int64) (V : Nat → Nat → Nat → Int32) (X : Nat → Nat → Nat → Int64) (O : Nat → Nat → Nat → Option Nat) (kd : Nat → Nat) (ln : Nat → Nat) (cnt : Nat) (this : Nat) (p0 : Nat) (p1 : Nat) (p2 : Int32) (p3 : Nat) : (Int64 × (Nat → Int32) × (Nat → Int32) × (Nat → Int32) × (Nat → Option Nat) × (Nat → Option Nat) × (Nat → Option Nat) × (Nat → Int64) × (Nat → Nat → Int32) × (Nat → Nat → Int32) × (Nat → Nat → Int32) × (Nat → Nat → Int32)) → Prop := fun t => (∀ z, ((la z < la this ∨ la this + 8 < la z) ∧ (la z < la p3 ∨ la p3 < la z)) → (t.2.1) z = (G 60) z) ∧ (∀ z, ((la z < la this ∨ la this + 8 < la z) ∧ (la z < la p3 ∨ la p3 < la z)) → (t.2.2.1) z = (G 183) z) ∧ (∀ z, ((la z < la this ∨ la this + 8 < la z) ∧ (la z < la p3 ∨ la p3 < la z)) → (t.2.2.2.1) z = (G 203) z) ∧ (∀ z, ((la z < la this ∨ la this + 8 < la z) ∧ (la z < la p3 ∨ la p3 < la z)) → (t.2.2.2.2.1) z = (P 66) z) ∧ (∀ z, ((la z < la this ∨ la this + 8 < la z) ∧ (la z < la p3 ∨ la p3 < la z)) → (t.2.2.2.2.2.1) z = (P 181) z) ∧ (∀ z, ((la z < la this ∨ la this + 8 < la z) ∧ (la z < la p3 ∨ la p3 < la z)) → (t.2.2.2.2.2.2.1) z = (P 182) z) ∧ (∀ z, ((la z < la this ∨ la this + 8 < la z) ∧ (la z < la p3 ∨ la p3 < la z)) → (t.2.2.2.2.2.2.2.1) z = (U 184) z) ∧ (∀ z, ((la z < la this ∨ la this + 8 < la z) ∧ (la z < la p3 ∨ la p3 < la z)) → (t.2.2.2.2.2.2.2.2.1) z = (V 0) z) ∧ (∀ z, ((la z < la this ∨ la this + 8 < la z) ∧ (la z < la p3 ∨ la p3 < la z)) → (t.2.2.2.2.2.2.2.2.2.1) z = (V 1) z) ∧ (∀ z, ((la z < la this ∨ la this + 8 < la z) ∧ (la z < la p3 ∨ la p3 < la z)) → (t.2.2.2.2.2.2.2.2.2.2.1) z = (V 2) z) ∧ (∀ z, ((la z < la this ∨ la this + 8 < la z) ∧ (la z < la p3 ∨ la p3 < la z)) → (t.2.2.2.2.2.2.2.2.2.2.2) z = (V 12) z) ∧ LC 66 la cnt (t.2.2.2.2.1) ∧ LC 181 la cnt (t.2.2.2.2.2.1) ∧ LC 182 la cnt (t.2.2.2.2.2.2.1)
set_option maxHeartbeats 4000000 in
set_option maxRecDepth 100000 in
theorem fr_X9_turnWord (la : Nat → Nat) (G : Nat → Nat → Int32) (P : Nat → Nat → Option Nat) (U : Nat → Nat → Int64) (V : Nat → Nat → Nat → Int32) (X : Nat → Nat → Nat → Int64) (O : Nat → Nat → Nat → Option Nat) (kd : Nat → Nat) (ln : Nat → Nat) (cnt : Nat) (this : Nat) (p0 : Nat) (p1 : Nat) (p2 : Int32) (p3 : Nat) (hB : LB la cnt P) (hlt_this : this < cnt) : pw (f_X9_turnWord G P U V X O kd ln cnt this p0 p1 p2 p3) (RF_X9_turnWord la G P U V X O kd ln cnt this p0 p1 p2 p3) := by
  unfold f_X9_turnWord
  refine pw_vl (fun x6 _ => ?_)
  refine pw_nn (fun a9 hn_a9 => ?_)
  have lt_a9 := ((hB.1 202 fl_202) p1 a9 hn_a9).2.1
  have lb_a9 : la a9 = la p1 + 0 := lk_202.mp ((hB.1 202 fl_202) p1 a9 hn_a9).2.2
  refine pw_if (fun _ => ?_)
  refine pw_vl (fun x14 _ => ?_)
  refine pw_nn (fun a17 hn_a17 => ?_)
  have lt_a17 := ((hB.1 104 fl_104) p0 a17 hn_a17).2.1
  have lb_a17 : la a17 = la p0 + 2 := lk_104.mp ((hB.1 104 fl_104) p0 a17 hn_a17).2.2
  refine pw_nn (fun a21 hn_a21 => ?_)
  have lt_a21 := ((hB.1 201 fl_201) p1 a21 hn_a21).2.1
  have lb_a21 : la a21 = la p1 + 0 := lk_201.mp ((hB.1 201 fl_201) p1 a21 hn_a21).2.2
  refine pw_b1 (fun r28 hc28 => ?_)
  clear hc28
  refine pw_ite (fun _ => ?_) (fun _ => ?_)
  · skip
    refine pw_nn (fun a51 hn_a51 => ?_)
    have lt_a51 := ((hB.1 180 fl_180) this a51 hn_a51).2.1
    have lb_a51 : la a51 = la this + 6 := lk_180.mp ((hB.1 180 fl_180) this a51 hn_a51).2.2
    refine pw_nn (fun a55 hn_a55 => ?_)
    have lt_a55 := ((hB.1 103 fl_103) p0 a55 hn_a55).2.1
    have lb_a55 : la a55 = la p0 + 1 := lk_103.mp ((hB.1 103 fl_103) p0 a55 hn_a55).2.2
    refine pw_nn (fun a59 hn_a59 => ?_)
    have lt_a59 := ((hB.1 201 fl_201) p1 a59 hn_a59).2.1
    have lb_a59 : la a59 = la p1 + 0 := lk_201.mp ((hB.1 201 fl_201) p1 a59 hn_a59).2.2
    refine pw_b5 (fun c66_G60 c66_P66 c66_V0 c66_V2 c66_V12 hc66 => ?_)
    have hq66 := fr_X3_find la G P U V X O kd ln cnt a51 a55 a59 x6 x14 hB lt_a51 lt_a55 _ hc66
    obtain ⟨q66_G60, q66_P66, q66_V0, q66_V2, q66_V12, ql66_66⟩ : (∀ z, (la z < la a51 ∨ la a51 + 2 < la z) → c66_G60 z = (G 60) z) ∧ (∀ z, (la z < la a51 ∨ la a51 + 2 < la z) → c66_P66 z = (P 66) z) ∧ (∀ z, (la z < la a51 ∨ la a51 + 2 < la z) → c66_V0 z = (V 0) z) ∧ (∀ z, (la z < la a51 ∨ la a51 + 2 < la z) → c66_V2 z = (V 2) z) ∧ (∀ z, (la z < la a51 ∨ la a51 + 2 < la z) → c66_V12 z = (V 12) z) ∧ LC 66 la cnt c66_P66 := hq66
    have tz66 : ∀ z, ((la z < la this ∨ la this + 8 < la z) ∧ (la z < la p3 ∨ la p3 < la z)) → ((la z < la a51 ∨ la a51 + 2 < la z)) := fun z hz => by omega
    have hf1 : ∀ z, ((la z < la this ∨ la this + 8 < la z) ∧ (la z < la p3 ∨ la p3 < la z)) → c66_G60 z = (G 60) z := fun z hz => (q66_G60 z (tz66 z hz)).trans (rfl)
    have hf2 : ∀ z, ((la z < la this ∨ la this + 8 < la z) ∧ (la z < la p3 ∨ la p3 < la z)) → c66_P66 z = (P 66) z := fun z hz => (q66_P66 z (tz66 z hz)).trans (rfl)
    have hf3 : ∀ z, ((la z < la this ∨ la this + 8 < la z) ∧ (la z < la p3 ∨ la p3 < la z)) → c66_V0 z = (V 0) z := fun z hz => (q66_V0 z (tz66 z hz)).trans (rfl)
    have hf4 : ∀ z, ((la z < la this ∨ la this + 8 < la z) ∧ (la z < la p3 ∨ la p3 < la z)) → c66_V2 z = (V 2) z := fun z hz => (q66_V2 z (tz66 z hz)).trans (rfl)
    have hf5 : ∀ z, ((la z < la this ∨ la this + 8 < la z) ∧ (la z < la p3 ∨ la p3 < la z)) → c66_V12 z = (V 12) z := fun z hz => (q66_V12 z (tz66 z hz)).trans (rfl)
    clear hc66
    refine pw_nn (fun a70 hn_a70 => ?_)
    have lt_a70 := ((hB.1 180 fl_180) this a70 hn_a70).2.1
    have lb_a70 : la a70 = la this + 6 := lk_180.mp ((hB.1 180 fl_180) this a70 hn_a70).2.2
    refine pw_ite (fun _ => ?_) (fun _ => ?_)
    · skip
      refine pw_nn (fun a82 hn_a82 => ?_)
      have lt_a82 := ((hB.1 201 fl_201) p1 a82 hn_a82).2.1
      have lb_a82 : la a82 = la p1 + 0 := lk_201.mp ((hB.1 201 fl_201) p1 a82 hn_a82).2.2
      refine pw_b6 (fun r89 c89_G183 c89_P181 c89_P182 c89_U184 c89_V0 hc89 => ?_)
      have hq89 := fr_X9_runLaws la (va_up G 60 c66_G60) (va_up P 66 c66_P66) U (va_up (va_up (va_up V 0 c66_V0) 2 c66_V2) 12 c66_V12) X O kd ln cnt this p0 a82 x6 x14 (LB_set hB ql66_66) hlt_this _ hc89
      obtain ⟨q89_G183, q89_P181, q89_P182, q89_U184, q89_V0, ql89_181, ql89_182⟩ : (∀ z, (la z < la this ∨ la this + 8 < la z) → c89_G183 z = (G 183) z) ∧ (∀ z, (la z < la this ∨ la this + 8 < la z) → c89_P181 z = (P 181) z) ∧ (∀ z, (la z < la this ∨ la this + 8 < la z) → c89_P182 z = (P 182) z) ∧ (∀ z, (la z < la this ∨ la this + 8 < la z) → c89_U184 z = (U 184) z) ∧ (∀ z, (la z < la this ∨ la this + 8 < la z) → c89_V0 z = c66_V0 z) ∧ LC 181 la cnt c89_P181 ∧ LC 182 la cnt c89_P182 := hq89
      have tz89 : ∀ z, ((la z < la this ∨ la this + 8 < la z) ∧ (la z < la p3 ∨ la p3 < la z)) → ((la z < la this ∨ la this + 8 < la z)) := fun z hz => by omega
      have hf6 : ∀ z, ((la z < la this ∨ la this + 8 < la z) ∧ (la z < la p3 ∨ la p3 < la z)) → c89_G183 z = (G 183) z := fun z hz => (q89_G183 z (tz89 z hz)).trans (rfl)
      have hf7 : ∀ z, ((la z < la this ∨ la this + 8 < la z) ∧ (la z < la p3 ∨ la p3 < la z)) → c89_P181 z = (P 181) z := fun z hz => (q89_P181 z (tz89 z hz)).trans (rfl)
      have hf8 : ∀ z, ((la z < la this ∨ la this + 8 < la z) ∧ (la z < la p3 ∨ la p3 < la z)) → c89_P182 z = (P 182) z := fun z hz => (q89_P182 z (tz89 z hz)).trans (rfl)
      have hf9 : ∀ z, ((la z < la this ∨ la this + 8 < la z) ∧ (la z < la p3 ∨ la p3 < la z)) → c89_U184 z = (U 184) z := fun z hz => (q89_U184 z (tz89 z hz)).trans (rfl)
      have hf10 : ∀ z, ((la z < la this ∨ la this + 8 < la z) ∧ (la z < la p3 ∨ la p3 < la z)) → c89_V0 z = (V 0) z := fun z hz => (q89_V0 z (tz89 z hz)).trans (hf3 z hz)
      clear hc89
      refine pw_jn (fun j109 => ∀ (c109_G203 : Nat → Int32) (c109_V0 : Nat → Nat → Int32) (c109_V1 : Nat → Nat → Int32), (∀ z, ((la z < la this ∨ la this + 8 < la z) ∧ (la z < la p3 ∨ la p3 < la z)) → c109_G203 z = (G 203) z) → (∀ z, ((la z < la this ∨ la this + 8 < la z) ∧ (la z < la p3 ∨ la p3 < la z)) → c109_V0 z = (V 0) z) → (∀ z, ((la z < la this ∨ la this + 8 < la z) ∧ (la z < la p3 ∨ la p3 < la z)) → c109_V1 z = (V 1) z) → pw (j109 c109_G203 c109_V0 c109_V1) (RF_X9_turnWord la G P U V X O kd ln cnt this p0 p1 p2 p3)) ?_ ?_
      · intro c109_G203 c109_V0 c109_V1 hf11 hf12 hf13
        show pw _ _
        exact pw_some ⟨hf1, hf6, hf11, hf2, hf7, hf8, hf9, hf12, hf13, hf4, hf5, ql66_66, ql89_181, ql89_182⟩
      intro j109 Jj109
      refine pw_ite (fun _ => ?_) (fun _ => ?_)
      · skip
        exact Jj109 (G 203) c89_V0 (V 1) (fun _ _ => rfl) hf10 (fun _ _ => rfl)
      · skip
        refine pw_nn (fun a98 hn_a98 => ?_)
        have lt_a98 := (ql89_181 this a98 hn_a98).2.1
        have lb_a98 : (la a98 = la this + 1 ∨ la a98 = la this + 2) := lk_181.mp (ql89_181 this a98 hn_a98).2.2
        refine pw_b3 (fun c106_G203 c106_V0 c106_V1 hc106 => ?_)
        have hq106 := fr_X10_addForm la (va_up (va_up G 60 c66_G60) 183 c89_G183) (va_up (va_up (va_up P 66 c66_P66) 181 c89_P181) 182 c89_P182) (va_up U 184 c89_U184) (va_up (va_up (va_up (va_up V 0 c66_V0) 2 c66_V2) 12 c66_V12) 0 c89_V0) X O kd ln cnt p3 a98 (0 : Int32) (c89_G183 this) (LB_set (LB_set (LB_set hB ql66_66) ql89_181) ql89_182) _ hc106
        obtain ⟨q106_G203, q106_V0, q106_V1⟩ : (∀ z, (la z < la p3 ∨ la p3 < la z) → c106_G203 z = (G 203) z) ∧ (∀ z, (la z < la p3 ∨ la p3 < la z) → c106_V0 z = c89_V0 z) ∧ (∀ z, (la z < la p3 ∨ la p3 < la z) → c106_V1 z = (V 1) z) := hq106
        have tz106 : ∀ z, ((la z < la this ∨ la this + 8 < la z) ∧ (la z < la p3 ∨ la p3 < la z)) → ((la z < la p3 ∨ la p3 < la z)) := fun z hz => by omega
        have hf14 : ∀ z, ((la z < la this ∨ la this + 8 < la z) ∧ (la z < la p3 ∨ la p3 < la z)) → c106_G203 z = (G 203) z := fun z hz => (q106_G203 z (tz106 z hz)).trans (rfl)
        have hf15 : ∀ z, ((la z < la this ∨ la this + 8 < la z) ∧ (la z < la p3 ∨ la p3 < la z)) → c106_V0 z = (V 0) z := fun z hz => (q106_V0 z (tz106 z hz)).trans (hf10 z hz)
        have hf16 : ∀ z, ((la z < la this ∨ la this + 8 < la z) ∧ (la z < la p3 ∨ la p3 < la z)) → c106_V1 z = (V 1) z := fun z hz => (q106_V1 z (tz106 z hz)).trans (rfl)
        clear hc106
        exact Jj109 c106_G203 c106_V0 c106_V1 hf14 hf15 hf16
    · skip
      have lp120 : ∀ (n120 : Nat) (y120_8 : Int64) (y120_10 : Int32) (d120_G203 : Nat → Int32) (d120_V0 : Nat → Nat → Int32) (d120_V1 : Nat → Nat → Int32), (∀ z, ((la z < la this ∨ la this + 8 < la z) ∧ (la z < la p3 ∨ la p3 < la z)) → d120_G203 z = (G 203) z) → (∀ z, ((la z < la this ∨ la this + 8 < la z) ∧ (la z < la p3 ∨ la p3 < la z)) → d120_V0 z = (V 0) z) → (∀ z, ((la z < la this ∨ la this + 8 < la z) ∧ (la z < la p3 ∨ la p3 < la z)) → d120_V1 z = (V 1) z) → pw (L_X9_turnWord_120 G P U V X O kd ln cnt this p0 p3 c66_G60 c66_P66 c66_V2 c66_V12 n120 y120_8 y120_10 d120_G203 d120_V0 d120_V1) (RF_X9_turnWord la G P U V X O kd ln cnt this p0 p1 p2 p3) := by
        intro n120
        induction n120 with
        | zero => intros; exact pw_none
        | succ n120 ih120 =>
          intro y120_8 y120_10 d120_G203 d120_V0 d120_V1 hf17 hf18 hf19
          show pw (B_X9_turnWord_120 G P U V X O kd ln cnt this p0 p3 c66_G60 c66_P66 c66_V2 c66_V12 (L_X9_turnWord_120 G P U V X O kd ln cnt this p0 p3 c66_G60 c66_P66 c66_V2 c66_V12 n120) y120_8 y120_10 d120_G203 d120_V0 d120_V1) _
          unfold B_X9_turnWord_120
          refine pw_nn (fun a123 hn_a123 => ?_)
          have lt_a123 := ((hB.1 180 fl_180) this a123 hn_a123).2.1
          have lb_a123 : la a123 = la this + 6 := lk_180.mp ((hB.1 180 fl_180) this a123 hn_a123).2.2
          refine pw_ite (fun _ => ?_) (fun _ => ?_)
          · skip
            exact pw_some ⟨hf1, (fun _ _ => rfl), hf17, hf2, (fun _ _ => rfl), (fun _ _ => rfl), (fun _ _ => rfl), hf18, hf19, hf4, hf5, ql66_66, (hB.1 181 fl_181), (hB.1 182 fl_182)⟩
          · skip
            refine pw_b4 (fun r140 c140_G203 c140_V0 c140_V1 hc140 => ?_)
            have hq140 := fr_X9_turnParting la (va_up (va_up G 60 c66_G60) 203 d120_G203) (va_up P 66 c66_P66) U (va_up (va_up (va_up (va_up V 0 d120_V0) 1 d120_V1) 2 c66_V2) 12 c66_V12) X O kd ln cnt this p0 y120_10 p3 (LB_set hB ql66_66) _ hc140
            obtain ⟨q140_G203, q140_V0, q140_V1⟩ : (∀ z, (la z < la this ∨ la this + 8 < la z) ∧ (la z < la p3 ∨ la p3 < la z) → c140_G203 z = d120_G203 z) ∧ (∀ z, (la z < la this ∨ la this + 8 < la z) ∧ (la z < la p3 ∨ la p3 < la z) → c140_V0 z = d120_V0 z) ∧ (∀ z, (la z < la this ∨ la this + 8 < la z) ∧ (la z < la p3 ∨ la p3 < la z) → c140_V1 z = d120_V1 z) := hq140
            have tz140 : ∀ z, ((la z < la this ∨ la this + 8 < la z) ∧ (la z < la p3 ∨ la p3 < la z)) → ((la z < la this ∨ la this + 8 < la z) ∧ (la z < la p3 ∨ la p3 < la z)) := fun z hz => by omega
            have hf20 : ∀ z, ((la z < la this ∨ la this + 8 < la z) ∧ (la z < la p3 ∨ la p3 < la z)) → c140_G203 z = (G 203) z := fun z hz => (q140_G203 z (tz140 z hz)).trans (hf17 z hz)
            have hf21 : ∀ z, ((la z < la this ∨ la this + 8 < la z) ∧ (la z < la p3 ∨ la p3 < la z)) → c140_V0 z = (V 0) z := fun z hz => (q140_V0 z (tz140 z hz)).trans (hf18 z hz)
            have hf22 : ∀ z, ((la z < la this ∨ la this + 8 < la z) ∧ (la z < la p3 ∨ la p3 < la z)) → c140_V1 z = (V 1) z := fun z hz => (q140_V1 z (tz140 z hz)).trans (hf19 z hz)
            clear hc140
            refine pw_vl (fun x144 _ => ?_)
            exact ih120 x144 (y120_10 + 1) c140_G203 c140_V0 c140_V1 hf20 hf21 hf22
      exact lp120 NN 0 0 (G 203) c66_V0 (V 1) (fun _ _ => rfl) hf3 (fun _ _ => rfl)
  · skip
    refine pw_b3 (fun c45_G203 c45_V0 c45_V1 hc45 => ?_)
    have hq45 := fr_X9_addEntry la G P U V X O kd ln cnt this p0 r28 p3 hB _ hc45
    obtain ⟨q45_G203, q45_V0, q45_V1⟩ : (∀ z, (la z < la p3 ∨ la p3 < la z) → c45_G203 z = (G 203) z) ∧ (∀ z, (la z < la p3 ∨ la p3 < la z) → c45_V0 z = (V 0) z) ∧ (∀ z, (la z < la p3 ∨ la p3 < la z) → c45_V1 z = (V 1) z) := hq45
    have tz45 : ∀ z, ((la z < la this ∨ la this + 8 < la z) ∧ (la z < la p3 ∨ la p3 < la z)) → ((la z < la p3 ∨ la p3 < la z)) := fun z hz => by omega
    have hf23 : ∀ z, ((la z < la this ∨ la this + 8 < la z) ∧ (la z < la p3 ∨ la p3 < la z)) → c45_G203 z = (G 203) z := fun z hz => (q45_G203 z (tz45 z hz)).trans (rfl)
    have hf24 : ∀ z, ((la z < la this ∨ la this + 8 < la z) ∧ (la z < la p3 ∨ la p3 < la z)) → c45_V0 z = (V 0) z := fun z hz => (q45_V0 z (tz45 z hz)).trans (rfl)
    have hf25 : ∀ z, ((la z < la this ∨ la this + 8 < la z) ∧ (la z < la p3 ∨ la p3 < la z)) → c45_V1 z = (V 1) z := fun z hz => (q45_V1 z (tz45 z hz)).trans (rfl)
    clear hc45
    exact pw_some ⟨(fun _ _ => rfl), (fun _ _ => rfl), hf23, (fun _ _ => rfl), (fun _ _ => rfl), (fun _ _ => rfl), (fun _ _ => rfl), hf24, hf25, (fun _ _ => rfl), (fun _ _ => rfl), (hB.1 66 fl_66), (hB.1 181 fl_181), (hB.1 182 fl_182)⟩
abbrev RF_X9_turnForms (la : Nat → Nat) (G : Nat → Nat → Int32) (P : Nat → Nat → Option Nat) (U : Nat → Nat → Int64) (V : Nat → Nat → Nat → Int32) (X : Nat → Nat → Nat → Int64) (O : Nat → Nat → Nat → Option Nat) (kd : Nat → Nat) (ln : Nat → Nat) (cnt : Nat) (this : Nat) (p0 : Option Nat) (p1 : Nat) (p2 : Nat) : (Int64 × (Nat → Int32) × (Nat → Int32) × (Nat → Int32) × (Nat → Option Nat) × (Nat → Option Nat) × (Nat → Option Nat) × (Nat → Int64) × (Nat → Nat → Int32) × (Nat → Nat → Int32) × (Nat → Nat → Int32) × (Nat → Nat → Int32)) → Prop := fun t => (∀ z, ((la z < la this ∨ la this + 8 < la z) ∧ (la z < la p2 ∨ la p2 < la z)) → (t.2.1) z = (G 60) z) ∧ (∀ z, ((la z < la this ∨ la this + 8 < la z) ∧ (la z < la p2 ∨ la p2 < la z)) → (t.2.2.1) z = (G 183) z) ∧ (∀ z, ((la z < la this ∨ la this + 8 < la z) ∧ (la z < la p2 ∨ la p2 < la z)) → (t.2.2.2.1) z = (G 203) z) ∧ (∀ z, ((la z < la this ∨ la this + 8 < la z) ∧ (la z < la p2 ∨ la p2 < la z)) → (t.2.2.2.2.1) z = (P 66) z) ∧ (∀ z, ((la z < la this ∨ la this + 8 < la z) ∧ (la z < la p2 ∨ la p2 < la z)) → (t.2.2.2.2.2.1) z = (P 181) z) ∧ (∀ z, ((la z < la this ∨ la this + 8 < la z) ∧ (la z < la p2 ∨ la p2 < la z)) → (t.2.2.2.2.2.2.1) z = (P 182) z) ∧ (∀ z, ((la z < la this ∨ la this + 8 < la z) ∧ (la z < la p2 ∨ la p2 < la z)) → (t.2.2.2.2.2.2.2.1) z = (U 184) z) ∧ (∀ z, ((la z < la this ∨ la this + 8 < la z) ∧ (la z < la p2 ∨ la p2 < la z)) → (t.2.2.2.2.2.2.2.2.1) z = (V 0) z) ∧ (∀ z, ((la z < la this ∨ la this + 8 < la z) ∧ (la z < la p2 ∨ la p2 < la z)) → (t.2.2.2.2.2.2.2.2.2.1) z = (V 1) z) ∧ (∀ z, ((la z < la this ∨ la this + 8 < la z) ∧ (la z < la p2 ∨ la p2 < la z)) → (t.2.2.2.2.2.2.2.2.2.2.1) z = (V 2) z) ∧ (∀ z, ((la z < la this ∨ la this + 8 < la z) ∧ (la z < la p2 ∨ la p2 < la z)) → (t.2.2.2.2.2.2.2.2.2.2.2) z = (V 12) z) ∧ LC 66 la cnt (t.2.2.2.2.1) ∧ LC 181 la cnt (t.2.2.2.2.2.1) ∧ LC 182 la cnt (t.2.2.2.2.2.2.1)
set_option maxHeartbeats 4000000 in
set_option maxRecDepth 100000 in
theorem fr_X9_turnForms (la : Nat → Nat) (G : Nat → Nat → Int32) (P : Nat → Nat → Option Nat) (U : Nat → Nat → Int64) (V : Nat → Nat → Nat → Int32) (X : Nat → Nat → Nat → Int64) (O : Nat → Nat → Nat → Option Nat) (kd : Nat → Nat) (ln : Nat → Nat) (cnt : Nat) (this : Nat) (p0 : Option Nat) (p1 : Nat) (p2 : Nat) (hB : LB la cnt P) (hlt_this : this < cnt) : pw (f_X9_turnForms G P U V X O kd ln cnt this p0 p1 p2) (RF_X9_turnForms la G P U V X O kd ln cnt this p0 p1 p2) := by
  unfold f_X9_turnForms
  refine pw_jn (fun k39 => ∀ (x39_4 : Int64) (c39_G60 : Nat → Int32) (c39_G183 : Nat → Int32) (c39_G203 : Nat → Int32) (c39_P66 : Nat → Option Nat) (c39_P181 : Nat → Option Nat) (c39_P182 : Nat → Option Nat) (c39_U184 : Nat → Int64) (c39_V0 : Nat → Nat → Int32) (c39_V1 : Nat → Nat → Int32) (c39_V2 : Nat → Nat → Int32) (c39_V12 : Nat → Nat → Int32), (∀ z, ((la z < la this ∨ la this + 8 < la z) ∧ (la z < la p2 ∨ la p2 < la z)) → c39_G60 z = (G 60) z) → (∀ z, ((la z < la this ∨ la this + 8 < la z) ∧ (la z < la p2 ∨ la p2 < la z)) → c39_G183 z = (G 183) z) → (∀ z, ((la z < la this ∨ la this + 8 < la z) ∧ (la z < la p2 ∨ la p2 < la z)) → c39_G203 z = (G 203) z) → (∀ z, ((la z < la this ∨ la this + 8 < la z) ∧ (la z < la p2 ∨ la p2 < la z)) → c39_P66 z = (P 66) z) → LC 66 la cnt c39_P66 → (∀ z, ((la z < la this ∨ la this + 8 < la z) ∧ (la z < la p2 ∨ la p2 < la z)) → c39_P181 z = (P 181) z) → LC 181 la cnt c39_P181 → (∀ z, ((la z < la this ∨ la this + 8 < la z) ∧ (la z < la p2 ∨ la p2 < la z)) → c39_P182 z = (P 182) z) → LC 182 la cnt c39_P182 → (∀ z, ((la z < la this ∨ la this + 8 < la z) ∧ (la z < la p2 ∨ la p2 < la z)) → c39_U184 z = (U 184) z) → (∀ z, ((la z < la this ∨ la this + 8 < la z) ∧ (la z < la p2 ∨ la p2 < la z)) → c39_V0 z = (V 0) z) → (∀ z, ((la z < la this ∨ la this + 8 < la z) ∧ (la z < la p2 ∨ la p2 < la z)) → c39_V1 z = (V 1) z) → (∀ z, ((la z < la this ∨ la this + 8 < la z) ∧ (la z < la p2 ∨ la p2 < la z)) → c39_V2 z = (V 2) z) → (∀ z, ((la z < la this ∨ la this + 8 < la z) ∧ (la z < la p2 ∨ la p2 < la z)) → c39_V12 z = (V 12) z) → pw (k39 x39_4 c39_G60 c39_G183 c39_G203 c39_P66 c39_P181 c39_P182 c39_U184 c39_V0 c39_V1 c39_V2 c39_V12) (RF_X9_turnForms la G P U V X O kd ln cnt this p0 p1 p2)) ?_ ?_
  · intro x39_4 c39_G60 c39_G183 c39_G203 c39_P66 c39_P181 c39_P182 c39_U184 c39_V0 c39_V1 c39_V2 c39_V12 hf1 hf2 hf3 hf4 hl5 hf6 hl7 hf8 hl9 hf10 hf11 hf12 hf13 hf14
    show pw _ _
    exact pw_some ⟨hf1, hf2, hf3, hf4, hf6, hf8, hf10, hf11, hf12, hf13, hf14, hl5, hl7, hl9⟩
  intro k39 Jk39
  have lp6 : ∀ (n6 : Nat) (y6_4 : Int64) (y6_6 : Int32) (d6_G60 : Nat → Int32) (d6_G183 : Nat → Int32) (d6_G203 : Nat → Int32) (d6_P66 : Nat → Option Nat) (d6_P181 : Nat → Option Nat) (d6_P182 : Nat → Option Nat) (d6_U184 : Nat → Int64) (d6_V0 : Nat → Nat → Int32) (d6_V1 : Nat → Nat → Int32) (d6_V2 : Nat → Nat → Int32) (d6_V12 : Nat → Nat → Int32), (∀ z, ((la z < la this ∨ la this + 8 < la z) ∧ (la z < la p2 ∨ la p2 < la z)) → d6_G60 z = (G 60) z) → (∀ z, ((la z < la this ∨ la this + 8 < la z) ∧ (la z < la p2 ∨ la p2 < la z)) → d6_G183 z = (G 183) z) → (∀ z, ((la z < la this ∨ la this + 8 < la z) ∧ (la z < la p2 ∨ la p2 < la z)) → d6_G203 z = (G 203) z) → (∀ z, ((la z < la this ∨ la this + 8 < la z) ∧ (la z < la p2 ∨ la p2 < la z)) → d6_P66 z = (P 66) z) → LC 66 la cnt d6_P66 → (∀ z, ((la z < la this ∨ la this + 8 < la z) ∧ (la z < la p2 ∨ la p2 < la z)) → d6_P181 z = (P 181) z) → LC 181 la cnt d6_P181 → (∀ z, ((la z < la this ∨ la this + 8 < la z) ∧ (la z < la p2 ∨ la p2 < la z)) → d6_P182 z = (P 182) z) → LC 182 la cnt d6_P182 → (∀ z, ((la z < la this ∨ la this + 8 < la z) ∧ (la z < la p2 ∨ la p2 < la z)) → d6_U184 z = (U 184) z) → (∀ z, ((la z < la this ∨ la this + 8 < la z) ∧ (la z < la p2 ∨ la p2 < la z)) → d6_V0 z = (V 0) z) → (∀ z, ((la z < la this ∨ la this + 8 < la z) ∧ (la z < la p2 ∨ la p2 < la z)) → d6_V1 z = (V 1) z) → (∀ z, ((la z < la this ∨ la this + 8 < la z) ∧ (la z < la p2 ∨ la p2 < la z)) → d6_V2 z = (V 2) z) → (∀ z, ((la z < la this ∨ la this + 8 < la z) ∧ (la z < la p2 ∨ la p2 < la z)) → d6_V12 z = (V 12) z) → pw (L_X9_turnForms_6 G P U V X O kd ln cnt this p0 p1 p2 k39 n6 y6_4 y6_6 d6_G60 d6_G183 d6_G203 d6_P66 d6_P181 d6_P182 d6_U184 d6_V0 d6_V1 d6_V2 d6_V12) (RF_X9_turnForms la G P U V X O kd ln cnt this p0 p1 p2) := by
    intro n6
    induction n6 with
    | zero => intros; exact pw_none
    | succ n6 ih6 =>
      intro y6_4 y6_6 d6_G60 d6_G183 d6_G203 d6_P66 d6_P181 d6_P182 d6_U184 d6_V0 d6_V1 d6_V2 d6_V12 hf15 hf16 hf17 hf18 hl19 hf20 hl21 hf22 hl23 hf24 hf25 hf26 hf27 hf28
      show pw (B_X9_turnForms_6 G P U V X O kd ln cnt this p0 p1 p2 k39 (L_X9_turnForms_6 G P U V X O kd ln cnt this p0 p1 p2 k39 n6) y6_4 y6_6 d6_G60 d6_G183 d6_G203 d6_P66 d6_P181 d6_P182 d6_U184 d6_V0 d6_V1 d6_V2 d6_V12) _
      unfold B_X9_turnForms_6
      refine pw_oc (fun _ => ?_) (fun b7 _ => ?_)
      · skip
        exact Jk39 y6_4 d6_G60 d6_G183 d6_G203 d6_P66 d6_P181 d6_P182 d6_U184 d6_V0 d6_V1 d6_V2 d6_V12 hf15 hf16 hf17 hf18 hl19 hf20 hl21 hf22 hl23 hf24 hf25 hf26 hf27 hf28
      · skip
        refine pw_ite (fun _ => ?_) (fun _ => ?_)
        · skip
          exact Jk39 y6_4 d6_G60 d6_G183 d6_G203 d6_P66 d6_P181 d6_P182 d6_U184 d6_V0 d6_V1 d6_V2 d6_V12 hf15 hf16 hf17 hf18 hl19 hf20 hl21 hf22 hl23 hf24 hf25 hf26 hf27 hf28
        · skip
          refine pw_b12 (fun r27 c27_G60 c27_G183 c27_G203 c27_P66 c27_P181 c27_P182 c27_U184 c27_V0 c27_V1 c27_V2 c27_V12 hc27 => ?_)
          have hq27 := fr_X9_turnWord la (va_up (va_up (va_up G 60 d6_G60) 183 d6_G183) 203 d6_G203) (va_up (va_up (va_up P 66 d6_P66) 181 d6_P181) 182 d6_P182) (va_up U 184 d6_U184) (va_up (va_up (va_up (va_up V 0 d6_V0) 1 d6_V1) 2 d6_V2) 12 d6_V12) X O kd ln cnt this b7 p1 y6_6 p2 (LB_set (LB_set (LB_set hB hl19) hl21) hl23) hlt_this _ hc27
          obtain ⟨q27_G60, q27_G183, q27_G203, q27_P66, q27_P181, q27_P182, q27_U184, q27_V0, q27_V1, q27_V2, q27_V12, ql27_66, ql27_181, ql27_182⟩ : (∀ z, (la z < la this ∨ la this + 8 < la z) ∧ (la z < la p2 ∨ la p2 < la z) → c27_G60 z = d6_G60 z) ∧ (∀ z, (la z < la this ∨ la this + 8 < la z) ∧ (la z < la p2 ∨ la p2 < la z) → c27_G183 z = d6_G183 z) ∧ (∀ z, (la z < la this ∨ la this + 8 < la z) ∧ (la z < la p2 ∨ la p2 < la z) → c27_G203 z = d6_G203 z) ∧ (∀ z, (la z < la this ∨ la this + 8 < la z) ∧ (la z < la p2 ∨ la p2 < la z) → c27_P66 z = d6_P66 z) ∧ (∀ z, (la z < la this ∨ la this + 8 < la z) ∧ (la z < la p2 ∨ la p2 < la z) → c27_P181 z = d6_P181 z) ∧ (∀ z, (la z < la this ∨ la this + 8 < la z) ∧ (la z < la p2 ∨ la p2 < la z) → c27_P182 z = d6_P182 z) ∧ (∀ z, (la z < la this ∨ la this + 8 < la z) ∧ (la z < la p2 ∨ la p2 < la z) → c27_U184 z = d6_U184 z) ∧ (∀ z, (la z < la this ∨ la this + 8 < la z) ∧ (la z < la p2 ∨ la p2 < la z) → c27_V0 z = d6_V0 z) ∧ (∀ z, (la z < la this ∨ la this + 8 < la z) ∧ (la z < la p2 ∨ la p2 < la z) → c27_V1 z = d6_V1 z) ∧ (∀ z, (la z < la this ∨ la this + 8 < la z) ∧ (la z < la p2 ∨ la p2 < la z) → c27_V2 z = d6_V2 z) ∧ (∀ z, (la z < la this ∨ la this + 8 < la z) ∧ (la z < la p2 ∨ la p2 < la z) → c27_V12 z = d6_V12 z) ∧ LC 66 la cnt c27_P66 ∧ LC 181 la cnt c27_P181 ∧ LC 182 la cnt c27_P182 := hq27
          have tz27 : ∀ z, ((la z < la this ∨ la this + 8 < la z) ∧ (la z < la p2 ∨ la p2 < la z)) → ((la z < la this ∨ la this + 8 < la z) ∧ (la z < la p2 ∨ la p2 < la z)) := fun z hz => by omega
          have hf29 : ∀ z, ((la z < la this ∨ la this + 8 < la z) ∧ (la z < la p2 ∨ la p2 < la z)) → c27_G60 z = (G 60) z := fun z hz => (q27_G60 z (tz27 z hz)).trans (hf15 z hz)
          have hf30 : ∀ z, ((la z < la this ∨ la this + 8 < la z) ∧ (la z < la p2 ∨ la p2 < la z)) → c27_G183 z = (G 183) z := fun z hz => (q27_G183 z (tz27 z hz)).trans (hf16 z hz)
          have hf31 : ∀ z, ((la z < la this ∨ la this + 8 < la z) ∧ (la z < la p2 ∨ la p2 < la z)) → c27_G203 z = (G 203) z := fun z hz => (q27_G203 z (tz27 z hz)).trans (hf17 z hz)
          have hf32 : ∀ z, ((la z < la this ∨ la this + 8 < la z) ∧ (la z < la p2 ∨ la p2 < la z)) → c27_P66 z = (P 66) z := fun z hz => (q27_P66 z (tz27 z hz)).trans (hf18 z hz)
          have hf33 : ∀ z, ((la z < la this ∨ la this + 8 < la z) ∧ (la z < la p2 ∨ la p2 < la z)) → c27_P181 z = (P 181) z := fun z hz => (q27_P181 z (tz27 z hz)).trans (hf20 z hz)
          have hf34 : ∀ z, ((la z < la this ∨ la this + 8 < la z) ∧ (la z < la p2 ∨ la p2 < la z)) → c27_P182 z = (P 182) z := fun z hz => (q27_P182 z (tz27 z hz)).trans (hf22 z hz)
          have hf35 : ∀ z, ((la z < la this ∨ la this + 8 < la z) ∧ (la z < la p2 ∨ la p2 < la z)) → c27_U184 z = (U 184) z := fun z hz => (q27_U184 z (tz27 z hz)).trans (hf24 z hz)
          have hf36 : ∀ z, ((la z < la this ∨ la this + 8 < la z) ∧ (la z < la p2 ∨ la p2 < la z)) → c27_V0 z = (V 0) z := fun z hz => (q27_V0 z (tz27 z hz)).trans (hf25 z hz)
          have hf37 : ∀ z, ((la z < la this ∨ la this + 8 < la z) ∧ (la z < la p2 ∨ la p2 < la z)) → c27_V1 z = (V 1) z := fun z hz => (q27_V1 z (tz27 z hz)).trans (hf26 z hz)
          have hf38 : ∀ z, ((la z < la this ∨ la this + 8 < la z) ∧ (la z < la p2 ∨ la p2 < la z)) → c27_V2 z = (V 2) z := fun z hz => (q27_V2 z (tz27 z hz)).trans (hf27 z hz)
          have hf39 : ∀ z, ((la z < la this ∨ la this + 8 < la z) ∧ (la z < la p2 ∨ la p2 < la z)) → c27_V12 z = (V 12) z := fun z hz => (q27_V12 z (tz27 z hz)).trans (hf28 z hz)
          clear hc27
          refine pw_vl (fun x31 _ => ?_)
          exact ih6 x31 (y6_6 + 1) c27_G60 c27_G183 c27_G203 c27_P66 c27_P181 c27_P182 c27_U184 c27_V0 c27_V1 c27_V2 c27_V12 hf29 hf30 hf31 hf32 ql27_66 hf33 ql27_181 hf34 ql27_182 hf35 hf36 hf37 hf38 hf39
  exact lp6 NN 0 0 (G 60) (G 183) (G 203) (P 66) (P 181) (P 182) (U 184) (V 0) (V 1) (V 2) (V 12) (fun _ _ => rfl) (fun _ _ => rfl) (fun _ _ => rfl) (fun _ _ => rfl) (hB.1 66 fl_66) (fun _ _ => rfl) (hB.1 181 fl_181) (fun _ _ => rfl) (hB.1 182 fl_182) (fun _ _ => rfl) (fun _ _ => rfl) (fun _ _ => rfl) (fun _ _ => rfl) (fun _ _ => rfl)
abbrev RF_X9_through (la : Nat → Nat) (G : Nat → Nat → Int32) (P : Nat → Nat → Option Nat) (U : Nat → Nat → Int64) (V : Nat → Nat → Nat → Int32) (X : Nat → Nat → Nat → Int64) (O : Nat → Nat → Nat → Option Nat) (kd : Nat → Nat) (ln : Nat → Nat) (cnt : Nat) (this : Nat) (p0 : Nat) (p1 : Int32) (p2 : Int32) (p3 : Nat) (p4 : Int32) (p5 : Int32) : (Nat × (Nat → Int32) × (Nat → Int32) × (Nat → Int32) × (Nat → Option Nat) × (Nat → Option Nat) × (Nat → Option Nat) × (Nat → Option Nat) × (Nat → Option Nat) × (Nat → Int64) × (Nat → Nat → Int32) × (Nat → Nat → Int32) × (Nat → Nat → Int32) × (Nat → Nat → Int32)) → Prop := fun t => (∀ z, ((la z < la this ∨ la this + 8 < la z)) → (t.2.1) z = (G 60) z) ∧ (∀ z, ((la z < la this ∨ la this + 8 < la z)) → (t.2.2.1) z = (G 183) z) ∧ (∀ z, ((la z < la this ∨ la this + 8 < la z)) → (t.2.2.2.1) z = (G 203) z) ∧ (∀ z, ((la z < la this ∨ la this + 8 < la z)) → (t.2.2.2.2.1) z = (P 66) z) ∧ (∀ z, ((la z < la this ∨ la this + 8 < la z)) → (t.2.2.2.2.2.1) z = (P 181) z) ∧ (∀ z, ((la z < la this ∨ la this + 8 < la z)) → (t.2.2.2.2.2.2.1) z = (P 182) z) ∧ (∀ z, ((la z < la this ∨ la this + 8 < la z)) → (t.2.2.2.2.2.2.2.1) z = (P 186) z) ∧ (∀ z, ((la z < la this ∨ la this + 8 < la z)) → (t.2.2.2.2.2.2.2.2.1) z = (P 187) z) ∧ (∀ z, ((la z < la this ∨ la this + 8 < la z)) → (t.2.2.2.2.2.2.2.2.2.1) z = (U 184) z) ∧ (∀ z, ((la z < la this ∨ la this + 8 < la z)) → (t.2.2.2.2.2.2.2.2.2.2.1) z = (V 0) z) ∧ (∀ z, ((la z < la this ∨ la this + 8 < la z)) → (t.2.2.2.2.2.2.2.2.2.2.2.1) z = (V 1) z) ∧ (∀ z, ((la z < la this ∨ la this + 8 < la z)) → (t.2.2.2.2.2.2.2.2.2.2.2.2.1) z = (V 2) z) ∧ (∀ z, ((la z < la this ∨ la this + 8 < la z)) → (t.2.2.2.2.2.2.2.2.2.2.2.2.2) z = (V 12) z) ∧ LC 66 la cnt (t.2.2.2.2.1) ∧ LC 181 la cnt (t.2.2.2.2.2.1) ∧ LC 182 la cnt (t.2.2.2.2.2.2.1) ∧ LC 186 la cnt (t.2.2.2.2.2.2.2.1) ∧ LC 187 la cnt (t.2.2.2.2.2.2.2.2.1)
set_option maxHeartbeats 4000000 in
set_option maxRecDepth 100000 in
theorem fr_X9_through (la : Nat → Nat) (G : Nat → Nat → Int32) (P : Nat → Nat → Option Nat) (U : Nat → Nat → Int64) (V : Nat → Nat → Nat → Int32) (X : Nat → Nat → Nat → Int64) (O : Nat → Nat → Nat → Option Nat) (kd : Nat → Nat) (ln : Nat → Nat) (cnt : Nat) (this : Nat) (p0 : Nat) (p1 : Int32) (p2 : Int32) (p3 : Nat) (p4 : Int32) (p5 : Int32) (hB : LB la cnt P) (hlt_this : this < cnt) : pw (f_X9_through G P U V X O kd ln cnt this p0 p1 p2 p3 p4 p5) (RF_X9_through la G P U V X O kd ln cnt this p0 p1 p2 p3 p4 p5) := by
  unfold f_X9_through
  refine pw_nn (fun a1 hn_a1 => ?_)
  have lt_a1 := ((hB.1 187 fl_187) this a1 hn_a1).2.1
  have lb_a1 : (la a1 = la this + 4 ∨ la a1 = la this + 5) := lk_187.mp ((hB.1 187 fl_187) this a1 hn_a1).2.2
  refine pw_vl (fun m5 em5 => ?_)
  have hf1 : ∀ z, ((la z < la this ∨ la this + 8 < la z)) → m5 z = (G 203) z := fr_up (e0 := (G 203)) (fun _ _ => rfl) em5 (show ¬ ((la a1 < la this ∨ la this + 8 < la a1)) from by omega)
  refine pw_nn (fun a9 hn_a9 => ?_)
  have lt_a9 := ((hB.1 187 fl_187) this a9 hn_a9).2.1
  have lb_a9 : (la a9 = la this + 4 ∨ la a9 = la this + 5) := lk_187.mp ((hB.1 187 fl_187) this a9 hn_a9).2.2
  refine pw_b3 (fun c18_G203 c18_V0 c18_V1 hc18 => ?_)
  have hq18 := fr_X10_addForm la (va_up G 203 m5) P U V X O kd ln cnt a9 p3 p4 p5 hB _ hc18
  obtain ⟨q18_G203, q18_V0, q18_V1⟩ : (∀ z, (la z < la a9 ∨ la a9 < la z) → c18_G203 z = m5 z) ∧ (∀ z, (la z < la a9 ∨ la a9 < la z) → c18_V0 z = (V 0) z) ∧ (∀ z, (la z < la a9 ∨ la a9 < la z) → c18_V1 z = (V 1) z) := hq18
  have tz18 : ∀ z, ((la z < la this ∨ la this + 8 < la z)) → ((la z < la a9 ∨ la a9 < la z)) := fun z hz => by omega
  have hf2 : ∀ z, ((la z < la this ∨ la this + 8 < la z)) → c18_G203 z = (G 203) z := fun z hz => (q18_G203 z (tz18 z hz)).trans (hf1 z hz)
  have hf3 : ∀ z, ((la z < la this ∨ la this + 8 < la z)) → c18_V0 z = (V 0) z := fun z hz => (q18_V0 z (tz18 z hz)).trans (rfl)
  have hf4 : ∀ z, ((la z < la this ∨ la this + 8 < la z)) → c18_V1 z = (V 1) z := fun z hz => (q18_V1 z (tz18 z hz)).trans (rfl)
  clear hc18
  refine pw_vl (fun x26 _ => ?_)
  refine pw_jn (fun k92 => ∀ (c92_G60 : Nat → Int32) (c92_G183 : Nat → Int32) (c92_G203 : Nat → Int32) (c92_P66 : Nat → Option Nat) (c92_P181 : Nat → Option Nat) (c92_P182 : Nat → Option Nat) (c92_P186 : Nat → Option Nat) (c92_P187 : Nat → Option Nat) (c92_U184 : Nat → Int64) (c92_V0 : Nat → Nat → Int32) (c92_V1 : Nat → Nat → Int32) (c92_V2 : Nat → Nat → Int32) (c92_V12 : Nat → Nat → Int32), (∀ z, ((la z < la this ∨ la this + 8 < la z)) → c92_G60 z = (G 60) z) → (∀ z, ((la z < la this ∨ la this + 8 < la z)) → c92_G183 z = (G 183) z) → (∀ z, ((la z < la this ∨ la this + 8 < la z)) → c92_G203 z = (G 203) z) → (∀ z, ((la z < la this ∨ la this + 8 < la z)) → c92_P66 z = (P 66) z) → LC 66 la cnt c92_P66 → (∀ z, ((la z < la this ∨ la this + 8 < la z)) → c92_P181 z = (P 181) z) → LC 181 la cnt c92_P181 → (∀ z, ((la z < la this ∨ la this + 8 < la z)) → c92_P182 z = (P 182) z) → LC 182 la cnt c92_P182 → (∀ z, ((la z < la this ∨ la this + 8 < la z)) → c92_P186 z = (P 186) z) → LC 186 la cnt c92_P186 → (∀ z, ((la z < la this ∨ la this + 8 < la z)) → c92_P187 z = (P 187) z) → LC 187 la cnt c92_P187 → (∀ z, ((la z < la this ∨ la this + 8 < la z)) → c92_U184 z = (U 184) z) → (∀ z, ((la z < la this ∨ la this + 8 < la z)) → c92_V0 z = (V 0) z) → (∀ z, ((la z < la this ∨ la this + 8 < la z)) → c92_V1 z = (V 1) z) → (∀ z, ((la z < la this ∨ la this + 8 < la z)) → c92_V2 z = (V 2) z) → (∀ z, ((la z < la this ∨ la this + 8 < la z)) → c92_V12 z = (V 12) z) → pw (k92 c92_G60 c92_G183 c92_G203 c92_P66 c92_P181 c92_P182 c92_P186 c92_P187 c92_U184 c92_V0 c92_V1 c92_V2 c92_V12) (RF_X9_through la G P U V X O kd ln cnt this p0 p1 p2 p3 p4 p5)) ?_ ?_
  · intro c92_G60 c92_G183 c92_G203 c92_P66 c92_P181 c92_P182 c92_P186 c92_P187 c92_U184 c92_V0 c92_V1 c92_V2 c92_V12 hf5 hf6 hf7 hf8 hl9 hf10 hl11 hf12 hl13 hf14 hl15 hf16 hl17 hf18 hf19 hf20 hf21 hf22
    show pw _ _
    refine pw_nn (fun a93 hn_a93 => ?_)
    have lt_a93 := (hl17 this a93 hn_a93).2.1
    have lb_a93 : (la a93 = la this + 4 ∨ la a93 = la this + 5) := lk_187.mp (hl17 this a93 hn_a93).2.2
    exact pw_some ⟨hf5, hf6, hf7, hf8, hf10, hf12, hf14, hf16, hf18, hf19, hf20, hf21, hf22, hl9, hl11, hl13, hl15, hl17⟩
  intro k92 Jk92
  have lp28 : ∀ (n28 : Nat) (y28_7 : Int32) (d28_G60 : Nat → Int32) (d28_G183 : Nat → Int32) (d28_G203 : Nat → Int32) (d28_P66 : Nat → Option Nat) (d28_P181 : Nat → Option Nat) (d28_P182 : Nat → Option Nat) (d28_P186 : Nat → Option Nat) (d28_P187 : Nat → Option Nat) (d28_U184 : Nat → Int64) (d28_V0 : Nat → Nat → Int32) (d28_V1 : Nat → Nat → Int32) (d28_V2 : Nat → Nat → Int32) (d28_V12 : Nat → Nat → Int32), (∀ z, ((la z < la this ∨ la this + 8 < la z)) → d28_G60 z = (G 60) z) → (∀ z, ((la z < la this ∨ la this + 8 < la z)) → d28_G183 z = (G 183) z) → (∀ z, ((la z < la this ∨ la this + 8 < la z)) → d28_G203 z = (G 203) z) → (∀ z, ((la z < la this ∨ la this + 8 < la z)) → d28_P66 z = (P 66) z) → LC 66 la cnt d28_P66 → (∀ z, ((la z < la this ∨ la this + 8 < la z)) → d28_P181 z = (P 181) z) → LC 181 la cnt d28_P181 → (∀ z, ((la z < la this ∨ la this + 8 < la z)) → d28_P182 z = (P 182) z) → LC 182 la cnt d28_P182 → (∀ z, ((la z < la this ∨ la this + 8 < la z)) → d28_P186 z = (P 186) z) → LC 186 la cnt d28_P186 → (∀ z, ((la z < la this ∨ la this + 8 < la z)) → d28_P187 z = (P 187) z) → LC 187 la cnt d28_P187 → (∀ z, ((la z < la this ∨ la this + 8 < la z)) → d28_U184 z = (U 184) z) → (∀ z, ((la z < la this ∨ la this + 8 < la z)) → d28_V0 z = (V 0) z) → (∀ z, ((la z < la this ∨ la this + 8 < la z)) → d28_V1 z = (V 1) z) → (∀ z, ((la z < la this ∨ la this + 8 < la z)) → d28_V2 z = (V 2) z) → (∀ z, ((la z < la this ∨ la this + 8 < la z)) → d28_V12 z = (V 12) z) → pw (L_X9_through_28 G P U V X O kd ln cnt this p0 p2 k92 n28 y28_7 d28_G60 d28_G183 d28_G203 d28_P66 d28_P181 d28_P182 d28_P186 d28_P187 d28_U184 d28_V0 d28_V1 d28_V2 d28_V12) (RF_X9_through la G P U V X O kd ln cnt this p0 p1 p2 p3 p4 p5) := by
    intro n28
    induction n28 with
    | zero => intros; exact pw_none
    | succ n28 ih28 =>
      intro y28_7 d28_G60 d28_G183 d28_G203 d28_P66 d28_P181 d28_P182 d28_P186 d28_P187 d28_U184 d28_V0 d28_V1 d28_V2 d28_V12 hf23 hf24 hf25 hf26 hl27 hf28 hl29 hf30 hl31 hf32 hl33 hf34 hl35 hf36 hf37 hf38 hf39 hf40
      show pw (B_X9_through_28 G P U V X O kd ln cnt this p0 p2 k92 (L_X9_through_28 G P U V X O kd ln cnt this p0 p2 k92 n28) y28_7 d28_G60 d28_G183 d28_G203 d28_P66 d28_P181 d28_P182 d28_P186 d28_P187 d28_U184 d28_V0 d28_V1 d28_V2 d28_V12) _
      unfold B_X9_through_28
      refine pw_ite (fun _ => ?_) (fun _ => ?_)
      · skip
        exact Jk92 d28_G60 d28_G183 d28_G203 d28_P66 d28_P181 d28_P182 d28_P186 d28_P187 d28_U184 d28_V0 d28_V1 d28_V2 d28_V12 hf23 hf24 hf25 hf26 hl27 hf28 hl29 hf30 hl31 hf32 hl33 hf34 hl35 hf36 hf37 hf38 hf39 hf40
      · skip
        refine pw_ite (fun _ => ?_) (fun _ => ?_)
        · skip
          exact Jk92 d28_G60 d28_G183 d28_G203 d28_P66 d28_P181 d28_P182 d28_P186 d28_P187 d28_U184 d28_V0 d28_V1 d28_V2 d28_V12 hf23 hf24 hf25 hf26 hl27 hf28 hl29 hf30 hl31 hf32 hl33 hf34 hl35 hf36 hf37 hf38 hf39 hf40
        · skip
          refine pw_nn (fun a42 hn_a42 => ?_)
          have lt_a42 := (hl33 this a42 hn_a42).2.1
          have lb_a42 : (la a42 = la this + 4 ∨ la a42 = la this + 5) := lk_186.mp (hl33 this a42 hn_a42).2.2
          refine pw_nn (fun a49 hn_a49 => ?_)
          have lt_a49 := (hl35 this a49 hn_a49).2.1
          have lb_a49 : (la a49 = la this + 4 ∨ la a49 = la this + 5) := lk_187.mp (hl35 this a49 hn_a49).2.2
          refine pw_vl (fun m52 em52 => ?_)
          have hl41 : LC 186 la cnt m52 := LC_up hl33 em52 (by omega) (by omega) (lk_186.mpr (by omega))
          have hf42 : ∀ z, ((la z < la this ∨ la this + 8 < la z)) → m52 z = (P 186) z := fr_up (e0 := (P 186)) hf32 em52 (show ¬ ((la this < la this ∨ la this + 8 < la this)) from by omega)
          refine pw_vl (fun m58 em58 => ?_)
          have hl43 : LC 187 la cnt m58 := LC_up hl35 em58 (by omega) (by omega) (lk_187.mpr (by omega))
          have hf44 : ∀ z, ((la z < la this ∨ la this + 8 < la z)) → m58 z = (P 187) z := fr_up (e0 := (P 187)) hf34 em58 (show ¬ ((la this < la this ∨ la this + 8 < la this)) from by omega)
          refine pw_nn (fun a62 hn_a62 => ?_)
          have lt_a62 := (hl43 this a62 hn_a62).2.1
          have lb_a62 : (la a62 = la this + 4 ∨ la a62 = la this + 5) := lk_187.mp (hl43 this a62 hn_a62).2.2
          refine pw_vl (fun m66 em66 => ?_)
          have hf45 : ∀ z, ((la z < la this ∨ la this + 8 < la z)) → m66 z = (G 203) z := fr_up (e0 := (G 203)) hf25 em66 (show ¬ ((la a62 < la this ∨ la this + 8 < la a62)) from by omega)
          refine pw_if (fun _ => ?_)
          refine pw_vl (fun o73 _ => ?_)
          refine pw_nn (fun a75 hn_a75 => ?_)
          have lt_a75 := (hl41 this a75 hn_a75).2.1
          have lb_a75 : (la a75 = la this + 4 ∨ la a75 = la this + 5) := lk_186.mp (hl41 this a75 hn_a75).2.2
          refine pw_nn (fun a79 hn_a79 => ?_)
          have lt_a79 := (hl43 this a79 hn_a79).2.1
          have lb_a79 : (la a79 = la this + 4 ∨ la a79 = la this + 5) := lk_187.mp (hl43 this a79 hn_a79).2.2
          refine pw_b12 (fun r82 c82_G60 c82_G183 c82_G203 c82_P66 c82_P181 c82_P182 c82_U184 c82_V0 c82_V1 c82_V2 c82_V12 hc82 => ?_)
          have hq82 := fr_X9_turnForms la (va_up (va_up (va_up (va_up G 60 d28_G60) 183 d28_G183) 203 d28_G203) 203 m66) (va_up (va_up (va_up (va_up (va_up (va_up (va_up P 66 d28_P66) 181 d28_P181) 182 d28_P182) 186 d28_P186) 187 d28_P187) 186 m52) 187 m58) (va_up U 184 d28_U184) (va_up (va_up (va_up (va_up V 0 d28_V0) 1 d28_V1) 2 d28_V2) 12 d28_V12) X O kd ln cnt this o73 a75 a79 (LB_set (LB_set (LB_set (LB_set (LB_set (LB_set (LB_set hB hl27) hl29) hl31) hl33) hl35) hl41) hl43) hlt_this _ hc82
          obtain ⟨q82_G60, q82_G183, q82_G203, q82_P66, q82_P181, q82_P182, q82_U184, q82_V0, q82_V1, q82_V2, q82_V12, ql82_66, ql82_181, ql82_182⟩ : (∀ z, (la z < la this ∨ la this + 8 < la z) ∧ (la z < la a79 ∨ la a79 < la z) → c82_G60 z = d28_G60 z) ∧ (∀ z, (la z < la this ∨ la this + 8 < la z) ∧ (la z < la a79 ∨ la a79 < la z) → c82_G183 z = d28_G183 z) ∧ (∀ z, (la z < la this ∨ la this + 8 < la z) ∧ (la z < la a79 ∨ la a79 < la z) → c82_G203 z = m66 z) ∧ (∀ z, (la z < la this ∨ la this + 8 < la z) ∧ (la z < la a79 ∨ la a79 < la z) → c82_P66 z = d28_P66 z) ∧ (∀ z, (la z < la this ∨ la this + 8 < la z) ∧ (la z < la a79 ∨ la a79 < la z) → c82_P181 z = d28_P181 z) ∧ (∀ z, (la z < la this ∨ la this + 8 < la z) ∧ (la z < la a79 ∨ la a79 < la z) → c82_P182 z = d28_P182 z) ∧ (∀ z, (la z < la this ∨ la this + 8 < la z) ∧ (la z < la a79 ∨ la a79 < la z) → c82_U184 z = d28_U184 z) ∧ (∀ z, (la z < la this ∨ la this + 8 < la z) ∧ (la z < la a79 ∨ la a79 < la z) → c82_V0 z = d28_V0 z) ∧ (∀ z, (la z < la this ∨ la this + 8 < la z) ∧ (la z < la a79 ∨ la a79 < la z) → c82_V1 z = d28_V1 z) ∧ (∀ z, (la z < la this ∨ la this + 8 < la z) ∧ (la z < la a79 ∨ la a79 < la z) → c82_V2 z = d28_V2 z) ∧ (∀ z, (la z < la this ∨ la this + 8 < la z) ∧ (la z < la a79 ∨ la a79 < la z) → c82_V12 z = d28_V12 z) ∧ LC 66 la cnt c82_P66 ∧ LC 181 la cnt c82_P181 ∧ LC 182 la cnt c82_P182 := hq82
          have tz82 : ∀ z, ((la z < la this ∨ la this + 8 < la z)) → ((la z < la this ∨ la this + 8 < la z) ∧ (la z < la a79 ∨ la a79 < la z)) := fun z hz => by omega
          have hf46 : ∀ z, ((la z < la this ∨ la this + 8 < la z)) → c82_G60 z = (G 60) z := fun z hz => (q82_G60 z (tz82 z hz)).trans (hf23 z hz)
          have hf47 : ∀ z, ((la z < la this ∨ la this + 8 < la z)) → c82_G183 z = (G 183) z := fun z hz => (q82_G183 z (tz82 z hz)).trans (hf24 z hz)
          have hf48 : ∀ z, ((la z < la this ∨ la this + 8 < la z)) → c82_G203 z = (G 203) z := fun z hz => (q82_G203 z (tz82 z hz)).trans (hf45 z hz)
          have hf49 : ∀ z, ((la z < la this ∨ la this + 8 < la z)) → c82_P66 z = (P 66) z := fun z hz => (q82_P66 z (tz82 z hz)).trans (hf26 z hz)
          have hf50 : ∀ z, ((la z < la this ∨ la this + 8 < la z)) → c82_P181 z = (P 181) z := fun z hz => (q82_P181 z (tz82 z hz)).trans (hf28 z hz)
          have hf51 : ∀ z, ((la z < la this ∨ la this + 8 < la z)) → c82_P182 z = (P 182) z := fun z hz => (q82_P182 z (tz82 z hz)).trans (hf30 z hz)
          have hf52 : ∀ z, ((la z < la this ∨ la this + 8 < la z)) → c82_U184 z = (U 184) z := fun z hz => (q82_U184 z (tz82 z hz)).trans (hf36 z hz)
          have hf53 : ∀ z, ((la z < la this ∨ la this + 8 < la z)) → c82_V0 z = (V 0) z := fun z hz => (q82_V0 z (tz82 z hz)).trans (hf37 z hz)
          have hf54 : ∀ z, ((la z < la this ∨ la this + 8 < la z)) → c82_V1 z = (V 1) z := fun z hz => (q82_V1 z (tz82 z hz)).trans (hf38 z hz)
          have hf55 : ∀ z, ((la z < la this ∨ la this + 8 < la z)) → c82_V2 z = (V 2) z := fun z hz => (q82_V2 z (tz82 z hz)).trans (hf39 z hz)
          have hf56 : ∀ z, ((la z < la this ∨ la this + 8 < la z)) → c82_V12 z = (V 12) z := fun z hz => (q82_V12 z (tz82 z hz)).trans (hf40 z hz)
          clear hc82
          exact ih28 (y28_7 + 1) c82_G60 c82_G183 c82_G203 c82_P66 c82_P181 c82_P182 m52 m58 c82_U184 c82_V0 c82_V1 c82_V2 c82_V12 hf46 hf47 hf48 hf49 ql82_66 hf50 ql82_181 hf51 ql82_182 hf42 hl41 hf44 hl43 hf52 hf53 hf54 hf55 hf56
  exact lp28 NN x26 (G 60) (G 183) c18_G203 (P 66) (P 181) (P 182) (P 186) (P 187) (U 184) c18_V0 c18_V1 (V 2) (V 12) (fun _ _ => rfl) (fun _ _ => rfl) hf2 (fun _ _ => rfl) (hB.1 66 fl_66) (fun _ _ => rfl) (hB.1 181 fl_181) (fun _ _ => rfl) (hB.1 182 fl_182) (fun _ _ => rfl) (hB.1 186 fl_186) (fun _ _ => rfl) (hB.1 187 fl_187) (fun _ _ => rfl) hf3 hf4 (fun _ _ => rfl) (fun _ _ => rfl)
abbrev RF_X9_turnParts (la : Nat → Nat) (G : Nat → Nat → Int32) (P : Nat → Nat → Option Nat) (U : Nat → Nat → Int64) (V : Nat → Nat → Nat → Int32) (X : Nat → Nat → Nat → Int64) (O : Nat → Nat → Nat → Option Nat) (kd : Nat → Nat) (ln : Nat → Nat) (cnt : Nat) (this : Nat) (p0 : Nat) : ((Nat → Int32) × (Nat → Int32) × (Nat → Option Nat) × (Nat → Option Nat) × (Nat → Int64) × (Nat → Nat → Int32) × (Nat → Nat → Int32) × (Nat → Nat → Int32) × (Nat → Nat → Int64)) → Prop := fun t => (∀ z, ((la z < la this ∨ la this + 8 < la z) ∧ (la z < la p0 ∨ la p0 + 5 < la z)) → (t.1) z = (G 183) z) ∧ (∀ z, ((la z < la this ∨ la this + 8 < la z) ∧ (la z < la p0 ∨ la p0 + 5 < la z)) → (t.2.1) z = (G 203) z) ∧ (∀ z, ((la z < la this ∨ la this + 8 < la z) ∧ (la z < la p0 ∨ la p0 + 5 < la z)) → (t.2.2.1) z = (P 181) z) ∧ (∀ z, ((la z < la this ∨ la this + 8 < la z) ∧ (la z < la p0 ∨ la p0 + 5 < la z)) → (t.2.2.2.1) z = (P 182) z) ∧ (∀ z, ((la z < la this ∨ la this + 8 < la z) ∧ (la z < la p0 ∨ la p0 + 5 < la z)) → (t.2.2.2.2.1) z = (U 184) z) ∧ (∀ z, ((la z < la this ∨ la this + 8 < la z) ∧ (la z < la p0 ∨ la p0 + 5 < la z)) → (t.2.2.2.2.2.1) z = (V 0) z) ∧ (∀ z, ((la z < la this ∨ la this + 8 < la z) ∧ (la z < la p0 ∨ la p0 + 5 < la z)) → (t.2.2.2.2.2.2.1) z = (V 1) z) ∧ (∀ z, ((la z < la this ∨ la this + 8 < la z) ∧ (la z < la p0 ∨ la p0 + 5 < la z)) → (t.2.2.2.2.2.2.2.1) z = (V 11) z) ∧ (∀ z, ((la z < la this ∨ la this + 8 < la z) ∧ (la z < la p0 ∨ la p0 + 5 < la z)) → (t.2.2.2.2.2.2.2.2) z = (X 0) z) ∧ LC 181 la cnt (t.2.2.1) ∧ LC 182 la cnt (t.2.2.2.1)
set_option maxHeartbeats 4000000 in
set_option maxRecDepth 100000 in
theorem fr_X9_turnParts (la : Nat → Nat) (G : Nat → Nat → Int32) (P : Nat → Nat → Option Nat) (U : Nat → Nat → Int64) (V : Nat → Nat → Nat → Int32) (X : Nat → Nat → Nat → Int64) (O : Nat → Nat → Nat → Option Nat) (kd : Nat → Nat) (ln : Nat → Nat) (cnt : Nat) (this : Nat) (p0 : Nat) (hB : LB la cnt P) (hlt_this : this < cnt) : pw (f_X9_turnParts G P U V X O kd ln cnt this p0) (RF_X9_turnParts la G P U V X O kd ln cnt this p0) := by
  unfold f_X9_turnParts
  refine pw_nn (fun a1 hn_a1 => ?_)
  have lt_a1 := ((hB.1 103 fl_103) p0 a1 hn_a1).2.1
  have lb_a1 : la a1 = la p0 + 1 := lk_103.mp ((hB.1 103 fl_103) p0 a1 hn_a1).2.2
  have lp7 : ∀ (n7 : Nat) (y7_3 : Int32) (d7_G183 : Nat → Int32) (d7_G203 : Nat → Int32) (d7_P181 : Nat → Option Nat) (d7_P182 : Nat → Option Nat) (d7_U184 : Nat → Int64) (d7_V0 : Nat → Nat → Int32) (d7_V1 : Nat → Nat → Int32) (d7_V11 : Nat → Nat → Int32) (d7_X0 : Nat → Nat → Int64), (∀ z, ((la z < la this ∨ la this + 8 < la z) ∧ (la z < la p0 ∨ la p0 + 5 < la z)) → d7_G183 z = (G 183) z) → (∀ z, ((la z < la this ∨ la this + 8 < la z) ∧ (la z < la p0 ∨ la p0 + 5 < la z)) → d7_G203 z = (G 203) z) → (∀ z, ((la z < la this ∨ la this + 8 < la z) ∧ (la z < la p0 ∨ la p0 + 5 < la z)) → d7_P181 z = (P 181) z) → LC 181 la cnt d7_P181 → (∀ z, ((la z < la this ∨ la this + 8 < la z) ∧ (la z < la p0 ∨ la p0 + 5 < la z)) → d7_P182 z = (P 182) z) → LC 182 la cnt d7_P182 → (∀ z, ((la z < la this ∨ la this + 8 < la z) ∧ (la z < la p0 ∨ la p0 + 5 < la z)) → d7_U184 z = (U 184) z) → (∀ z, ((la z < la this ∨ la this + 8 < la z) ∧ (la z < la p0 ∨ la p0 + 5 < la z)) → d7_V0 z = (V 0) z) → (∀ z, ((la z < la this ∨ la this + 8 < la z) ∧ (la z < la p0 ∨ la p0 + 5 < la z)) → d7_V1 z = (V 1) z) → (∀ z, ((la z < la this ∨ la this + 8 < la z) ∧ (la z < la p0 ∨ la p0 + 5 < la z)) → d7_V11 z = (V 11) z) → (∀ z, ((la z < la this ∨ la this + 8 < la z) ∧ (la z < la p0 ∨ la p0 + 5 < la z)) → d7_X0 z = (X 0) z) → pw (L_X9_turnParts_7 G P U V X O kd ln cnt this p0 a1 n7 y7_3 d7_G183 d7_G203 d7_P181 d7_P182 d7_U184 d7_V0 d7_V1 d7_V11 d7_X0) (RF_X9_turnParts la G P U V X O kd ln cnt this p0) := by
    intro n7
    induction n7 with
    | zero => intros; exact pw_none
    | succ n7 ih7 =>
      intro y7_3 d7_G183 d7_G203 d7_P181 d7_P182 d7_U184 d7_V0 d7_V1 d7_V11 d7_X0 hf1 hf2 hf3 hl4 hf5 hl6 hf7 hf8 hf9 hf10 hf11
      show pw (B_X9_turnParts_7 G P U V X O kd ln cnt this p0 a1 (L_X9_turnParts_7 G P U V X O kd ln cnt this p0 a1 n7) y7_3 d7_G183 d7_G203 d7_P181 d7_P182 d7_U184 d7_V0 d7_V1 d7_V11 d7_X0) _
      unfold B_X9_turnParts_7
      refine pw_ite (fun _ => ?_) (fun _ => ?_)
      · skip
        exact pw_some ⟨hf1, hf2, hf3, hf5, hf7, hf8, hf9, hf10, hf11, hl4, hl6⟩
      · skip
        refine pw_nn (fun a18 hn_a18 => ?_)
        have lt_a18 := ((hB.1 201 fl_201) a1 a18 hn_a18).2.1
        have lb_a18 : la a18 = la a1 + 0 := lk_201.mp ((hB.1 201 fl_201) a1 a18 hn_a18).2.2
        refine pw_nn (fun a28 hn_a28 => ?_)
        have lt_a28 := ((hB.1 202 fl_202) a1 a28 hn_a28).2.1
        have lb_a28 : la a28 = la a1 + 0 := lk_202.mp ((hB.1 202 fl_202) a1 a28 hn_a28).2.2
        refine pw_if (fun _ => ?_)
        refine pw_b6 (fun r33 c33_G183 c33_P181 c33_P182 c33_U184 c33_V0 hc33 => ?_)
        have hq33 := fr_X9_runLaws la (va_up (va_up G 183 d7_G183) 203 d7_G203) (va_up (va_up P 181 d7_P181) 182 d7_P182) (va_up U 184 d7_U184) (va_up (va_up (va_up V 0 d7_V0) 1 d7_V1) 11 d7_V11) (va_up X 0 d7_X0) O kd ln cnt this p0 a18 (y7_3 * ((G 200) a1)) ((d7_V1 a28) (Int32.toNatClampNeg y7_3)) (LB_set (LB_set hB hl4) hl6) hlt_this _ hc33
        obtain ⟨q33_G183, q33_P181, q33_P182, q33_U184, q33_V0, ql33_181, ql33_182⟩ : (∀ z, (la z < la this ∨ la this + 8 < la z) → c33_G183 z = d7_G183 z) ∧ (∀ z, (la z < la this ∨ la this + 8 < la z) → c33_P181 z = d7_P181 z) ∧ (∀ z, (la z < la this ∨ la this + 8 < la z) → c33_P182 z = d7_P182 z) ∧ (∀ z, (la z < la this ∨ la this + 8 < la z) → c33_U184 z = d7_U184 z) ∧ (∀ z, (la z < la this ∨ la this + 8 < la z) → c33_V0 z = d7_V0 z) ∧ LC 181 la cnt c33_P181 ∧ LC 182 la cnt c33_P182 := hq33
        have tz33 : ∀ z, ((la z < la this ∨ la this + 8 < la z) ∧ (la z < la p0 ∨ la p0 + 5 < la z)) → ((la z < la this ∨ la this + 8 < la z)) := fun z hz => by omega
        have hf12 : ∀ z, ((la z < la this ∨ la this + 8 < la z) ∧ (la z < la p0 ∨ la p0 + 5 < la z)) → c33_G183 z = (G 183) z := fun z hz => (q33_G183 z (tz33 z hz)).trans (hf1 z hz)
        have hf13 : ∀ z, ((la z < la this ∨ la this + 8 < la z) ∧ (la z < la p0 ∨ la p0 + 5 < la z)) → c33_P181 z = (P 181) z := fun z hz => (q33_P181 z (tz33 z hz)).trans (hf3 z hz)
        have hf14 : ∀ z, ((la z < la this ∨ la this + 8 < la z) ∧ (la z < la p0 ∨ la p0 + 5 < la z)) → c33_P182 z = (P 182) z := fun z hz => (q33_P182 z (tz33 z hz)).trans (hf5 z hz)
        have hf15 : ∀ z, ((la z < la this ∨ la this + 8 < la z) ∧ (la z < la p0 ∨ la p0 + 5 < la z)) → c33_U184 z = (U 184) z := fun z hz => (q33_U184 z (tz33 z hz)).trans (hf7 z hz)
        have hf16 : ∀ z, ((la z < la this ∨ la this + 8 < la z) ∧ (la z < la p0 ∨ la p0 + 5 < la z)) → c33_V0 z = (V 0) z := fun z hz => (q33_V0 z (tz33 z hz)).trans (hf8 z hz)
        clear hc33
        refine pw_nn (fun a39 hn_a39 => ?_)
        have lt_a39 := ((hB.1 109 fl_109) p0 a39 hn_a39).2.1
        have lb_a39 : la a39 = la p0 + 0 := lk_109.mp ((hB.1 109 fl_109) p0 a39 hn_a39).2.2
        refine pw_if (fun _ => ?_)
        refine pw_vl (fun m45 em45 => ?_)
        have hf17 : ∀ z, ((la z < la this ∨ la this + 8 < la z) ∧ (la z < la p0 ∨ la p0 + 5 < la z)) → m45 z = (V 11) z := fr_up (e0 := (V 11)) hf10 em45 (show ¬ ((la a39 < la this ∨ la this + 8 < la a39) ∧ (la a39 < la p0 ∨ la p0 + 5 < la a39)) from by omega)
        refine pw_nn (fun a47 hn_a47 => ?_)
        have lt_a47 := ((hB.1 110 fl_110) p0 a47 hn_a47).2.1
        have lb_a47 : la a47 = la p0 + 0 := lk_110.mp ((hB.1 110 fl_110) p0 a47 hn_a47).2.2
        refine pw_if (fun _ => ?_)
        refine pw_vl (fun m55 em55 => ?_)
        have hf18 : ∀ z, ((la z < la this ∨ la this + 8 < la z) ∧ (la z < la p0 ∨ la p0 + 5 < la z)) → m55 z = (X 0) z := fr_up (e0 := (X 0)) hf11 em55 (show ¬ ((la a47 < la this ∨ la this + 8 < la a47) ∧ (la a47 < la p0 ∨ la p0 + 5 < la a47)) from by omega)
        refine pw_nn (fun a57 hn_a57 => ?_)
        have lt_a57 := ((hB.1 108 fl_108) p0 a57 hn_a57).2.1
        have lb_a57 : la a57 = la p0 + 4 := lk_108.mp ((hB.1 108 fl_108) p0 a57 hn_a57).2.2
        refine pw_nn (fun a61 hn_a61 => ?_)
        have lt_a61 := (ql33_181 this a61 hn_a61).2.1
        have lb_a61 : (la a61 = la this + 1 ∨ la a61 = la this + 2) := lk_181.mp (ql33_181 this a61 hn_a61).2.2
        refine pw_jn (fun j78 => ∀ (t78_0 : Int32), pw (j78 t78_0) (RF_X9_turnParts la G P U V X O kd ln cnt this p0)) ?_ ?_
        · intro t78_0
          show pw _ _
          refine pw_b3 (fun c78_G203 c78_V0 c78_V1 hc78 => ?_)
          have hq78 := fr_X10_add la (va_up (va_up G 183 c33_G183) 203 d7_G203) (va_up (va_up P 181 c33_P181) 182 c33_P182) (va_up U 184 c33_U184) (va_up (va_up (va_up V 0 c33_V0) 1 d7_V1) 11 m45) (va_up X 0 m55) O kd ln cnt a57 a61 (0 : Int32) t78_0 (LB_set (LB_set hB ql33_181) ql33_182) _ hc78
          obtain ⟨q78_G203, q78_V0, q78_V1⟩ : (∀ z, (la z < la a57 ∨ la a57 < la z) → c78_G203 z = d7_G203 z) ∧ (∀ z, (la z < la a57 ∨ la a57 < la z) → c78_V0 z = c33_V0 z) ∧ (∀ z, (la z < la a57 ∨ la a57 < la z) → c78_V1 z = d7_V1 z) := hq78
          have tz78 : ∀ z, ((la z < la this ∨ la this + 8 < la z) ∧ (la z < la p0 ∨ la p0 + 5 < la z)) → ((la z < la a57 ∨ la a57 < la z)) := fun z hz => by omega
          have hf19 : ∀ z, ((la z < la this ∨ la this + 8 < la z) ∧ (la z < la p0 ∨ la p0 + 5 < la z)) → c78_G203 z = (G 203) z := fun z hz => (q78_G203 z (tz78 z hz)).trans (hf2 z hz)
          have hf20 : ∀ z, ((la z < la this ∨ la this + 8 < la z) ∧ (la z < la p0 ∨ la p0 + 5 < la z)) → c78_V0 z = (V 0) z := fun z hz => (q78_V0 z (tz78 z hz)).trans (hf16 z hz)
          have hf21 : ∀ z, ((la z < la this ∨ la this + 8 < la z) ∧ (la z < la p0 ∨ la p0 + 5 < la z)) → c78_V1 z = (V 1) z := fun z hz => (q78_V1 z (tz78 z hz)).trans (hf9 z hz)
          clear hc78
          exact ih7 (y7_3 + 1) c33_G183 c78_G203 c33_P181 c33_P182 c33_U184 c78_V0 c78_V1 m45 m55 hf12 hf19 hf13 ql33_181 hf14 ql33_182 hf15 hf20 hf21 hf17 hf18
        intro j78 Jj78
        refine pw_ite (fun _ => ?_) (fun _ => ?_)
        · skip
          exact Jj78 0
        · skip
          exact Jj78 (c33_G183 this)
  exact lp7 NN 0 (G 183) (G 203) (P 181) (P 182) (U 184) (V 0) (V 1) (V 11) (X 0) (fun _ _ => rfl) (fun _ _ => rfl) (fun _ _ => rfl) (hB.1 181 fl_181) (fun _ _ => rfl) (hB.1 182 fl_182) (fun _ _ => rfl) (fun _ _ => rfl) (fun _ _ => rfl) (fun _ _ => rfl) (fun _ _ => rfl)
abbrev RF_X11_turn (la : Nat → Nat) (G : Nat → Nat → Int32) (P : Nat → Nat → Option Nat) (U : Nat → Nat → Int64) (V : Nat → Nat → Nat → Int32) (X : Nat → Nat → Nat → Int64) (O : Nat → Nat → Nat → Option Nat) (kd : Nat → Nat) (ln : Nat → Nat) (cnt : Nat) (this : Nat) (p0 : Int32) (p1 : Int32) : (Int32 × (Nat → Int32) × (Nat → Int32) × (Nat → Int32) × (Nat → Int32) × (Nat → Option Nat) × (Nat → Option Nat) × (Nat → Option Nat) × (Nat → Option Nat) × (Nat → Option Nat) × (Nat → Int64) × (Nat → Nat → Int32) × (Nat → Nat → Int32) × (Nat → Nat → Int32) × (Nat → Nat → Int32)) → Prop := fun t => (∀ z, ((la z < 10 ∨ 10 < la z) ∧ (la z < 90 ∨ 90 + 8 < la z) ∧ (la z < 50 ∨ 50 < la z)) → (t.2.1) z = (G 60) z) ∧ (∀ z, ((la z < 10 ∨ 10 < la z) ∧ (la z < 90 ∨ 90 + 8 < la z) ∧ (la z < 50 ∨ 50 < la z)) → (t.2.2.1) z = (G 141) z) ∧ (∀ z, ((la z < 10 ∨ 10 < la z) ∧ (la z < 90 ∨ 90 + 8 < la z) ∧ (la z < 50 ∨ 50 < la z)) → (t.2.2.2.1) z = (G 183) z) ∧ (∀ z, ((la z < 10 ∨ 10 < la z) ∧ (la z < 90 ∨ 90 + 8 < la z) ∧ (la z < 50 ∨ 50 < la z)) → (t.2.2.2.2.1) z = (G 203) z) ∧ (∀ z, ((la z < 10 ∨ 10 < la z) ∧ (la z < 90 ∨ 90 + 8 < la z) ∧ (la z < 50 ∨ 50 < la z)) → (t.2.2.2.2.2.1) z = (P 66) z) ∧ (∀ z, ((la z < 10 ∨ 10 < la z) ∧ (la z < 90 ∨ 90 + 8 < la z) ∧ (la z < 50 ∨ 50 < la z)) → (t.2.2.2.2.2.2.1) z = (P 181) z) ∧ (∀ z, ((la z < 10 ∨ 10 < la z) ∧ (la z < 90 ∨ 90 + 8 < la z) ∧ (la z < 50 ∨ 50 < la z)) → (t.2.2.2.2.2.2.2.1) z = (P 182) z) ∧ (∀ z, ((la z < 10 ∨ 10 < la z) ∧ (la z < 90 ∨ 90 + 8 < la z) ∧ (la z < 50 ∨ 50 < la z)) → (t.2.2.2.2.2.2.2.2.1) z = (P 186) z) ∧ (∀ z, ((la z < 10 ∨ 10 < la z) ∧ (la z < 90 ∨ 90 + 8 < la z) ∧ (la z < 50 ∨ 50 < la z)) → (t.2.2.2.2.2.2.2.2.2.1) z = (P 187) z) ∧ (∀ z, ((la z < 10 ∨ 10 < la z) ∧ (la z < 90 ∨ 90 + 8 < la z) ∧ (la z < 50 ∨ 50 < la z)) → (t.2.2.2.2.2.2.2.2.2.2.1) z = (U 184) z) ∧ (∀ z, ((la z < 10 ∨ 10 < la z) ∧ (la z < 90 ∨ 90 + 8 < la z) ∧ (la z < 50 ∨ 50 < la z)) → (t.2.2.2.2.2.2.2.2.2.2.2.1) z = (V 0) z) ∧ (∀ z, ((la z < 10 ∨ 10 < la z) ∧ (la z < 90 ∨ 90 + 8 < la z) ∧ (la z < 50 ∨ 50 < la z)) → (t.2.2.2.2.2.2.2.2.2.2.2.2.1) z = (V 1) z) ∧ (∀ z, ((la z < 10 ∨ 10 < la z) ∧ (la z < 90 ∨ 90 + 8 < la z) ∧ (la z < 50 ∨ 50 < la z)) → (t.2.2.2.2.2.2.2.2.2.2.2.2.2.1) z = (V 2) z) ∧ (∀ z, ((la z < 10 ∨ 10 < la z) ∧ (la z < 90 ∨ 90 + 8 < la z) ∧ (la z < 50 ∨ 50 < la z)) → (t.2.2.2.2.2.2.2.2.2.2.2.2.2.2) z = (V 12) z) ∧ LC 66 la cnt (t.2.2.2.2.2.1) ∧ LC 181 la cnt (t.2.2.2.2.2.2.1) ∧ LC 182 la cnt (t.2.2.2.2.2.2.2.1) ∧ LC 186 la cnt (t.2.2.2.2.2.2.2.2.1) ∧ LC 187 la cnt (t.2.2.2.2.2.2.2.2.2.1)
set_option maxHeartbeats 4000000 in
set_option maxRecDepth 100000 in
theorem fr_X11_turn (la : Nat → Nat) (G : Nat → Nat → Int32) (P : Nat → Nat → Option Nat) (U : Nat → Nat → Int64) (V : Nat → Nat → Nat → Int32) (X : Nat → Nat → Nat → Int64) (O : Nat → Nat → Nat → Option Nat) (kd : Nat → Nat) (ln : Nat → Nat) (cnt : Nat) (this : Nat) (p0 : Int32) (p1 : Int32) (hB : LB la cnt P) (hlt_this : this < cnt) (hp0 : la this = 200) : pw (f_X11_turn G P U V X O kd ln cnt this p0 p1) (RF_X11_turn la G P U V X O kd ln cnt this p0 p1) := by
  unfold f_X11_turn
  refine pw_nn (fun a1 hn_a1 => ?_)
  have lt_a1 := ((hB.1 220 fl_220) this a1 hn_a1).2.1
  have lb_a1 : la a1 = 10 := lk_220.mp ((hB.1 220 fl_220) this a1 hn_a1).2.2
  refine pw_b2 (fun r4 c4_G141 hc4 => ?_)
  have hq4 := fr_X7_take la G P U V X O kd ln cnt a1 hB _ hc4
  have q4_G141 : (∀ z, (la z < la a1 ∨ la a1 < la z) → c4_G141 z = (G 141) z) := hq4
  have tz4 : ∀ z, ((la z < 10 ∨ 10 < la z) ∧ (la z < 90 ∨ 90 + 8 < la z) ∧ (la z < 50 ∨ 50 < la z)) → ((la z < la a1 ∨ la a1 < la z)) := fun z hz => by omega
  have hf1 : ∀ z, ((la z < 10 ∨ 10 < la z) ∧ (la z < 90 ∨ 90 + 8 < la z) ∧ (la z < 50 ∨ 50 < la z)) → c4_G141 z = (G 141) z := fun z hz => (q4_G141 z (tz4 z hz)).trans (rfl)
  clear hc4 hq4
  refine pw_b1 (fun r11 hc11 => ?_)
  clear hc11
  refine pw_jn (fun j28 => pw (j28 ()) (RF_X11_turn la G P U V X O kd ln cnt this p0 p1)) ?_ ?_
  · show pw _ _
    exact pw_some ⟨(fun _ _ => rfl), hf1, (fun _ _ => rfl), (fun _ _ => rfl), (fun _ _ => rfl), (fun _ _ => rfl), (fun _ _ => rfl), (fun _ _ => rfl), (fun _ _ => rfl), (fun _ _ => rfl), (fun _ _ => rfl), (fun _ _ => rfl), (fun _ _ => rfl), (fun _ _ => rfl), (hB.1 66 fl_66), (hB.1 181 fl_181), (hB.1 182 fl_182), (hB.1 186 fl_186), (hB.1 187 fl_187)⟩
  intro j28 Jj28
  refine pw_ite (fun _ => ?_) (fun _ => ?_)
  · skip
    exact Jj28
  · skip
    refine pw_nn (fun a18 hn_a18 => ?_)
    have lt_a18 := ((hB.1 220 fl_220) this a18 hn_a18).2.1
    have lb_a18 : la a18 = 10 := lk_220.mp ((hB.1 220 fl_220) this a18 hn_a18).2.2
    refine pw_b1 (fun r22 hc22 => ?_)
    clear hc22
    refine pw_ite (fun _ => ?_) (fun _ => ?_)
    · skip
      exact Jj28
    · skip
      refine pw_nn (fun a32 hn_a32 => ?_)
      have lt_a32 := ((hB.1 227 fl_227) this a32 hn_a32).2.1
      have lb_a32 : la a32 = 50 := lk_227.mp ((hB.1 227 fl_227) this a32 hn_a32).2.2
      refine pw_nn (fun a36 hn_a36 => ?_)
      have lt_a36 := ((hB.1 226 fl_226) this a36 hn_a36).2.1
      have lb_a36 : la a36 = 90 := lk_226.mp ((hB.1 226 fl_226) this a36 hn_a36).2.2
      refine pw_nn (fun a40 hn_a40 => ?_)
      have lt_a40 := ((hB.1 221 fl_221) this a40 hn_a40).2.1
      have lb_a40 : la a40 = la this + 3 := lk_221.mp ((hB.1 221 fl_221) this a40 hn_a40).2.2
      refine pw_nn (fun a46 hn_a46 => ?_)
      have lt_a46 := ((hB.1 220 fl_220) this a46 hn_a46).2.1
      have lb_a46 : la a46 = 10 := lk_220.mp ((hB.1 220 fl_220) this a46 hn_a46).2.2
      refine pw_nn (fun a49 hn_a49 => ?_)
      have lt_a49 := ((hB.1 140 fl_140) a46 a49 hn_a49).2.1
      have lb_a49 : la a49 = la a46 + 1 := lk_140.mp ((hB.1 140 fl_140) a46 a49 hn_a49).2.2
      refine pw_b14 (fun r54 c54_G60 c54_G183 c54_G203 c54_P66 c54_P181 c54_P182 c54_P186 c54_P187 c54_U184 c54_V0 c54_V1 c54_V2 c54_V12 hc54 => ?_)
      have hq54 := fr_X9_through la (va_up G 141 c4_G141) P U V X O kd ln cnt a36 a40 p0 p1 a49 (0 : Int32) r4 hB lt_a36 _ hc54
      obtain ⟨q54_G60, q54_G183, q54_G203, q54_P66, q54_P181, q54_P182, q54_P186, q54_P187, q54_U184, q54_V0, q54_V1, q54_V2, q54_V12, ql54_66, ql54_181, ql54_182, ql54_186, ql54_187⟩ : (∀ z, (la z < la a36 ∨ la a36 + 8 < la z) → c54_G60 z = (G 60) z) ∧ (∀ z, (la z < la a36 ∨ la a36 + 8 < la z) → c54_G183 z = (G 183) z) ∧ (∀ z, (la z < la a36 ∨ la a36 + 8 < la z) → c54_G203 z = (G 203) z) ∧ (∀ z, (la z < la a36 ∨ la a36 + 8 < la z) → c54_P66 z = (P 66) z) ∧ (∀ z, (la z < la a36 ∨ la a36 + 8 < la z) → c54_P181 z = (P 181) z) ∧ (∀ z, (la z < la a36 ∨ la a36 + 8 < la z) → c54_P182 z = (P 182) z) ∧ (∀ z, (la z < la a36 ∨ la a36 + 8 < la z) → c54_P186 z = (P 186) z) ∧ (∀ z, (la z < la a36 ∨ la a36 + 8 < la z) → c54_P187 z = (P 187) z) ∧ (∀ z, (la z < la a36 ∨ la a36 + 8 < la z) → c54_U184 z = (U 184) z) ∧ (∀ z, (la z < la a36 ∨ la a36 + 8 < la z) → c54_V0 z = (V 0) z) ∧ (∀ z, (la z < la a36 ∨ la a36 + 8 < la z) → c54_V1 z = (V 1) z) ∧ (∀ z, (la z < la a36 ∨ la a36 + 8 < la z) → c54_V2 z = (V 2) z) ∧ (∀ z, (la z < la a36 ∨ la a36 + 8 < la z) → c54_V12 z = (V 12) z) ∧ LC 66 la cnt c54_P66 ∧ LC 181 la cnt c54_P181 ∧ LC 182 la cnt c54_P182 ∧ LC 186 la cnt c54_P186 ∧ LC 187 la cnt c54_P187 := hq54
      have tz54 : ∀ z, ((la z < 10 ∨ 10 < la z) ∧ (la z < 90 ∨ 90 + 8 < la z) ∧ (la z < 50 ∨ 50 < la z)) → ((la z < la a36 ∨ la a36 + 8 < la z)) := fun z hz => by omega
      have hf2 : ∀ z, ((la z < 10 ∨ 10 < la z) ∧ (la z < 90 ∨ 90 + 8 < la z) ∧ (la z < 50 ∨ 50 < la z)) → c54_G60 z = (G 60) z := fun z hz => (q54_G60 z (tz54 z hz)).trans (rfl)
      have hf3 : ∀ z, ((la z < 10 ∨ 10 < la z) ∧ (la z < 90 ∨ 90 + 8 < la z) ∧ (la z < 50 ∨ 50 < la z)) → c54_G183 z = (G 183) z := fun z hz => (q54_G183 z (tz54 z hz)).trans (rfl)
      have hf4 : ∀ z, ((la z < 10 ∨ 10 < la z) ∧ (la z < 90 ∨ 90 + 8 < la z) ∧ (la z < 50 ∨ 50 < la z)) → c54_G203 z = (G 203) z := fun z hz => (q54_G203 z (tz54 z hz)).trans (rfl)
      have hf5 : ∀ z, ((la z < 10 ∨ 10 < la z) ∧ (la z < 90 ∨ 90 + 8 < la z) ∧ (la z < 50 ∨ 50 < la z)) → c54_P66 z = (P 66) z := fun z hz => (q54_P66 z (tz54 z hz)).trans (rfl)
      have hf6 : ∀ z, ((la z < 10 ∨ 10 < la z) ∧ (la z < 90 ∨ 90 + 8 < la z) ∧ (la z < 50 ∨ 50 < la z)) → c54_P181 z = (P 181) z := fun z hz => (q54_P181 z (tz54 z hz)).trans (rfl)
      have hf7 : ∀ z, ((la z < 10 ∨ 10 < la z) ∧ (la z < 90 ∨ 90 + 8 < la z) ∧ (la z < 50 ∨ 50 < la z)) → c54_P182 z = (P 182) z := fun z hz => (q54_P182 z (tz54 z hz)).trans (rfl)
      have hf8 : ∀ z, ((la z < 10 ∨ 10 < la z) ∧ (la z < 90 ∨ 90 + 8 < la z) ∧ (la z < 50 ∨ 50 < la z)) → c54_P186 z = (P 186) z := fun z hz => (q54_P186 z (tz54 z hz)).trans (rfl)
      have hf9 : ∀ z, ((la z < 10 ∨ 10 < la z) ∧ (la z < 90 ∨ 90 + 8 < la z) ∧ (la z < 50 ∨ 50 < la z)) → c54_P187 z = (P 187) z := fun z hz => (q54_P187 z (tz54 z hz)).trans (rfl)
      have hf10 : ∀ z, ((la z < 10 ∨ 10 < la z) ∧ (la z < 90 ∨ 90 + 8 < la z) ∧ (la z < 50 ∨ 50 < la z)) → c54_U184 z = (U 184) z := fun z hz => (q54_U184 z (tz54 z hz)).trans (rfl)
      have hf11 : ∀ z, ((la z < 10 ∨ 10 < la z) ∧ (la z < 90 ∨ 90 + 8 < la z) ∧ (la z < 50 ∨ 50 < la z)) → c54_V0 z = (V 0) z := fun z hz => (q54_V0 z (tz54 z hz)).trans (rfl)
      have hf12 : ∀ z, ((la z < 10 ∨ 10 < la z) ∧ (la z < 90 ∨ 90 + 8 < la z) ∧ (la z < 50 ∨ 50 < la z)) → c54_V1 z = (V 1) z := fun z hz => (q54_V1 z (tz54 z hz)).trans (rfl)
      have hf13 : ∀ z, ((la z < 10 ∨ 10 < la z) ∧ (la z < 90 ∨ 90 + 8 < la z) ∧ (la z < 50 ∨ 50 < la z)) → c54_V2 z = (V 2) z := fun z hz => (q54_V2 z (tz54 z hz)).trans (rfl)
      have hf14 : ∀ z, ((la z < 10 ∨ 10 < la z) ∧ (la z < 90 ∨ 90 + 8 < la z) ∧ (la z < 50 ∨ 50 < la z)) → c54_V12 z = (V 12) z := fun z hz => (q54_V12 z (tz54 z hz)).trans (rfl)
      clear hc54
      refine pw_b3 (fun c57_G203 c57_V0 c57_V1 hc57 => ?_)
      have hq57 := fr_X10_copy la (va_up (va_up (va_up (va_up G 141 c4_G141) 60 c54_G60) 183 c54_G183) 203 c54_G203) (va_up (va_up (va_up (va_up (va_up P 66 c54_P66) 181 c54_P181) 182 c54_P182) 186 c54_P186) 187 c54_P187) (va_up U 184 c54_U184) (va_up (va_up (va_up (va_up V 0 c54_V0) 1 c54_V1) 2 c54_V2) 12 c54_V12) X O kd ln cnt a32 r54 (LB_set (LB_set (LB_set (LB_set (LB_set hB ql54_66) ql54_181) ql54_182) ql54_186) ql54_187) _ hc57
      obtain ⟨q57_G203, q57_V0, q57_V1⟩ : (∀ z, (la z < la a32 ∨ la a32 < la z) → c57_G203 z = c54_G203 z) ∧ (∀ z, (la z < la a32 ∨ la a32 < la z) → c57_V0 z = c54_V0 z) ∧ (∀ z, (la z < la a32 ∨ la a32 < la z) → c57_V1 z = c54_V1 z) := hq57
      have tz57 : ∀ z, ((la z < 10 ∨ 10 < la z) ∧ (la z < 90 ∨ 90 + 8 < la z) ∧ (la z < 50 ∨ 50 < la z)) → ((la z < la a32 ∨ la a32 < la z)) := fun z hz => by omega
      have hf15 : ∀ z, ((la z < 10 ∨ 10 < la z) ∧ (la z < 90 ∨ 90 + 8 < la z) ∧ (la z < 50 ∨ 50 < la z)) → c57_G203 z = (G 203) z := fun z hz => (q57_G203 z (tz57 z hz)).trans (hf4 z hz)
      have hf16 : ∀ z, ((la z < 10 ∨ 10 < la z) ∧ (la z < 90 ∨ 90 + 8 < la z) ∧ (la z < 50 ∨ 50 < la z)) → c57_V0 z = (V 0) z := fun z hz => (q57_V0 z (tz57 z hz)).trans (hf11 z hz)
      have hf17 : ∀ z, ((la z < 10 ∨ 10 < la z) ∧ (la z < 90 ∨ 90 + 8 < la z) ∧ (la z < 50 ∨ 50 < la z)) → c57_V1 z = (V 1) z := fun z hz => (q57_V1 z (tz57 z hz)).trans (hf12 z hz)
      clear hc57
      refine pw_nn (fun a61 hn_a61 => ?_)
      have lt_a61 := ((hB.1 227 fl_227) this a61 hn_a61).2.1
      have lb_a61 : la a61 = 50 := lk_227.mp ((hB.1 227 fl_227) this a61 hn_a61).2.2
      exact pw_some ⟨hf2, hf1, hf3, hf15, hf5, hf6, hf7, hf8, hf9, hf10, hf16, hf17, hf13, hf14, ql54_66, ql54_181, ql54_182, ql54_186, ql54_187⟩
