abbrev RF_X4_scanRun (la : Nat → Nat) (G : Nat → Nat → Int32) (P : Nat → Nat → Option Nat) (U : Nat → Nat → Int64) (V : Nat → Nat → Nat → Int32) (X : Nat → Nat → Nat → Int64) (O : Nat → Nat → Nat → Option Nat) (kd : Nat → Nat) (ln : Nat → Nat) (cnt : Nat) (this : Nat) (p0 : Int32) : ((Nat → Int32) × (Nat → Int32) × (Nat → Int32)) → Prop := fun t => (∀ z, ((la z < la this ∨ la this < la z)) → (t.1) z = (G 84) z) ∧ (∀ z, ((la z < la this ∨ la this < la z)) → (t.2.1) z = (G 87) z) ∧ (∀ z, ((la z < la this ∨ la this < la z)) → (t.2.2) z = (G 88) z)
set_option maxHeartbeats 4000000 in
set_option maxRecDepth 100000 in
theorem fr_X4_scanRun (la : Nat → Nat) (G : Nat → Nat → Int32) (P : Nat → Nat → Option Nat) (U : Nat → Nat → Int64) (V : Nat → Nat → Nat → Int32) (X : Nat → Nat → Nat → Int64) (O : Nat → Nat → Nat → Option Nat) (kd : Nat → Nat) (ln : Nat → Nat) (cnt : Nat) (this : Nat) (p0 : Int32) (hB : LB la cnt P) : pw (f_X4_scanRun G P U V X O kd ln cnt this p0) (RF_X4_scanRun la G P U V X O kd ln cnt this p0) := by
  unfold f_X4_scanRun
  refine pw_vl (fun x5 _ => ?_)
  refine pw_vl (fun m5 em5 => ?_)
  have hf1 : ∀ z, ((la z < la this ∨ la this < la z)) → m5 z = (G 87) z := fr_up (e0 := (G 87)) (fun _ _ => rfl) em5 (show ¬ ((la this < la this ∨ la this < la this)) from by omega)
  refine pw_jn (fun k65 => ∀ (c65_G84 : Nat → Int32) (c65_G88 : Nat → Int32), (∀ z, ((la z < la this ∨ la this < la z)) → c65_G84 z = (G 84) z) → (∀ z, ((la z < la this ∨ la this < la z)) → c65_G88 z = (G 88) z) → pw (k65 c65_G84 c65_G88) (RF_X4_scanRun la G P U V X O kd ln cnt this p0)) ?_ ?_
  · intro c65_G84 c65_G88 hf2 hf3
    show pw _ _
    exact pw_some ⟨hf2, hf1, hf3⟩
  intro k65 Jk65
  have lp8 : ∀ (n8 : Nat) (d8_G84 : Nat → Int32) (d8_G88 : Nat → Int32), (∀ z, ((la z < la this ∨ la this < la z)) → d8_G84 z = (G 84) z) → (∀ z, ((la z < la this ∨ la this < la z)) → d8_G88 z = (G 88) z) → pw (L_X4_scanRun_8 G P U V X O kd ln cnt this p0 m5 k65 n8 d8_G84 d8_G88) (RF_X4_scanRun la G P U V X O kd ln cnt this p0) := by
    intro n8
    induction n8 with
    | zero => intros; exact pw_none
    | succ n8 ih8 =>
      intro d8_G84 d8_G88 hf4 hf5
      show pw (B_X4_scanRun_8 G P U V X O kd ln cnt this p0 m5 k65 (L_X4_scanRun_8 G P U V X O kd ln cnt this p0 m5 k65 n8) d8_G84 d8_G88) _
      unfold B_X4_scanRun_8
      refine pw_ite (fun _ => ?_) (fun _ => ?_)
      · skip
        exact Jk65 d8_G84 d8_G88 hf4 hf5
      · skip
        refine pw_ite (fun _ => ?_) (fun _ => ?_)
        · skip
          exact Jk65 d8_G84 d8_G88 hf4 hf5
        · skip
          refine pw_nn (fun a28 hn_a28 => ?_)
          obtain ⟨_, lt_a28, lb_a28⟩ := (hB.1 82 fl_82) this a28 hn_a28
          refine pw_if (fun _ => ?_)
          refine pw_b1 (fun r36 hc36 => ?_)
          clear hc36
          refine pw_ite (fun _ => ?_) (fun _ => ?_)
          · skip
            exact Jk65 d8_G84 d8_G88 hf4 hf5
          · skip
            refine pw_vl (fun x49 _ => ?_)
            refine pw_vl (fun m49 em49 => ?_)
            have hf6 : ∀ z, ((la z < la this ∨ la this < la z)) → m49 z = (G 88) z := fr_up (e0 := (G 88)) hf5 em49 (show ¬ ((la this < la this ∨ la this < la this)) from by omega)
            refine pw_vl (fun x59 _ => ?_)
            refine pw_vl (fun m59 em59 => ?_)
            have hf7 : ∀ z, ((la z < la this ∨ la this < la z)) → m59 z = (G 84) z := fr_up (e0 := (G 84)) hf4 em59 (show ¬ ((la this < la this ∨ la this < la this)) from by omega)
            exact ih8 m59 m49 hf7 hf6
  exact lp8 NN (G 84) (G 88) (fun _ _ => rfl) (fun _ _ => rfl)
abbrev RF_X4_nextToken (la : Nat → Nat) (G : Nat → Nat → Int32) (P : Nat → Nat → Option Nat) (U : Nat → Nat → Int64) (V : Nat → Nat → Nat → Int32) (X : Nat → Nat → Nat → Int64) (O : Nat → Nat → Nat → Option Nat) (kd : Nat → Nat) (ln : Nat → Nat) (cnt : Nat) (this : Nat) : ((Nat → Int32) × (Nat → Int32) × (Nat → Int32) × (Nat → Int32) × (Nat → Int32)) → Prop := fun t => (∀ z, ((la z < la this ∨ la this < la z)) → (t.1) z = (G 84) z) ∧ (∀ z, ((la z < la this ∨ la this < la z)) → (t.2.1) z = (G 85) z) ∧ (∀ z, ((la z < la this ∨ la this < la z)) → (t.2.2.1) z = (G 86) z) ∧ (∀ z, ((la z < la this ∨ la this < la z)) → (t.2.2.2.1) z = (G 87) z) ∧ (∀ z, ((la z < la this ∨ la this < la z)) → (t.2.2.2.2) z = (G 88) z)
set_option maxHeartbeats 4000000 in
set_option maxRecDepth 100000 in
theorem fr_X4_nextToken (la : Nat → Nat) (G : Nat → Nat → Int32) (P : Nat → Nat → Option Nat) (U : Nat → Nat → Int64) (V : Nat → Nat → Nat → Int32) (X : Nat → Nat → Nat → Int64) (O : Nat → Nat → Nat → Option Nat) (kd : Nat → Nat) (ln : Nat → Nat) (cnt : Nat) (this : Nat) (hB : LB la cnt P) : pw (f_X4_nextToken G P U V X O kd ln cnt this) (RF_X4_nextToken la G P U V X O kd ln cnt this) := by
  unfold f_X4_nextToken
  refine pw_jn (fun k52 => ∀ (c52_G84 : Nat → Int32), (∀ z, ((la z < la this ∨ la this < la z)) → c52_G84 z = (G 84) z) → pw (k52 c52_G84) (RF_X4_nextToken la G P U V X O kd ln cnt this)) ?_ ?_
  · intro c52_G84 hf1
    show pw _ _
    refine pw_vl (fun x57 _ => ?_)
    refine pw_vl (fun m57 em57 => ?_)
    have hf2 : ∀ z, ((la z < la this ∨ la this < la z)) → m57 z = (G 86) z := fr_up (e0 := (G 86)) (fun _ _ => rfl) em57 (show ¬ ((la this < la this ∨ la this < la this)) from by omega)
    refine pw_vl (fun m62 em62 => ?_)
    have hf3 : ∀ z, ((la z < la this ∨ la this < la z)) → m62 z = (G 88) z := fr_up (e0 := (G 88)) (fun _ _ => rfl) em62 (show ¬ ((la this < la this ∨ la this < la this)) from by omega)
    refine pw_jn (fun j217 => ∀ (c217_G84 : Nat → Int32) (c217_G85 : Nat → Int32) (c217_G87 : Nat → Int32) (c217_G88 : Nat → Int32), (∀ z, ((la z < la this ∨ la this < la z)) → c217_G84 z = (G 84) z) → (∀ z, ((la z < la this ∨ la this < la z)) → c217_G85 z = (G 85) z) → (∀ z, ((la z < la this ∨ la this < la z)) → c217_G87 z = (G 87) z) → (∀ z, ((la z < la this ∨ la this < la z)) → c217_G88 z = (G 88) z) → pw (j217 c217_G84 c217_G85 c217_G87 c217_G88) (RF_X4_nextToken la G P U V X O kd ln cnt this)) ?_ ?_
    · intro c217_G84 c217_G85 c217_G87 c217_G88 hf4 hf5 hf6 hf7
      show pw _ _
      exact pw_some ⟨hf4, hf5, hf2, hf6, hf7⟩
    intro j217 Jj217
    refine pw_ite (fun _ => ?_) (fun _ => ?_)
    · skip
      refine pw_nn (fun a85 hn_a85 => ?_)
      obtain ⟨_, lt_a85, lb_a85⟩ := (hB.1 82 fl_82) this a85 hn_a85
      refine pw_if (fun _ => ?_)
      refine pw_ite (fun _ => ?_) (fun _ => ?_)
      · skip
        refine pw_vl (fun m100 em100 => ?_)
        have hf8 : ∀ z, ((la z < la this ∨ la this < la z)) → m100 z = (G 85) z := fr_up (e0 := (G 85)) (fun _ _ => rfl) em100 (show ¬ ((la this < la this ∨ la this < la this)) from by omega)
        refine pw_vl (fun x110 _ => ?_)
        refine pw_vl (fun m110 em110 => ?_)
        have hf9 : ∀ z, ((la z < la this ∨ la this < la z)) → m110 z = (G 84) z := fr_up (e0 := (G 84)) hf1 em110 (show ¬ ((la this < la this ∨ la this < la this)) from by omega)
        exact Jj217 m110 m100 (G 87) m62 hf9 hf8 (fun _ _ => rfl) hf3
      · skip
        refine pw_nn (fun a117 hn_a117 => ?_)
        obtain ⟨_, lt_a117, lb_a117⟩ := (hB.1 82 fl_82) this a117 hn_a117
        refine pw_if (fun _ => ?_)
        refine pw_ite (fun _ => ?_) (fun _ => ?_)
        · skip
          refine pw_vl (fun x137 _ => ?_)
          refine pw_vl (fun m137 em137 => ?_)
          have hf10 : ∀ z, ((la z < la this ∨ la this < la z)) → m137 z = (G 84) z := fr_up (e0 := (G 84)) hf1 em137 (show ¬ ((la this < la this ∨ la this < la this)) from by omega)
          refine pw_b3 (fun c143_G84 c143_G87 c143_G88 hc143 => ?_)
          have hq143 := fr_X4_scanRun la (va_up (va_up (va_up (va_up G 84 c52_G84) 86 m57) 88 m62) 84 m137) P U V X O kd ln cnt this (16 : Int32) hB _ hc143
          obtain ⟨q143_G84, q143_G87, q143_G88⟩ : (∀ z, (la z < la this ∨ la this < la z) → c143_G84 z = m137 z) ∧ (∀ z, (la z < la this ∨ la this < la z) → c143_G87 z = (G 87) z) ∧ (∀ z, (la z < la this ∨ la this < la z) → c143_G88 z = m62 z) := hq143
          have tz143 : ∀ z, ((la z < la this ∨ la this < la z)) → ((la z < la this ∨ la this < la z)) := fun z hz => by omega
          have hf11 : ∀ z, ((la z < la this ∨ la this < la z)) → c143_G84 z = (G 84) z := fun z hz => (q143_G84 z (tz143 z hz)).trans (hf10 z hz)
          have hf12 : ∀ z, ((la z < la this ∨ la this < la z)) → c143_G87 z = (G 87) z := fun z hz => (q143_G87 z (tz143 z hz)).trans (rfl)
          have hf13 : ∀ z, ((la z < la this ∨ la this < la z)) → c143_G88 z = (G 88) z := fun z hz => (q143_G88 z (tz143 z hz)).trans (hf3 z hz)
          clear hc143
          refine pw_jn (fun j177 => ∀ (t177_0 : Int32), pw (j177 t177_0) (RF_X4_nextToken la G P U V X O kd ln cnt this)) ?_ ?_
          · intro t177_0
            show pw _ _
            refine pw_vl (fun m177 em177 => ?_)
            have hf14 : ∀ z, ((la z < la this ∨ la this < la z)) → m177 z = (G 85) z := fr_up (e0 := (G 85)) (fun _ _ => rfl) em177 (show ¬ ((la this < la this ∨ la this < la this)) from by omega)
            refine pw_vl (fun x187 _ => ?_)
            refine pw_vl (fun m187 em187 => ?_)
            have hf15 : ∀ z, ((la z < la this ∨ la this < la z)) → m187 z = (G 84) z := fr_up (e0 := (G 84)) hf11 em187 (show ¬ ((la this < la this ∨ la this < la this)) from by omega)
            exact Jj217 m187 m177 c143_G87 c143_G88 hf15 hf14 hf12 hf13
          intro j177 Jj177
          refine pw_jn (fun j176 => pw (j176 ()) (RF_X4_nextToken la G P U V X O kd ln cnt this)) ?_ ?_
          · show pw _ _
            exact Jj177 4
          intro j176 Jj176
          refine pw_ite (fun _ => ?_) (fun _ => ?_)
          · skip
            exact Jj176
          · skip
            refine pw_nn (fun a159 hn_a159 => ?_)
            obtain ⟨_, lt_a159, lb_a159⟩ := (hB.1 82 fl_82) this a159 hn_a159
            refine pw_if (fun _ => ?_)
            refine pw_ite (fun _ => ?_) (fun _ => ?_)
            · skip
              exact Jj177 2
            · skip
              exact Jj176
        · skip
          refine pw_b3 (fun c198_G84 c198_G87 c198_G88 hc198 => ?_)
          have hq198 := fr_X4_scanRun la (va_up (va_up (va_up G 84 c52_G84) 86 m57) 88 m62) P U V X O kd ln cnt this ((G 83) this) hB _ hc198
          obtain ⟨q198_G84, q198_G87, q198_G88⟩ : (∀ z, (la z < la this ∨ la this < la z) → c198_G84 z = c52_G84 z) ∧ (∀ z, (la z < la this ∨ la this < la z) → c198_G87 z = (G 87) z) ∧ (∀ z, (la z < la this ∨ la this < la z) → c198_G88 z = m62 z) := hq198
          have tz198 : ∀ z, ((la z < la this ∨ la this < la z)) → ((la z < la this ∨ la this < la z)) := fun z hz => by omega
          have hf16 : ∀ z, ((la z < la this ∨ la this < la z)) → c198_G84 z = (G 84) z := fun z hz => (q198_G84 z (tz198 z hz)).trans (hf1 z hz)
          have hf17 : ∀ z, ((la z < la this ∨ la this < la z)) → c198_G87 z = (G 87) z := fun z hz => (q198_G87 z (tz198 z hz)).trans (rfl)
          have hf18 : ∀ z, ((la z < la this ∨ la this < la z)) → c198_G88 z = (G 88) z := fun z hz => (q198_G88 z (tz198 z hz)).trans (hf3 z hz)
          clear hc198
          refine pw_jn (fun j214 => ∀ (t214_0 : Int32), pw (j214 t214_0) (RF_X4_nextToken la G P U V X O kd ln cnt this)) ?_ ?_
          · intro t214_0
            show pw _ _
            refine pw_vl (fun m214 em214 => ?_)
            have hf19 : ∀ z, ((la z < la this ∨ la this < la z)) → m214 z = (G 85) z := fr_up (e0 := (G 85)) (fun _ _ => rfl) em214 (show ¬ ((la this < la this ∨ la this < la this)) from by omega)
            exact Jj217 c198_G84 m214 c198_G87 c198_G88 hf16 hf19 hf17 hf18
          intro j214 Jj214
          refine pw_ite (fun _ => ?_) (fun _ => ?_)
          · skip
            exact Jj214 4
          · skip
            exact Jj214 1
    · skip
      refine pw_vl (fun m78 em78 => ?_)
      have hf20 : ∀ z, ((la z < la this ∨ la this < la z)) → m78 z = (G 85) z := fr_up (e0 := (G 85)) (fun _ _ => rfl) em78 (show ¬ ((la this < la this ∨ la this < la this)) from by omega)
      exact Jj217 c52_G84 m78 (G 87) m62 hf1 hf20 (fun _ _ => rfl) hf3
  intro k52 Jk52
  have lp0 : ∀ (n0 : Nat) (d0_G84 : Nat → Int32), (∀ z, ((la z < la this ∨ la this < la z)) → d0_G84 z = (G 84) z) → pw (L_X4_nextToken_0 G P V ln this k52 n0 d0_G84) (RF_X4_nextToken la G P U V X O kd ln cnt this) := by
    intro n0
    induction n0 with
    | zero => intros; exact pw_none
    | succ n0 ih0 =>
      intro d0_G84 hf21
      show pw (B_X4_nextToken_0 G P V ln this k52 (L_X4_nextToken_0 G P V ln this k52 n0) d0_G84) _
      unfold B_X4_nextToken_0
      refine pw_ite (fun _ => ?_) (fun _ => ?_)
      · skip
        exact Jk52 d0_G84 hf21
      · skip
        refine pw_nn (fun a12 hn_a12 => ?_)
        obtain ⟨_, lt_a12, lb_a12⟩ := (hB.1 82 fl_82) this a12 hn_a12
        refine pw_if (fun _ => ?_)
        refine pw_jn (fun j39 => pw (j39 ()) (RF_X4_nextToken la G P U V X O kd ln cnt this)) ?_ ?_
        · show pw _ _
          refine pw_vl (fun x46 _ => ?_)
          refine pw_vl (fun m46 em46 => ?_)
          have hf22 : ∀ z, ((la z < la this ∨ la this < la z)) → m46 z = (G 84) z := fr_up (e0 := (G 84)) hf21 em46 (show ¬ ((la this < la this ∨ la this < la this)) from by omega)
          exact ih0 m46 hf22
        intro j39 Jj39
        refine pw_ite (fun _ => ?_) (fun _ => ?_)
        · skip
          exact Jj39
        · skip
          refine pw_nn (fun a26 hn_a26 => ?_)
          obtain ⟨_, lt_a26, lb_a26⟩ := (hB.1 82 fl_82) this a26 hn_a26
          refine pw_if (fun _ => ?_)
          refine pw_ite (fun _ => ?_) (fun _ => ?_)
          · skip
            exact Jj39
          · skip
            exact Jk52 d0_G84 hf21
  exact lp0 NN (G 84) (fun _ _ => rfl)
abbrev RF_X4_blame (la : Nat → Nat) (G : Nat → Nat → Int32) (P : Nat → Nat → Option Nat) (U : Nat → Nat → Int64) (V : Nat → Nat → Nat → Int32) (X : Nat → Nat → Nat → Int64) (O : Nat → Nat → Nat → Option Nat) (kd : Nat → Nat) (ln : Nat → Nat) (cnt : Nat) (this : Nat) (p0 : Int32) : (Int32 × (Nat → Int32) × (Nat → Int32)) → Prop := fun t => (∀ z, ((la z < la this ∨ la this < la z)) → (t.2.1) z = (G 80) z) ∧ (∀ z, ((la z < la this ∨ la this < la z)) → (t.2.2) z = (G 81) z)
set_option maxHeartbeats 4000000 in
set_option maxRecDepth 100000 in
theorem fr_X4_blame (la : Nat → Nat) (G : Nat → Nat → Int32) (P : Nat → Nat → Option Nat) (U : Nat → Nat → Int64) (V : Nat → Nat → Nat → Int32) (X : Nat → Nat → Nat → Int64) (O : Nat → Nat → Nat → Option Nat) (kd : Nat → Nat) (ln : Nat → Nat) (cnt : Nat) (this : Nat) (p0 : Int32) (hB : LB la cnt P) : pw (f_X4_blame G P U V X O kd ln cnt this p0) (RF_X4_blame la G P U V X O kd ln cnt this p0) := by
  unfold f_X4_blame
  refine pw_vl (fun m2 em2 => ?_)
  have hf1 : ∀ z, ((la z < la this ∨ la this < la z)) → m2 z = (G 80) z := fr_up (e0 := (G 80)) (fun _ _ => rfl) em2 (show ¬ ((la this < la this ∨ la this < la this)) from by omega)
  refine pw_vl (fun x10 _ => ?_)
  refine pw_vl (fun m10 em10 => ?_)
  have hf2 : ∀ z, ((la z < la this ∨ la this < la z)) → m10 z = (G 81) z := fr_up (e0 := (G 81)) (fun _ _ => rfl) em10 (show ¬ ((la this < la this ∨ la this < la this)) from by omega)
  exact pw_some ⟨hf1, hf2⟩
abbrev RF_X4_hasRoom (la : Nat → Nat) (G : Nat → Nat → Int32) (P : Nat → Nat → Option Nat) (U : Nat → Nat → Int64) (V : Nat → Nat → Nat → Int32) (X : Nat → Nat → Nat → Int64) (O : Nat → Nat → Nat → Option Nat) (kd : Nat → Nat) (ln : Nat → Nat) (cnt : Nat) (this : Nat) (p0 : Int32) : (Int32 × (Nat → Int32) × (Nat → Int32)) → Prop := fun t => (∀ z, ((la z < la this ∨ la this < la z)) → (t.2.1) z = (G 80) z) ∧ (∀ z, ((la z < la this ∨ la this < la z)) → (t.2.2) z = (G 81) z)
set_option maxHeartbeats 4000000 in
set_option maxRecDepth 100000 in
theorem fr_X4_hasRoom (la : Nat → Nat) (G : Nat → Nat → Int32) (P : Nat → Nat → Option Nat) (U : Nat → Nat → Int64) (V : Nat → Nat → Nat → Int32) (X : Nat → Nat → Nat → Int64) (O : Nat → Nat → Nat → Option Nat) (kd : Nat → Nat) (ln : Nat → Nat) (cnt : Nat) (this : Nat) (p0 : Int32) (hB : LB la cnt P) : pw (f_X4_hasRoom G P U V X O kd ln cnt this p0) (RF_X4_hasRoom la G P U V X O kd ln cnt this p0) := by
  unfold f_X4_hasRoom
  refine pw_jn (fun j17 => ∀ (t17_0 : Int32) (c17_G80 : Nat → Int32) (c17_G81 : Nat → Int32), (∀ z, ((la z < la this ∨ la this < la z)) → c17_G80 z = (G 80) z) → (∀ z, ((la z < la this ∨ la this < la z)) → c17_G81 z = (G 81) z) → pw (j17 t17_0 c17_G80 c17_G81) (RF_X4_hasRoom la G P U V X O kd ln cnt this p0)) ?_ ?_
  · intro t17_0 c17_G80 c17_G81 hf1 hf2
    show pw _ _
    refine pw_if (fun _ => ?_)
    exact pw_some ⟨hf1, hf2⟩
  intro j17 Jj17
  refine pw_jn (fun j12 => ∀ (c12_G80 : Nat → Int32) (c12_G81 : Nat → Int32), (∀ z, ((la z < la this ∨ la this < la z)) → c12_G80 z = (G 80) z) → (∀ z, ((la z < la this ∨ la this < la z)) → c12_G81 z = (G 81) z) → pw (j12 c12_G80 c12_G81) (RF_X4_hasRoom la G P U V X O kd ln cnt this p0)) ?_ ?_
  · intro c12_G80 c12_G81 hf3 hf4
    show pw _ _
    exact Jj17 1 c12_G80 c12_G81 hf3 hf4
  intro j12 Jj12
  refine pw_ite (fun _ => ?_) (fun _ => ?_)
  · skip
    refine pw_b3 (fun r6 c6_G80 c6_G81 hc6 => ?_)
    have hq6 := fr_X4_blame la G P U V X O kd ln cnt this (4 : Int32) hB _ hc6
    obtain ⟨q6_G80, q6_G81⟩ : (∀ z, (la z < la this ∨ la this < la z) → c6_G80 z = (G 80) z) ∧ (∀ z, (la z < la this ∨ la this < la z) → c6_G81 z = (G 81) z) := hq6
    have tz6 : ∀ z, ((la z < la this ∨ la this < la z)) → ((la z < la this ∨ la this < la z)) := fun z hz => by omega
    have hf5 : ∀ z, ((la z < la this ∨ la this < la z)) → c6_G80 z = (G 80) z := fun z hz => (q6_G80 z (tz6 z hz)).trans (rfl)
    have hf6 : ∀ z, ((la z < la this ∨ la this < la z)) → c6_G81 z = (G 81) z := fun z hz => (q6_G81 z (tz6 z hz)).trans (rfl)
    clear hc6
    refine pw_ite (fun _ => ?_) (fun _ => ?_)
    · skip
      exact Jj17 0 c6_G80 c6_G81 hf5 hf6
    · skip
      exact Jj12 c6_G80 c6_G81 hf5 hf6
  · skip
    exact Jj12 (G 80) (G 81) (fun _ _ => rfl) (fun _ _ => rfl)
abbrev RF_X4_isNew (la : Nat → Nat) (G : Nat → Nat → Int32) (P : Nat → Nat → Option Nat) (U : Nat → Nat → Int64) (V : Nat → Nat → Nat → Int32) (X : Nat → Nat → Nat → Int64) (O : Nat → Nat → Nat → Option Nat) (kd : Nat → Nat) (ln : Nat → Nat) (cnt : Nat) (this : Nat) (p0 : Int32) : (Int32 × (Nat → Int32) × (Nat → Int32)) → Prop := fun t => (∀ z, ((la z < la this ∨ la this < la z)) → (t.2.1) z = (G 80) z) ∧ (∀ z, ((la z < la this ∨ la this < la z)) → (t.2.2) z = (G 81) z)
set_option maxHeartbeats 4000000 in
set_option maxRecDepth 100000 in
theorem fr_X4_isNew (la : Nat → Nat) (G : Nat → Nat → Int32) (P : Nat → Nat → Option Nat) (U : Nat → Nat → Int64) (V : Nat → Nat → Nat → Int32) (X : Nat → Nat → Nat → Int64) (O : Nat → Nat → Nat → Option Nat) (kd : Nat → Nat) (ln : Nat → Nat) (cnt : Nat) (this : Nat) (p0 : Int32) (hB : LB la cnt P) : pw (f_X4_isNew G P U V X O kd ln cnt this p0) (RF_X4_isNew la G P U V X O kd ln cnt this p0) := by
  unfold f_X4_isNew
  refine pw_jn (fun j17 => ∀ (t17_0 : Int32) (c17_G80 : Nat → Int32) (c17_G81 : Nat → Int32), (∀ z, ((la z < la this ∨ la this < la z)) → c17_G80 z = (G 80) z) → (∀ z, ((la z < la this ∨ la this < la z)) → c17_G81 z = (G 81) z) → pw (j17 t17_0 c17_G80 c17_G81) (RF_X4_isNew la G P U V X O kd ln cnt this p0)) ?_ ?_
  · intro t17_0 c17_G80 c17_G81 hf1 hf2
    show pw _ _
    refine pw_if (fun _ => ?_)
    exact pw_some ⟨hf1, hf2⟩
  intro j17 Jj17
  refine pw_jn (fun j12 => ∀ (c12_G80 : Nat → Int32) (c12_G81 : Nat → Int32), (∀ z, ((la z < la this ∨ la this < la z)) → c12_G80 z = (G 80) z) → (∀ z, ((la z < la this ∨ la this < la z)) → c12_G81 z = (G 81) z) → pw (j12 c12_G80 c12_G81) (RF_X4_isNew la G P U V X O kd ln cnt this p0)) ?_ ?_
  · intro c12_G80 c12_G81 hf3 hf4
    show pw _ _
    exact Jj17 1 c12_G80 c12_G81 hf3 hf4
  intro j12 Jj12
  refine pw_ite (fun _ => ?_) (fun _ => ?_)
  · skip
    refine pw_b3 (fun r6 c6_G80 c6_G81 hc6 => ?_)
    have hq6 := fr_X4_blame la G P U V X O kd ln cnt this (3 : Int32) hB _ hc6
    obtain ⟨q6_G80, q6_G81⟩ : (∀ z, (la z < la this ∨ la this < la z) → c6_G80 z = (G 80) z) ∧ (∀ z, (la z < la this ∨ la this < la z) → c6_G81 z = (G 81) z) := hq6
    have tz6 : ∀ z, ((la z < la this ∨ la this < la z)) → ((la z < la this ∨ la this < la z)) := fun z hz => by omega
    have hf5 : ∀ z, ((la z < la this ∨ la this < la z)) → c6_G80 z = (G 80) z := fun z hz => (q6_G80 z (tz6 z hz)).trans (rfl)
    have hf6 : ∀ z, ((la z < la this ∨ la this < la z)) → c6_G81 z = (G 81) z := fun z hz => (q6_G81 z (tz6 z hz)).trans (rfl)
    clear hc6
    refine pw_ite (fun _ => ?_) (fun _ => ?_)
    · skip
      exact Jj17 0 c6_G80 c6_G81 hf5 hf6
    · skip
      exact Jj12 c6_G80 c6_G81 hf5 hf6
  · skip
    exact Jj12 (G 80) (G 81) (fun _ _ => rfl) (fun _ _ => rfl)
abbrev RF_X4_takeLetters (la : Nat → Nat) (G : Nat → Nat → Int32) (P : Nat → Nat → Option Nat) (U : Nat → Nat → Int64) (V : Nat → Nat → Nat → Int32) (X : Nat → Nat → Nat → Int64) (O : Nat → Nat → Nat → Option Nat) (kd : Nat → Nat) (ln : Nat → Nat) (cnt : Nat) (this : Nat) (p0 : Int32) : (Int32 × (Nat → Int32) × (Nat → Int32) × (Nat → Int32) × (Nat → Int32) × (Nat → Int32) × (Nat → Int32) × (Nat → Int32)) → Prop := fun t => (∀ z, ((la z < la this ∨ la this < la z)) → (t.2.1) z = (G 80) z) ∧ (∀ z, ((la z < la this ∨ la this < la z)) → (t.2.2.1) z = (G 81) z) ∧ (∀ z, ((la z < la this ∨ la this < la z)) → (t.2.2.2.1) z = (G 84) z) ∧ (∀ z, ((la z < la this ∨ la this < la z)) → (t.2.2.2.2.1) z = (G 85) z) ∧ (∀ z, ((la z < la this ∨ la this < la z)) → (t.2.2.2.2.2.1) z = (G 86) z) ∧ (∀ z, ((la z < la this ∨ la this < la z)) → (t.2.2.2.2.2.2.1) z = (G 87) z) ∧ (∀ z, ((la z < la this ∨ la this < la z)) → (t.2.2.2.2.2.2.2) z = (G 88) z)
set_option maxHeartbeats 4000000 in
set_option maxRecDepth 100000 in
theorem fr_X4_takeLetters (la : Nat → Nat) (G : Nat → Nat → Int32) (P : Nat → Nat → Option Nat) (U : Nat → Nat → Int64) (V : Nat → Nat → Nat → Int32) (X : Nat → Nat → Nat → Int64) (O : Nat → Nat → Nat → Option Nat) (kd : Nat → Nat) (ln : Nat → Nat) (cnt : Nat) (this : Nat) (p0 : Int32) (hB : LB la cnt P) : pw (f_X4_takeLetters G P U V X O kd ln cnt this p0) (RF_X4_takeLetters la G P U V X O kd ln cnt this p0) := by
  unfold f_X4_takeLetters
  refine pw_b5 (fun c1_G84 c1_G85 c1_G86 c1_G87 c1_G88 hc1 => ?_)
  have hq1 := fr_X4_nextToken la G P U V X O kd ln cnt this hB _ hc1
  obtain ⟨q1_G84, q1_G85, q1_G86, q1_G87, q1_G88⟩ : (∀ z, (la z < la this ∨ la this < la z) → c1_G84 z = (G 84) z) ∧ (∀ z, (la z < la this ∨ la this < la z) → c1_G85 z = (G 85) z) ∧ (∀ z, (la z < la this ∨ la this < la z) → c1_G86 z = (G 86) z) ∧ (∀ z, (la z < la this ∨ la this < la z) → c1_G87 z = (G 87) z) ∧ (∀ z, (la z < la this ∨ la this < la z) → c1_G88 z = (G 88) z) := hq1
  have tz1 : ∀ z, ((la z < la this ∨ la this < la z)) → ((la z < la this ∨ la this < la z)) := fun z hz => by omega
  have hf1 : ∀ z, ((la z < la this ∨ la this < la z)) → c1_G84 z = (G 84) z := fun z hz => (q1_G84 z (tz1 z hz)).trans (rfl)
  have hf2 : ∀ z, ((la z < la this ∨ la this < la z)) → c1_G85 z = (G 85) z := fun z hz => (q1_G85 z (tz1 z hz)).trans (rfl)
  have hf3 : ∀ z, ((la z < la this ∨ la this < la z)) → c1_G86 z = (G 86) z := fun z hz => (q1_G86 z (tz1 z hz)).trans (rfl)
  have hf4 : ∀ z, ((la z < la this ∨ la this < la z)) → c1_G87 z = (G 87) z := fun z hz => (q1_G87 z (tz1 z hz)).trans (rfl)
  have hf5 : ∀ z, ((la z < la this ∨ la this < la z)) → c1_G88 z = (G 88) z := fun z hz => (q1_G88 z (tz1 z hz)).trans (rfl)
  clear hc1
  refine pw_ite (fun _ => ?_) (fun _ => ?_)
  · skip
    refine pw_jn (fun j42 => ∀ (t42_0 : Int32) (c42_G80 : Nat → Int32) (c42_G81 : Nat → Int32), (∀ z, ((la z < la this ∨ la this < la z)) → c42_G80 z = (G 80) z) → (∀ z, ((la z < la this ∨ la this < la z)) → c42_G81 z = (G 81) z) → pw (j42 t42_0 c42_G80 c42_G81) (RF_X4_takeLetters la G P U V X O kd ln cnt this p0)) ?_ ?_
    · intro t42_0 c42_G80 c42_G81 hf6 hf7
      show pw _ _
      refine pw_if (fun _ => ?_)
      exact pw_some ⟨hf6, hf7, hf1, hf2, hf3, hf4, hf5⟩
    intro j42 Jj42
    refine pw_jn (fun j37 => ∀ (c37_G80 : Nat → Int32) (c37_G81 : Nat → Int32), (∀ z, ((la z < la this ∨ la this < la z)) → c37_G80 z = (G 80) z) → (∀ z, ((la z < la this ∨ la this < la z)) → c37_G81 z = (G 81) z) → pw (j37 c37_G80 c37_G81) (RF_X4_takeLetters la G P U V X O kd ln cnt this p0)) ?_ ?_
    · intro c37_G80 c37_G81 hf8 hf9
      show pw _ _
      exact Jj42 1 c37_G80 c37_G81 hf8 hf9
    intro j37 Jj37
    refine pw_ite (fun _ => ?_) (fun _ => ?_)
    · skip
      exact Jj37 (G 80) (G 81) (fun _ _ => rfl) (fun _ _ => rfl)
    · skip
      refine pw_ite (fun _ => ?_) (fun _ => ?_)
      · skip
        refine pw_b3 (fun r31 c31_G80 c31_G81 hc31 => ?_)
        have hq31 := fr_X4_blame la (va_up (va_up (va_up (va_up (va_up G 84 c1_G84) 85 c1_G85) 86 c1_G86) 87 c1_G87) 88 c1_G88) P U V X O kd ln cnt this (2 : Int32) hB _ hc31
        obtain ⟨q31_G80, q31_G81⟩ : (∀ z, (la z < la this ∨ la this < la z) → c31_G80 z = (G 80) z) ∧ (∀ z, (la z < la this ∨ la this < la z) → c31_G81 z = (G 81) z) := hq31
        have tz31 : ∀ z, ((la z < la this ∨ la this < la z)) → ((la z < la this ∨ la this < la z)) := fun z hz => by omega
        have hf10 : ∀ z, ((la z < la this ∨ la this < la z)) → c31_G80 z = (G 80) z := fun z hz => (q31_G80 z (tz31 z hz)).trans (rfl)
        have hf11 : ∀ z, ((la z < la this ∨ la this < la z)) → c31_G81 z = (G 81) z := fun z hz => (q31_G81 z (tz31 z hz)).trans (rfl)
        clear hc31
        refine pw_ite (fun _ => ?_) (fun _ => ?_)
        · skip
          exact Jj42 0 c31_G80 c31_G81 hf10 hf11
        · skip
          exact Jj37 c31_G80 c31_G81 hf10 hf11
      · skip
        exact Jj37 (G 80) (G 81) (fun _ _ => rfl) (fun _ _ => rfl)
  · skip
    refine pw_b3 (fun r14 c14_G80 c14_G81 hc14 => ?_)
    have hq14 := fr_X4_blame la (va_up (va_up (va_up (va_up (va_up G 84 c1_G84) 85 c1_G85) 86 c1_G86) 87 c1_G87) 88 c1_G88) P U V X O kd ln cnt this (1 : Int32) hB _ hc14
    obtain ⟨q14_G80, q14_G81⟩ : (∀ z, (la z < la this ∨ la this < la z) → c14_G80 z = (G 80) z) ∧ (∀ z, (la z < la this ∨ la this < la z) → c14_G81 z = (G 81) z) := hq14
    have tz14 : ∀ z, ((la z < la this ∨ la this < la z)) → ((la z < la this ∨ la this < la z)) := fun z hz => by omega
    have hf12 : ∀ z, ((la z < la this ∨ la this < la z)) → c14_G80 z = (G 80) z := fun z hz => (q14_G80 z (tz14 z hz)).trans (rfl)
    have hf13 : ∀ z, ((la z < la this ∨ la this < la z)) → c14_G81 z = (G 81) z := fun z hz => (q14_G81 z (tz14 z hz)).trans (rfl)
    clear hc14
    refine pw_if (fun _ => ?_)
    exact pw_some ⟨hf12, hf13, hf1, hf2, hf3, hf4, hf5⟩
abbrev RF_X4_takeNew (la : Nat → Nat) (G : Nat → Nat → Int32) (P : Nat → Nat → Option Nat) (U : Nat → Nat → Int64) (V : Nat → Nat → Nat → Int32) (X : Nat → Nat → Nat → Int64) (O : Nat → Nat → Nat → Option Nat) (kd : Nat → Nat) (ln : Nat → Nat) (cnt : Nat) (this : Nat) (p0 : Nat) : (Int32 × (Nat → Int32) × (Nat → Int32) × (Nat → Int32) × (Nat → Int32) × (Nat → Int32) × (Nat → Int32) × (Nat → Int32)) → Prop := fun t => (∀ z, ((la z < la this ∨ la this < la z)) → (t.2.1) z = (G 80) z) ∧ (∀ z, ((la z < la this ∨ la this < la z)) → (t.2.2.1) z = (G 81) z) ∧ (∀ z, ((la z < la this ∨ la this < la z)) → (t.2.2.2.1) z = (G 84) z) ∧ (∀ z, ((la z < la this ∨ la this < la z)) → (t.2.2.2.2.1) z = (G 85) z) ∧ (∀ z, ((la z < la this ∨ la this < la z)) → (t.2.2.2.2.2.1) z = (G 86) z) ∧ (∀ z, ((la z < la this ∨ la this < la z)) → (t.2.2.2.2.2.2.1) z = (G 87) z) ∧ (∀ z, ((la z < la this ∨ la this < la z)) → (t.2.2.2.2.2.2.2) z = (G 88) z)
set_option maxHeartbeats 4000000 in
set_option maxRecDepth 100000 in
theorem fr_X4_takeNew (la : Nat → Nat) (G : Nat → Nat → Int32) (P : Nat → Nat → Option Nat) (U : Nat → Nat → Int64) (V : Nat → Nat → Nat → Int32) (X : Nat → Nat → Nat → Int64) (O : Nat → Nat → Nat → Option Nat) (kd : Nat → Nat) (ln : Nat → Nat) (cnt : Nat) (this : Nat) (p0 : Nat) (hB : LB la cnt P) : pw (f_X4_takeNew G P U V X O kd ln cnt this p0) (RF_X4_takeNew la G P U V X O kd ln cnt this p0) := by
  unfold f_X4_takeNew
  refine pw_b8 (fun r2 c2_G80 c2_G81 c2_G84 c2_G85 c2_G86 c2_G87 c2_G88 hc2 => ?_)
  have hq2 := fr_X4_takeLetters la G P U V X O kd ln cnt this (0 : Int32) hB _ hc2
  obtain ⟨q2_G80, q2_G81, q2_G84, q2_G85, q2_G86, q2_G87, q2_G88⟩ : (∀ z, (la z < la this ∨ la this < la z) → c2_G80 z = (G 80) z) ∧ (∀ z, (la z < la this ∨ la this < la z) → c2_G81 z = (G 81) z) ∧ (∀ z, (la z < la this ∨ la this < la z) → c2_G84 z = (G 84) z) ∧ (∀ z, (la z < la this ∨ la this < la z) → c2_G85 z = (G 85) z) ∧ (∀ z, (la z < la this ∨ la this < la z) → c2_G86 z = (G 86) z) ∧ (∀ z, (la z < la this ∨ la this < la z) → c2_G87 z = (G 87) z) ∧ (∀ z, (la z < la this ∨ la this < la z) → c2_G88 z = (G 88) z) := hq2
  have tz2 : ∀ z, ((la z < la this ∨ la this < la z)) → ((la z < la this ∨ la this < la z)) := fun z hz => by omega
  have hf1 : ∀ z, ((la z < la this ∨ la this < la z)) → c2_G80 z = (G 80) z := fun z hz => (q2_G80 z (tz2 z hz)).trans (rfl)
  have hf2 : ∀ z, ((la z < la this ∨ la this < la z)) → c2_G81 z = (G 81) z := fun z hz => (q2_G81 z (tz2 z hz)).trans (rfl)
  have hf3 : ∀ z, ((la z < la this ∨ la this < la z)) → c2_G84 z = (G 84) z := fun z hz => (q2_G84 z (tz2 z hz)).trans (rfl)
  have hf4 : ∀ z, ((la z < la this ∨ la this < la z)) → c2_G85 z = (G 85) z := fun z hz => (q2_G85 z (tz2 z hz)).trans (rfl)
  have hf5 : ∀ z, ((la z < la this ∨ la this < la z)) → c2_G86 z = (G 86) z := fun z hz => (q2_G86 z (tz2 z hz)).trans (rfl)
  have hf6 : ∀ z, ((la z < la this ∨ la this < la z)) → c2_G87 z = (G 87) z := fun z hz => (q2_G87 z (tz2 z hz)).trans (rfl)
  have hf7 : ∀ z, ((la z < la this ∨ la this < la z)) → c2_G88 z = (G 88) z := fun z hz => (q2_G88 z (tz2 z hz)).trans (rfl)
  clear hc2
  refine pw_ite (fun _ => ?_) (fun _ => ?_)
  · skip
    exact pw_some ⟨hf1, hf2, hf3, hf4, hf5, hf6, hf7⟩
  · skip
    refine pw_nn (fun a13 hn_a13 => ?_)
    obtain ⟨_, lt_a13, lb_a13⟩ := (hB.1 82 fl_82) this a13 hn_a13
    refine pw_b1 (fun r24 hc24 => ?_)
    clear hc24
    refine pw_jn (fun j36 => ∀ (t36_0 : Int32), pw (j36 t36_0) (RF_X4_takeNew la G P U V X O kd ln cnt this p0)) ?_ ?_
    · intro t36_0
      show pw _ _
      refine pw_b3 (fun r36 c36_G80 c36_G81 hc36 => ?_)
      have hq36 := fr_X4_isNew la (va_up (va_up (va_up (va_up (va_up (va_up (va_up G 80 c2_G80) 81 c2_G81) 84 c2_G84) 85 c2_G85) 86 c2_G86) 87 c2_G87) 88 c2_G88) P U V X O kd ln cnt this t36_0 hB _ hc36
      obtain ⟨q36_G80, q36_G81⟩ : (∀ z, (la z < la this ∨ la this < la z) → c36_G80 z = c2_G80 z) ∧ (∀ z, (la z < la this ∨ la this < la z) → c36_G81 z = c2_G81 z) := hq36
      have tz36 : ∀ z, ((la z < la this ∨ la this < la z)) → ((la z < la this ∨ la this < la z)) := fun z hz => by omega
      have hf8 : ∀ z, ((la z < la this ∨ la this < la z)) → c36_G80 z = (G 80) z := fun z hz => (q36_G80 z (tz36 z hz)).trans (hf1 z hz)
      have hf9 : ∀ z, ((la z < la this ∨ la this < la z)) → c36_G81 z = (G 81) z := fun z hz => (q36_G81 z (tz36 z hz)).trans (hf2 z hz)
      clear hc36
      refine pw_if (fun _ => ?_)
      exact pw_some ⟨hf8, hf9, hf3, hf4, hf5, hf6, hf7⟩
    intro j36 Jj36
    refine pw_ite (fun _ => ?_) (fun _ => ?_)
    · skip
      exact Jj36 1
    · skip
      exact Jj36 0
abbrev RF_X4_takeTo (la : Nat → Nat) (G : Nat → Nat → Int32) (P : Nat → Nat → Option Nat) (U : Nat → Nat → Int64) (V : Nat → Nat → Nat → Int32) (X : Nat → Nat → Nat → Int64) (O : Nat → Nat → Nat → Option Nat) (kd : Nat → Nat) (ln : Nat → Nat) (cnt : Nat) (this : Nat) : (Int32 × (Nat → Int32) × (Nat → Int32) × (Nat → Int32) × (Nat → Int32) × (Nat → Int32) × (Nat → Int32) × (Nat → Int32)) → Prop := fun t => (∀ z, ((la z < la this ∨ la this < la z)) → (t.2.1) z = (G 80) z) ∧ (∀ z, ((la z < la this ∨ la this < la z)) → (t.2.2.1) z = (G 81) z) ∧ (∀ z, ((la z < la this ∨ la this < la z)) → (t.2.2.2.1) z = (G 84) z) ∧ (∀ z, ((la z < la this ∨ la this < la z)) → (t.2.2.2.2.1) z = (G 85) z) ∧ (∀ z, ((la z < la this ∨ la this < la z)) → (t.2.2.2.2.2.1) z = (G 86) z) ∧ (∀ z, ((la z < la this ∨ la this < la z)) → (t.2.2.2.2.2.2.1) z = (G 87) z) ∧ (∀ z, ((la z < la this ∨ la this < la z)) → (t.2.2.2.2.2.2.2) z = (G 88) z)
set_option maxHeartbeats 4000000 in
set_option maxRecDepth 100000 in
theorem fr_X4_takeTo (la : Nat → Nat) (G : Nat → Nat → Int32) (P : Nat → Nat → Option Nat) (U : Nat → Nat → Int64) (V : Nat → Nat → Nat → Int32) (X : Nat → Nat → Nat → Int64) (O : Nat → Nat → Nat → Option Nat) (kd : Nat → Nat) (ln : Nat → Nat) (cnt : Nat) (this : Nat) (hB : LB la cnt P) : pw (f_X4_takeTo G P U V X O kd ln cnt this) (RF_X4_takeTo la G P U V X O kd ln cnt this) := by
  unfold f_X4_takeTo
  refine pw_b5 (fun c1_G84 c1_G85 c1_G86 c1_G87 c1_G88 hc1 => ?_)
  have hq1 := fr_X4_nextToken la G P U V X O kd ln cnt this hB _ hc1
  obtain ⟨q1_G84, q1_G85, q1_G86, q1_G87, q1_G88⟩ : (∀ z, (la z < la this ∨ la this < la z) → c1_G84 z = (G 84) z) ∧ (∀ z, (la z < la this ∨ la this < la z) → c1_G85 z = (G 85) z) ∧ (∀ z, (la z < la this ∨ la this < la z) → c1_G86 z = (G 86) z) ∧ (∀ z, (la z < la this ∨ la this < la z) → c1_G87 z = (G 87) z) ∧ (∀ z, (la z < la this ∨ la this < la z) → c1_G88 z = (G 88) z) := hq1
  have tz1 : ∀ z, ((la z < la this ∨ la this < la z)) → ((la z < la this ∨ la this < la z)) := fun z hz => by omega
  have hf1 : ∀ z, ((la z < la this ∨ la this < la z)) → c1_G84 z = (G 84) z := fun z hz => (q1_G84 z (tz1 z hz)).trans (rfl)
  have hf2 : ∀ z, ((la z < la this ∨ la this < la z)) → c1_G85 z = (G 85) z := fun z hz => (q1_G85 z (tz1 z hz)).trans (rfl)
  have hf3 : ∀ z, ((la z < la this ∨ la this < la z)) → c1_G86 z = (G 86) z := fun z hz => (q1_G86 z (tz1 z hz)).trans (rfl)
  have hf4 : ∀ z, ((la z < la this ∨ la this < la z)) → c1_G87 z = (G 87) z := fun z hz => (q1_G87 z (tz1 z hz)).trans (rfl)
  have hf5 : ∀ z, ((la z < la this ∨ la this < la z)) → c1_G88 z = (G 88) z := fun z hz => (q1_G88 z (tz1 z hz)).trans (rfl)
  clear hc1
  refine pw_b1 (fun r7 hc7 => ?_)
  clear hc7
  refine pw_jn (fun j26 => ∀ (t26_0 : Int32) (c26_G80 : Nat → Int32) (c26_G81 : Nat → Int32), (∀ z, ((la z < la this ∨ la this < la z)) → c26_G80 z = (G 80) z) → (∀ z, ((la z < la this ∨ la this < la z)) → c26_G81 z = (G 81) z) → pw (j26 t26_0 c26_G80 c26_G81) (RF_X4_takeTo la G P U V X O kd ln cnt this)) ?_ ?_
  · intro t26_0 c26_G80 c26_G81 hf6 hf7
    show pw _ _
    refine pw_if (fun _ => ?_)
    exact pw_some ⟨hf6, hf7, hf1, hf2, hf3, hf4, hf5⟩
  intro j26 Jj26
  refine pw_jn (fun j21 => ∀ (c21_G80 : Nat → Int32) (c21_G81 : Nat → Int32), (∀ z, ((la z < la this ∨ la this < la z)) → c21_G80 z = (G 80) z) → (∀ z, ((la z < la this ∨ la this < la z)) → c21_G81 z = (G 81) z) → pw (j21 c21_G80 c21_G81) (RF_X4_takeTo la G P U V X O kd ln cnt this)) ?_ ?_
  · intro c21_G80 c21_G81 hf8 hf9
    show pw _ _
    exact Jj26 1 c21_G80 c21_G81 hf8 hf9
  intro j21 Jj21
  refine pw_ite (fun _ => ?_) (fun _ => ?_)
  · skip
    refine pw_b3 (fun r15 c15_G80 c15_G81 hc15 => ?_)
    have hq15 := fr_X4_blame la (va_up (va_up (va_up (va_up (va_up G 84 c1_G84) 85 c1_G85) 86 c1_G86) 87 c1_G87) 88 c1_G88) P U V X O kd ln cnt this (1 : Int32) hB _ hc15
    obtain ⟨q15_G80, q15_G81⟩ : (∀ z, (la z < la this ∨ la this < la z) → c15_G80 z = (G 80) z) ∧ (∀ z, (la z < la this ∨ la this < la z) → c15_G81 z = (G 81) z) := hq15
    have tz15 : ∀ z, ((la z < la this ∨ la this < la z)) → ((la z < la this ∨ la this < la z)) := fun z hz => by omega
    have hf10 : ∀ z, ((la z < la this ∨ la this < la z)) → c15_G80 z = (G 80) z := fun z hz => (q15_G80 z (tz15 z hz)).trans (rfl)
    have hf11 : ∀ z, ((la z < la this ∨ la this < la z)) → c15_G81 z = (G 81) z := fun z hz => (q15_G81 z (tz15 z hz)).trans (rfl)
    clear hc15
    refine pw_ite (fun _ => ?_) (fun _ => ?_)
    · skip
      exact Jj26 0 c15_G80 c15_G81 hf10 hf11
    · skip
      exact Jj21 c15_G80 c15_G81 hf10 hf11
  · skip
    exact Jj21 (G 80) (G 81) (fun _ _ => rfl) (fun _ _ => rfl)
abbrev RF_X4_takeClose (la : Nat → Nat) (G : Nat → Nat → Int32) (P : Nat → Nat → Option Nat) (U : Nat → Nat → Int64) (V : Nat → Nat → Nat → Int32) (X : Nat → Nat → Nat → Int64) (O : Nat → Nat → Nat → Option Nat) (kd : Nat → Nat) (ln : Nat → Nat) (cnt : Nat) (this : Nat) : (Int32 × (Nat → Int32) × (Nat → Int32) × (Nat → Int32) × (Nat → Int32) × (Nat → Int32) × (Nat → Int32) × (Nat → Int32)) → Prop := fun t => (∀ z, ((la z < la this ∨ la this < la z)) → (t.2.1) z = (G 80) z) ∧ (∀ z, ((la z < la this ∨ la this < la z)) → (t.2.2.1) z = (G 81) z) ∧ (∀ z, ((la z < la this ∨ la this < la z)) → (t.2.2.2.1) z = (G 84) z) ∧ (∀ z, ((la z < la this ∨ la this < la z)) → (t.2.2.2.2.1) z = (G 85) z) ∧ (∀ z, ((la z < la this ∨ la this < la z)) → (t.2.2.2.2.2.1) z = (G 86) z) ∧ (∀ z, ((la z < la this ∨ la this < la z)) → (t.2.2.2.2.2.2.1) z = (G 87) z) ∧ (∀ z, ((la z < la this ∨ la this < la z)) → (t.2.2.2.2.2.2.2) z = (G 88) z)
set_option maxHeartbeats 4000000 in
set_option maxRecDepth 100000 in
theorem fr_X4_takeClose (la : Nat → Nat) (G : Nat → Nat → Int32) (P : Nat → Nat → Option Nat) (U : Nat → Nat → Int64) (V : Nat → Nat → Nat → Int32) (X : Nat → Nat → Nat → Int64) (O : Nat → Nat → Nat → Option Nat) (kd : Nat → Nat) (ln : Nat → Nat) (cnt : Nat) (this : Nat) (hB : LB la cnt P) : pw (f_X4_takeClose G P U V X O kd ln cnt this) (RF_X4_takeClose la G P U V X O kd ln cnt this) := by
  unfold f_X4_takeClose
  refine pw_b5 (fun c1_G84 c1_G85 c1_G86 c1_G87 c1_G88 hc1 => ?_)
  have hq1 := fr_X4_nextToken la G P U V X O kd ln cnt this hB _ hc1
  obtain ⟨q1_G84, q1_G85, q1_G86, q1_G87, q1_G88⟩ : (∀ z, (la z < la this ∨ la this < la z) → c1_G84 z = (G 84) z) ∧ (∀ z, (la z < la this ∨ la this < la z) → c1_G85 z = (G 85) z) ∧ (∀ z, (la z < la this ∨ la this < la z) → c1_G86 z = (G 86) z) ∧ (∀ z, (la z < la this ∨ la this < la z) → c1_G87 z = (G 87) z) ∧ (∀ z, (la z < la this ∨ la this < la z) → c1_G88 z = (G 88) z) := hq1
  have tz1 : ∀ z, ((la z < la this ∨ la this < la z)) → ((la z < la this ∨ la this < la z)) := fun z hz => by omega
  have hf1 : ∀ z, ((la z < la this ∨ la this < la z)) → c1_G84 z = (G 84) z := fun z hz => (q1_G84 z (tz1 z hz)).trans (rfl)
  have hf2 : ∀ z, ((la z < la this ∨ la this < la z)) → c1_G85 z = (G 85) z := fun z hz => (q1_G85 z (tz1 z hz)).trans (rfl)
  have hf3 : ∀ z, ((la z < la this ∨ la this < la z)) → c1_G86 z = (G 86) z := fun z hz => (q1_G86 z (tz1 z hz)).trans (rfl)
  have hf4 : ∀ z, ((la z < la this ∨ la this < la z)) → c1_G87 z = (G 87) z := fun z hz => (q1_G87 z (tz1 z hz)).trans (rfl)
  have hf5 : ∀ z, ((la z < la this ∨ la this < la z)) → c1_G88 z = (G 88) z := fun z hz => (q1_G88 z (tz1 z hz)).trans (rfl)
  clear hc1
  refine pw_jn (fun j25 => ∀ (t25_0 : Int32) (c25_G80 : Nat → Int32) (c25_G81 : Nat → Int32), (∀ z, ((la z < la this ∨ la this < la z)) → c25_G80 z = (G 80) z) → (∀ z, ((la z < la this ∨ la this < la z)) → c25_G81 z = (G 81) z) → pw (j25 t25_0 c25_G80 c25_G81) (RF_X4_takeClose la G P U V X O kd ln cnt this)) ?_ ?_
  · intro t25_0 c25_G80 c25_G81 hf6 hf7
    show pw _ _
    refine pw_if (fun _ => ?_)
    exact pw_some ⟨hf6, hf7, hf1, hf2, hf3, hf4, hf5⟩
  intro j25 Jj25
  refine pw_jn (fun j20 => ∀ (c20_G80 : Nat → Int32) (c20_G81 : Nat → Int32), (∀ z, ((la z < la this ∨ la this < la z)) → c20_G80 z = (G 80) z) → (∀ z, ((la z < la this ∨ la this < la z)) → c20_G81 z = (G 81) z) → pw (j20 c20_G80 c20_G81) (RF_X4_takeClose la G P U V X O kd ln cnt this)) ?_ ?_
  · intro c20_G80 c20_G81 hf8 hf9
    show pw _ _
    exact Jj25 1 c20_G80 c20_G81 hf8 hf9
  intro j20 Jj20
  refine pw_ite (fun _ => ?_) (fun _ => ?_)
  · skip
    exact Jj20 (G 80) (G 81) (fun _ _ => rfl) (fun _ _ => rfl)
  · skip
    refine pw_b3 (fun r14 c14_G80 c14_G81 hc14 => ?_)
    have hq14 := fr_X4_blame la (va_up (va_up (va_up (va_up (va_up G 84 c1_G84) 85 c1_G85) 86 c1_G86) 87 c1_G87) 88 c1_G88) P U V X O kd ln cnt this (1 : Int32) hB _ hc14
    obtain ⟨q14_G80, q14_G81⟩ : (∀ z, (la z < la this ∨ la this < la z) → c14_G80 z = (G 80) z) ∧ (∀ z, (la z < la this ∨ la this < la z) → c14_G81 z = (G 81) z) := hq14
    have tz14 : ∀ z, ((la z < la this ∨ la this < la z)) → ((la z < la this ∨ la this < la z)) := fun z hz => by omega
    have hf10 : ∀ z, ((la z < la this ∨ la this < la z)) → c14_G80 z = (G 80) z := fun z hz => (q14_G80 z (tz14 z hz)).trans (rfl)
    have hf11 : ∀ z, ((la z < la this ∨ la this < la z)) → c14_G81 z = (G 81) z := fun z hz => (q14_G81 z (tz14 z hz)).trans (rfl)
    clear hc14
    refine pw_ite (fun _ => ?_) (fun _ => ?_)
    · skip
      exact Jj25 0 c14_G80 c14_G81 hf10 hf11
    · skip
      exact Jj20 c14_G80 c14_G81 hf10 hf11
abbrev RF_X4_readKeep (la : Nat → Nat) (G : Nat → Nat → Int32) (P : Nat → Nat → Option Nat) (U : Nat → Nat → Int64) (V : Nat → Nat → Nat → Int32) (X : Nat → Nat → Nat → Int64) (O : Nat → Nat → Nat → Option Nat) (kd : Nat → Nat) (ln : Nat → Nat) (cnt : Nat) (this : Nat) (p0 : Nat) : ((Nat → Int32) × (Nat → Int32) × (Nat → Int32) × (Nat → Int32) × (Nat → Int32) × (Nat → Int32) × (Nat → Int32) × (Nat → Int32) × (Nat → Int32) × (Nat → Nat → Int32) × (Nat → Nat → Int32) × (Nat → Nat → Int32)) → Prop := fun t => (∀ z, ((la z < la this ∨ la this < la z) ∧ (la z < la p0 ∨ la p0 + 3 < la z) ∧ (la z < la p0 + 5 ∨ la p0 + 5 < la z)) → (t.1) z = (G 80) z) ∧ (∀ z, ((la z < la this ∨ la this < la z) ∧ (la z < la p0 ∨ la p0 + 3 < la z) ∧ (la z < la p0 + 5 ∨ la p0 + 5 < la z)) → (t.2.1) z = (G 81) z) ∧ (∀ z, ((la z < la this ∨ la this < la z) ∧ (la z < la p0 ∨ la p0 + 3 < la z) ∧ (la z < la p0 + 5 ∨ la p0 + 5 < la z)) → (t.2.2.1) z = (G 84) z) ∧ (∀ z, ((la z < la this ∨ la this < la z) ∧ (la z < la p0 ∨ la p0 + 3 < la z) ∧ (la z < la p0 + 5 ∨ la p0 + 5 < la z)) → (t.2.2.2.1) z = (G 85) z) ∧ (∀ z, ((la z < la this ∨ la this < la z) ∧ (la z < la p0 ∨ la p0 + 3 < la z) ∧ (la z < la p0 + 5 ∨ la p0 + 5 < la z)) → (t.2.2.2.2.1) z = (G 86) z) ∧ (∀ z, ((la z < la this ∨ la this < la z) ∧ (la z < la p0 ∨ la p0 + 3 < la z) ∧ (la z < la p0 + 5 ∨ la p0 + 5 < la z)) → (t.2.2.2.2.2.1) z = (G 87) z) ∧ (∀ z, ((la z < la this ∨ la this < la z) ∧ (la z < la p0 ∨ la p0 + 3 < la z) ∧ (la z < la p0 + 5 ∨ la p0 + 5 < la z)) → (t.2.2.2.2.2.2.1) z = (G 88) z) ∧ (∀ z, ((la z < la this ∨ la this < la z) ∧ (la z < la p0 ∨ la p0 + 3 < la z) ∧ (la z < la p0 + 5 ∨ la p0 + 5 < la z)) → (t.2.2.2.2.2.2.2.1) z = (G 107) z) ∧ (∀ z, ((la z < la this ∨ la this < la z) ∧ (la z < la p0 ∨ la p0 + 3 < la z) ∧ (la z < la p0 + 5 ∨ la p0 + 5 < la z)) → (t.2.2.2.2.2.2.2.2.1) z = (G 203) z) ∧ (∀ z, ((la z < la this ∨ la this < la z) ∧ (la z < la p0 ∨ la p0 + 3 < la z) ∧ (la z < la p0 + 5 ∨ la p0 + 5 < la z)) → (t.2.2.2.2.2.2.2.2.2.1) z = (V 0) z) ∧ (∀ z, ((la z < la this ∨ la this < la z) ∧ (la z < la p0 ∨ la p0 + 3 < la z) ∧ (la z < la p0 + 5 ∨ la p0 + 5 < la z)) → (t.2.2.2.2.2.2.2.2.2.2.1) z = (V 1) z) ∧ (∀ z, ((la z < la this ∨ la this < la z) ∧ (la z < la p0 ∨ la p0 + 3 < la z) ∧ (la z < la p0 + 5 ∨ la p0 + 5 < la z)) → (t.2.2.2.2.2.2.2.2.2.2.2) z = (V 10) z)
set_option maxHeartbeats 4000000 in
set_option maxRecDepth 100000 in
theorem fr_X4_readKeep (la : Nat → Nat) (G : Nat → Nat → Int32) (P : Nat → Nat → Option Nat) (U : Nat → Nat → Int64) (V : Nat → Nat → Nat → Int32) (X : Nat → Nat → Nat → Int64) (O : Nat → Nat → Nat → Option Nat) (kd : Nat → Nat) (ln : Nat → Nat) (cnt : Nat) (this : Nat) (p0 : Nat) (hB : LB la cnt P) : pw (f_X4_readKeep G P U V X O kd ln cnt this p0) (RF_X4_readKeep la G P U V X O kd ln cnt this p0) := by
  unfold f_X4_readKeep
  refine pw_nn (fun a2 hn_a2 => ?_)
  have lt_a2 := ((hB.1 104 fl_104) p0 a2 hn_a2).2.1
  have lb_a2 : la a2 = la p0 + 2 := lk_104.mp ((hB.1 104 fl_104) p0 a2 hn_a2).2.2
  refine pw_b1 (fun r5 hc5 => ?_)
  clear hc5
  refine pw_jn (fun j16 => ∀ (t16_0 : Int32), pw (j16 t16_0) (RF_X4_readKeep la G P U V X O kd ln cnt this p0)) ?_ ?_
  · intro t16_0
    show pw _ _
    refine pw_b3 (fun r16 c16_G80 c16_G81 hc16 => ?_)
    have hq16 := fr_X4_hasRoom la G P U V X O kd ln cnt this t16_0 hB _ hc16
    obtain ⟨q16_G80, q16_G81⟩ : (∀ z, (la z < la this ∨ la this < la z) → c16_G80 z = (G 80) z) ∧ (∀ z, (la z < la this ∨ la this < la z) → c16_G81 z = (G 81) z) := hq16
    have tz16 : ∀ z, ((la z < la this ∨ la this < la z) ∧ (la z < la p0 ∨ la p0 + 3 < la z) ∧ (la z < la p0 + 5 ∨ la p0 + 5 < la z)) → ((la z < la this ∨ la this < la z)) := fun z hz => by omega
    have hf1 : ∀ z, ((la z < la this ∨ la this < la z) ∧ (la z < la p0 ∨ la p0 + 3 < la z) ∧ (la z < la p0 + 5 ∨ la p0 + 5 < la z)) → c16_G80 z = (G 80) z := fun z hz => (q16_G80 z (tz16 z hz)).trans (rfl)
    have hf2 : ∀ z, ((la z < la this ∨ la this < la z) ∧ (la z < la p0 ∨ la p0 + 3 < la z) ∧ (la z < la p0 + 5 ∨ la p0 + 5 < la z)) → c16_G81 z = (G 81) z := fun z hz => (q16_G81 z (tz16 z hz)).trans (rfl)
    clear hc16
    refine pw_jn (fun j54 => ∀ (c54_G80 : Nat → Int32) (c54_G81 : Nat → Int32) (c54_G84 : Nat → Int32) (c54_G85 : Nat → Int32) (c54_G86 : Nat → Int32) (c54_G87 : Nat → Int32) (c54_G88 : Nat → Int32) (c54_G107 : Nat → Int32) (c54_G203 : Nat → Int32) (c54_V0 : Nat → Nat → Int32) (c54_V1 : Nat → Nat → Int32) (c54_V10 : Nat → Nat → Int32), (∀ z, ((la z < la this ∨ la this < la z) ∧ (la z < la p0 ∨ la p0 + 3 < la z) ∧ (la z < la p0 + 5 ∨ la p0 + 5 < la z)) → c54_G80 z = (G 80) z) → (∀ z, ((la z < la this ∨ la this < la z) ∧ (la z < la p0 ∨ la p0 + 3 < la z) ∧ (la z < la p0 + 5 ∨ la p0 + 5 < la z)) → c54_G81 z = (G 81) z) → (∀ z, ((la z < la this ∨ la this < la z) ∧ (la z < la p0 ∨ la p0 + 3 < la z) ∧ (la z < la p0 + 5 ∨ la p0 + 5 < la z)) → c54_G84 z = (G 84) z) → (∀ z, ((la z < la this ∨ la this < la z) ∧ (la z < la p0 ∨ la p0 + 3 < la z) ∧ (la z < la p0 + 5 ∨ la p0 + 5 < la z)) → c54_G85 z = (G 85) z) → (∀ z, ((la z < la this ∨ la this < la z) ∧ (la z < la p0 ∨ la p0 + 3 < la z) ∧ (la z < la p0 + 5 ∨ la p0 + 5 < la z)) → c54_G86 z = (G 86) z) → (∀ z, ((la z < la this ∨ la this < la z) ∧ (la z < la p0 ∨ la p0 + 3 < la z) ∧ (la z < la p0 + 5 ∨ la p0 + 5 < la z)) → c54_G87 z = (G 87) z) → (∀ z, ((la z < la this ∨ la this < la z) ∧ (la z < la p0 ∨ la p0 + 3 < la z) ∧ (la z < la p0 + 5 ∨ la p0 + 5 < la z)) → c54_G88 z = (G 88) z) → (∀ z, ((la z < la this ∨ la this < la z) ∧ (la z < la p0 ∨ la p0 + 3 < la z) ∧ (la z < la p0 + 5 ∨ la p0 + 5 < la z)) → c54_G107 z = (G 107) z) → (∀ z, ((la z < la this ∨ la this < la z) ∧ (la z < la p0 ∨ la p0 + 3 < la z) ∧ (la z < la p0 + 5 ∨ la p0 + 5 < la z)) → c54_G203 z = (G 203) z) → (∀ z, ((la z < la this ∨ la this < la z) ∧ (la z < la p0 ∨ la p0 + 3 < la z) ∧ (la z < la p0 + 5 ∨ la p0 + 5 < la z)) → c54_V0 z = (V 0) z) → (∀ z, ((la z < la this ∨ la this < la z) ∧ (la z < la p0 ∨ la p0 + 3 < la z) ∧ (la z < la p0 + 5 ∨ la p0 + 5 < la z)) → c54_V1 z = (V 1) z) → (∀ z, ((la z < la this ∨ la this < la z) ∧ (la z < la p0 ∨ la p0 + 3 < la z) ∧ (la z < la p0 + 5 ∨ la p0 + 5 < la z)) → c54_V10 z = (V 10) z) → pw (j54 c54_G80 c54_G81 c54_G84 c54_G85 c54_G86 c54_G87 c54_G88 c54_G107 c54_G203 c54_V0 c54_V1 c54_V10) (RF_X4_readKeep la G P U V X O kd ln cnt this p0)) ?_ ?_
    · intro c54_G80 c54_G81 c54_G84 c54_G85 c54_G86 c54_G87 c54_G88 c54_G107 c54_G203 c54_V0 c54_V1 c54_V10 hf3 hf4 hf5 hf6 hf7 hf8 hf9 hf10 hf11 hf12 hf13 hf14
      show pw _ _
      exact pw_some ⟨hf3, hf4, hf5, hf6, hf7, hf8, hf9, hf10, hf11, hf12, hf13, hf14⟩
    intro j54 Jj54
    refine pw_ite (fun _ => ?_) (fun _ => ?_)
    · skip
      exact Jj54 c16_G80 c16_G81 (G 84) (G 85) (G 86) (G 87) (G 88) (G 107) (G 203) (V 0) (V 1) (V 10) hf1 hf2 (fun _ _ => rfl) (fun _ _ => rfl) (fun _ _ => rfl) (fun _ _ => rfl) (fun _ _ => rfl) (fun _ _ => rfl) (fun _ _ => rfl) (fun _ _ => rfl) (fun _ _ => rfl) (fun _ _ => rfl)
    · skip
      refine pw_nn (fun a24 hn_a24 => ?_)
      have lt_a24 := ((hB.1 104 fl_104) p0 a24 hn_a24).2.1
      have lb_a24 : la a24 = la p0 + 2 := lk_104.mp ((hB.1 104 fl_104) p0 a24 hn_a24).2.2
      refine pw_b8 (fun r27 c27_G80 c27_G81 c27_G84 c27_G85 c27_G86 c27_G87 c27_G88 hc27 => ?_)
      have hq27 := fr_X4_takeNew la (va_up (va_up G 80 c16_G80) 81 c16_G81) P U V X O kd ln cnt this a24 hB _ hc27
      obtain ⟨q27_G80, q27_G81, q27_G84, q27_G85, q27_G86, q27_G87, q27_G88⟩ : (∀ z, (la z < la this ∨ la this < la z) → c27_G80 z = c16_G80 z) ∧ (∀ z, (la z < la this ∨ la this < la z) → c27_G81 z = c16_G81 z) ∧ (∀ z, (la z < la this ∨ la this < la z) → c27_G84 z = (G 84) z) ∧ (∀ z, (la z < la this ∨ la this < la z) → c27_G85 z = (G 85) z) ∧ (∀ z, (la z < la this ∨ la this < la z) → c27_G86 z = (G 86) z) ∧ (∀ z, (la z < la this ∨ la this < la z) → c27_G87 z = (G 87) z) ∧ (∀ z, (la z < la this ∨ la this < la z) → c27_G88 z = (G 88) z) := hq27
      have tz27 : ∀ z, ((la z < la this ∨ la this < la z) ∧ (la z < la p0 ∨ la p0 + 3 < la z) ∧ (la z < la p0 + 5 ∨ la p0 + 5 < la z)) → ((la z < la this ∨ la this < la z)) := fun z hz => by omega
      have hf15 : ∀ z, ((la z < la this ∨ la this < la z) ∧ (la z < la p0 ∨ la p0 + 3 < la z) ∧ (la z < la p0 + 5 ∨ la p0 + 5 < la z)) → c27_G80 z = (G 80) z := fun z hz => (q27_G80 z (tz27 z hz)).trans (hf1 z hz)
      have hf16 : ∀ z, ((la z < la this ∨ la this < la z) ∧ (la z < la p0 ∨ la p0 + 3 < la z) ∧ (la z < la p0 + 5 ∨ la p0 + 5 < la z)) → c27_G81 z = (G 81) z := fun z hz => (q27_G81 z (tz27 z hz)).trans (hf2 z hz)
      have hf17 : ∀ z, ((la z < la this ∨ la this < la z) ∧ (la z < la p0 ∨ la p0 + 3 < la z) ∧ (la z < la p0 + 5 ∨ la p0 + 5 < la z)) → c27_G84 z = (G 84) z := fun z hz => (q27_G84 z (tz27 z hz)).trans (rfl)
      have hf18 : ∀ z, ((la z < la this ∨ la this < la z) ∧ (la z < la p0 ∨ la p0 + 3 < la z) ∧ (la z < la p0 + 5 ∨ la p0 + 5 < la z)) → c27_G85 z = (G 85) z := fun z hz => (q27_G85 z (tz27 z hz)).trans (rfl)
      have hf19 : ∀ z, ((la z < la this ∨ la this < la z) ∧ (la z < la p0 ∨ la p0 + 3 < la z) ∧ (la z < la p0 + 5 ∨ la p0 + 5 < la z)) → c27_G86 z = (G 86) z := fun z hz => (q27_G86 z (tz27 z hz)).trans (rfl)
      have hf20 : ∀ z, ((la z < la this ∨ la this < la z) ∧ (la z < la p0 ∨ la p0 + 3 < la z) ∧ (la z < la p0 + 5 ∨ la p0 + 5 < la z)) → c27_G87 z = (G 87) z := fun z hz => (q27_G87 z (tz27 z hz)).trans (rfl)
      have hf21 : ∀ z, ((la z < la this ∨ la this < la z) ∧ (la z < la p0 ∨ la p0 + 3 < la z) ∧ (la z < la p0 + 5 ∨ la p0 + 5 < la z)) → c27_G88 z = (G 88) z := fun z hz => (q27_G88 z (tz27 z hz)).trans (rfl)
      clear hc27
      refine pw_ite (fun _ => ?_) (fun _ => ?_)
      · skip
        exact Jj54 c27_G80 c27_G81 c27_G84 c27_G85 c27_G86 c27_G87 c27_G88 (G 107) (G 203) (V 0) (V 1) (V 10) hf15 hf16 hf17 hf18 hf19 hf20 hf21 (fun _ _ => rfl) (fun _ _ => rfl) (fun _ _ => rfl) (fun _ _ => rfl) (fun _ _ => rfl)
      · skip
        refine pw_nn (fun a35 hn_a35 => ?_)
        obtain ⟨_, lt_a35, lb_a35⟩ := (hB.1 82 fl_82) this a35 hn_a35
        refine pw_b5 (fun c46_G107 c46_G203 c46_V0 c46_V1 c46_V10 hc46 => ?_)
        have hq46 := fr_X5_addKept la (va_up (va_up (va_up (va_up (va_up (va_up (va_up (va_up (va_up G 80 c16_G80) 81 c16_G81) 80 c27_G80) 81 c27_G81) 84 c27_G84) 85 c27_G85) 86 c27_G86) 87 c27_G87) 88 c27_G88) P U V X O kd ln cnt p0 a35 (c27_G87 this) (c27_G88 this) hB _ hc46
        obtain ⟨q46_G107, q46_G203, q46_V0, q46_V1, q46_V10⟩ : (∀ z, (la z < la p0 ∨ la p0 + 3 < la z) ∧ (la z < la p0 + 5 ∨ la p0 + 5 < la z) → c46_G107 z = (G 107) z) ∧ (∀ z, (la z < la p0 ∨ la p0 + 3 < la z) ∧ (la z < la p0 + 5 ∨ la p0 + 5 < la z) → c46_G203 z = (G 203) z) ∧ (∀ z, (la z < la p0 ∨ la p0 + 3 < la z) ∧ (la z < la p0 + 5 ∨ la p0 + 5 < la z) → c46_V0 z = (V 0) z) ∧ (∀ z, (la z < la p0 ∨ la p0 + 3 < la z) ∧ (la z < la p0 + 5 ∨ la p0 + 5 < la z) → c46_V1 z = (V 1) z) ∧ (∀ z, (la z < la p0 ∨ la p0 + 3 < la z) ∧ (la z < la p0 + 5 ∨ la p0 + 5 < la z) → c46_V10 z = (V 10) z) := hq46
        have tz46 : ∀ z, ((la z < la this ∨ la this < la z) ∧ (la z < la p0 ∨ la p0 + 3 < la z) ∧ (la z < la p0 + 5 ∨ la p0 + 5 < la z)) → ((la z < la p0 ∨ la p0 + 3 < la z) ∧ (la z < la p0 + 5 ∨ la p0 + 5 < la z)) := fun z hz => by omega
        have hf22 : ∀ z, ((la z < la this ∨ la this < la z) ∧ (la z < la p0 ∨ la p0 + 3 < la z) ∧ (la z < la p0 + 5 ∨ la p0 + 5 < la z)) → c46_G107 z = (G 107) z := fun z hz => (q46_G107 z (tz46 z hz)).trans (rfl)
        have hf23 : ∀ z, ((la z < la this ∨ la this < la z) ∧ (la z < la p0 ∨ la p0 + 3 < la z) ∧ (la z < la p0 + 5 ∨ la p0 + 5 < la z)) → c46_G203 z = (G 203) z := fun z hz => (q46_G203 z (tz46 z hz)).trans (rfl)
        have hf24 : ∀ z, ((la z < la this ∨ la this < la z) ∧ (la z < la p0 ∨ la p0 + 3 < la z) ∧ (la z < la p0 + 5 ∨ la p0 + 5 < la z)) → c46_V0 z = (V 0) z := fun z hz => (q46_V0 z (tz46 z hz)).trans (rfl)
        have hf25 : ∀ z, ((la z < la this ∨ la this < la z) ∧ (la z < la p0 ∨ la p0 + 3 < la z) ∧ (la z < la p0 + 5 ∨ la p0 + 5 < la z)) → c46_V1 z = (V 1) z := fun z hz => (q46_V1 z (tz46 z hz)).trans (rfl)
        have hf26 : ∀ z, ((la z < la this ∨ la this < la z) ∧ (la z < la p0 ∨ la p0 + 3 < la z) ∧ (la z < la p0 + 5 ∨ la p0 + 5 < la z)) → c46_V10 z = (V 10) z := fun z hz => (q46_V10 z (tz46 z hz)).trans (rfl)
        clear hc46
        refine pw_b8 (fun r50 c50_G80 c50_G81 c50_G84 c50_G85 c50_G86 c50_G87 c50_G88 hc50 => ?_)
        have hq50 := fr_X4_takeClose la (va_up (va_up (va_up (va_up (va_up (va_up (va_up (va_up (va_up (va_up (va_up G 80 c16_G80) 81 c16_G81) 80 c27_G80) 81 c27_G81) 84 c27_G84) 85 c27_G85) 86 c27_G86) 87 c27_G87) 88 c27_G88) 107 c46_G107) 203 c46_G203) P U (va_up (va_up (va_up V 0 c46_V0) 1 c46_V1) 10 c46_V10) X O kd ln cnt this hB _ hc50
        obtain ⟨q50_G80, q50_G81, q50_G84, q50_G85, q50_G86, q50_G87, q50_G88⟩ : (∀ z, (la z < la this ∨ la this < la z) → c50_G80 z = c27_G80 z) ∧ (∀ z, (la z < la this ∨ la this < la z) → c50_G81 z = c27_G81 z) ∧ (∀ z, (la z < la this ∨ la this < la z) → c50_G84 z = c27_G84 z) ∧ (∀ z, (la z < la this ∨ la this < la z) → c50_G85 z = c27_G85 z) ∧ (∀ z, (la z < la this ∨ la this < la z) → c50_G86 z = c27_G86 z) ∧ (∀ z, (la z < la this ∨ la this < la z) → c50_G87 z = c27_G87 z) ∧ (∀ z, (la z < la this ∨ la this < la z) → c50_G88 z = c27_G88 z) := hq50
        have tz50 : ∀ z, ((la z < la this ∨ la this < la z) ∧ (la z < la p0 ∨ la p0 + 3 < la z) ∧ (la z < la p0 + 5 ∨ la p0 + 5 < la z)) → ((la z < la this ∨ la this < la z)) := fun z hz => by omega
        have hf27 : ∀ z, ((la z < la this ∨ la this < la z) ∧ (la z < la p0 ∨ la p0 + 3 < la z) ∧ (la z < la p0 + 5 ∨ la p0 + 5 < la z)) → c50_G80 z = (G 80) z := fun z hz => (q50_G80 z (tz50 z hz)).trans (hf15 z hz)
        have hf28 : ∀ z, ((la z < la this ∨ la this < la z) ∧ (la z < la p0 ∨ la p0 + 3 < la z) ∧ (la z < la p0 + 5 ∨ la p0 + 5 < la z)) → c50_G81 z = (G 81) z := fun z hz => (q50_G81 z (tz50 z hz)).trans (hf16 z hz)
        have hf29 : ∀ z, ((la z < la this ∨ la this < la z) ∧ (la z < la p0 ∨ la p0 + 3 < la z) ∧ (la z < la p0 + 5 ∨ la p0 + 5 < la z)) → c50_G84 z = (G 84) z := fun z hz => (q50_G84 z (tz50 z hz)).trans (hf17 z hz)
        have hf30 : ∀ z, ((la z < la this ∨ la this < la z) ∧ (la z < la p0 ∨ la p0 + 3 < la z) ∧ (la z < la p0 + 5 ∨ la p0 + 5 < la z)) → c50_G85 z = (G 85) z := fun z hz => (q50_G85 z (tz50 z hz)).trans (hf18 z hz)
        have hf31 : ∀ z, ((la z < la this ∨ la this < la z) ∧ (la z < la p0 ∨ la p0 + 3 < la z) ∧ (la z < la p0 + 5 ∨ la p0 + 5 < la z)) → c50_G86 z = (G 86) z := fun z hz => (q50_G86 z (tz50 z hz)).trans (hf19 z hz)
        have hf32 : ∀ z, ((la z < la this ∨ la this < la z) ∧ (la z < la p0 ∨ la p0 + 3 < la z) ∧ (la z < la p0 + 5 ∨ la p0 + 5 < la z)) → c50_G87 z = (G 87) z := fun z hz => (q50_G87 z (tz50 z hz)).trans (hf20 z hz)
        have hf33 : ∀ z, ((la z < la this ∨ la this < la z) ∧ (la z < la p0 ∨ la p0 + 3 < la z) ∧ (la z < la p0 + 5 ∨ la p0 + 5 < la z)) → c50_G88 z = (G 88) z := fun z hz => (q50_G88 z (tz50 z hz)).trans (hf21 z hz)
        clear hc50
        exact Jj54 c50_G80 c50_G81 c50_G84 c50_G85 c50_G86 c50_G87 c50_G88 c46_G107 c46_G203 c46_V0 c46_V1 c46_V10 hf27 hf28 hf29 hf30 hf31 hf32 hf33 hf22 hf23 hf24 hf25 hf26
  intro j16 Jj16
  refine pw_ite (fun _ => ?_) (fun _ => ?_)
  · skip
    exact Jj16 1
  · skip
    exact Jj16 0
abbrev RF_X4_readPart (la : Nat → Nat) (G : Nat → Nat → Int32) (P : Nat → Nat → Option Nat) (U : Nat → Nat → Int64) (V : Nat → Nat → Nat → Int32) (X : Nat → Nat → Nat → Int64) (O : Nat → Nat → Nat → Option Nat) (kd : Nat → Nat) (ln : Nat → Nat) (cnt : Nat) (this : Nat) (p0 : Nat) : ((Nat → Int32) × (Nat → Int32) × (Nat → Int32) × (Nat → Int32) × (Nat → Int32) × (Nat → Int32) × (Nat → Int32) × (Nat → Int32) × (Nat → Nat → Int32) × (Nat → Nat → Int32)) → Prop := fun t => (∀ z, ((la z < la this ∨ la this < la z) ∧ (la z < la p0 ∨ la p0 + 3 < la z) ∧ (la z < la p0 + 5 ∨ la p0 + 5 < la z)) → (t.1) z = (G 80) z) ∧ (∀ z, ((la z < la this ∨ la this < la z) ∧ (la z < la p0 ∨ la p0 + 3 < la z) ∧ (la z < la p0 + 5 ∨ la p0 + 5 < la z)) → (t.2.1) z = (G 81) z) ∧ (∀ z, ((la z < la this ∨ la this < la z) ∧ (la z < la p0 ∨ la p0 + 3 < la z) ∧ (la z < la p0 + 5 ∨ la p0 + 5 < la z)) → (t.2.2.1) z = (G 84) z) ∧ (∀ z, ((la z < la this ∨ la this < la z) ∧ (la z < la p0 ∨ la p0 + 3 < la z) ∧ (la z < la p0 + 5 ∨ la p0 + 5 < la z)) → (t.2.2.2.1) z = (G 85) z) ∧ (∀ z, ((la z < la this ∨ la this < la z) ∧ (la z < la p0 ∨ la p0 + 3 < la z) ∧ (la z < la p0 + 5 ∨ la p0 + 5 < la z)) → (t.2.2.2.2.1) z = (G 86) z) ∧ (∀ z, ((la z < la this ∨ la this < la z) ∧ (la z < la p0 ∨ la p0 + 3 < la z) ∧ (la z < la p0 + 5 ∨ la p0 + 5 < la z)) → (t.2.2.2.2.2.1) z = (G 87) z) ∧ (∀ z, ((la z < la this ∨ la this < la z) ∧ (la z < la p0 ∨ la p0 + 3 < la z) ∧ (la z < la p0 + 5 ∨ la p0 + 5 < la z)) → (t.2.2.2.2.2.2.1) z = (G 88) z) ∧ (∀ z, ((la z < la this ∨ la this < la z) ∧ (la z < la p0 ∨ la p0 + 3 < la z) ∧ (la z < la p0 + 5 ∨ la p0 + 5 < la z)) → (t.2.2.2.2.2.2.2.1) z = (G 203) z) ∧ (∀ z, ((la z < la this ∨ la this < la z) ∧ (la z < la p0 ∨ la p0 + 3 < la z) ∧ (la z < la p0 + 5 ∨ la p0 + 5 < la z)) → (t.2.2.2.2.2.2.2.2.1) z = (V 0) z) ∧ (∀ z, ((la z < la this ∨ la this < la z) ∧ (la z < la p0 ∨ la p0 + 3 < la z) ∧ (la z < la p0 + 5 ∨ la p0 + 5 < la z)) → (t.2.2.2.2.2.2.2.2.2) z = (V 1) z)
set_option maxHeartbeats 4000000 in
set_option maxRecDepth 100000 in
theorem fr_X4_readPart (la : Nat → Nat) (G : Nat → Nat → Int32) (P : Nat → Nat → Option Nat) (U : Nat → Nat → Int64) (V : Nat → Nat → Nat → Int32) (X : Nat → Nat → Nat → Int64) (O : Nat → Nat → Nat → Option Nat) (kd : Nat → Nat) (ln : Nat → Nat) (cnt : Nat) (this : Nat) (p0 : Nat) (hB : LB la cnt P) : pw (f_X4_readPart G P U V X O kd ln cnt this p0) (RF_X4_readPart la G P U V X O kd ln cnt this p0) := by
  unfold f_X4_readPart
  refine pw_nn (fun a2 hn_a2 => ?_)
  have lt_a2 := ((hB.1 103 fl_103) p0 a2 hn_a2).2.1
  have lb_a2 : la a2 = la p0 + 1 := lk_103.mp ((hB.1 103 fl_103) p0 a2 hn_a2).2.2
  refine pw_b1 (fun r5 hc5 => ?_)
  clear hc5
  refine pw_jn (fun j16 => ∀ (t16_0 : Int32), pw (j16 t16_0) (RF_X4_readPart la G P U V X O kd ln cnt this p0)) ?_ ?_
  · intro t16_0
    show pw _ _
    refine pw_b3 (fun r16 c16_G80 c16_G81 hc16 => ?_)
    have hq16 := fr_X4_hasRoom la G P U V X O kd ln cnt this t16_0 hB _ hc16
    obtain ⟨q16_G80, q16_G81⟩ : (∀ z, (la z < la this ∨ la this < la z) → c16_G80 z = (G 80) z) ∧ (∀ z, (la z < la this ∨ la this < la z) → c16_G81 z = (G 81) z) := hq16
    have tz16 : ∀ z, ((la z < la this ∨ la this < la z) ∧ (la z < la p0 ∨ la p0 + 3 < la z) ∧ (la z < la p0 + 5 ∨ la p0 + 5 < la z)) → ((la z < la this ∨ la this < la z)) := fun z hz => by omega
    have hf1 : ∀ z, ((la z < la this ∨ la this < la z) ∧ (la z < la p0 ∨ la p0 + 3 < la z) ∧ (la z < la p0 + 5 ∨ la p0 + 5 < la z)) → c16_G80 z = (G 80) z := fun z hz => (q16_G80 z (tz16 z hz)).trans (rfl)
    have hf2 : ∀ z, ((la z < la this ∨ la this < la z) ∧ (la z < la p0 ∨ la p0 + 3 < la z) ∧ (la z < la p0 + 5 ∨ la p0 + 5 < la z)) → c16_G81 z = (G 81) z := fun z hz => (q16_G81 z (tz16 z hz)).trans (rfl)
    clear hc16
    refine pw_jn (fun j57 => ∀ (c57_G80 : Nat → Int32) (c57_G81 : Nat → Int32) (c57_G84 : Nat → Int32) (c57_G85 : Nat → Int32) (c57_G86 : Nat → Int32) (c57_G87 : Nat → Int32) (c57_G88 : Nat → Int32) (c57_G203 : Nat → Int32) (c57_V0 : Nat → Nat → Int32) (c57_V1 : Nat → Nat → Int32), (∀ z, ((la z < la this ∨ la this < la z) ∧ (la z < la p0 ∨ la p0 + 3 < la z) ∧ (la z < la p0 + 5 ∨ la p0 + 5 < la z)) → c57_G80 z = (G 80) z) → (∀ z, ((la z < la this ∨ la this < la z) ∧ (la z < la p0 ∨ la p0 + 3 < la z) ∧ (la z < la p0 + 5 ∨ la p0 + 5 < la z)) → c57_G81 z = (G 81) z) → (∀ z, ((la z < la this ∨ la this < la z) ∧ (la z < la p0 ∨ la p0 + 3 < la z) ∧ (la z < la p0 + 5 ∨ la p0 + 5 < la z)) → c57_G84 z = (G 84) z) → (∀ z, ((la z < la this ∨ la this < la z) ∧ (la z < la p0 ∨ la p0 + 3 < la z) ∧ (la z < la p0 + 5 ∨ la p0 + 5 < la z)) → c57_G85 z = (G 85) z) → (∀ z, ((la z < la this ∨ la this < la z) ∧ (la z < la p0 ∨ la p0 + 3 < la z) ∧ (la z < la p0 + 5 ∨ la p0 + 5 < la z)) → c57_G86 z = (G 86) z) → (∀ z, ((la z < la this ∨ la this < la z) ∧ (la z < la p0 ∨ la p0 + 3 < la z) ∧ (la z < la p0 + 5 ∨ la p0 + 5 < la z)) → c57_G87 z = (G 87) z) → (∀ z, ((la z < la this ∨ la this < la z) ∧ (la z < la p0 ∨ la p0 + 3 < la z) ∧ (la z < la p0 + 5 ∨ la p0 + 5 < la z)) → c57_G88 z = (G 88) z) → (∀ z, ((la z < la this ∨ la this < la z) ∧ (la z < la p0 ∨ la p0 + 3 < la z) ∧ (la z < la p0 + 5 ∨ la p0 + 5 < la z)) → c57_G203 z = (G 203) z) → (∀ z, ((la z < la this ∨ la this < la z) ∧ (la z < la p0 ∨ la p0 + 3 < la z) ∧ (la z < la p0 + 5 ∨ la p0 + 5 < la z)) → c57_V0 z = (V 0) z) → (∀ z, ((la z < la this ∨ la this < la z) ∧ (la z < la p0 ∨ la p0 + 3 < la z) ∧ (la z < la p0 + 5 ∨ la p0 + 5 < la z)) → c57_V1 z = (V 1) z) → pw (j57 c57_G80 c57_G81 c57_G84 c57_G85 c57_G86 c57_G87 c57_G88 c57_G203 c57_V0 c57_V1) (RF_X4_readPart la G P U V X O kd ln cnt this p0)) ?_ ?_
    · intro c57_G80 c57_G81 c57_G84 c57_G85 c57_G86 c57_G87 c57_G88 c57_G203 c57_V0 c57_V1 hf3 hf4 hf5 hf6 hf7 hf8 hf9 hf10 hf11 hf12
      show pw _ _
      exact pw_some ⟨hf3, hf4, hf5, hf6, hf7, hf8, hf9, hf10, hf11, hf12⟩
    intro j57 Jj57
    refine pw_ite (fun _ => ?_) (fun _ => ?_)
    · skip
      exact Jj57 c16_G80 c16_G81 (G 84) (G 85) (G 86) (G 87) (G 88) (G 203) (V 0) (V 1) hf1 hf2 (fun _ _ => rfl) (fun _ _ => rfl) (fun _ _ => rfl) (fun _ _ => rfl) (fun _ _ => rfl) (fun _ _ => rfl) (fun _ _ => rfl) (fun _ _ => rfl)
    · skip
      refine pw_nn (fun a24 hn_a24 => ?_)
      have lt_a24 := ((hB.1 103 fl_103) p0 a24 hn_a24).2.1
      have lb_a24 : la a24 = la p0 + 1 := lk_103.mp ((hB.1 103 fl_103) p0 a24 hn_a24).2.2
      refine pw_b8 (fun r27 c27_G80 c27_G81 c27_G84 c27_G85 c27_G86 c27_G87 c27_G88 hc27 => ?_)
      have hq27 := fr_X4_takeNew la (va_up (va_up G 80 c16_G80) 81 c16_G81) P U V X O kd ln cnt this a24 hB _ hc27
      obtain ⟨q27_G80, q27_G81, q27_G84, q27_G85, q27_G86, q27_G87, q27_G88⟩ : (∀ z, (la z < la this ∨ la this < la z) → c27_G80 z = c16_G80 z) ∧ (∀ z, (la z < la this ∨ la this < la z) → c27_G81 z = c16_G81 z) ∧ (∀ z, (la z < la this ∨ la this < la z) → c27_G84 z = (G 84) z) ∧ (∀ z, (la z < la this ∨ la this < la z) → c27_G85 z = (G 85) z) ∧ (∀ z, (la z < la this ∨ la this < la z) → c27_G86 z = (G 86) z) ∧ (∀ z, (la z < la this ∨ la this < la z) → c27_G87 z = (G 87) z) ∧ (∀ z, (la z < la this ∨ la this < la z) → c27_G88 z = (G 88) z) := hq27
      have tz27 : ∀ z, ((la z < la this ∨ la this < la z) ∧ (la z < la p0 ∨ la p0 + 3 < la z) ∧ (la z < la p0 + 5 ∨ la p0 + 5 < la z)) → ((la z < la this ∨ la this < la z)) := fun z hz => by omega
      have hf13 : ∀ z, ((la z < la this ∨ la this < la z) ∧ (la z < la p0 ∨ la p0 + 3 < la z) ∧ (la z < la p0 + 5 ∨ la p0 + 5 < la z)) → c27_G80 z = (G 80) z := fun z hz => (q27_G80 z (tz27 z hz)).trans (hf1 z hz)
      have hf14 : ∀ z, ((la z < la this ∨ la this < la z) ∧ (la z < la p0 ∨ la p0 + 3 < la z) ∧ (la z < la p0 + 5 ∨ la p0 + 5 < la z)) → c27_G81 z = (G 81) z := fun z hz => (q27_G81 z (tz27 z hz)).trans (hf2 z hz)
      have hf15 : ∀ z, ((la z < la this ∨ la this < la z) ∧ (la z < la p0 ∨ la p0 + 3 < la z) ∧ (la z < la p0 + 5 ∨ la p0 + 5 < la z)) → c27_G84 z = (G 84) z := fun z hz => (q27_G84 z (tz27 z hz)).trans (rfl)
      have hf16 : ∀ z, ((la z < la this ∨ la this < la z) ∧ (la z < la p0 ∨ la p0 + 3 < la z) ∧ (la z < la p0 + 5 ∨ la p0 + 5 < la z)) → c27_G85 z = (G 85) z := fun z hz => (q27_G85 z (tz27 z hz)).trans (rfl)
      have hf17 : ∀ z, ((la z < la this ∨ la this < la z) ∧ (la z < la p0 ∨ la p0 + 3 < la z) ∧ (la z < la p0 + 5 ∨ la p0 + 5 < la z)) → c27_G86 z = (G 86) z := fun z hz => (q27_G86 z (tz27 z hz)).trans (rfl)
      have hf18 : ∀ z, ((la z < la this ∨ la this < la z) ∧ (la z < la p0 ∨ la p0 + 3 < la z) ∧ (la z < la p0 + 5 ∨ la p0 + 5 < la z)) → c27_G87 z = (G 87) z := fun z hz => (q27_G87 z (tz27 z hz)).trans (rfl)
      have hf19 : ∀ z, ((la z < la this ∨ la this < la z) ∧ (la z < la p0 ∨ la p0 + 3 < la z) ∧ (la z < la p0 + 5 ∨ la p0 + 5 < la z)) → c27_G88 z = (G 88) z := fun z hz => (q27_G88 z (tz27 z hz)).trans (rfl)
      clear hc27
      refine pw_ite (fun _ => ?_) (fun _ => ?_)
      · skip
        exact Jj57 c27_G80 c27_G81 c27_G84 c27_G85 c27_G86 c27_G87 c27_G88 (G 203) (V 0) (V 1) hf13 hf14 hf15 hf16 hf17 hf18 hf19 (fun _ _ => rfl) (fun _ _ => rfl) (fun _ _ => rfl)
      · skip
        refine pw_nn (fun a34 hn_a34 => ?_)
        have lt_a34 := ((hB.1 103 fl_103) p0 a34 hn_a34).2.1
        have lb_a34 : la a34 = la p0 + 1 := lk_103.mp ((hB.1 103 fl_103) p0 a34 hn_a34).2.2
        refine pw_nn (fun a38 hn_a38 => ?_)
        obtain ⟨_, lt_a38, lb_a38⟩ := (hB.1 82 fl_82) this a38 hn_a38
        refine pw_b3 (fun c49_G203 c49_V0 c49_V1 hc49 => ?_)
        have hq49 := fr_X10_add la (va_up (va_up (va_up (va_up (va_up (va_up (va_up (va_up (va_up G 80 c16_G80) 81 c16_G81) 80 c27_G80) 81 c27_G81) 84 c27_G84) 85 c27_G85) 86 c27_G86) 87 c27_G87) 88 c27_G88) P U V X O kd ln cnt a34 a38 (c27_G87 this) (c27_G88 this) hB _ hc49
        obtain ⟨q49_G203, q49_V0, q49_V1⟩ : (∀ z, (la z < la a34 ∨ la a34 < la z) → c49_G203 z = (G 203) z) ∧ (∀ z, (la z < la a34 ∨ la a34 < la z) → c49_V0 z = (V 0) z) ∧ (∀ z, (la z < la a34 ∨ la a34 < la z) → c49_V1 z = (V 1) z) := hq49
        have tz49 : ∀ z, ((la z < la this ∨ la this < la z) ∧ (la z < la p0 ∨ la p0 + 3 < la z) ∧ (la z < la p0 + 5 ∨ la p0 + 5 < la z)) → ((la z < la a34 ∨ la a34 < la z)) := fun z hz => by omega
        have hf20 : ∀ z, ((la z < la this ∨ la this < la z) ∧ (la z < la p0 ∨ la p0 + 3 < la z) ∧ (la z < la p0 + 5 ∨ la p0 + 5 < la z)) → c49_G203 z = (G 203) z := fun z hz => (q49_G203 z (tz49 z hz)).trans (rfl)
        have hf21 : ∀ z, ((la z < la this ∨ la this < la z) ∧ (la z < la p0 ∨ la p0 + 3 < la z) ∧ (la z < la p0 + 5 ∨ la p0 + 5 < la z)) → c49_V0 z = (V 0) z := fun z hz => (q49_V0 z (tz49 z hz)).trans (rfl)
        have hf22 : ∀ z, ((la z < la this ∨ la this < la z) ∧ (la z < la p0 ∨ la p0 + 3 < la z) ∧ (la z < la p0 + 5 ∨ la p0 + 5 < la z)) → c49_V1 z = (V 1) z := fun z hz => (q49_V1 z (tz49 z hz)).trans (rfl)
        clear hc49
        refine pw_b8 (fun r53 c53_G80 c53_G81 c53_G84 c53_G85 c53_G86 c53_G87 c53_G88 hc53 => ?_)
        have hq53 := fr_X4_takeClose la (va_up (va_up (va_up (va_up (va_up (va_up (va_up (va_up (va_up (va_up G 80 c16_G80) 81 c16_G81) 80 c27_G80) 81 c27_G81) 84 c27_G84) 85 c27_G85) 86 c27_G86) 87 c27_G87) 88 c27_G88) 203 c49_G203) P U (va_up (va_up V 0 c49_V0) 1 c49_V1) X O kd ln cnt this hB _ hc53
        obtain ⟨q53_G80, q53_G81, q53_G84, q53_G85, q53_G86, q53_G87, q53_G88⟩ : (∀ z, (la z < la this ∨ la this < la z) → c53_G80 z = c27_G80 z) ∧ (∀ z, (la z < la this ∨ la this < la z) → c53_G81 z = c27_G81 z) ∧ (∀ z, (la z < la this ∨ la this < la z) → c53_G84 z = c27_G84 z) ∧ (∀ z, (la z < la this ∨ la this < la z) → c53_G85 z = c27_G85 z) ∧ (∀ z, (la z < la this ∨ la this < la z) → c53_G86 z = c27_G86 z) ∧ (∀ z, (la z < la this ∨ la this < la z) → c53_G87 z = c27_G87 z) ∧ (∀ z, (la z < la this ∨ la this < la z) → c53_G88 z = c27_G88 z) := hq53
        have tz53 : ∀ z, ((la z < la this ∨ la this < la z) ∧ (la z < la p0 ∨ la p0 + 3 < la z) ∧ (la z < la p0 + 5 ∨ la p0 + 5 < la z)) → ((la z < la this ∨ la this < la z)) := fun z hz => by omega
        have hf23 : ∀ z, ((la z < la this ∨ la this < la z) ∧ (la z < la p0 ∨ la p0 + 3 < la z) ∧ (la z < la p0 + 5 ∨ la p0 + 5 < la z)) → c53_G80 z = (G 80) z := fun z hz => (q53_G80 z (tz53 z hz)).trans (hf13 z hz)
        have hf24 : ∀ z, ((la z < la this ∨ la this < la z) ∧ (la z < la p0 ∨ la p0 + 3 < la z) ∧ (la z < la p0 + 5 ∨ la p0 + 5 < la z)) → c53_G81 z = (G 81) z := fun z hz => (q53_G81 z (tz53 z hz)).trans (hf14 z hz)
        have hf25 : ∀ z, ((la z < la this ∨ la this < la z) ∧ (la z < la p0 ∨ la p0 + 3 < la z) ∧ (la z < la p0 + 5 ∨ la p0 + 5 < la z)) → c53_G84 z = (G 84) z := fun z hz => (q53_G84 z (tz53 z hz)).trans (hf15 z hz)
        have hf26 : ∀ z, ((la z < la this ∨ la this < la z) ∧ (la z < la p0 ∨ la p0 + 3 < la z) ∧ (la z < la p0 + 5 ∨ la p0 + 5 < la z)) → c53_G85 z = (G 85) z := fun z hz => (q53_G85 z (tz53 z hz)).trans (hf16 z hz)
        have hf27 : ∀ z, ((la z < la this ∨ la this < la z) ∧ (la z < la p0 ∨ la p0 + 3 < la z) ∧ (la z < la p0 + 5 ∨ la p0 + 5 < la z)) → c53_G86 z = (G 86) z := fun z hz => (q53_G86 z (tz53 z hz)).trans (hf17 z hz)
        have hf28 : ∀ z, ((la z < la this ∨ la this < la z) ∧ (la z < la p0 ∨ la p0 + 3 < la z) ∧ (la z < la p0 + 5 ∨ la p0 + 5 < la z)) → c53_G87 z = (G 87) z := fun z hz => (q53_G87 z (tz53 z hz)).trans (hf18 z hz)
        have hf29 : ∀ z, ((la z < la this ∨ la this < la z) ∧ (la z < la p0 ∨ la p0 + 3 < la z) ∧ (la z < la p0 + 5 ∨ la p0 + 5 < la z)) → c53_G88 z = (G 88) z := fun z hz => (q53_G88 z (tz53 z hz)).trans (hf19 z hz)
        clear hc53
        exact Jj57 c53_G80 c53_G81 c53_G84 c53_G85 c53_G86 c53_G87 c53_G88 c49_G203 c49_V0 c49_V1 hf23 hf24 hf25 hf26 hf27 hf28 hf29 hf20 hf21 hf22
  intro j16 Jj16
  refine pw_ite (fun _ => ?_) (fun _ => ?_)
  · skip
    exact Jj16 1
  · skip
    exact Jj16 0
abbrev RF_X4_readList (la : Nat → Nat) (G : Nat → Nat → Int32) (P : Nat → Nat → Option Nat) (U : Nat → Nat → Int64) (V : Nat → Nat → Nat → Int32) (X : Nat → Nat → Nat → Int64) (O : Nat → Nat → Nat → Option Nat) (kd : Nat → Nat) (ln : Nat → Nat) (cnt : Nat) (this : Nat) (p0 : Nat) : ((Nat → Int32) × (Nat → Int32) × (Nat → Int32) × (Nat → Int32) × (Nat → Int32) × (Nat → Int32) × (Nat → Int32) × (Nat → Int32) × (Nat → Int32) × (Nat → Nat → Int32) × (Nat → Nat → Int32) × (Nat → Nat → Int32)) → Prop := fun t => (∀ z, ((la z < la this ∨ la this < la z) ∧ (la z < la p0 ∨ la p0 + 3 < la z) ∧ (la z < la p0 + 5 ∨ la p0 + 5 < la z)) → (t.1) z = (G 80) z) ∧ (∀ z, ((la z < la this ∨ la this < la z) ∧ (la z < la p0 ∨ la p0 + 3 < la z) ∧ (la z < la p0 + 5 ∨ la p0 + 5 < la z)) → (t.2.1) z = (G 81) z) ∧ (∀ z, ((la z < la this ∨ la this < la z) ∧ (la z < la p0 ∨ la p0 + 3 < la z) ∧ (la z < la p0 + 5 ∨ la p0 + 5 < la z)) → (t.2.2.1) z = (G 84) z) ∧ (∀ z, ((la z < la this ∨ la this < la z) ∧ (la z < la p0 ∨ la p0 + 3 < la z) ∧ (la z < la p0 + 5 ∨ la p0 + 5 < la z)) → (t.2.2.2.1) z = (G 85) z) ∧ (∀ z, ((la z < la this ∨ la this < la z) ∧ (la z < la p0 ∨ la p0 + 3 < la z) ∧ (la z < la p0 + 5 ∨ la p0 + 5 < la z)) → (t.2.2.2.2.1) z = (G 86) z) ∧ (∀ z, ((la z < la this ∨ la this < la z) ∧ (la z < la p0 ∨ la p0 + 3 < la z) ∧ (la z < la p0 + 5 ∨ la p0 + 5 < la z)) → (t.2.2.2.2.2.1) z = (G 87) z) ∧ (∀ z, ((la z < la this ∨ la this < la z) ∧ (la z < la p0 ∨ la p0 + 3 < la z) ∧ (la z < la p0 + 5 ∨ la p0 + 5 < la z)) → (t.2.2.2.2.2.2.1) z = (G 88) z) ∧ (∀ z, ((la z < la this ∨ la this < la z) ∧ (la z < la p0 ∨ la p0 + 3 < la z) ∧ (la z < la p0 + 5 ∨ la p0 + 5 < la z)) → (t.2.2.2.2.2.2.2.1) z = (G 107) z) ∧ (∀ z, ((la z < la this ∨ la this < la z) ∧ (la z < la p0 ∨ la p0 + 3 < la z) ∧ (la z < la p0 + 5 ∨ la p0 + 5 < la z)) → (t.2.2.2.2.2.2.2.2.1) z = (G 203) z) ∧ (∀ z, ((la z < la this ∨ la this < la z) ∧ (la z < la p0 ∨ la p0 + 3 < la z) ∧ (la z < la p0 + 5 ∨ la p0 + 5 < la z)) → (t.2.2.2.2.2.2.2.2.2.1) z = (V 0) z) ∧ (∀ z, ((la z < la this ∨ la this < la z) ∧ (la z < la p0 ∨ la p0 + 3 < la z) ∧ (la z < la p0 + 5 ∨ la p0 + 5 < la z)) → (t.2.2.2.2.2.2.2.2.2.2.1) z = (V 1) z) ∧ (∀ z, ((la z < la this ∨ la this < la z) ∧ (la z < la p0 ∨ la p0 + 3 < la z) ∧ (la z < la p0 + 5 ∨ la p0 + 5 < la z)) → (t.2.2.2.2.2.2.2.2.2.2.2) z = (V 10) z)
set_option maxHeartbeats 4000000 in
set_option maxRecDepth 100000 in
theorem fr_X4_readList (la : Nat → Nat) (G : Nat → Nat → Int32) (P : Nat → Nat → Option Nat) (U : Nat → Nat → Int64) (V : Nat → Nat → Nat → Int32) (X : Nat → Nat → Nat → Int64) (O : Nat → Nat → Nat → Option Nat) (kd : Nat → Nat) (ln : Nat → Nat) (cnt : Nat) (this : Nat) (p0 : Nat) (hB : LB la cnt P) : pw (f_X4_readList G P U V X O kd ln cnt this p0) (RF_X4_readList la G P U V X O kd ln cnt this p0) := by
  unfold f_X4_readList
  refine pw_nn (fun a2 hn_a2 => ?_)
  have lt_a2 := ((hB.1 104 fl_104) p0 a2 hn_a2).2.1
  have lb_a2 : la a2 = la p0 + 2 := lk_104.mp ((hB.1 104 fl_104) p0 a2 hn_a2).2.2
  refine pw_b1 (fun r5 hc5 => ?_)
  clear hc5
  refine pw_jn (fun j16 => ∀ (t16_0 : Int32), pw (j16 t16_0) (RF_X4_readList la G P U V X O kd ln cnt this p0)) ?_ ?_
  · intro t16_0
    show pw _ _
    refine pw_b3 (fun r16 c16_G80 c16_G81 hc16 => ?_)
    have hq16 := fr_X4_hasRoom la G P U V X O kd ln cnt this t16_0 hB _ hc16
    obtain ⟨q16_G80, q16_G81⟩ : (∀ z, (la z < la this ∨ la this < la z) → c16_G80 z = (G 80) z) ∧ (∀ z, (la z < la this ∨ la this < la z) → c16_G81 z = (G 81) z) := hq16
    have tz16 : ∀ z, ((la z < la this ∨ la this < la z) ∧ (la z < la p0 ∨ la p0 + 3 < la z) ∧ (la z < la p0 + 5 ∨ la p0 + 5 < la z)) → ((la z < la this ∨ la this < la z)) := fun z hz => by omega
    have hf1 : ∀ z, ((la z < la this ∨ la this < la z) ∧ (la z < la p0 ∨ la p0 + 3 < la z) ∧ (la z < la p0 + 5 ∨ la p0 + 5 < la z)) → c16_G80 z = (G 80) z := fun z hz => (q16_G80 z (tz16 z hz)).trans (rfl)
    have hf2 : ∀ z, ((la z < la this ∨ la this < la z) ∧ (la z < la p0 ∨ la p0 + 3 < la z) ∧ (la z < la p0 + 5 ∨ la p0 + 5 < la z)) → c16_G81 z = (G 81) z := fun z hz => (q16_G81 z (tz16 z hz)).trans (rfl)
    clear hc16
    refine pw_jn (fun j88 => ∀ (c88_G80 : Nat → Int32) (c88_G81 : Nat → Int32) (c88_G84 : Nat → Int32) (c88_G85 : Nat → Int32) (c88_G86 : Nat → Int32) (c88_G87 : Nat → Int32) (c88_G88 : Nat → Int32) (c88_G107 : Nat → Int32) (c88_G203 : Nat → Int32) (c88_V0 : Nat → Nat → Int32) (c88_V1 : Nat → Nat → Int32) (c88_V10 : Nat → Nat → Int32), (∀ z, ((la z < la this ∨ la this < la z) ∧ (la z < la p0 ∨ la p0 + 3 < la z) ∧ (la z < la p0 + 5 ∨ la p0 + 5 < la z)) → c88_G80 z = (G 80) z) → (∀ z, ((la z < la this ∨ la this < la z) ∧ (la z < la p0 ∨ la p0 + 3 < la z) ∧ (la z < la p0 + 5 ∨ la p0 + 5 < la z)) → c88_G81 z = (G 81) z) → (∀ z, ((la z < la this ∨ la this < la z) ∧ (la z < la p0 ∨ la p0 + 3 < la z) ∧ (la z < la p0 + 5 ∨ la p0 + 5 < la z)) → c88_G84 z = (G 84) z) → (∀ z, ((la z < la this ∨ la this < la z) ∧ (la z < la p0 ∨ la p0 + 3 < la z) ∧ (la z < la p0 + 5 ∨ la p0 + 5 < la z)) → c88_G85 z = (G 85) z) → (∀ z, ((la z < la this ∨ la this < la z) ∧ (la z < la p0 ∨ la p0 + 3 < la z) ∧ (la z < la p0 + 5 ∨ la p0 + 5 < la z)) → c88_G86 z = (G 86) z) → (∀ z, ((la z < la this ∨ la this < la z) ∧ (la z < la p0 ∨ la p0 + 3 < la z) ∧ (la z < la p0 + 5 ∨ la p0 + 5 < la z)) → c88_G87 z = (G 87) z) → (∀ z, ((la z < la this ∨ la this < la z) ∧ (la z < la p0 ∨ la p0 + 3 < la z) ∧ (la z < la p0 + 5 ∨ la p0 + 5 < la z)) → c88_G88 z = (G 88) z) → (∀ z, ((la z < la this ∨ la this < la z) ∧ (la z < la p0 ∨ la p0 + 3 < la z) ∧ (la z < la p0 + 5 ∨ la p0 + 5 < la z)) → c88_G107 z = (G 107) z) → (∀ z, ((la z < la this ∨ la this < la z) ∧ (la z < la p0 ∨ la p0 + 3 < la z) ∧ (la z < la p0 + 5 ∨ la p0 + 5 < la z)) → c88_G203 z = (G 203) z) → (∀ z, ((la z < la this ∨ la this < la z) ∧ (la z < la p0 ∨ la p0 + 3 < la z) ∧ (la z < la p0 + 5 ∨ la p0 + 5 < la z)) → c88_V0 z = (V 0) z) → (∀ z, ((la z < la this ∨ la this < la z) ∧ (la z < la p0 ∨ la p0 + 3 < la z) ∧ (la z < la p0 + 5 ∨ la p0 + 5 < la z)) → c88_V1 z = (V 1) z) → (∀ z, ((la z < la this ∨ la this < la z) ∧ (la z < la p0 ∨ la p0 + 3 < la z) ∧ (la z < la p0 + 5 ∨ la p0 + 5 < la z)) → c88_V10 z = (V 10) z) → pw (j88 c88_G80 c88_G81 c88_G84 c88_G85 c88_G86 c88_G87 c88_G88 c88_G107 c88_G203 c88_V0 c88_V1 c88_V10) (RF_X4_readList la G P U V X O kd ln cnt this p0)) ?_ ?_
    · intro c88_G80 c88_G81 c88_G84 c88_G85 c88_G86 c88_G87 c88_G88 c88_G107 c88_G203 c88_V0 c88_V1 c88_V10 hf3 hf4 hf5 hf6 hf7 hf8 hf9 hf10 hf11 hf12 hf13 hf14
      show pw _ _
      exact pw_some ⟨hf3, hf4, hf5, hf6, hf7, hf8, hf9, hf10, hf11, hf12, hf13, hf14⟩
    intro j88 Jj88
    refine pw_ite (fun _ => ?_) (fun _ => ?_)
    · skip
      exact Jj88 c16_G80 c16_G81 (G 84) (G 85) (G 86) (G 87) (G 88) (G 107) (G 203) (V 0) (V 1) (V 10) hf1 hf2 (fun _ _ => rfl) (fun _ _ => rfl) (fun _ _ => rfl) (fun _ _ => rfl) (fun _ _ => rfl) (fun _ _ => rfl) (fun _ _ => rfl) (fun _ _ => rfl) (fun _ _ => rfl) (fun _ _ => rfl)
    · skip
      refine pw_nn (fun a24 hn_a24 => ?_)
      have lt_a24 := ((hB.1 104 fl_104) p0 a24 hn_a24).2.1
      have lb_a24 : la a24 = la p0 + 2 := lk_104.mp ((hB.1 104 fl_104) p0 a24 hn_a24).2.2
      refine pw_b8 (fun r27 c27_G80 c27_G81 c27_G84 c27_G85 c27_G86 c27_G87 c27_G88 hc27 => ?_)
      have hq27 := fr_X4_takeNew la (va_up (va_up G 80 c16_G80) 81 c16_G81) P U V X O kd ln cnt this a24 hB _ hc27
      obtain ⟨q27_G80, q27_G81, q27_G84, q27_G85, q27_G86, q27_G87, q27_G88⟩ : (∀ z, (la z < la this ∨ la this < la z) → c27_G80 z = c16_G80 z) ∧ (∀ z, (la z < la this ∨ la this < la z) → c27_G81 z = c16_G81 z) ∧ (∀ z, (la z < la this ∨ la this < la z) → c27_G84 z = (G 84) z) ∧ (∀ z, (la z < la this ∨ la this < la z) → c27_G85 z = (G 85) z) ∧ (∀ z, (la z < la this ∨ la this < la z) → c27_G86 z = (G 86) z) ∧ (∀ z, (la z < la this ∨ la this < la z) → c27_G87 z = (G 87) z) ∧ (∀ z, (la z < la this ∨ la this < la z) → c27_G88 z = (G 88) z) := hq27
      have tz27 : ∀ z, ((la z < la this ∨ la this < la z) ∧ (la z < la p0 ∨ la p0 + 3 < la z) ∧ (la z < la p0 + 5 ∨ la p0 + 5 < la z)) → ((la z < la this ∨ la this < la z)) := fun z hz => by omega
      have hf15 : ∀ z, ((la z < la this ∨ la this < la z) ∧ (la z < la p0 ∨ la p0 + 3 < la z) ∧ (la z < la p0 + 5 ∨ la p0 + 5 < la z)) → c27_G80 z = (G 80) z := fun z hz => (q27_G80 z (tz27 z hz)).trans (hf1 z hz)
      have hf16 : ∀ z, ((la z < la this ∨ la this < la z) ∧ (la z < la p0 ∨ la p0 + 3 < la z) ∧ (la z < la p0 + 5 ∨ la p0 + 5 < la z)) → c27_G81 z = (G 81) z := fun z hz => (q27_G81 z (tz27 z hz)).trans (hf2 z hz)
      have hf17 : ∀ z, ((la z < la this ∨ la this < la z) ∧ (la z < la p0 ∨ la p0 + 3 < la z) ∧ (la z < la p0 + 5 ∨ la p0 + 5 < la z)) → c27_G84 z = (G 84) z := fun z hz => (q27_G84 z (tz27 z hz)).trans (rfl)
      have hf18 : ∀ z, ((la z < la this ∨ la this < la z) ∧ (la z < la p0 ∨ la p0 + 3 < la z) ∧ (la z < la p0 + 5 ∨ la p0 + 5 < la z)) → c27_G85 z = (G 85) z := fun z hz => (q27_G85 z (tz27 z hz)).trans (rfl)
      have hf19 : ∀ z, ((la z < la this ∨ la this < la z) ∧ (la z < la p0 ∨ la p0 + 3 < la z) ∧ (la z < la p0 + 5 ∨ la p0 + 5 < la z)) → c27_G86 z = (G 86) z := fun z hz => (q27_G86 z (tz27 z hz)).trans (rfl)
      have hf20 : ∀ z, ((la z < la this ∨ la this < la z) ∧ (la z < la p0 ∨ la p0 + 3 < la z) ∧ (la z < la p0 + 5 ∨ la p0 + 5 < la z)) → c27_G87 z = (G 87) z := fun z hz => (q27_G87 z (tz27 z hz)).trans (rfl)
      have hf21 : ∀ z, ((la z < la this ∨ la this < la z) ∧ (la z < la p0 ∨ la p0 + 3 < la z) ∧ (la z < la p0 + 5 ∨ la p0 + 5 < la z)) → c27_G88 z = (G 88) z := fun z hz => (q27_G88 z (tz27 z hz)).trans (rfl)
      clear hc27
      refine pw_ite (fun _ => ?_) (fun _ => ?_)
      · skip
        exact Jj88 c27_G80 c27_G81 c27_G84 c27_G85 c27_G86 c27_G87 c27_G88 (G 107) (G 203) (V 0) (V 1) (V 10) hf15 hf16 hf17 hf18 hf19 hf20 hf21 (fun _ _ => rfl) (fun _ _ => rfl) (fun _ _ => rfl) (fun _ _ => rfl) (fun _ _ => rfl)
      · skip
        refine pw_nn (fun a35 hn_a35 => ?_)
        obtain ⟨_, lt_a35, lb_a35⟩ := (hB.1 82 fl_82) this a35 hn_a35
        refine pw_b5 (fun c46_G107 c46_G203 c46_V0 c46_V1 c46_V10 hc46 => ?_)
        have hq46 := fr_X5_addListed la (va_up (va_up (va_up (va_up (va_up (va_up (va_up (va_up (va_up G 80 c16_G80) 81 c16_G81) 80 c27_G80) 81 c27_G81) 84 c27_G84) 85 c27_G85) 86 c27_G86) 87 c27_G87) 88 c27_G88) P U V X O kd ln cnt p0 a35 (c27_G87 this) (c27_G88 this) hB _ hc46
        obtain ⟨q46_G107, q46_G203, q46_V0, q46_V1, q46_V10⟩ : (∀ z, (la z < la p0 ∨ la p0 + 3 < la z) ∧ (la z < la p0 + 5 ∨ la p0 + 5 < la z) → c46_G107 z = (G 107) z) ∧ (∀ z, (la z < la p0 ∨ la p0 + 3 < la z) ∧ (la z < la p0 + 5 ∨ la p0 + 5 < la z) → c46_G203 z = (G 203) z) ∧ (∀ z, (la z < la p0 ∨ la p0 + 3 < la z) ∧ (la z < la p0 + 5 ∨ la p0 + 5 < la z) → c46_V0 z = (V 0) z) ∧ (∀ z, (la z < la p0 ∨ la p0 + 3 < la z) ∧ (la z < la p0 + 5 ∨ la p0 + 5 < la z) → c46_V1 z = (V 1) z) ∧ (∀ z, (la z < la p0 ∨ la p0 + 3 < la z) ∧ (la z < la p0 + 5 ∨ la p0 + 5 < la z) → c46_V10 z = (V 10) z) := hq46
        have tz46 : ∀ z, ((la z < la this ∨ la this < la z) ∧ (la z < la p0 ∨ la p0 + 3 < la z) ∧ (la z < la p0 + 5 ∨ la p0 + 5 < la z)) → ((la z < la p0 ∨ la p0 + 3 < la z) ∧ (la z < la p0 + 5 ∨ la p0 + 5 < la z)) := fun z hz => by omega
        have hf22 : ∀ z, ((la z < la this ∨ la this < la z) ∧ (la z < la p0 ∨ la p0 + 3 < la z) ∧ (la z < la p0 + 5 ∨ la p0 + 5 < la z)) → c46_G107 z = (G 107) z := fun z hz => (q46_G107 z (tz46 z hz)).trans (rfl)
        have hf23 : ∀ z, ((la z < la this ∨ la this < la z) ∧ (la z < la p0 ∨ la p0 + 3 < la z) ∧ (la z < la p0 + 5 ∨ la p0 + 5 < la z)) → c46_G203 z = (G 203) z := fun z hz => (q46_G203 z (tz46 z hz)).trans (rfl)
        have hf24 : ∀ z, ((la z < la this ∨ la this < la z) ∧ (la z < la p0 ∨ la p0 + 3 < la z) ∧ (la z < la p0 + 5 ∨ la p0 + 5 < la z)) → c46_V0 z = (V 0) z := fun z hz => (q46_V0 z (tz46 z hz)).trans (rfl)
        have hf25 : ∀ z, ((la z < la this ∨ la this < la z) ∧ (la z < la p0 ∨ la p0 + 3 < la z) ∧ (la z < la p0 + 5 ∨ la p0 + 5 < la z)) → c46_V1 z = (V 1) z := fun z hz => (q46_V1 z (tz46 z hz)).trans (rfl)
        have hf26 : ∀ z, ((la z < la this ∨ la this < la z) ∧ (la z < la p0 ∨ la p0 + 3 < la z) ∧ (la z < la p0 + 5 ∨ la p0 + 5 < la z)) → c46_V10 z = (V 10) z := fun z hz => (q46_V10 z (tz46 z hz)).trans (rfl)
        clear hc46
        refine pw_b8 (fun r50 c50_G80 c50_G81 c50_G84 c50_G85 c50_G86 c50_G87 c50_G88 hc50 => ?_)
        have hq50 := fr_X4_takeTo la (va_up (va_up (va_up (va_up (va_up (va_up (va_up (va_up (va_up (va_up (va_up G 80 c16_G80) 81 c16_G81) 80 c27_G80) 81 c27_G81) 84 c27_G84) 85 c27_G85) 86 c27_G86) 87 c27_G87) 88 c27_G88) 107 c46_G107) 203 c46_G203) P U (va_up (va_up (va_up V 0 c46_V0) 1 c46_V1) 10 c46_V10) X O kd ln cnt this hB _ hc50
        obtain ⟨q50_G80, q50_G81, q50_G84, q50_G85, q50_G86, q50_G87, q50_G88⟩ : (∀ z, (la z < la this ∨ la this < la z) → c50_G80 z = c27_G80 z) ∧ (∀ z, (la z < la this ∨ la this < la z) → c50_G81 z = c27_G81 z) ∧ (∀ z, (la z < la this ∨ la this < la z) → c50_G84 z = c27_G84 z) ∧ (∀ z, (la z < la this ∨ la this < la z) → c50_G85 z = c27_G85 z) ∧ (∀ z, (la z < la this ∨ la this < la z) → c50_G86 z = c27_G86 z) ∧ (∀ z, (la z < la this ∨ la this < la z) → c50_G87 z = c27_G87 z) ∧ (∀ z, (la z < la this ∨ la this < la z) → c50_G88 z = c27_G88 z) := hq50
        have tz50 : ∀ z, ((la z < la this ∨ la this < la z) ∧ (la z < la p0 ∨ la p0 + 3 < la z) ∧ (la z < la p0 + 5 ∨ la p0 + 5 < la z)) → ((la z < la this ∨ la this < la z)) := fun z hz => by omega
        have hf27 : ∀ z, ((la z < la this ∨ la this < la z) ∧ (la z < la p0 ∨ la p0 + 3 < la z) ∧ (la z < la p0 + 5 ∨ la p0 + 5 < la z)) → c50_G80 z = (G 80) z := fun z hz => (q50_G80 z (tz50 z hz)).trans (hf15 z hz)
        have hf28 : ∀ z, ((la z < la this ∨ la this < la z) ∧ (la z < la p0 ∨ la p0 + 3 < la z) ∧ (la z < la p0 + 5 ∨ la p0 + 5 < la z)) → c50_G81 z = (G 81) z := fun z hz => (q50_G81 z (tz50 z hz)).trans (hf16 z hz)
        have hf29 : ∀ z, ((la z < la this ∨ la this < la z) ∧ (la z < la p0 ∨ la p0 + 3 < la z) ∧ (la z < la p0 + 5 ∨ la p0 + 5 < la z)) → c50_G84 z = (G 84) z := fun z hz => (q50_G84 z (tz50 z hz)).trans (hf17 z hz)
        have hf30 : ∀ z, ((la z < la this ∨ la this < la z) ∧ (la z < la p0 ∨ la p0 + 3 < la z) ∧ (la z < la p0 + 5 ∨ la p0 + 5 < la z)) → c50_G85 z = (G 85) z := fun z hz => (q50_G85 z (tz50 z hz)).trans (hf18 z hz)
        have hf31 : ∀ z, ((la z < la this ∨ la this < la z) ∧ (la z < la p0 ∨ la p0 + 3 < la z) ∧ (la z < la p0 + 5 ∨ la p0 + 5 < la z)) → c50_G86 z = (G 86) z := fun z hz => (q50_G86 z (tz50 z hz)).trans (hf19 z hz)
        have hf32 : ∀ z, ((la z < la this ∨ la this < la z) ∧ (la z < la p0 ∨ la p0 + 3 < la z) ∧ (la z < la p0 + 5 ∨ la p0 + 5 < la z)) → c50_G87 z = (G 87) z := fun z hz => (q50_G87 z (tz50 z hz)).trans (hf20 z hz)
        have hf33 : ∀ z, ((la z < la this ∨ la this < la z) ∧ (la z < la p0 ∨ la p0 + 3 < la z) ∧ (la z < la p0 + 5 ∨ la p0 + 5 < la z)) → c50_G88 z = (G 88) z := fun z hz => (q50_G88 z (tz50 z hz)).trans (hf21 z hz)
        clear hc50
        refine pw_ite (fun _ => ?_) (fun _ => ?_)
        · skip
          exact Jj88 c50_G80 c50_G81 c50_G84 c50_G85 c50_G86 c50_G87 c50_G88 c46_G107 c46_G203 c46_V0 c46_V1 c46_V10 hf27 hf28 hf29 hf30 hf31 hf32 hf33 hf22 hf23 hf24 hf25 hf26
        · skip
          refine pw_b8 (fun r58 c58_G80 c58_G81 c58_G84 c58_G85 c58_G86 c58_G87 c58_G88 hc58 => ?_)
          have hq58 := fr_X4_takeLetters la (va_up (va_up (va_up (va_up (va_up (va_up (va_up (va_up (va_up (va_up (va_up (va_up (va_up (va_up (va_up (va_up (va_up (va_up G 80 c16_G80) 81 c16_G81) 80 c27_G80) 81 c27_G81) 84 c27_G84) 85 c27_G85) 86 c27_G86) 87 c27_G87) 88 c27_G88) 107 c46_G107) 203 c46_G203) 80 c50_G80) 81 c50_G81) 84 c50_G84) 85 c50_G85) 86 c50_G86) 87 c50_G87) 88 c50_G88) P U (va_up (va_up (va_up V 0 c46_V0) 1 c46_V1) 10 c46_V10) X O kd ln cnt this (1 : Int32) hB _ hc58
          obtain ⟨q58_G80, q58_G81, q58_G84, q58_G85, q58_G86, q58_G87, q58_G88⟩ : (∀ z, (la z < la this ∨ la this < la z) → c58_G80 z = c50_G80 z) ∧ (∀ z, (la z < la this ∨ la this < la z) → c58_G81 z = c50_G81 z) ∧ (∀ z, (la z < la this ∨ la this < la z) → c58_G84 z = c50_G84 z) ∧ (∀ z, (la z < la this ∨ la this < la z) → c58_G85 z = c50_G85 z) ∧ (∀ z, (la z < la this ∨ la this < la z) → c58_G86 z = c50_G86 z) ∧ (∀ z, (la z < la this ∨ la this < la z) → c58_G87 z = c50_G87 z) ∧ (∀ z, (la z < la this ∨ la this < la z) → c58_G88 z = c50_G88 z) := hq58
          have tz58 : ∀ z, ((la z < la this ∨ la this < la z) ∧ (la z < la p0 ∨ la p0 + 3 < la z) ∧ (la z < la p0 + 5 ∨ la p0 + 5 < la z)) → ((la z < la this ∨ la this < la z)) := fun z hz => by omega
          have hf34 : ∀ z, ((la z < la this ∨ la this < la z) ∧ (la z < la p0 ∨ la p0 + 3 < la z) ∧ (la z < la p0 + 5 ∨ la p0 + 5 < la z)) → c58_G80 z = (G 80) z := fun z hz => (q58_G80 z (tz58 z hz)).trans (hf27 z hz)
          have hf35 : ∀ z, ((la z < la this ∨ la this < la z) ∧ (la z < la p0 ∨ la p0 + 3 < la z) ∧ (la z < la p0 + 5 ∨ la p0 + 5 < la z)) → c58_G81 z = (G 81) z := fun z hz => (q58_G81 z (tz58 z hz)).trans (hf28 z hz)
          have hf36 : ∀ z, ((la z < la this ∨ la this < la z) ∧ (la z < la p0 ∨ la p0 + 3 < la z) ∧ (la z < la p0 + 5 ∨ la p0 + 5 < la z)) → c58_G84 z = (G 84) z := fun z hz => (q58_G84 z (tz58 z hz)).trans (hf29 z hz)
          have hf37 : ∀ z, ((la z < la this ∨ la this < la z) ∧ (la z < la p0 ∨ la p0 + 3 < la z) ∧ (la z < la p0 + 5 ∨ la p0 + 5 < la z)) → c58_G85 z = (G 85) z := fun z hz => (q58_G85 z (tz58 z hz)).trans (hf30 z hz)
          have hf38 : ∀ z, ((la z < la this ∨ la this < la z) ∧ (la z < la p0 ∨ la p0 + 3 < la z) ∧ (la z < la p0 + 5 ∨ la p0 + 5 < la z)) → c58_G86 z = (G 86) z := fun z hz => (q58_G86 z (tz58 z hz)).trans (hf31 z hz)
          have hf39 : ∀ z, ((la z < la this ∨ la this < la z) ∧ (la z < la p0 ∨ la p0 + 3 < la z) ∧ (la z < la p0 + 5 ∨ la p0 + 5 < la z)) → c58_G87 z = (G 87) z := fun z hz => (q58_G87 z (tz58 z hz)).trans (hf32 z hz)
          have hf40 : ∀ z, ((la z < la this ∨ la this < la z) ∧ (la z < la p0 ∨ la p0 + 3 < la z) ∧ (la z < la p0 + 5 ∨ la p0 + 5 < la z)) → c58_G88 z = (G 88) z := fun z hz => (q58_G88 z (tz58 z hz)).trans (hf33 z hz)
          clear hc58
          refine pw_ite (fun _ => ?_) (fun _ => ?_)
          · skip
            exact Jj88 c58_G80 c58_G81 c58_G84 c58_G85 c58_G86 c58_G87 c58_G88 c46_G107 c46_G203 c46_V0 c46_V1 c46_V10 hf34 hf35 hf36 hf37 hf38 hf39 hf40 hf22 hf23 hf24 hf25 hf26
          · skip
            refine pw_nn (fun a65 hn_a65 => ?_)
            have lt_a65 := ((hB.1 105 fl_105) p0 a65 hn_a65).2.1
            have lb_a65 : la a65 = la p0 + 3 := lk_105.mp ((hB.1 105 fl_105) p0 a65 hn_a65).2.2
            refine pw_nn (fun a69 hn_a69 => ?_)
            obtain ⟨_, lt_a69, lb_a69⟩ := (hB.1 82 fl_82) this a69 hn_a69
            refine pw_b3 (fun c80_G203 c80_V0 c80_V1 hc80 => ?_)
            have hq80 := fr_X10_add la (va_up (va_up (va_up (va_up (va_up (va_up (va_up (va_up (va_up (va_up (va_up (va_up (va_up (va_up (va_up (va_up (va_up (va_up (va_up (va_up (va_up (va_up (va_up (va_up (va_up G 80 c16_G80) 81 c16_G81) 80 c27_G80) 81 c27_G81) 84 c27_G84) 85 c27_G85) 86 c27_G86) 87 c27_G87) 88 c27_G88) 107 c46_G107) 203 c46_G203) 80 c50_G80) 81 c50_G81) 84 c50_G84) 85 c50_G85) 86 c50_G86) 87 c50_G87) 88 c50_G88) 80 c58_G80) 81 c58_G81) 84 c58_G84) 85 c58_G85) 86 c58_G86) 87 c58_G87) 88 c58_G88) P U (va_up (va_up (va_up V 0 c46_V0) 1 c46_V1) 10 c46_V10) X O kd ln cnt a65 a69 (c58_G87 this) (c58_G88 this) hB _ hc80
            obtain ⟨q80_G203, q80_V0, q80_V1⟩ : (∀ z, (la z < la a65 ∨ la a65 < la z) → c80_G203 z = c46_G203 z) ∧ (∀ z, (la z < la a65 ∨ la a65 < la z) → c80_V0 z = c46_V0 z) ∧ (∀ z, (la z < la a65 ∨ la a65 < la z) → c80_V1 z = c46_V1 z) := hq80
            have tz80 : ∀ z, ((la z < la this ∨ la this < la z) ∧ (la z < la p0 ∨ la p0 + 3 < la z) ∧ (la z < la p0 + 5 ∨ la p0 + 5 < la z)) → ((la z < la a65 ∨ la a65 < la z)) := fun z hz => by omega
            have hf41 : ∀ z, ((la z < la this ∨ la this < la z) ∧ (la z < la p0 ∨ la p0 + 3 < la z) ∧ (la z < la p0 + 5 ∨ la p0 + 5 < la z)) → c80_G203 z = (G 203) z := fun z hz => (q80_G203 z (tz80 z hz)).trans (hf23 z hz)
            have hf42 : ∀ z, ((la z < la this ∨ la this < la z) ∧ (la z < la p0 ∨ la p0 + 3 < la z) ∧ (la z < la p0 + 5 ∨ la p0 + 5 < la z)) → c80_V0 z = (V 0) z := fun z hz => (q80_V0 z (tz80 z hz)).trans (hf24 z hz)
            have hf43 : ∀ z, ((la z < la this ∨ la this < la z) ∧ (la z < la p0 ∨ la p0 + 3 < la z) ∧ (la z < la p0 + 5 ∨ la p0 + 5 < la z)) → c80_V1 z = (V 1) z := fun z hz => (q80_V1 z (tz80 z hz)).trans (hf25 z hz)
            clear hc80
            refine pw_b8 (fun r84 c84_G80 c84_G81 c84_G84 c84_G85 c84_G86 c84_G87 c84_G88 hc84 => ?_)
            have hq84 := fr_X4_takeClose la (va_up (va_up (va_up (va_up (va_up (va_up (va_up (va_up (va_up (va_up (va_up (va_up (va_up (va_up (va_up (va_up (va_up (va_up (va_up (va_up (va_up (va_up (va_up (va_up (va_up (va_up G 80 c16_G80) 81 c16_G81) 80 c27_G80) 81 c27_G81) 84 c27_G84) 85 c27_G85) 86 c27_G86) 87 c27_G87) 88 c27_G88) 107 c46_G107) 203 c46_G203) 80 c50_G80) 81 c50_G81) 84 c50_G84) 85 c50_G85) 86 c50_G86) 87 c50_G87) 88 c50_G88) 80 c58_G80) 81 c58_G81) 84 c58_G84) 85 c58_G85) 86 c58_G86) 87 c58_G87) 88 c58_G88) 203 c80_G203) P U (va_up (va_up (va_up (va_up (va_up V 0 c46_V0) 1 c46_V1) 10 c46_V10) 0 c80_V0) 1 c80_V1) X O kd ln cnt this hB _ hc84
            obtain ⟨q84_G80, q84_G81, q84_G84, q84_G85, q84_G86, q84_G87, q84_G88⟩ : (∀ z, (la z < la this ∨ la this < la z) → c84_G80 z = c58_G80 z) ∧ (∀ z, (la z < la this ∨ la this < la z) → c84_G81 z = c58_G81 z) ∧ (∀ z, (la z < la this ∨ la this < la z) → c84_G84 z = c58_G84 z) ∧ (∀ z, (la z < la this ∨ la this < la z) → c84_G85 z = c58_G85 z) ∧ (∀ z, (la z < la this ∨ la this < la z) → c84_G86 z = c58_G86 z) ∧ (∀ z, (la z < la this ∨ la this < la z) → c84_G87 z = c58_G87 z) ∧ (∀ z, (la z < la this ∨ la this < la z) → c84_G88 z = c58_G88 z) := hq84
            have tz84 : ∀ z, ((la z < la this ∨ la this < la z) ∧ (la z < la p0 ∨ la p0 + 3 < la z) ∧ (la z < la p0 + 5 ∨ la p0 + 5 < la z)) → ((la z < la this ∨ la this < la z)) := fun z hz => by omega
            have hf44 : ∀ z, ((la z < la this ∨ la this < la z) ∧ (la z < la p0 ∨ la p0 + 3 < la z) ∧ (la z < la p0 + 5 ∨ la p0 + 5 < la z)) → c84_G80 z = (G 80) z := fun z hz => (q84_G80 z (tz84 z hz)).trans (hf34 z hz)
            have hf45 : ∀ z, ((la z < la this ∨ la this < la z) ∧ (la z < la p0 ∨ la p0 + 3 < la z) ∧ (la z < la p0 + 5 ∨ la p0 + 5 < la z)) → c84_G81 z = (G 81) z := fun z hz => (q84_G81 z (tz84 z hz)).trans (hf35 z hz)
            have hf46 : ∀ z, ((la z < la this ∨ la this < la z) ∧ (la z < la p0 ∨ la p0 + 3 < la z) ∧ (la z < la p0 + 5 ∨ la p0 + 5 < la z)) → c84_G84 z = (G 84) z := fun z hz => (q84_G84 z (tz84 z hz)).trans (hf36 z hz)
            have hf47 : ∀ z, ((la z < la this ∨ la this < la z) ∧ (la z < la p0 ∨ la p0 + 3 < la z) ∧ (la z < la p0 + 5 ∨ la p0 + 5 < la z)) → c84_G85 z = (G 85) z := fun z hz => (q84_G85 z (tz84 z hz)).trans (hf37 z hz)
            have hf48 : ∀ z, ((la z < la this ∨ la this < la z) ∧ (la z < la p0 ∨ la p0 + 3 < la z) ∧ (la z < la p0 + 5 ∨ la p0 + 5 < la z)) → c84_G86 z = (G 86) z := fun z hz => (q84_G86 z (tz84 z hz)).trans (hf38 z hz)
            have hf49 : ∀ z, ((la z < la this ∨ la this < la z) ∧ (la z < la p0 ∨ la p0 + 3 < la z) ∧ (la z < la p0 + 5 ∨ la p0 + 5 < la z)) → c84_G87 z = (G 87) z := fun z hz => (q84_G87 z (tz84 z hz)).trans (hf39 z hz)
            have hf50 : ∀ z, ((la z < la this ∨ la this < la z) ∧ (la z < la p0 ∨ la p0 + 3 < la z) ∧ (la z < la p0 + 5 ∨ la p0 + 5 < la z)) → c84_G88 z = (G 88) z := fun z hz => (q84_G88 z (tz84 z hz)).trans (hf40 z hz)
            clear hc84
            exact Jj88 c84_G80 c84_G81 c84_G84 c84_G85 c84_G86 c84_G87 c84_G88 c46_G107 c80_G203 c80_V0 c80_V1 c46_V10 hf44 hf45 hf46 hf47 hf48 hf49 hf50 hf22 hf41 hf42 hf43 hf26
  intro j16 Jj16
  refine pw_ite (fun _ => ?_) (fun _ => ?_)
  · skip
    exact Jj16 1
  · skip
    exact Jj16 0
abbrev RF_J7_fill_53178_106 (la : Nat → Nat) (G : Nat → Nat → Int32) (P : Nat → Nat → Option Nat) (U : Nat → Nat → Int64) (V : Nat → Nat → Nat → Int32) (X : Nat → Nat → Nat → Int64) (O : Nat → Nat → Nat → Option Nat) (kd : Nat → Nat) (ln : Nat → Nat) (cnt : Nat) (p0 : Nat) (p1 : Int32) : ((Nat → Nat → Int32)) → Prop := fun t => (∀ z, ((la z < la p0 ∨ la p0 < la z)) → t z = (V 6) z)
set_option maxHeartbeats 4000000 in
set_option maxRecDepth 100000 in
theorem fr_J7_fill_53178_106 (la : Nat → Nat) (G : Nat → Nat → Int32) (P : Nat → Nat → Option Nat) (U : Nat → Nat → Int64) (V : Nat → Nat → Nat → Int32) (X : Nat → Nat → Nat → Int64) (O : Nat → Nat → Nat → Option Nat) (kd : Nat → Nat) (ln : Nat → Nat) (cnt : Nat) (p0 : Nat) (p1 : Int32) (hB : LB la cnt P) : pw (f_J7_fill_53178_106 G P U V X O kd ln cnt p0 p1) (RF_J7_fill_53178_106 la G P U V X O kd ln cnt p0 p1) := by
  unfold f_J7_fill_53178_106
  refine pw_vl (fun x4 _ => ?_)
  have lp5 : ∀ (n5 : Nat) (y5_2 : Int32) (d5_V6 : Nat → Nat → Int32), (∀ z, ((la z < la p0 ∨ la p0 < la z)) → d5_V6 z = (V 6) z) → pw (L_J7_fill_53178_106_5 ln p0 p1 x4 n5 y5_2 d5_V6) (RF_J7_fill_53178_106 la G P U V X O kd ln cnt p0 p1) := by
    intro n5
    induction n5 with
    | zero => intros; exact pw_none
    | succ n5 ih5 =>
      intro y5_2 d5_V6 hf1
      show pw (B_J7_fill_53178_106_5 ln p0 p1 x4 (L_J7_fill_53178_106_5 ln p0 p1 x4 n5) y5_2 d5_V6) _
      unfold B_J7_fill_53178_106_5
      refine pw_ite (fun _ => ?_) (fun _ => ?_)
      · skip
        exact pw_some hf1
      · skip
        refine pw_if (fun _ => ?_)
        refine pw_vl (fun m13 em13 => ?_)
        have hf2 : ∀ z, ((la z < la p0 ∨ la p0 < la z)) → m13 z = (V 6) z := fr_up (e0 := (V 6)) hf1 em13 (show ¬ ((la p0 < la p0 ∨ la p0 < la p0)) from by omega)
        exact ih5 (y5_2 + 1) m13 hf2
  exact lp5 NN 0 (V 6) (fun _ _ => rfl)
abbrev RF_X6_begin (la : Nat → Nat) (G : Nat → Nat → Int32) (P : Nat → Nat → Option Nat) (U : Nat → Nat → Int64) (V : Nat → Nat → Nat → Int32) (X : Nat → Nat → Nat → Int64) (O : Nat → Nat → Nat → Option Nat) (kd : Nat → Nat) (ln : Nat → Nat) (cnt : Nat) (this : Nat) : ((Nat → Int32) × (Nat → Int32) × (Nat → Int32) × (Nat → Nat → Int32)) → Prop := fun t => (∀ z, ((la z < la this ∨ la this + 2 < la z)) → (t.1) z = (G 126) z) ∧ (∀ z, ((la z < la this ∨ la this + 2 < la z)) → (t.2.1) z = (G 127) z) ∧ (∀ z, ((la z < la this ∨ la this + 2 < la z)) → (t.2.2.1) z = (G 128) z) ∧ (∀ z, ((la z < la this ∨ la this + 2 < la z)) → (t.2.2.2) z = (V 6) z)
set_option maxHeartbeats 4000000 in
set_option maxRecDepth 100000 in
theorem fr_X6_begin (la : Nat → Nat) (G : Nat → Nat → Int32) (P : Nat → Nat → Option Nat) (U : Nat → Nat → Int64) (V : Nat → Nat → Nat → Int32) (X : Nat → Nat → Nat → Int64) (O : Nat → Nat → Nat → Option Nat) (kd : Nat → Nat) (ln : Nat → Nat) (cnt : Nat) (this : Nat) (hB : LB la cnt P) : pw (f_X6_begin G P U V X O kd ln cnt this) (RF_X6_begin la G P U V X O kd ln cnt this) := by
  unfold f_X6_begin
  refine pw_nn (fun a1 hn_a1 => ?_)
  have lt_a1 := ((hB.1 123 fl_123) this a1 hn_a1).2.1
  have lb_a1 : (la a1 = la this + 1 ∨ la a1 = la this + 2) := lk_123.mp ((hB.1 123 fl_123) this a1 hn_a1).2.2
  refine pw_b1 (fun c5_V6 hc5 => ?_)
  have hq5 := fr_J7_fill_53178_106 la G P U V X O kd ln cnt a1 (0 : Int32) hB _ hc5
  have q5_V6 : (∀ z, (la z < la a1 ∨ la a1 < la z) → c5_V6 z = (V 6) z) := hq5
  have tz5 : ∀ z, ((la z < la this ∨ la this + 2 < la z)) → ((la z < la a1 ∨ la a1 < la z)) := fun z hz => by omega
  have hf1 : ∀ z, ((la z < la this ∨ la this + 2 < la z)) → c5_V6 z = (V 6) z := fun z hz => (q5_V6 z (tz5 z hz)).trans (rfl)
  clear hc5 hq5
  refine pw_vl (fun m10 em10 => ?_)
  have hf2 : ∀ z, ((la z < la this ∨ la this + 2 < la z)) → m10 z = (G 126) z := fr_up (e0 := (G 126)) (fun _ _ => rfl) em10 (show ¬ ((la this < la this ∨ la this + 2 < la this)) from by omega)
  refine pw_vl (fun m15 em15 => ?_)
  have hf3 : ∀ z, ((la z < la this ∨ la this + 2 < la z)) → m15 z = (G 127) z := fr_up (e0 := (G 127)) (fun _ _ => rfl) em15 (show ¬ ((la this < la this ∨ la this + 2 < la this)) from by omega)
  refine pw_vl (fun m20 em20 => ?_)
  have hf4 : ∀ z, ((la z < la this ∨ la this + 2 < la z)) → m20 z = (G 128) z := fr_up (e0 := (G 128)) (fun _ _ => rfl) em20 (show ¬ ((la this < la this ∨ la this + 2 < la this)) from by omega)
  exact pw_some ⟨hf2, hf3, hf4, hf1⟩
abbrev RF_X6_leaveName (la : Nat → Nat) (G : Nat → Nat → Int32) (P : Nat → Nat → Option Nat) (U : Nat → Nat → Int64) (V : Nat → Nat → Nat → Int32) (X : Nat → Nat → Nat → Int64) (O : Nat → Nat → Nat → Option Nat) (kd : Nat → Nat) (ln : Nat → Nat) (cnt : Nat) (this : Nat) : ((Nat → Nat → Int32)) → Prop := fun t => (∀ z, ((la z < la this ∨ la this + 2 < la z)) → t z = (V 6) z)
set_option maxHeartbeats 4000000 in
set_option maxRecDepth 100000 in
theorem fr_X6_leaveName (la : Nat → Nat) (G : Nat → Nat → Int32) (P : Nat → Nat → Option Nat) (U : Nat → Nat → Int64) (V : Nat → Nat → Nat → Int32) (X : Nat → Nat → Nat → Int64) (O : Nat → Nat → Nat → Option Nat) (kd : Nat → Nat) (ln : Nat → Nat) (cnt : Nat) (this : Nat) (hB : LB la cnt P) : pw (f_X6_leaveName G P U V X O kd ln cnt this) (RF_X6_leaveName la G P U V X O kd ln cnt this) := by
  unfold f_X6_leaveName
  refine pw_nn (fun a1 hn_a1 => ?_)
  have lt_a1 := ((hB.1 123 fl_123) this a1 hn_a1).2.1
  have lb_a1 : (la a1 = la this + 1 ∨ la a1 = la this + 2) := lk_123.mp ((hB.1 123 fl_123) this a1 hn_a1).2.2
  refine pw_if (fun _ => ?_)
  refine pw_if (fun _ => ?_)
  refine pw_vl (fun m9 em9 => ?_)
  have hf1 : ∀ z, ((la z < la this ∨ la this + 2 < la z)) → m9 z = (V 6) z := fr_up (e0 := (V 6)) (fun _ _ => rfl) em9 (show ¬ ((la a1 < la this ∨ la this + 2 < la a1)) from by omega)
  exact pw_some hf1
abbrev RF_X6_leaveLost (la : Nat → Nat) (G : Nat → Nat → Int32) (P : Nat → Nat → Option Nat) (U : Nat → Nat → Int64) (V : Nat → Nat → Nat → Int32) (X : Nat → Nat → Nat → Int64) (O : Nat → Nat → Nat → Option Nat) (kd : Nat → Nat) (ln : Nat → Nat) (cnt : Nat) (this : Nat) : ((Nat → Nat → Int32)) → Prop := fun t => (∀ z, ((la z < la this ∨ la this + 2 < la z)) → t z = (V 6) z)
set_option maxHeartbeats 4000000 in
set_option maxRecDepth 100000 in
theorem fr_X6_leaveLost (la : Nat → Nat) (G : Nat → Nat → Int32) (P : Nat → Nat → Option Nat) (U : Nat → Nat → Int64) (V : Nat → Nat → Nat → Int32) (X : Nat → Nat → Nat → Int64) (O : Nat → Nat → Nat → Option Nat) (kd : Nat → Nat) (ln : Nat → Nat) (cnt : Nat) (this : Nat) (hB : LB la cnt P) : pw (f_X6_leaveLost G P U V X O kd ln cnt this) (RF_X6_leaveLost la G P U V X O kd ln cnt this) := by
  unfold f_X6_leaveLost
  refine pw_nn (fun a1 hn_a1 => ?_)
  have lt_a1 := ((hB.1 123 fl_123) this a1 hn_a1).2.1
  have lb_a1 : (la a1 = la this + 1 ∨ la a1 = la this + 2) := lk_123.mp ((hB.1 123 fl_123) this a1 hn_a1).2.2
  refine pw_if (fun _ => ?_)
  refine pw_if (fun _ => ?_)
  refine pw_vl (fun m9 em9 => ?_)
  have hf1 : ∀ z, ((la z < la this ∨ la this + 2 < la z)) → m9 z = (V 6) z := fr_up (e0 := (V 6)) (fun _ _ => rfl) em9 (show ¬ ((la a1 < la this ∨ la this + 2 < la a1)) from by omega)
  refine pw_nn (fun a11 hn_a11 => ?_)
  have lt_a11 := ((hB.1 123 fl_123) this a11 hn_a11).2.1
  have lb_a11 : (la a11 = la this + 1 ∨ la a11 = la this + 2) := lk_123.mp ((hB.1 123 fl_123) this a11 hn_a11).2.2
  refine pw_if (fun _ => ?_)
  refine pw_if (fun _ => ?_)
  refine pw_vl (fun m19 em19 => ?_)
  have hf2 : ∀ z, ((la z < la this ∨ la this + 2 < la z)) → m19 z = (V 6) z := fr_up (e0 := (V 6)) hf1 em19 (show ¬ ((la a11 < la this ∨ la this + 2 < la a11)) from by omega)
  exact pw_some hf2
abbrev RF_X6_append (la : Nat → Nat) (G : Nat → Nat → Int32) (P : Nat → Nat → Option Nat) (U : Nat → Nat → Int64) (V : Nat → Nat → Nat → Int32) (X : Nat → Nat → Nat → Int64) (O : Nat → Nat → Nat → Option Nat) (kd : Nat → Nat) (ln : Nat → Nat) (cnt : Nat) (this : Nat) (p0 : Nat) (p1 : Int32) (p2 : Int32) : ((Nat → Int32) × (Nat → Int32) × (Nat → Nat → Int32)) → Prop := fun t => (∀ z, ((la z < la this ∨ la this + 2 < la z)) → (t.1) z = (G 126) z) ∧ (∀ z, ((la z < la this ∨ la this + 2 < la z)) → (t.2.1) z = (G 128) z) ∧ (∀ z, ((la z < la this ∨ la this + 2 < la z)) → (t.2.2) z = (V 0) z)
set_option maxHeartbeats 4000000 in
set_option maxRecDepth 100000 in
theorem fr_X6_append (la : Nat → Nat) (G : Nat → Nat → Int32) (P : Nat → Nat → Option Nat) (U : Nat → Nat → Int64) (V : Nat → Nat → Nat → Int32) (X : Nat → Nat → Nat → Int64) (O : Nat → Nat → Nat → Option Nat) (kd : Nat → Nat) (ln : Nat → Nat) (cnt : Nat) (this : Nat) (p0 : Nat) (p1 : Int32) (p2 : Int32) (hB : LB la cnt P) : pw (f_X6_append G P U V X O kd ln cnt this p0 p1 p2) (RF_X6_append la G P U V X O kd ln cnt this p0 p1 p2) := by
  unfold f_X6_append
  refine pw_jn (fun j19 => pw (j19 ()) (RF_X6_append la G P U V X O kd ln cnt this p0 p1 p2)) ?_ ?_
  · show pw _ _
    refine pw_vl (fun m21 em21 => ?_)
    have hf1 : ∀ z, ((la z < la this ∨ la this + 2 < la z)) → m21 z = (G 128) z := fr_up (e0 := (G 128)) (fun _ _ => rfl) em21 (show ¬ ((la this < la this ∨ la this + 2 < la this)) from by omega)
    exact pw_some ⟨(fun _ _ => rfl), hf1, (fun _ _ => rfl)⟩
  intro j19 Jj19
  refine pw_ite (fun _ => ?_) (fun _ => ?_)
  · skip
    exact Jj19
  · skip
    refine pw_ite (fun _ => ?_) (fun _ => ?_)
    · skip
      refine pw_nn (fun a28 hn_a28 => ?_)
      have lt_a28 := ((hB.1 121 fl_121) this a28 hn_a28).2.1
      have lb_a28 : (la a28 = la this + 1 ∨ la a28 = la this + 2) := lk_121.mp ((hB.1 121 fl_121) this a28 hn_a28).2.2
      refine pw_if (fun _ => ?_)
      refine pw_vl (fun m36 em36 => ?_)
      have hf2 : ∀ z, ((la z < la this ∨ la this + 2 < la z)) → m36 z = (V 0) z := fr_up (e0 := (V 0)) (fun _ _ => rfl) em36 (show ¬ ((la a28 < la this ∨ la this + 2 < la a28)) from by omega)
      refine pw_vl (fun x46 _ => ?_)
      refine pw_vl (fun m46 em46 => ?_)
      have hf3 : ∀ z, ((la z < la this ∨ la this + 2 < la z)) → m46 z = (G 126) z := fr_up (e0 := (G 126)) (fun _ _ => rfl) em46 (show ¬ ((la this < la this ∨ la this + 2 < la this)) from by omega)
      exact pw_some ⟨hf3, (fun _ _ => rfl), hf2⟩
    · skip
      exact Jj19
abbrev RF_X6_put (la : Nat → Nat) (G : Nat → Nat → Int32) (P : Nat → Nat → Option Nat) (U : Nat → Nat → Int64) (V : Nat → Nat → Nat → Int32) (X : Nat → Nat → Nat → Int64) (O : Nat → Nat → Nat → Option Nat) (kd : Nat → Nat) (ln : Nat → Nat) (cnt : Nat) (this : Nat) (p0 : Nat) (p1 : Nat) : ((Nat → Int32) × (Nat → Int32) × (Nat → Int32) × (Nat → Nat → Int32) × (Nat → Nat → Int32)) → Prop := fun t => (∀ z, ((la z < la this ∨ la this + 2 < la z)) → (t.1) z = (G 126) z) ∧ (∀ z, ((la z < la this ∨ la this + 2 < la z)) → (t.2.1) z = (G 127) z) ∧ (∀ z, ((la z < la this ∨ la this + 2 < la z)) → (t.2.2.1) z = (G 128) z) ∧ (∀ z, ((la z < la this ∨ la this + 2 < la z)) → (t.2.2.2.1) z = (V 0) z) ∧ (∀ z, ((la z < la this ∨ la this + 2 < la z)) → (t.2.2.2.2) z = (V 6) z)
set_option maxHeartbeats 4000000 in
set_option maxRecDepth 100000 in
theorem fr_X6_put (la : Nat → Nat) (G : Nat → Nat → Int32) (P : Nat → Nat → Option Nat) (U : Nat → Nat → Int64) (V : Nat → Nat → Nat → Int32) (X : Nat → Nat → Nat → Int64) (O : Nat → Nat → Nat → Option Nat) (kd : Nat → Nat) (ln : Nat → Nat) (cnt : Nat) (this : Nat) (p0 : Nat) (p1 : Nat) (hB : LB la cnt P) : pw (f_X6_put G P U V X O kd ln cnt this p0 p1) (RF_X6_put la G P U V X O kd ln cnt this p0 p1) := by
  unfold f_X6_put
  refine pw_ite (fun _ => ?_) (fun _ => ?_)
  · skip
    refine pw_b1 (fun c8_V6 hc8 => ?_)
    have hq8 := fr_X6_leaveLost la G P U V X O kd ln cnt this hB _ hc8
    have q8_V6 : (∀ z, (la z < la this ∨ la this + 2 < la z) → c8_V6 z = (V 6) z) := hq8
    have tz8 : ∀ z, ((la z < la this ∨ la this + 2 < la z)) → ((la z < la this ∨ la this + 2 < la z)) := fun z hz => by omega
    have hf1 : ∀ z, ((la z < la this ∨ la this + 2 < la z)) → c8_V6 z = (V 6) z := fun z hz => (q8_V6 z (tz8 z hz)).trans (rfl)
    clear hc8 hq8
    exact pw_some ⟨(fun _ _ => rfl), (fun _ _ => rfl), (fun _ _ => rfl), (fun _ _ => rfl), hf1⟩
  · skip
    refine pw_nn (fun a13 hn_a13 => ?_)
    have lt_a13 := ((hB.1 123 fl_123) this a13 hn_a13).2.1
    have lb_a13 : (la a13 = la this + 1 ∨ la a13 = la this + 2) := lk_123.mp ((hB.1 123 fl_123) this a13 hn_a13).2.2
    refine pw_if (fun _ => ?_)
    refine pw_if (fun _ => ?_)
    refine pw_vl (fun m21 em21 => ?_)
    have hf2 : ∀ z, ((la z < la this ∨ la this + 2 < la z)) → m21 z = (V 6) z := fr_up (e0 := (V 6)) (fun _ _ => rfl) em21 (show ¬ ((la a13 < la this ∨ la this + 2 < la a13)) from by omega)
    refine pw_jn (fun j40 => ∀ (c40_V6 : Nat → Nat → Int32), (∀ z, ((la z < la this ∨ la this + 2 < la z)) → c40_V6 z = (V 6) z) → pw (j40 c40_V6) (RF_X6_put la G P U V X O kd ln cnt this p0 p1)) ?_ ?_
    · intro c40_V6 hf3
      show pw _ _
      refine pw_nn (fun a41 hn_a41 => ?_)
      have lt_a41 := ((hB.1 202 fl_202) p1 a41 hn_a41).2.1
      have lb_a41 : la a41 = la p1 + 0 := lk_202.mp ((hB.1 202 fl_202) p1 a41 hn_a41).2.2
      refine pw_if (fun _ => ?_)
      refine pw_jn (fun j70 => pw (j70 ()) (RF_X6_put la G P U V X O kd ln cnt this p0 p1)) ?_ ?_
      · show pw _ _
        refine pw_nn (fun a71 hn_a71 => ?_)
        have lt_a71 := ((hB.1 123 fl_123) this a71 hn_a71).2.1
        have lb_a71 : (la a71 = la this + 1 ∨ la a71 = la this + 2) := lk_123.mp ((hB.1 123 fl_123) this a71 hn_a71).2.2
        refine pw_if (fun _ => ?_)
        refine pw_if (fun _ => ?_)
        refine pw_vl (fun m79 em79 => ?_)
        have hf4 : ∀ z, ((la z < la this ∨ la this + 2 < la z)) → m79 z = (V 6) z := fr_up (e0 := (V 6)) hf3 em79 (show ¬ ((la a71 < la this ∨ la this + 2 < la a71)) from by omega)
        refine pw_nn (fun a82 hn_a82 => ?_)
        obtain ⟨_, lt_a82, lb_a82⟩ := (hB.1 164 fl_164) p0 a82 hn_a82
        refine pw_b3 (fun c98_G126 c98_G128 c98_V0 hc98 => ?_)
        have hq98 := fr_X6_append la G P U (va_up (va_up V 6 c40_V6) 6 m79) X O kd ln cnt this a82 ((G 127) this) (((G 160) p0) - ((G 127) this)) hB _ hc98
        obtain ⟨q98_G126, q98_G128, q98_V0⟩ : (∀ z, (la z < la this ∨ la this + 2 < la z) → c98_G126 z = (G 126) z) ∧ (∀ z, (la z < la this ∨ la this + 2 < la z) → c98_G128 z = (G 128) z) ∧ (∀ z, (la z < la this ∨ la this + 2 < la z) → c98_V0 z = (V 0) z) := hq98
        have tz98 : ∀ z, ((la z < la this ∨ la this + 2 < la z)) → ((la z < la this ∨ la this + 2 < la z)) := fun z hz => by omega
        have hf5 : ∀ z, ((la z < la this ∨ la this + 2 < la z)) → c98_G126 z = (G 126) z := fun z hz => (q98_G126 z (tz98 z hz)).trans (rfl)
        have hf6 : ∀ z, ((la z < la this ∨ la this + 2 < la z)) → c98_G128 z = (G 128) z := fun z hz => (q98_G128 z (tz98 z hz)).trans (rfl)
        have hf7 : ∀ z, ((la z < la this ∨ la this + 2 < la z)) → c98_V0 z = (V 0) z := fun z hz => (q98_V0 z (tz98 z hz)).trans (rfl)
        clear hc98
        refine pw_nn (fun a103 hn_a103 => ?_)
        have lt_a103 := ((hB.1 201 fl_201) p1 a103 hn_a103).2.1
        have lb_a103 : la a103 = la p1 + 0 := lk_201.mp ((hB.1 201 fl_201) p1 a103 hn_a103).2.2
        refine pw_nn (fun a108 hn_a108 => ?_)
        have lt_a108 := ((hB.1 202 fl_202) p1 a108 hn_a108).2.1
        have lb_a108 : la a108 = la p1 + 0 := lk_202.mp ((hB.1 202 fl_202) p1 a108 hn_a108).2.2
        refine pw_if (fun _ => ?_)
        refine pw_b3 (fun c113_G126 c113_G128 c113_V0 hc113 => ?_)
        have hq113 := fr_X6_append la (va_up (va_up G 126 c98_G126) 128 c98_G128) P U (va_up (va_up (va_up V 6 c40_V6) 6 m79) 0 c98_V0) X O kd ln cnt this a103 (0 : Int32) (((V 1) a108) (Int32.toNatClampNeg 0)) hB _ hc113
        obtain ⟨q113_G126, q113_G128, q113_V0⟩ : (∀ z, (la z < la this ∨ la this + 2 < la z) → c113_G126 z = c98_G126 z) ∧ (∀ z, (la z < la this ∨ la this + 2 < la z) → c113_G128 z = c98_G128 z) ∧ (∀ z, (la z < la this ∨ la this + 2 < la z) → c113_V0 z = c98_V0 z) := hq113
        have tz113 : ∀ z, ((la z < la this ∨ la this + 2 < la z)) → ((la z < la this ∨ la this + 2 < la z)) := fun z hz => by omega
        have hf8 : ∀ z, ((la z < la this ∨ la this + 2 < la z)) → c113_G126 z = (G 126) z := fun z hz => (q113_G126 z (tz113 z hz)).trans (hf5 z hz)
        have hf9 : ∀ z, ((la z < la this ∨ la this + 2 < la z)) → c113_G128 z = (G 128) z := fun z hz => (q113_G128 z (tz113 z hz)).trans (hf6 z hz)
        have hf10 : ∀ z, ((la z < la this ∨ la this + 2 < la z)) → c113_V0 z = (V 0) z := fun z hz => (q113_V0 z (tz113 z hz)).trans (hf7 z hz)
        clear hc113
        refine pw_vl (fun x126 _ => ?_)
        refine pw_vl (fun m126 em126 => ?_)
        have hf11 : ∀ z, ((la z < la this ∨ la this + 2 < la z)) → m126 z = (G 127) z := fr_up (e0 := (G 127)) (fun _ _ => rfl) em126 (show ¬ ((la this < la this ∨ la this + 2 < la this)) from by omega)
        exact pw_some ⟨hf8, hf11, hf9, hf10, hf4⟩
      intro j70 Jj70
      refine pw_ite (fun _ => ?_) (fun _ => ?_)
      · skip
        refine pw_nn (fun a56 hn_a56 => ?_)
        obtain ⟨_, lt_a56, lb_a56⟩ := (hB.1 164 fl_164) p0 a56 hn_a56
        refine pw_b1 (fun r63 hc63 => ?_)
        clear hc63
        refine pw_ite (fun _ => ?_) (fun _ => ?_)
        · skip
          exact Jj70
        · skip
          exact pw_some ⟨(fun _ _ => rfl), (fun _ _ => rfl), (fun _ _ => rfl), (fun _ _ => rfl), hf3⟩
      · skip
        exact Jj70
    intro j40 Jj40
    refine pw_ite (fun _ => ?_) (fun _ => ?_)
    · skip
      exact Jj40 m21 hf2
    · skip
      refine pw_nn (fun a31 hn_a31 => ?_)
      have lt_a31 := ((hB.1 123 fl_123) this a31 hn_a31).2.1
      have lb_a31 : (la a31 = la this + 1 ∨ la a31 = la this + 2) := lk_123.mp ((hB.1 123 fl_123) this a31 hn_a31).2.2
      refine pw_if (fun _ => ?_)
      refine pw_if (fun _ => ?_)
      refine pw_vl (fun m39 em39 => ?_)
      have hf12 : ∀ z, ((la z < la this ∨ la this + 2 < la z)) → m39 z = (V 6) z := fr_up (e0 := (V 6)) hf2 em39 (show ¬ ((la a31 < la this ∨ la this + 2 < la a31)) from by omega)
      exact Jj40 m39 hf12
abbrev RF_X6_finish (la : Nat → Nat) (G : Nat → Nat → Int32) (P : Nat → Nat → Option Nat) (U : Nat → Nat → Int64) (V : Nat → Nat → Nat → Int32) (X : Nat → Nat → Nat → Int64) (O : Nat → Nat → Nat → Option Nat) (kd : Nat → Nat) (ln : Nat → Nat) (cnt : Nat) (this : Nat) (p0 : Nat) (p1 : Int32) : (Int32 × (Nat → Int32) × (Nat → Int32) × (Nat → Int32) × (Nat → Int32) × (Nat → Option Nat) × (Nat → Option Nat) × (Nat → Option Nat) × (Nat → Option Nat) × (Nat → Nat → Int32)) → Prop := fun t => (∀ z, ((la z < la this ∨ la this + 2 < la z)) → (t.2.1) z = (G 124) z) ∧ (∀ z, ((la z < la this ∨ la this + 2 < la z)) → (t.2.2.1) z = (G 125) z) ∧ (∀ z, ((la z < la this ∨ la this + 2 < la z)) → (t.2.2.2.1) z = (G 126) z) ∧ (∀ z, ((la z < la this ∨ la this + 2 < la z)) → (t.2.2.2.2.1) z = (G 128) z) ∧ (∀ z, ((la z < la this ∨ la this + 2 < la z)) → (t.2.2.2.2.2.1) z = (P 120) z) ∧ (∀ z, ((la z < la this ∨ la this + 2 < la z)) → (t.2.2.2.2.2.2.1) z = (P 121) z) ∧ (∀ z, ((la z < la this ∨ la this + 2 < la z)) → (t.2.2.2.2.2.2.2.1) z = (P 122) z) ∧ (∀ z, ((la z < la this ∨ la this + 2 < la z)) → (t.2.2.2.2.2.2.2.2.1) z = (P 123) z) ∧ (∀ z, ((la z < la this ∨ la this + 2 < la z)) → (t.2.2.2.2.2.2.2.2.2) z = (V 0) z) ∧ LC 120 la cnt (t.2.2.2.2.2.1) ∧ LC 121 la cnt (t.2.2.2.2.2.2.1) ∧ LC 122 la cnt (t.2.2.2.2.2.2.2.1) ∧ LC 123 la cnt (t.2.2.2.2.2.2.2.2.1)
set_option maxHeartbeats 4000000 in
set_option maxRecDepth 100000 in
theorem fr_X6_finish (la : Nat → Nat) (G : Nat → Nat → Int32) (P : Nat → Nat → Option Nat) (U : Nat → Nat → Int64) (V : Nat → Nat → Nat → Int32) (X : Nat → Nat → Nat → Int64) (O : Nat → Nat → Nat → Option Nat) (kd : Nat → Nat) (ln : Nat → Nat) (cnt : Nat) (this : Nat) (p0 : Nat) (p1 : Int32) (hB : LB la cnt P) (hlt_this : this < cnt) : pw (f_X6_finish G P U V X O kd ln cnt this p0 p1) (RF_X6_finish la G P U V X O kd ln cnt this p0 p1) := by
  unfold f_X6_finish
  refine pw_b3 (fun c12_G126 c12_G128 c12_V0 hc12 => ?_)
  have hq12 := fr_X6_append la G P U V X O kd ln cnt this p0 ((G 127) this) (p1 - ((G 127) this)) hB _ hc12
  obtain ⟨q12_G126, q12_G128, q12_V0⟩ : (∀ z, (la z < la this ∨ la this + 2 < la z) → c12_G126 z = (G 126) z) ∧ (∀ z, (la z < la this ∨ la this + 2 < la z) → c12_G128 z = (G 128) z) ∧ (∀ z, (la z < la this ∨ la this + 2 < la z) → c12_V0 z = (V 0) z) := hq12
  have tz12 : ∀ z, ((la z < la this ∨ la this + 2 < la z)) → ((la z < la this ∨ la this + 2 < la z)) := fun z hz => by omega
  have hf1 : ∀ z, ((la z < la this ∨ la this + 2 < la z)) → c12_G126 z = (G 126) z := fun z hz => (q12_G126 z (tz12 z hz)).trans (rfl)
  have hf2 : ∀ z, ((la z < la this ∨ la this + 2 < la z)) → c12_G128 z = (G 128) z := fun z hz => (q12_G128 z (tz12 z hz)).trans (rfl)
  have hf3 : ∀ z, ((la z < la this ∨ la this + 2 < la z)) → c12_V0 z = (V 0) z := fun z hz => (q12_V0 z (tz12 z hz)).trans (rfl)
  clear hc12
  refine pw_ite (fun _ => ?_) (fun _ => ?_)
  · skip
    exact pw_some ⟨(fun _ _ => rfl), (fun _ _ => rfl), hf1, hf2, (fun _ _ => rfl), (fun _ _ => rfl), (fun _ _ => rfl), (fun _ _ => rfl), hf3, (hB.1 120 fl_120), (hB.1 121 fl_121), (hB.1 122 fl_122), (hB.1 123 fl_123)⟩
  · skip
    refine pw_nn (fun a25 hn_a25 => ?_)
    have lt_a25 := ((hB.1 120 fl_120) this a25 hn_a25).2.1
    have lb_a25 : (la a25 = la this + 1 ∨ la a25 = la this + 2) := lk_120.mp ((hB.1 120 fl_120) this a25 hn_a25).2.2
    refine pw_nn (fun a31 hn_a31 => ?_)
    have lt_a31 := ((hB.1 121 fl_121) this a31 hn_a31).2.1
    have lb_a31 : (la a31 = la this + 1 ∨ la a31 = la this + 2) := lk_121.mp ((hB.1 121 fl_121) this a31 hn_a31).2.2
    refine pw_vl (fun m34 em34 => ?_)
    have hl4 : LC 120 la cnt m34 := LC_up (hB.1 120 fl_120) em34 (by omega) (by omega) (lk_120.mpr (by omega))
    have hf5 : ∀ z, ((la z < la this ∨ la this + 2 < la z)) → m34 z = (P 120) z := fr_up (e0 := (P 120)) (fun _ _ => rfl) em34 (show ¬ ((la this < la this ∨ la this + 2 < la this)) from by omega)
    refine pw_vl (fun m39 em39 => ?_)
    have hl6 : LC 121 la cnt m39 := LC_up (hB.1 121 fl_121) em39 (by omega) (by omega) (lk_121.mpr (by omega))
    have hf7 : ∀ z, ((la z < la this ∨ la this + 2 < la z)) → m39 z = (P 121) z := fr_up (e0 := (P 121)) (fun _ _ => rfl) em39 (show ¬ ((la this < la this ∨ la this + 2 < la this)) from by omega)
    refine pw_nn (fun a43 hn_a43 => ?_)
    have lt_a43 := ((hB.1 122 fl_122) this a43 hn_a43).2.1
    have lb_a43 : (la a43 = la this + 1 ∨ la a43 = la this + 2) := lk_122.mp ((hB.1 122 fl_122) this a43 hn_a43).2.2
    refine pw_nn (fun a50 hn_a50 => ?_)
    have lt_a50 := ((hB.1 123 fl_123) this a50 hn_a50).2.1
    have lb_a50 : (la a50 = la this + 1 ∨ la a50 = la this + 2) := lk_123.mp ((hB.1 123 fl_123) this a50 hn_a50).2.2
    refine pw_vl (fun m53 em53 => ?_)
    have hl8 : LC 122 la cnt m53 := LC_up (hB.1 122 fl_122) em53 (by omega) (by omega) (lk_122.mpr (by omega))
    have hf9 : ∀ z, ((la z < la this ∨ la this + 2 < la z)) → m53 z = (P 122) z := fr_up (e0 := (P 122)) (fun _ _ => rfl) em53 (show ¬ ((la this < la this ∨ la this + 2 < la this)) from by omega)
    refine pw_vl (fun m59 em59 => ?_)
    have hl10 : LC 123 la cnt m59 := LC_up (hB.1 123 fl_123) em59 (by omega) (by omega) (lk_123.mpr (by omega))
    have hf11 : ∀ z, ((la z < la this ∨ la this + 2 < la z)) → m59 z = (P 123) z := fr_up (e0 := (P 123)) (fun _ _ => rfl) em59 (show ¬ ((la this < la this ∨ la this + 2 < la this)) from by omega)
    refine pw_vl (fun m64 em64 => ?_)
    have hf12 : ∀ z, ((la z < la this ∨ la this + 2 < la z)) → m64 z = (G 124) z := fr_up (e0 := (G 124)) (fun _ _ => rfl) em64 (show ¬ ((la this < la this ∨ la this + 2 < la this)) from by omega)
    refine pw_vl (fun x72 _ => ?_)
    refine pw_vl (fun m72 em72 => ?_)
    have hf13 : ∀ z, ((la z < la this ∨ la this + 2 < la z)) → m72 z = (G 125) z := fr_up (e0 := (G 125)) (fun _ _ => rfl) em72 (show ¬ ((la this < la this ∨ la this + 2 < la this)) from by omega)
    exact pw_some ⟨hf12, hf13, hf1, hf2, hf5, hf7, hf9, hf11, hf3, hl4, hl6, hl8, hl10⟩
abbrev RF_X8_begin (la : Nat → Nat) (G : Nat → Nat → Int32) (P : Nat → Nat → Option Nat) (U : Nat → Nat → Int64) (V : Nat → Nat → Nat → Int32) (X : Nat → Nat → Nat → Int64) (O : Nat → Nat → Nat → Option Nat) (kd : Nat → Nat) (ln : Nat → Nat) (cnt : Nat) (this : Nat) (p0 : Nat) (p1 : Int32) : ((Nat → Int32) × (Nat → Int32) × (Nat → Int32) × (Nat → Int32) × (Nat → Option Nat)) → Prop := fun t => (∀ z, ((la z < la this ∨ la this < la z)) → (t.1) z = (G 162) z) ∧ (∀ z, ((la z < la this ∨ la this < la z)) → (t.2.1) z = (G 165) z) ∧ (∀ z, ((la z < la this ∨ la this < la z)) → (t.2.2.1) z = (G 166) z) ∧ (∀ z, ((la z < la this ∨ la this < la z)) → (t.2.2.2.1) z = (G 167) z) ∧ (∀ z, ((la z < la this ∨ la this < la z)) → (t.2.2.2.2) z = (P 164) z) ∧ LC 164 la cnt (t.2.2.2.2)
set_option maxHeartbeats 4000000 in
set_option maxRecDepth 100000 in
theorem fr_X8_begin (la : Nat → Nat) (G : Nat → Nat → Int32) (P : Nat → Nat → Option Nat) (U : Nat → Nat → Int64) (V : Nat → Nat → Nat → Int32) (X : Nat → Nat → Nat → Int64) (O : Nat → Nat → Nat → Option Nat) (kd : Nat → Nat) (ln : Nat → Nat) (cnt : Nat) (this : Nat) (p0 : Nat) (p1 : Int32) (hB : LB la cnt P) (hlt_this : this < cnt) (hlt_p0 : p0 < cnt) : pw (f_X8_begin G P U V X O kd ln cnt this p0 p1) (RF_X8_begin la G P U V X O kd ln cnt this p0 p1) := by
  unfold f_X8_begin
  refine pw_vl (fun m2 em2 => ?_)
  have hl1 : LC 164 la cnt m2 := LC_up (hB.1 164 fl_164) em2 (by omega) (by omega) (lk_164 _ _)
  have hf2 : ∀ z, ((la z < la this ∨ la this < la z)) → m2 z = (P 164) z := fr_up (e0 := (P 164)) (fun _ _ => rfl) em2 (show ¬ ((la this < la this ∨ la this < la this)) from by omega)
  refine pw_vl (fun x12 _ => ?_)
  refine pw_vl (fun m12 em12 => ?_)
  have hf3 : ∀ z, ((la z < la this ∨ la this < la z)) → m12 z = (G 165) z := fr_up (e0 := (G 165)) (fun _ _ => rfl) em12 (show ¬ ((la this < la this ∨ la this < la this)) from by omega)
  refine pw_vl (fun m17 em17 => ?_)
  have hf4 : ∀ z, ((la z < la this ∨ la this < la z)) → m17 z = (G 166) z := fr_up (e0 := (G 166)) (fun _ _ => rfl) em17 (show ¬ ((la this < la this ∨ la this < la this)) from by omega)
  refine pw_vl (fun m22 em22 => ?_)
  have hf5 : ∀ z, ((la z < la this ∨ la this < la z)) → m22 z = (G 162) z := fr_up (e0 := (G 162)) (fun _ _ => rfl) em22 (show ¬ ((la this < la this ∨ la this < la this)) from by omega)
  refine pw_vl (fun m27 em27 => ?_)
  have hf6 : ∀ z, ((la z < la this ∨ la this < la z)) → m27 z = (G 167) z := fr_up (e0 := (G 167)) (fun _ _ => rfl) em27 (show ¬ ((la this < la this ∨ la this < la this)) from by omega)
  exact pw_some ⟨hf5, hf3, hf4, hf6, hf2, hl1⟩
abbrev RF_X8_takeWord (la : Nat → Nat) (G : Nat → Nat → Int32) (P : Nat → Nat → Option Nat) (U : Nat → Nat → Int64) (V : Nat → Nat → Nat → Int32) (X : Nat → Nat → Nat → Int64) (O : Nat → Nat → Nat → Option Nat) (kd : Nat → Nat) (ln : Nat → Nat) (cnt : Nat) (this : Nat) : ((Nat → Int32) × (Nat → Int32) × (Nat → Int32) × (Nat → Int32)) → Prop := fun t => (∀ z, ((la z < la this ∨ la this < la z)) → (t.1) z = (G 160) z) ∧ (∀ z, ((la z < la this ∨ la this < la z)) → (t.2.1) z = (G 161) z) ∧ (∀ z, ((la z < la this ∨ la this < la z)) → (t.2.2.1) z = (G 163) z) ∧ (∀ z, ((la z < la this ∨ la this < la z)) → (t.2.2.2) z = (G 166) z)
set_option maxHeartbeats 4000000 in
set_option maxRecDepth 100000 in
theorem fr_X8_takeWord (la : Nat → Nat) (G : Nat → Nat → Int32) (P : Nat → Nat → Option Nat) (U : Nat → Nat → Int64) (V : Nat → Nat → Nat → Int32) (X : Nat → Nat → Nat → Int64) (O : Nat → Nat → Nat → Option Nat) (kd : Nat → Nat) (ln : Nat → Nat) (cnt : Nat) (this : Nat) (hB : LB la cnt P) : pw (f_X8_takeWord G P U V X O kd ln cnt this) (RF_X8_takeWord la G P U V X O kd ln cnt this) := by
  unfold f_X8_takeWord
  refine pw_vl (fun x5 _ => ?_)
  refine pw_vl (fun m5 em5 => ?_)
  have hf1 : ∀ z, ((la z < la this ∨ la this < la z)) → m5 z = (G 160) z := fr_up (e0 := (G 160)) (fun _ _ => rfl) em5 (show ¬ ((la this < la this ∨ la this < la this)) from by omega)
  refine pw_vl (fun m10 em10 => ?_)
  have hf2 : ∀ z, ((la z < la this ∨ la this < la z)) → m10 z = (G 163) z := fr_up (e0 := (G 163)) (fun _ _ => rfl) em10 (show ¬ ((la this < la this ∨ la this < la this)) from by omega)
  refine pw_jn (fun k83 => ∀ (c83_G163 : Nat → Int32) (c83_G166 : Nat → Int32), (∀ z, ((la z < la this ∨ la this < la z)) → c83_G163 z = (G 163) z) → (∀ z, ((la z < la this ∨ la this < la z)) → c83_G166 z = (G 166) z) → pw (k83 c83_G163 c83_G166) (RF_X8_takeWord la G P U V X O kd ln cnt this)) ?_ ?_
  · intro c83_G163 c83_G166 hf3 hf4
    show pw _ _
    refine pw_vl (fun x93 _ => ?_)
    refine pw_vl (fun m93 em93 => ?_)
    have hf5 : ∀ z, ((la z < la this ∨ la this < la z)) → m93 z = (G 161) z := fr_up (e0 := (G 161)) (fun _ _ => rfl) em93 (show ¬ ((la this < la this ∨ la this < la this)) from by omega)
    exact pw_some ⟨hf1, hf5, hf3, hf4⟩
  intro k83 Jk83
  have lp13 : ∀ (n13 : Nat) (d13_G163 : Nat → Int32) (d13_G166 : Nat → Int32), (∀ z, ((la z < la this ∨ la this < la z)) → d13_G163 z = (G 163) z) → (∀ z, ((la z < la this ∨ la this < la z)) → d13_G166 z = (G 166) z) → pw (L_X8_takeWord_13 G P U V X O kd ln cnt this m5 k83 n13 d13_G163 d13_G166) (RF_X8_takeWord la G P U V X O kd ln cnt this) := by
    intro n13
    induction n13 with
    | zero => intros; exact pw_none
    | succ n13 ih13 =>
      intro d13_G163 d13_G166 hf6 hf7
      show pw (B_X8_takeWord_13 G P U V X O kd ln cnt this m5 k83 (L_X8_takeWord_13 G P U V X O kd ln cnt this m5 k83 n13) d13_G163 d13_G166) _
      unfold B_X8_takeWord_13
      refine pw_ite (fun _ => ?_) (fun _ => ?_)
      · skip
        exact Jk83 d13_G163 d13_G166 hf6 hf7
      · skip
        refine pw_nn (fun a25 hn_a25 => ?_)
        obtain ⟨_, lt_a25, lb_a25⟩ := (hB.1 164 fl_164) this a25 hn_a25
        refine pw_if (fun _ => ?_)
        refine pw_b1 (fun r33 hc33 => ?_)
        clear hc33
        refine pw_ite (fun _ => ?_) (fun _ => ?_)
        · skip
          exact Jk83 d13_G163 d13_G166 hf6 hf7
        · skip
          refine pw_jn (fun j67 => ∀ (t67_0 : Int32), pw (j67 t67_0) (RF_X8_takeWord la G P U V X O kd ln cnt this)) ?_ ?_
          · intro t67_0
            show pw _ _
            refine pw_if (fun _ => ?_)
            refine pw_vl (fun m67 em67 => ?_)
            have hf8 : ∀ z, ((la z < la this ∨ la this < la z)) → m67 z = (G 163) z := fr_up (e0 := (G 163)) hf6 em67 (show ¬ ((la this < la this ∨ la this < la this)) from by omega)
            refine pw_vl (fun x77 _ => ?_)
            refine pw_vl (fun m77 em77 => ?_)
            have hf9 : ∀ z, ((la z < la this ∨ la this < la z)) → m77 z = (G 166) z := fr_up (e0 := (G 166)) hf7 em77 (show ¬ ((la this < la this ∨ la this < la this)) from by omega)
            exact ih13 m67 m77 hf8 hf9
          intro j67 Jj67
          refine pw_jn (fun j62 => pw (j62 ()) (RF_X8_takeWord la G P U V X O kd ln cnt this)) ?_ ?_
          · show pw _ _
            exact Jj67 1
          intro j62 Jj62
          refine pw_ite (fun _ => ?_) (fun _ => ?_)
          · skip
            refine pw_nn (fun a48 hn_a48 => ?_)
            obtain ⟨_, lt_a48, lb_a48⟩ := (hB.1 164 fl_164) this a48 hn_a48
            refine pw_if (fun _ => ?_)
            refine pw_b1 (fun r56 hc56 => ?_)
            clear hc56
            refine pw_ite (fun _ => ?_) (fun _ => ?_)
            · skip
              exact Jj67 0
            · skip
              exact Jj62
          · skip
            exact Jj62
  exact lp13 NN m10 (G 166) hf2 (fun _ _ => rfl)
abbrev RF_X8_next (la : Nat → Nat) (G : Nat → Nat → Int32) (P : Nat → Nat → Option Nat) (U : Nat → Nat → Int64) (V : Nat → Nat → Nat → Int32) (X : Nat → Nat → Nat → Int64) (O : Nat → Nat → Nat → Option Nat) (kd : Nat → Nat) (ln : Nat → Nat) (cnt : Nat) (this : Nat) : (Int32 × (Nat → Int32) × (Nat → Int32) × (Nat → Int32) × (Nat → Int32) × (Nat → Int32) × (Nat → Int32)) → Prop := fun t => (∀ z, ((la z < la this ∨ la this < la z)) → (t.2.1) z = (G 160) z) ∧ (∀ z, ((la z < la this ∨ la this < la z)) → (t.2.2.1) z = (G 161) z) ∧ (∀ z, ((la z < la this ∨ la this < la z)) → (t.2.2.2.1) z = (G 162) z) ∧ (∀ z, ((la z < la this ∨ la this < la z)) → (t.2.2.2.2.1) z = (G 163) z) ∧ (∀ z, ((la z < la this ∨ la this < la z)) → (t.2.2.2.2.2.1) z = (G 166) z) ∧ (∀ z, ((la z < la this ∨ la this < la z)) → (t.2.2.2.2.2.2) z = (G 167) z)
set_option maxHeartbeats 4000000 in
set_option maxRecDepth 100000 in
theorem fr_X8_next (la : Nat → Nat) (G : Nat → Nat → Int32) (P : Nat → Nat → Option Nat) (U : Nat → Nat → Int64) (V : Nat → Nat → Nat → Int32) (X : Nat → Nat → Nat → Int64) (O : Nat → Nat → Nat → Option Nat) (kd : Nat → Nat) (ln : Nat → Nat) (cnt : Nat) (this : Nat) (hB : LB la cnt P) : pw (f_X8_next G P U V X O kd ln cnt this) (RF_X8_next la G P U V X O kd ln cnt this) := by
  unfold f_X8_next
  have lp0 : ∀ (n0 : Nat) (d0_G162 : Nat → Int32) (d0_G166 : Nat → Int32) (d0_G167 : Nat → Int32), (∀ z, ((la z < la this ∨ la this < la z)) → d0_G162 z = (G 162) z) → (∀ z, ((la z < la this ∨ la this < la z)) → d0_G166 z = (G 166) z) → (∀ z, ((la z < la this ∨ la this < la z)) → d0_G167 z = (G 167) z) → pw (L_X8_next_0 G P U V X O kd ln cnt this n0 d0_G162 d0_G166 d0_G167) (RF_X8_next la G P U V X O kd ln cnt this) := by
    intro n0
    induction n0 with
    | zero => intros; exact pw_none
    | succ n0 ih0 =>
      intro d0_G162 d0_G166 d0_G167 hf1 hf2 hf3
      show pw (B_X8_next_0 G P U V X O kd ln cnt this (L_X8_next_0 G P U V X O kd ln cnt this n0) d0_G162 d0_G166 d0_G167) _
      unfold B_X8_next_0
      refine pw_ite (fun _ => ?_) (fun _ => ?_)
      · skip
        exact pw_some ⟨(fun _ _ => rfl), (fun _ _ => rfl), hf1, (fun _ _ => rfl), hf2, hf3⟩
      · skip
        refine pw_nn (fun a12 hn_a12 => ?_)
        obtain ⟨_, lt_a12, lb_a12⟩ := (hB.1 164 fl_164) this a12 hn_a12
        refine pw_if (fun _ => ?_)
        refine pw_vl (fun x20 _ => ?_)
        refine pw_jn (fun j85 => ∀ (c85_G162 : Nat → Int32) (c85_G167 : Nat → Int32), (∀ z, ((la z < la this ∨ la this < la z)) → c85_G162 z = (G 162) z) → (∀ z, ((la z < la this ∨ la this < la z)) → c85_G167 z = (G 167) z) → pw (j85 c85_G162 c85_G167) (RF_X8_next la G P U V X O kd ln cnt this)) ?_ ?_
        · intro c85_G162 c85_G167 hf4 hf5
          show pw _ _
          refine pw_vl (fun x92 _ => ?_)
          refine pw_vl (fun m92 em92 => ?_)
          have hf6 : ∀ z, ((la z < la this ∨ la this < la z)) → m92 z = (G 166) z := fr_up (e0 := (G 166)) hf2 em92 (show ¬ ((la this < la this ∨ la this < la this)) from by omega)
          exact ih0 c85_G162 m92 c85_G167 hf4 hf6 hf5
        intro j85 Jj85
        refine pw_ite (fun _ => ?_) (fun _ => ?_)
        · skip
          refine pw_vl (fun x34 _ => ?_)
          refine pw_vl (fun m34 em34 => ?_)
          have hf7 : ∀ z, ((la z < la this ∨ la this < la z)) → m34 z = (G 162) z := fr_up (e0 := (G 162)) hf1 em34 (show ¬ ((la this < la this ∨ la this < la this)) from by omega)
          exact Jj85 m34 d0_G167 hf7 hf3
        · skip
          refine pw_ite (fun _ => ?_) (fun _ => ?_)
          · skip
            refine pw_jn (fun j59 => ∀ (t59_0 : Int32), pw (j59 t59_0) (RF_X8_next la G P U V X O kd ln cnt this)) ?_ ?_
            · intro t59_0
              show pw _ _
              refine pw_if (fun _ => ?_)
              refine pw_vl (fun m59 em59 => ?_)
              have hf8 : ∀ z, ((la z < la this ∨ la this < la z)) → m59 z = (G 167) z := fr_up (e0 := (G 167)) hf3 em59 (show ¬ ((la this < la this ∨ la this < la this)) from by omega)
              exact Jj85 d0_G162 m59 hf1 hf8
            intro j59 Jj59
            refine pw_ite (fun _ => ?_) (fun _ => ?_)
            · skip
              exact Jj59 1
            · skip
              exact Jj59 0
          · skip
            refine pw_ite (fun _ => ?_) (fun _ => ?_)
            · skip
              refine pw_b1 (fun r73 hc73 => ?_)
              clear hc73
              refine pw_ite (fun _ => ?_) (fun _ => ?_)
              · skip
                exact Jj85 d0_G162 d0_G167 hf1 hf3
              · skip
                refine pw_b4 (fun c80_G160 c80_G161 c80_G163 c80_G166 hc80 => ?_)
                have hq80 := fr_X8_takeWord la (va_up (va_up (va_up G 162 d0_G162) 166 d0_G166) 167 d0_G167) P U V X O kd ln cnt this hB _ hc80
                obtain ⟨q80_G160, q80_G161, q80_G163, q80_G166⟩ : (∀ z, (la z < la this ∨ la this < la z) → c80_G160 z = (G 160) z) ∧ (∀ z, (la z < la this ∨ la this < la z) → c80_G161 z = (G 161) z) ∧ (∀ z, (la z < la this ∨ la this < la z) → c80_G163 z = (G 163) z) ∧ (∀ z, (la z < la this ∨ la this < la z) → c80_G166 z = d0_G166 z) := hq80
                have tz80 : ∀ z, ((la z < la this ∨ la this < la z)) → ((la z < la this ∨ la this < la z)) := fun z hz => by omega
                have hf9 : ∀ z, ((la z < la this ∨ la this < la z)) → c80_G160 z = (G 160) z := fun z hz => (q80_G160 z (tz80 z hz)).trans (rfl)
                have hf10 : ∀ z, ((la z < la this ∨ la this < la z)) → c80_G161 z = (G 161) z := fun z hz => (q80_G161 z (tz80 z hz)).trans (rfl)
                have hf11 : ∀ z, ((la z < la this ∨ la this < la z)) → c80_G163 z = (G 163) z := fun z hz => (q80_G163 z (tz80 z hz)).trans (rfl)
                have hf12 : ∀ z, ((la z < la this ∨ la this < la z)) → c80_G166 z = (G 166) z := fun z hz => (q80_G166 z (tz80 z hz)).trans (hf2 z hz)
                clear hc80
                exact pw_some ⟨hf9, hf10, hf1, hf11, hf12, hf3⟩
            · skip
              exact Jj85 d0_G162 d0_G167 hf1 hf3
  exact lp0 NN (G 162) (G 166) (G 167) (fun _ _ => rfl) (fun _ _ => rfl) (fun _ _ => rfl)
abbrev RF_X11_write (la : Nat → Nat) (G : Nat → Nat → Int32) (P : Nat → Nat → Option Nat) (U : Nat → Nat → Int64) (V : Nat → Nat → Nat → Int32) (X : Nat → Nat → Nat → Int64) (O : Nat → Nat → Nat → Option Nat) (kd : Nat → Nat) (ln : Nat → Nat) (cnt : Nat) (this : Nat) (p0 : Int32) (p1 : Int32) : (Int32 × (Nat → Int32) × (Nat → Int32) × (Nat → Int32) × (Nat → Int32) × (Nat → Int32) × (Nat → Int32) × (Nat → Int32) × (Nat → Int32) × (Nat → Int32) × (Nat → Int32) × (Nat → Int32) × (Nat → Int32) × (Nat → Int32) × (Nat → Int32) × (Nat → Int32) × (Nat → Int32) × (Nat → Option Nat) × (Nat → Option Nat) × (Nat → Option Nat) × (Nat → Option Nat) × (Nat → Option Nat) × (Nat → Option Nat) × (Nat → Option Nat) × (Nat → Option Nat) × (Nat → Option Nat) × (Nat → Option Nat) × (Nat → Int64) × (Nat → Nat → Int32) × (Nat → Nat → Int32) × (Nat → Nat → Int32) × (Nat → Nat → Int32) × (Nat → Nat → Int32)) → Prop := fun t => (∀ z, ((la z < 10 ∨ 10 < la z) ∧ (la z < 310 ∨ 310 < la z) ∧ (la z < 320 ∨ 320 + 2 < la z) ∧ (la z < 90 ∨ 90 + 8 < la z)) → (t.2.1) z = (G 60) z) ∧ (∀ z, ((la z < 10 ∨ 10 < la z) ∧ (la z < 310 ∨ 310 < la z) ∧ (la z < 320 ∨ 320 + 2 < la z) ∧ (la z < 90 ∨ 90 + 8 < la z)) → (t.2.2.1) z = (G 124) z) ∧ (∀ z, ((la z < 10 ∨ 10 < la z) ∧ (la z < 310 ∨ 310 < la z) ∧ (la z < 320 ∨ 320 + 2 < la z) ∧ (la z < 90 ∨ 90 + 8 < la z)) → (t.2.2.2.1) z = (G 125) z) ∧ (∀ z, ((la z < 10 ∨ 10 < la z) ∧ (la z < 310 ∨ 310 < la z) ∧ (la z < 320 ∨ 320 + 2 < la z) ∧ (la z < 90 ∨ 90 + 8 < la z)) → (t.2.2.2.2.1) z = (G 126) z) ∧ (∀ z, ((la z < 10 ∨ 10 < la z) ∧ (la z < 310 ∨ 310 < la z) ∧ (la z < 320 ∨ 320 + 2 < la z) ∧ (la z < 90 ∨ 90 + 8 < la z)) → (t.2.2.2.2.2.1) z = (G 127) z) ∧ (∀ z, ((la z < 10 ∨ 10 < la z) ∧ (la z < 310 ∨ 310 < la z) ∧ (la z < 320 ∨ 320 + 2 < la z) ∧ (la z < 90 ∨ 90 + 8 < la z)) → (t.2.2.2.2.2.2.1) z = (G 128) z) ∧ (∀ z, ((la z < 10 ∨ 10 < la z) ∧ (la z < 310 ∨ 310 < la z) ∧ (la z < 320 ∨ 320 + 2 < la z) ∧ (la z < 90 ∨ 90 + 8 < la z)) → (t.2.2.2.2.2.2.2.1) z = (G 141) z) ∧ (∀ z, ((la z < 10 ∨ 10 < la z) ∧ (la z < 310 ∨ 310 < la z) ∧ (la z < 320 ∨ 320 + 2 < la z) ∧ (la z < 90 ∨ 90 + 8 < la z)) → (t.2.2.2.2.2.2.2.2.1) z = (G 160) z) ∧ (∀ z, ((la z < 10 ∨ 10 < la z) ∧ (la z < 310 ∨ 310 < la z) ∧ (la z < 320 ∨ 320 + 2 < la z) ∧ (la z < 90 ∨ 90 + 8 < la z)) → (t.2.2.2.2.2.2.2.2.2.1) z = (G 161) z) ∧ (∀ z, ((la z < 10 ∨ 10 < la z) ∧ (la z < 310 ∨ 310 < la z) ∧ (la z < 320 ∨ 320 + 2 < la z) ∧ (la z < 90 ∨ 90 + 8 < la z)) → (t.2.2.2.2.2.2.2.2.2.2.1) z = (G 162) z) ∧ (∀ z, ((la z < 10 ∨ 10 < la z) ∧ (la z < 310 ∨ 310 < la z) ∧ (la z < 320 ∨ 320 + 2 < la z) ∧ (la z < 90 ∨ 90 + 8 < la z)) → (t.2.2.2.2.2.2.2.2.2.2.2.1) z = (G 163) z) ∧ (∀ z, ((la z < 10 ∨ 10 < la z) ∧ (la z < 310 ∨ 310 < la z) ∧ (la z < 320 ∨ 320 + 2 < la z) ∧ (la z < 90 ∨ 90 + 8 < la z)) → (t.2.2.2.2.2.2.2.2.2.2.2.2.1) z = (G 165) z) ∧ (∀ z, ((la z < 10 ∨ 10 < la z) ∧ (la z < 310 ∨ 310 < la z) ∧ (la z < 320 ∨ 320 + 2 < la z) ∧ (la z < 90 ∨ 90 + 8 < la z)) → (t.2.2.2.2.2.2.2.2.2.2.2.2.2.1) z = (G 166) z) ∧ (∀ z, ((la z < 10 ∨ 10 < la z) ∧ (la z < 310 ∨ 310 < la z) ∧ (la z < 320 ∨ 320 + 2 < la z) ∧ (la z < 90 ∨ 90 + 8 < la z)) → (t.2.2.2.2.2.2.2.2.2.2.2.2.2.2.1) z = (G 167) z) ∧ (∀ z, ((la z < 10 ∨ 10 < la z) ∧ (la z < 310 ∨ 310 < la z) ∧ (la z < 320 ∨ 320 + 2 < la z) ∧ (la z < 90 ∨ 90 + 8 < la z)) → (t.2.2.2.2.2.2.2.2.2.2.2.2.2.2.2.1) z = (G 183) z) ∧ (∀ z, ((la z < 10 ∨ 10 < la z) ∧ (la z < 310 ∨ 310 < la z) ∧ (la z < 320 ∨ 320 + 2 < la z) ∧ (la z < 90 ∨ 90 + 8 < la z)) → (t.2.2.2.2.2.2.2.2.2.2.2.2.2.2.2.2.1) z = (G 203) z) ∧ (∀ z, ((la z < 10 ∨ 10 < la z) ∧ (la z < 310 ∨ 310 < la z) ∧ (la z < 320 ∨ 320 + 2 < la z) ∧ (la z < 90 ∨ 90 + 8 < la z)) → (t.2.2.2.2.2.2.2.2.2.2.2.2.2.2.2.2.2.1) z = (P 66) z) ∧ (∀ z, ((la z < 10 ∨ 10 < la z) ∧ (la z < 310 ∨ 310 < la z) ∧ (la z < 320 ∨ 320 + 2 < la z) ∧ (la z < 90 ∨ 90 + 8 < la z)) → (t.2.2.2.2.2.2.2.2.2.2.2.2.2.2.2.2.2.2.1) z = (P 120) z) ∧ (∀ z, ((la z < 10 ∨ 10 < la z) ∧ (la z < 310 ∨ 310 < la z) ∧ (la z < 320 ∨ 320 + 2 < la z) ∧ (la z < 90 ∨ 90 + 8 < la z)) → (t.2.2.2.2.2.2.2.2.2.2.2.2.2.2.2.2.2.2.2.1) z = (P 121) z) ∧ (∀ z, ((la z < 10 ∨ 10 < la z) ∧ (la z < 310 ∨ 310 < la z) ∧ (la z < 320 ∨ 320 + 2 < la z) ∧ (la z < 90 ∨ 90 + 8 < la z)) → (t.2.2.2.2.2.2.2.2.2.2.2.2.2.2.2.2.2.2.2.2.1) z = (P 122) z) ∧ (∀ z, ((la z < 10 ∨ 10 < la z) ∧ (la z < 310 ∨ 310 < la z) ∧ (la z < 320 ∨ 320 + 2 < la z) ∧ (la z < 90 ∨ 90 + 8 < la z)) → (t.2.2.2.2.2.2.2.2.2.2.2.2.2.2.2.2.2.2.2.2.2.1) z = (P 123) z) ∧ (∀ z, ((la z < 10 ∨ 10 < la z) ∧ (la z < 310 ∨ 310 < la z) ∧ (la z < 320 ∨ 320 + 2 < la z) ∧ (la z < 90 ∨ 90 + 8 < la z)) → (t.2.2.2.2.2.2.2.2.2.2.2.2.2.2.2.2.2.2.2.2.2.2.1) z = (P 164) z) ∧ (∀ z, ((la z < 10 ∨ 10 < la z) ∧ (la z < 310 ∨ 310 < la z) ∧ (la z < 320 ∨ 320 + 2 < la z) ∧ (la z < 90 ∨ 90 + 8 < la z)) → (t.2.2.2.2.2.2.2.2.2.2.2.2.2.2.2.2.2.2.2.2.2.2.2.1) z = (P 181) z) ∧ (∀ z, ((la z < 10 ∨ 10 < la z) ∧ (la z < 310 ∨ 310 < la z) ∧ (la z < 320 ∨ 320 + 2 < la z) ∧ (la z < 90 ∨ 90 + 8 < la z)) → (t.2.2.2.2.2.2.2.2.2.2.2.2.2.2.2.2.2.2.2.2.2.2.2.2.1) z = (P 182) z) ∧ (∀ z, ((la z < 10 ∨ 10 < la z) ∧ (la z < 310 ∨ 310 < la z) ∧ (la z < 320 ∨ 320 + 2 < la z) ∧ (la z < 90 ∨ 90 + 8 < la z)) → (t.2.2.2.2.2.2.2.2.2.2.2.2.2.2.2.2.2.2.2.2.2.2.2.2.2.1) z = (P 186) z) ∧ (∀ z, ((la z < 10 ∨ 10 < la z) ∧ (la z < 310 ∨ 310 < la z) ∧ (la z < 320 ∨ 320 + 2 < la z) ∧ (la z < 90 ∨ 90 + 8 < la z)) → (t.2.2.2.2.2.2.2.2.2.2.2.2.2.2.2.2.2.2.2.2.2.2.2.2.2.2.1) z = (P 187) z) ∧ (∀ z, ((la z < 10 ∨ 10 < la z) ∧ (la z < 310 ∨ 310 < la z) ∧ (la z < 320 ∨ 320 + 2 < la z) ∧ (la z < 90 ∨ 90 + 8 < la z)) → (t.2.2.2.2.2.2.2.2.2.2.2.2.2.2.2.2.2.2.2.2.2.2.2.2.2.2.2.1) z = (U 184) z) ∧ (∀ z, ((la z < 10 ∨ 10 < la z) ∧ (la z < 310 ∨ 310 < la z) ∧ (la z < 320 ∨ 320 + 2 < la z) ∧ (la z < 90 ∨ 90 + 8 < la z)) → (t.2.2.2.2.2.2.2.2.2.2.2.2.2.2.2.2.2.2.2.2.2.2.2.2.2.2.2.2.1) z = (V 0) z) ∧ (∀ z, ((la z < 10 ∨ 10 < la z) ∧ (la z < 310 ∨ 310 < la z) ∧ (la z < 320 ∨ 320 + 2 < la z) ∧ (la z < 90 ∨ 90 + 8 < la z)) → (t.2.2.2.2.2.2.2.2.2.2.2.2.2.2.2.2.2.2.2.2.2.2.2.2.2.2.2.2.2.1) z = (V 1) z) ∧ (∀ z, ((la z < 10 ∨ 10 < la z) ∧ (la z < 310 ∨ 310 < la z) ∧ (la z < 320 ∨ 320 + 2 < la z) ∧ (la z < 90 ∨ 90 + 8 < la z)) → (t.2.2.2.2.2.2.2.2.2.2.2.2.2.2.2.2.2.2.2.2.2.2.2.2.2.2.2.2.2.2.1) z = (V 2) z) ∧ (∀ z, ((la z < 10 ∨ 10 < la z) ∧ (la z < 310 ∨ 310 < la z) ∧ (la z < 320 ∨ 320 + 2 < la z) ∧ (la z < 90 ∨ 90 + 8 < la z)) → (t.2.2.2.2.2.2.2.2.2.2.2.2.2.2.2.2.2.2.2.2.2.2.2.2.2.2.2.2.2.2.2.1) z = (V 6) z) ∧ (∀ z, ((la z < 10 ∨ 10 < la z) ∧ (la z < 310 ∨ 310 < la z) ∧ (la z < 320 ∨ 320 + 2 < la z) ∧ (la z < 90 ∨ 90 + 8 < la z)) → (t.2.2.2.2.2.2.2.2.2.2.2.2.2.2.2.2.2.2.2.2.2.2.2.2.2.2.2.2.2.2.2.2) z = (V 12) z) ∧ LC 66 la cnt (t.2.2.2.2.2.2.2.2.2.2.2.2.2.2.2.2.2.1) ∧ LC 120 la cnt (t.2.2.2.2.2.2.2.2.2.2.2.2.2.2.2.2.2.2.1) ∧ LC 121 la cnt (t.2.2.2.2.2.2.2.2.2.2.2.2.2.2.2.2.2.2.2.1) ∧ LC 122 la cnt (t.2.2.2.2.2.2.2.2.2.2.2.2.2.2.2.2.2.2.2.2.1) ∧ LC 123 la cnt (t.2.2.2.2.2.2.2.2.2.2.2.2.2.2.2.2.2.2.2.2.2.1) ∧ LC 164 la cnt (t.2.2.2.2.2.2.2.2.2.2.2.2.2.2.2.2.2.2.2.2.2.2.1) ∧ LC 181 la cnt (t.2.2.2.2.2.2.2.2.2.2.2.2.2.2.2.2.2.2.2.2.2.2.2.1) ∧ LC 182 la cnt (t.2.2.2.2.2.2.2.2.2.2.2.2.2.2.2.2.2.2.2.2.2.2.2.2.1) ∧ LC 186 la cnt (t.2.2.2.2.2.2.2.2.2.2.2.2.2.2.2.2.2.2.2.2.2.2.2.2.2.1) ∧ LC 187 la cnt (t.2.2.2.2.2.2.2.2.2.2.2.2.2.2.2.2.2.2.2.2.2.2.2.2.2.2.1)
set_option maxHeartbeats 4000000 in
set_option maxRecDepth 100000 in
theorem fr_X11_write (la : Nat → Nat) (G : Nat → Nat → Int32) (P : Nat → Nat → Option Nat) (U : Nat → Nat → Int64) (V : Nat → Nat → Nat → Int32) (X : Nat → Nat → Nat → Int64) (O : Nat → Nat → Nat → Option Nat) (kd : Nat → Nat) (ln : Nat → Nat) (cnt : Nat) (this : Nat) (p0 : Int32) (p1 : Int32) (hB : LB la cnt P) (hlt_this : this < cnt) (hp0 : la this = 200) : pw (f_X11_write G P U V X O kd ln cnt this p0 p1) (RF_X11_write la G P U V X O kd ln cnt this p0 p1) := by
  unfold f_X11_write
  refine pw_nn (fun a1 hn_a1 => ?_)
  have lt_a1 := ((hB.1 220 fl_220) this a1 hn_a1).2.1
  have lb_a1 : la a1 = 10 := lk_220.mp ((hB.1 220 fl_220) this a1 hn_a1).2.2
  refine pw_b2 (fun r4 c4_G141 hc4 => ?_)
  have hq4 := fr_X7_take la G P U V X O kd ln cnt a1 hB _ hc4
  have q4_G141 : (∀ z, (la z < la a1 ∨ la a1 < la z) → c4_G141 z = (G 141) z) := hq4
  have tz4 : ∀ z, ((la z < 10 ∨ 10 < la z) ∧ (la z < 310 ∨ 310 < la z) ∧ (la z < 320 ∨ 320 + 2 < la z) ∧ (la z < 90 ∨ 90 + 8 < la z)) → ((la z < la a1 ∨ la a1 < la z)) := fun z hz => by omega
  have hf1 : ∀ z, ((la z < 10 ∨ 10 < la z) ∧ (la z < 310 ∨ 310 < la z) ∧ (la z < 320 ∨ 320 + 2 < la z) ∧ (la z < 90 ∨ 90 + 8 < la z)) → c4_G141 z = (G 141) z := fun z hz => (q4_G141 z (tz4 z hz)).trans (rfl)
  clear hc4 hq4
  refine pw_b1 (fun r11 hc11 => ?_)
  clear hc11
  refine pw_ite (fun _ => ?_) (fun _ => ?_)
  · skip
    exact pw_some ⟨(fun _ _ => rfl), (fun _ _ => rfl), (fun _ _ => rfl), (fun _ _ => rfl), (fun _ _ => rfl), (fun _ _ => rfl), hf1, (fun _ _ => rfl), (fun _ _ => rfl), (fun _ _ => rfl), (fun _ _ => rfl), (fun _ _ => rfl), (fun _ _ => rfl), (fun _ _ => rfl), (fun _ _ => rfl), (fun _ _ => rfl), (fun _ _ => rfl), (fun _ _ => rfl), (fun _ _ => rfl), (fun _ _ => rfl), (fun _ _ => rfl), (fun _ _ => rfl), (fun _ _ => rfl), (fun _ _ => rfl), (fun _ _ => rfl), (fun _ _ => rfl), (fun _ _ => rfl), (fun _ _ => rfl), (fun _ _ => rfl), (fun _ _ => rfl), (fun _ _ => rfl), (fun _ _ => rfl), (hB.1 66 fl_66), (hB.1 120 fl_120), (hB.1 121 fl_121), (hB.1 122 fl_122), (hB.1 123 fl_123), (hB.1 164 fl_164), (hB.1 181 fl_181), (hB.1 182 fl_182), (hB.1 186 fl_186), (hB.1 187 fl_187)⟩
  · skip
    refine pw_nn (fun a21 hn_a21 => ?_)
    have lt_a21 := ((hB.1 220 fl_220) this a21 hn_a21).2.1
    have lb_a21 : la a21 = 10 := lk_220.mp ((hB.1 220 fl_220) this a21 hn_a21).2.2
    refine pw_b1 (fun r25 hc25 => ?_)
    clear hc25
    refine pw_ite (fun _ => ?_) (fun _ => ?_)
    · skip
      refine pw_nn (fun a34 hn_a34 => ?_)
      have lt_a34 := ((hB.1 234 fl_234) this a34 hn_a34).2.1
      have lb_a34 : la a34 = 310 := lk_234.mp ((hB.1 234 fl_234) this a34 hn_a34).2.2
      refine pw_nn (fun a38 hn_a38 => ?_)
      have lt_a38 := ((hB.1 220 fl_220) this a38 hn_a38).2.1
      have lb_a38 : la a38 = 10 := lk_220.mp ((hB.1 220 fl_220) this a38 hn_a38).2.2
      refine pw_nn (fun a41 hn_a41 => ?_)
      have lt_a41 := ((hB.1 140 fl_140) a38 a41 hn_a41).2.1
      have lb_a41 : la a41 = la a38 + 1 := lk_140.mp ((hB.1 140 fl_140) a38 a41 hn_a41).2.2
      refine pw_b5 (fun c45_G162 c45_G165 c45_G166 c45_G167 c45_P164 hc45 => ?_)
      have hq45 := fr_X8_begin la (va_up G 141 c4_G141) P U V X O kd ln cnt a34 a41 r4 hB lt_a34 lt_a41 _ hc45
      obtain ⟨q45_G162, q45_G165, q45_G166, q45_G167, q45_P164, ql45_164⟩ : (∀ z, (la z < la a34 ∨ la a34 < la z) → c45_G162 z = (G 162) z) ∧ (∀ z, (la z < la a34 ∨ la a34 < la z) → c45_G165 z = (G 165) z) ∧ (∀ z, (la z < la a34 ∨ la a34 < la z) → c45_G166 z = (G 166) z) ∧ (∀ z, (la z < la a34 ∨ la a34 < la z) → c45_G167 z = (G 167) z) ∧ (∀ z, (la z < la a34 ∨ la a34 < la z) → c45_P164 z = (P 164) z) ∧ LC 164 la cnt c45_P164 := hq45
      have tz45 : ∀ z, ((la z < 10 ∨ 10 < la z) ∧ (la z < 310 ∨ 310 < la z) ∧ (la z < 320 ∨ 320 + 2 < la z) ∧ (la z < 90 ∨ 90 + 8 < la z)) → ((la z < la a34 ∨ la a34 < la z)) := fun z hz => by omega
      have hf2 : ∀ z, ((la z < 10 ∨ 10 < la z) ∧ (la z < 310 ∨ 310 < la z) ∧ (la z < 320 ∨ 320 + 2 < la z) ∧ (la z < 90 ∨ 90 + 8 < la z)) → c45_G162 z = (G 162) z := fun z hz => (q45_G162 z (tz45 z hz)).trans (rfl)
      have hf3 : ∀ z, ((la z < 10 ∨ 10 < la z) ∧ (la z < 310 ∨ 310 < la z) ∧ (la z < 320 ∨ 320 + 2 < la z) ∧ (la z < 90 ∨ 90 + 8 < la z)) → c45_G165 z = (G 165) z := fun z hz => (q45_G165 z (tz45 z hz)).trans (rfl)
      have hf4 : ∀ z, ((la z < 10 ∨ 10 < la z) ∧ (la z < 310 ∨ 310 < la z) ∧ (la z < 320 ∨ 320 + 2 < la z) ∧ (la z < 90 ∨ 90 + 8 < la z)) → c45_G166 z = (G 166) z := fun z hz => (q45_G166 z (tz45 z hz)).trans (rfl)
      have hf5 : ∀ z, ((la z < 10 ∨ 10 < la z) ∧ (la z < 310 ∨ 310 < la z) ∧ (la z < 320 ∨ 320 + 2 < la z) ∧ (la z < 90 ∨ 90 + 8 < la z)) → c45_G167 z = (G 167) z := fun z hz => (q45_G167 z (tz45 z hz)).trans (rfl)
      have hf6 : ∀ z, ((la z < 10 ∨ 10 < la z) ∧ (la z < 310 ∨ 310 < la z) ∧ (la z < 320 ∨ 320 + 2 < la z) ∧ (la z < 90 ∨ 90 + 8 < la z)) → c45_P164 z = (P 164) z := fun z hz => (q45_P164 z (tz45 z hz)).trans (rfl)
      clear hc45
      refine pw_nn (fun a49 hn_a49 => ?_)
      have lt_a49 := ((hB.1 235 fl_235) this a49 hn_a49).2.1
      have lb_a49 : la a49 = 320 := lk_235.mp ((hB.1 235 fl_235) this a49 hn_a49).2.2
      refine pw_b4 (fun c52_G126 c52_G127 c52_G128 c52_V6 hc52 => ?_)
      have hq52 := fr_X6_begin la (va_up (va_up (va_up (va_up (va_up G 141 c4_G141) 162 c45_G162) 165 c45_G165) 166 c45_G166) 167 c45_G167) (va_up P 164 c45_P164) U V X O kd ln cnt a49 (LB_set hB ql45_164) _ hc52
      obtain ⟨q52_G126, q52_G127, q52_G128, q52_V6⟩ : (∀ z, (la z < la a49 ∨ la a49 + 2 < la z) → c52_G126 z = (G 126) z) ∧ (∀ z, (la z < la a49 ∨ la a49 + 2 < la z) → c52_G127 z = (G 127) z) ∧ (∀ z, (la z < la a49 ∨ la a49 + 2 < la z) → c52_G128 z = (G 128) z) ∧ (∀ z, (la z < la a49 ∨ la a49 + 2 < la z) → c52_V6 z = (V 6) z) := hq52
      have tz52 : ∀ z, ((la z < 10 ∨ 10 < la z) ∧ (la z < 310 ∨ 310 < la z) ∧ (la z < 320 ∨ 320 + 2 < la z) ∧ (la z < 90 ∨ 90 + 8 < la z)) → ((la z < la a49 ∨ la a49 + 2 < la z)) := fun z hz => by omega
      have hf7 : ∀ z, ((la z < 10 ∨ 10 < la z) ∧ (la z < 310 ∨ 310 < la z) ∧ (la z < 320 ∨ 320 + 2 < la z) ∧ (la z < 90 ∨ 90 + 8 < la z)) → c52_G126 z = (G 126) z := fun z hz => (q52_G126 z (tz52 z hz)).trans (rfl)
      have hf8 : ∀ z, ((la z < 10 ∨ 10 < la z) ∧ (la z < 310 ∨ 310 < la z) ∧ (la z < 320 ∨ 320 + 2 < la z) ∧ (la z < 90 ∨ 90 + 8 < la z)) → c52_G127 z = (G 127) z := fun z hz => (q52_G127 z (tz52 z hz)).trans (rfl)
      have hf9 : ∀ z, ((la z < 10 ∨ 10 < la z) ∧ (la z < 310 ∨ 310 < la z) ∧ (la z < 320 ∨ 320 + 2 < la z) ∧ (la z < 90 ∨ 90 + 8 < la z)) → c52_G128 z = (G 128) z := fun z hz => (q52_G128 z (tz52 z hz)).trans (rfl)
      have hf10 : ∀ z, ((la z < 10 ∨ 10 < la z) ∧ (la z < 310 ∨ 310 < la z) ∧ (la z < 320 ∨ 320 + 2 < la z) ∧ (la z < 90 ∨ 90 + 8 < la z)) → c52_V6 z = (V 6) z := fun z hz => (q52_V6 z (tz52 z hz)).trans (rfl)
      clear hc52
      refine pw_jn (fun k167 => ∀ (c167_G60 : Nat → Int32) (c167_G126 : Nat → Int32) (c167_G127 : Nat → Int32) (c167_G128 : Nat → Int32) (c167_G160 : Nat → Int32) (c167_G161 : Nat → Int32) (c167_G162 : Nat → Int32) (c167_G163 : Nat → Int32) (c167_G166 : Nat → Int32) (c167_G167 : Nat → Int32) (c167_G183 : Nat → Int32) (c167_G203 : Nat → Int32) (c167_P66 : Nat → Option Nat) (c167_P181 : Nat → Option Nat) (c167_P182 : Nat → Option Nat) (c167_P186 : Nat → Option Nat) (c167_P187 : Nat → Option Nat) (c167_U184 : Nat → Int64) (c167_V0 : Nat → Nat → Int32) (c167_V1 : Nat → Nat → Int32) (c167_V2 : Nat → Nat → Int32) (c167_V6 : Nat → Nat → Int32) (c167_V12 : Nat → Nat → Int32), (∀ z, ((la z < 10 ∨ 10 < la z) ∧ (la z < 310 ∨ 310 < la z) ∧ (la z < 320 ∨ 320 + 2 < la z) ∧ (la z < 90 ∨ 90 + 8 < la z)) → c167_G60 z = (G 60) z) → (∀ z, ((la z < 10 ∨ 10 < la z) ∧ (la z < 310 ∨ 310 < la z) ∧ (la z < 320 ∨ 320 + 2 < la z) ∧ (la z < 90 ∨ 90 + 8 < la z)) → c167_G126 z = (G 126) z) → (∀ z, ((la z < 10 ∨ 10 < la z) ∧ (la z < 310 ∨ 310 < la z) ∧ (la z < 320 ∨ 320 + 2 < la z) ∧ (la z < 90 ∨ 90 + 8 < la z)) → c167_G127 z = (G 127) z) → (∀ z, ((la z < 10 ∨ 10 < la z) ∧ (la z < 310 ∨ 310 < la z) ∧ (la z < 320 ∨ 320 + 2 < la z) ∧ (la z < 90 ∨ 90 + 8 < la z)) → c167_G128 z = (G 128) z) → (∀ z, ((la z < 10 ∨ 10 < la z) ∧ (la z < 310 ∨ 310 < la z) ∧ (la z < 320 ∨ 320 + 2 < la z) ∧ (la z < 90 ∨ 90 + 8 < la z)) → c167_G160 z = (G 160) z) → (∀ z, ((la z < 10 ∨ 10 < la z) ∧ (la z < 310 ∨ 310 < la z) ∧ (la z < 320 ∨ 320 + 2 < la z) ∧ (la z < 90 ∨ 90 + 8 < la z)) → c167_G161 z = (G 161) z) → (∀ z, ((la z < 10 ∨ 10 < la z) ∧ (la z < 310 ∨ 310 < la z) ∧ (la z < 320 ∨ 320 + 2 < la z) ∧ (la z < 90 ∨ 90 + 8 < la z)) → c167_G162 z = (G 162) z) → (∀ z, ((la z < 10 ∨ 10 < la z) ∧ (la z < 310 ∨ 310 < la z) ∧ (la z < 320 ∨ 320 + 2 < la z) ∧ (la z < 90 ∨ 90 + 8 < la z)) → c167_G163 z = (G 163) z) → (∀ z, ((la z < 10 ∨ 10 < la z) ∧ (la z < 310 ∨ 310 < la z) ∧ (la z < 320 ∨ 320 + 2 < la z) ∧ (la z < 90 ∨ 90 + 8 < la z)) → c167_G166 z = (G 166) z) → (∀ z, ((la z < 10 ∨ 10 < la z) ∧ (la z < 310 ∨ 310 < la z) ∧ (la z < 320 ∨ 320 + 2 < la z) ∧ (la z < 90 ∨ 90 + 8 < la z)) → c167_G167 z = (G 167) z) → (∀ z, ((la z < 10 ∨ 10 < la z) ∧ (la z < 310 ∨ 310 < la z) ∧ (la z < 320 ∨ 320 + 2 < la z) ∧ (la z < 90 ∨ 90 + 8 < la z)) → c167_G183 z = (G 183) z) → (∀ z, ((la z < 10 ∨ 10 < la z) ∧ (la z < 310 ∨ 310 < la z) ∧ (la z < 320 ∨ 320 + 2 < la z) ∧ (la z < 90 ∨ 90 + 8 < la z)) → c167_G203 z = (G 203) z) → (∀ z, ((la z < 10 ∨ 10 < la z) ∧ (la z < 310 ∨ 310 < la z) ∧ (la z < 320 ∨ 320 + 2 < la z) ∧ (la z < 90 ∨ 90 + 8 < la z)) → c167_P66 z = (P 66) z) → LC 66 la cnt c167_P66 → (∀ z, ((la z < 10 ∨ 10 < la z) ∧ (la z < 310 ∨ 310 < la z) ∧ (la z < 320 ∨ 320 + 2 < la z) ∧ (la z < 90 ∨ 90 + 8 < la z)) → c167_P181 z = (P 181) z) → LC 181 la cnt c167_P181 → (∀ z, ((la z < 10 ∨ 10 < la z) ∧ (la z < 310 ∨ 310 < la z) ∧ (la z < 320 ∨ 320 + 2 < la z) ∧ (la z < 90 ∨ 90 + 8 < la z)) → c167_P182 z = (P 182) z) → LC 182 la cnt c167_P182 → (∀ z, ((la z < 10 ∨ 10 < la z) ∧ (la z < 310 ∨ 310 < la z) ∧ (la z < 320 ∨ 320 + 2 < la z) ∧ (la z < 90 ∨ 90 + 8 < la z)) → c167_P186 z = (P 186) z) → LC 186 la cnt c167_P186 → (∀ z, ((la z < 10 ∨ 10 < la z) ∧ (la z < 310 ∨ 310 < la z) ∧ (la z < 320 ∨ 320 + 2 < la z) ∧ (la z < 90 ∨ 90 + 8 < la z)) → c167_P187 z = (P 187) z) → LC 187 la cnt c167_P187 → (∀ z, ((la z < 10 ∨ 10 < la z) ∧ (la z < 310 ∨ 310 < la z) ∧ (la z < 320 ∨ 320 + 2 < la z) ∧ (la z < 90 ∨ 90 + 8 < la z)) → c167_U184 z = (U 184) z) → (∀ z, ((la z < 10 ∨ 10 < la z) ∧ (la z < 310 ∨ 310 < la z) ∧ (la z < 320 ∨ 320 + 2 < la z) ∧ (la z < 90 ∨ 90 + 8 < la z)) → c167_V0 z = (V 0) z) → (∀ z, ((la z < 10 ∨ 10 < la z) ∧ (la z < 310 ∨ 310 < la z) ∧ (la z < 320 ∨ 320 + 2 < la z) ∧ (la z < 90 ∨ 90 + 8 < la z)) → c167_V1 z = (V 1) z) → (∀ z, ((la z < 10 ∨ 10 < la z) ∧ (la z < 310 ∨ 310 < la z) ∧ (la z < 320 ∨ 320 + 2 < la z) ∧ (la z < 90 ∨ 90 + 8 < la z)) → c167_V2 z = (V 2) z) → (∀ z, ((la z < 10 ∨ 10 < la z) ∧ (la z < 310 ∨ 310 < la z) ∧ (la z < 320 ∨ 320 + 2 < la z) ∧ (la z < 90 ∨ 90 + 8 < la z)) → c167_V6 z = (V 6) z) → (∀ z, ((la z < 10 ∨ 10 < la z) ∧ (la z < 310 ∨ 310 < la z) ∧ (la z < 320 ∨ 320 + 2 < la z) ∧ (la z < 90 ∨ 90 + 8 < la z)) → c167_V12 z = (V 12) z) → pw (k167 c167_G60 c167_G126 c167_G127 c167_G128 c167_G160 c167_G161 c167_G162 c167_G163 c167_G166 c167_G167 c167_G183 c167_G203 c167_P66 c167_P181 c167_P182 c167_P186 c167_P187 c167_U184 c167_V0 c167_V1 c167_V2 c167_V6 c167_V12) (RF_X11_write la G P U V X O kd ln cnt this p0 p1)) ?_ ?_
      · intro c167_G60 c167_G126 c167_G127 c167_G128 c167_G160 c167_G161 c167_G162 c167_G163 c167_G166 c167_G167 c167_G183 c167_G203 c167_P66 c167_P181 c167_P182 c167_P186 c167_P187 c167_U184 c167_V0 c167_V1 c167_V2 c167_V6 c167_V12 hf11 hf12 hf13 hf14 hf15 hf16 hf17 hf18 hf19 hf20 hf21 hf22 hf23 hl24 hf25 hl26 hf27 hl28 hf29 hl30 hf31 hl32 hf33 hf34 hf35 hf36 hf37 hf38
        show pw _ _
        refine pw_nn (fun a168 hn_a168 => ?_)
        have lt_a168 := ((hB.1 235 fl_235) this a168 hn_a168).2.1
        have lb_a168 : la a168 = 320 := lk_235.mp ((hB.1 235 fl_235) this a168 hn_a168).2.2
        refine pw_nn (fun a172 hn_a172 => ?_)
        have lt_a172 := ((hB.1 220 fl_220) this a172 hn_a172).2.1
        have lb_a172 : la a172 = 10 := lk_220.mp ((hB.1 220 fl_220) this a172 hn_a172).2.2
        refine pw_nn (fun a175 hn_a175 => ?_)
        have lt_a175 := ((hB.1 140 fl_140) a172 a175 hn_a175).2.1
        have lb_a175 : la a175 = la a172 + 1 := lk_140.mp ((hB.1 140 fl_140) a172 a175 hn_a175).2.2
        refine pw_b10 (fun r179 c179_G124 c179_G125 c179_G126 c179_G128 c179_P120 c179_P121 c179_P122 c179_P123 c179_V0 hc179 => ?_)
        have hq179 := fr_X6_finish la (va_up (va_up (va_up (va_up (va_up (va_up (va_up (va_up (va_up (va_up (va_up (va_up (va_up (va_up G 60 c167_G60) 126 c167_G126) 127 c167_G127) 128 c167_G128) 141 c4_G141) 160 c167_G160) 161 c167_G161) 162 c167_G162) 163 c167_G163) 165 c45_G165) 166 c167_G166) 167 c167_G167) 183 c167_G183) 203 c167_G203) (va_up (va_up (va_up (va_up (va_up (va_up P 66 c167_P66) 164 c45_P164) 181 c167_P181) 182 c167_P182) 186 c167_P186) 187 c167_P187) (va_up U 184 c167_U184) (va_up (va_up (va_up (va_up (va_up V 0 c167_V0) 1 c167_V1) 2 c167_V2) 6 c167_V6) 12 c167_V12) X O kd ln cnt a168 a175 r4 (LB_set (LB_set (LB_set (LB_set (LB_set (LB_set hB hl24) ql45_164) hl26) hl28) hl30) hl32) lt_a168 _ hc179
        obtain ⟨q179_G124, q179_G125, q179_G126, q179_G128, q179_P120, q179_P121, q179_P122, q179_P123, q179_V0, ql179_120, ql179_121, ql179_122, ql179_123⟩ : (∀ z, (la z < la a168 ∨ la a168 + 2 < la z) → c179_G124 z = (G 124) z) ∧ (∀ z, (la z < la a168 ∨ la a168 + 2 < la z) → c179_G125 z = (G 125) z) ∧ (∀ z, (la z < la a168 ∨ la a168 + 2 < la z) → c179_G126 z = c167_G126 z) ∧ (∀ z, (la z < la a168 ∨ la a168 + 2 < la z) → c179_G128 z = c167_G128 z) ∧ (∀ z, (la z < la a168 ∨ la a168 + 2 < la z) → c179_P120 z = (P 120) z) ∧ (∀ z, (la z < la a168 ∨ la a168 + 2 < la z) → c179_P121 z = (P 121) z) ∧ (∀ z, (la z < la a168 ∨ la a168 + 2 < la z) → c179_P122 z = (P 122) z) ∧ (∀ z, (la z < la a168 ∨ la a168 + 2 < la z) → c179_P123 z = (P 123) z) ∧ (∀ z, (la z < la a168 ∨ la a168 + 2 < la z) → c179_V0 z = c167_V0 z) ∧ LC 120 la cnt c179_P120 ∧ LC 121 la cnt c179_P121 ∧ LC 122 la cnt c179_P122 ∧ LC 123 la cnt c179_P123 := hq179
        have tz179 : ∀ z, ((la z < 10 ∨ 10 < la z) ∧ (la z < 310 ∨ 310 < la z) ∧ (la z < 320 ∨ 320 + 2 < la z) ∧ (la z < 90 ∨ 90 + 8 < la z)) → ((la z < la a168 ∨ la a168 + 2 < la z)) := fun z hz => by omega
        have hf39 : ∀ z, ((la z < 10 ∨ 10 < la z) ∧ (la z < 310 ∨ 310 < la z) ∧ (la z < 320 ∨ 320 + 2 < la z) ∧ (la z < 90 ∨ 90 + 8 < la z)) → c179_G124 z = (G 124) z := fun z hz => (q179_G124 z (tz179 z hz)).trans (rfl)
        have hf40 : ∀ z, ((la z < 10 ∨ 10 < la z) ∧ (la z < 310 ∨ 310 < la z) ∧ (la z < 320 ∨ 320 + 2 < la z) ∧ (la z < 90 ∨ 90 + 8 < la z)) → c179_G125 z = (G 125) z := fun z hz => (q179_G125 z (tz179 z hz)).trans (rfl)
        have hf41 : ∀ z, ((la z < 10 ∨ 10 < la z) ∧ (la z < 310 ∨ 310 < la z) ∧ (la z < 320 ∨ 320 + 2 < la z) ∧ (la z < 90 ∨ 90 + 8 < la z)) → c179_G126 z = (G 126) z := fun z hz => (q179_G126 z (tz179 z hz)).trans (hf12 z hz)
        have hf42 : ∀ z, ((la z < 10 ∨ 10 < la z) ∧ (la z < 310 ∨ 310 < la z) ∧ (la z < 320 ∨ 320 + 2 < la z) ∧ (la z < 90 ∨ 90 + 8 < la z)) → c179_G128 z = (G 128) z := fun z hz => (q179_G128 z (tz179 z hz)).trans (hf14 z hz)
        have hf43 : ∀ z, ((la z < 10 ∨ 10 < la z) ∧ (la z < 310 ∨ 310 < la z) ∧ (la z < 320 ∨ 320 + 2 < la z) ∧ (la z < 90 ∨ 90 + 8 < la z)) → c179_P120 z = (P 120) z := fun z hz => (q179_P120 z (tz179 z hz)).trans (rfl)
        have hf44 : ∀ z, ((la z < 10 ∨ 10 < la z) ∧ (la z < 310 ∨ 310 < la z) ∧ (la z < 320 ∨ 320 + 2 < la z) ∧ (la z < 90 ∨ 90 + 8 < la z)) → c179_P121 z = (P 121) z := fun z hz => (q179_P121 z (tz179 z hz)).trans (rfl)
        have hf45 : ∀ z, ((la z < 10 ∨ 10 < la z) ∧ (la z < 310 ∨ 310 < la z) ∧ (la z < 320 ∨ 320 + 2 < la z) ∧ (la z < 90 ∨ 90 + 8 < la z)) → c179_P122 z = (P 122) z := fun z hz => (q179_P122 z (tz179 z hz)).trans (rfl)
        have hf46 : ∀ z, ((la z < 10 ∨ 10 < la z) ∧ (la z < 310 ∨ 310 < la z) ∧ (la z < 320 ∨ 320 + 2 < la z) ∧ (la z < 90 ∨ 90 + 8 < la z)) → c179_P123 z = (P 123) z := fun z hz => (q179_P123 z (tz179 z hz)).trans (rfl)
        have hf47 : ∀ z, ((la z < 10 ∨ 10 < la z) ∧ (la z < 310 ∨ 310 < la z) ∧ (la z < 320 ∨ 320 + 2 < la z) ∧ (la z < 90 ∨ 90 + 8 < la z)) → c179_V0 z = (V 0) z := fun z hz => (q179_V0 z (tz179 z hz)).trans (hf34 z hz)
        clear hc179
        exact pw_some ⟨hf11, hf39, hf40, hf41, hf13, hf42, hf1, hf15, hf16, hf17, hf18, hf3, hf19, hf20, hf21, hf22, hf23, hf43, hf44, hf45, hf46, hf6, hf25, hf27, hf29, hf31, hf33, hf47, hf35, hf36, hf37, hf38, hl24, ql179_120, ql179_121, ql179_122, ql179_123, ql45_164, hl26, hl28, hl30, hl32⟩
      intro k167 Jk167
      have lp58 : ∀ (n58 : Nat) (y58_4 : Int32) (d58_G60 : Nat → Int32) (d58_G126 : Nat → Int32) (d58_G127 : Nat → Int32) (d58_G128 : Nat → Int32) (d58_G160 : Nat → Int32) (d58_G161 : Nat → Int32) (d58_G162 : Nat → Int32) (d58_G163 : Nat → Int32) (d58_G166 : Nat → Int32) (d58_G167 : Nat → Int32) (d58_G183 : Nat → Int32) (d58_G203 : Nat → Int32) (d58_P66 : Nat → Option Nat) (d58_P181 : Nat → Option Nat) (d58_P182 : Nat → Option Nat) (d58_P186 : Nat → Option Nat) (d58_P187 : Nat → Option Nat) (d58_U184 : Nat → Int64) (d58_V0 : Nat → Nat → Int32) (d58_V1 : Nat → Nat → Int32) (d58_V2 : Nat → Nat → Int32) (d58_V6 : Nat → Nat → Int32) (d58_V12 : Nat → Nat → Int32), (∀ z, ((la z < 10 ∨ 10 < la z) ∧ (la z < 310 ∨ 310 < la z) ∧ (la z < 320 ∨ 320 + 2 < la z) ∧ (la z < 90 ∨ 90 + 8 < la z)) → d58_G60 z = (G 60) z) → (∀ z, ((la z < 10 ∨ 10 < la z) ∧ (la z < 310 ∨ 310 < la z) ∧ (la z < 320 ∨ 320 + 2 < la z) ∧ (la z < 90 ∨ 90 + 8 < la z)) → d58_G126 z = (G 126) z) → (∀ z, ((la z < 10 ∨ 10 < la z) ∧ (la z < 310 ∨ 310 < la z) ∧ (la z < 320 ∨ 320 + 2 < la z) ∧ (la z < 90 ∨ 90 + 8 < la z)) → d58_G127 z = (G 127) z) → (∀ z, ((la z < 10 ∨ 10 < la z) ∧ (la z < 310 ∨ 310 < la z) ∧ (la z < 320 ∨ 320 + 2 < la z) ∧ (la z < 90 ∨ 90 + 8 < la z)) → d58_G128 z = (G 128) z) → (∀ z, ((la z < 10 ∨ 10 < la z) ∧ (la z < 310 ∨ 310 < la z) ∧ (la z < 320 ∨ 320 + 2 < la z) ∧ (la z < 90 ∨ 90 + 8 < la z)) → d58_G160 z = (G 160) z) → (∀ z, ((la z < 10 ∨ 10 < la z) ∧ (la z < 310 ∨ 310 < la z) ∧ (la z < 320 ∨ 320 + 2 < la z) ∧ (la z < 90 ∨ 90 + 8 < la z)) → d58_G161 z = (G 161) z) → (∀ z, ((la z < 10 ∨ 10 < la z) ∧ (la z < 310 ∨ 310 < la z) ∧ (la z < 320 ∨ 320 + 2 < la z) ∧ (la z < 90 ∨ 90 + 8 < la z)) → d58_G162 z = (G 162) z) → (∀ z, ((la z < 10 ∨ 10 < la z) ∧ (la z < 310 ∨ 310 < la z) ∧ (la z < 320 ∨ 320 + 2 < la z) ∧ (la z < 90 ∨ 90 + 8 < la z)) → d58_G163 z = (G 163) z) → (∀ z, ((la z < 10 ∨ 10 < la z) ∧ (la z < 310 ∨ 310 < la z) ∧ (la z < 320 ∨ 320 + 2 < la z) ∧ (la z < 90 ∨ 90 + 8 < la z)) → d58_G166 z = (G 166) z) → (∀ z, ((la z < 10 ∨ 10 < la z) ∧ (la z < 310 ∨ 310 < la z) ∧ (la z < 320 ∨ 320 + 2 < la z) ∧ (la z < 90 ∨ 90 + 8 < la z)) → d58_G167 z = (G 167) z) → (∀ z, ((la z < 10 ∨ 10 < la z) ∧ (la z < 310 ∨ 310 < la z) ∧ (la z < 320 ∨ 320 + 2 < la z) ∧ (la z < 90 ∨ 90 + 8 < la z)) → d58_G183 z = (G 183) z) → (∀ z, ((la z < 10 ∨ 10 < la z) ∧ (la z < 310 ∨ 310 < la z) ∧ (la z < 320 ∨ 320 + 2 < la z) ∧ (la z < 90 ∨ 90 + 8 < la z)) → d58_G203 z = (G 203) z) → (∀ z, ((la z < 10 ∨ 10 < la z) ∧ (la z < 310 ∨ 310 < la z) ∧ (la z < 320 ∨ 320 + 2 < la z) ∧ (la z < 90 ∨ 90 + 8 < la z)) → d58_P66 z = (P 66) z) → LC 66 la cnt d58_P66 → (∀ z, ((la z < 10 ∨ 10 < la z) ∧ (la z < 310 ∨ 310 < la z) ∧ (la z < 320 ∨ 320 + 2 < la z) ∧ (la z < 90 ∨ 90 + 8 < la z)) → d58_P181 z = (P 181) z) → LC 181 la cnt d58_P181 → (∀ z, ((la z < 10 ∨ 10 < la z) ∧ (la z < 310 ∨ 310 < la z) ∧ (la z < 320 ∨ 320 + 2 < la z) ∧ (la z < 90 ∨ 90 + 8 < la z)) → d58_P182 z = (P 182) z) → LC 182 la cnt d58_P182 → (∀ z, ((la z < 10 ∨ 10 < la z) ∧ (la z < 310 ∨ 310 < la z) ∧ (la z < 320 ∨ 320 + 2 < la z) ∧ (la z < 90 ∨ 90 + 8 < la z)) → d58_P186 z = (P 186) z) → LC 186 la cnt d58_P186 → (∀ z, ((la z < 10 ∨ 10 < la z) ∧ (la z < 310 ∨ 310 < la z) ∧ (la z < 320 ∨ 320 + 2 < la z) ∧ (la z < 90 ∨ 90 + 8 < la z)) → d58_P187 z = (P 187) z) → LC 187 la cnt d58_P187 → (∀ z, ((la z < 10 ∨ 10 < la z) ∧ (la z < 310 ∨ 310 < la z) ∧ (la z < 320 ∨ 320 + 2 < la z) ∧ (la z < 90 ∨ 90 + 8 < la z)) → d58_U184 z = (U 184) z) → (∀ z, ((la z < 10 ∨ 10 < la z) ∧ (la z < 310 ∨ 310 < la z) ∧ (la z < 320 ∨ 320 + 2 < la z) ∧ (la z < 90 ∨ 90 + 8 < la z)) → d58_V0 z = (V 0) z) → (∀ z, ((la z < 10 ∨ 10 < la z) ∧ (la z < 310 ∨ 310 < la z) ∧ (la z < 320 ∨ 320 + 2 < la z) ∧ (la z < 90 ∨ 90 + 8 < la z)) → d58_V1 z = (V 1) z) → (∀ z, ((la z < 10 ∨ 10 < la z) ∧ (la z < 310 ∨ 310 < la z) ∧ (la z < 320 ∨ 320 + 2 < la z) ∧ (la z < 90 ∨ 90 + 8 < la z)) → d58_V2 z = (V 2) z) → (∀ z, ((la z < 10 ∨ 10 < la z) ∧ (la z < 310 ∨ 310 < la z) ∧ (la z < 320 ∨ 320 + 2 < la z) ∧ (la z < 90 ∨ 90 + 8 < la z)) → d58_V6 z = (V 6) z) → (∀ z, ((la z < 10 ∨ 10 < la z) ∧ (la z < 310 ∨ 310 < la z) ∧ (la z < 320 ∨ 320 + 2 < la z) ∧ (la z < 90 ∨ 90 + 8 < la z)) → d58_V12 z = (V 12) z) → pw (L_X11_write_58 G P U V X O kd ln cnt this p0 p1 r4 c4_G141 c45_G165 c45_P164 k167 n58 y58_4 d58_G60 d58_G126 d58_G127 d58_G128 d58_G160 d58_G161 d58_G162 d58_G163 d58_G166 d58_G167 d58_G183 d58_G203 d58_P66 d58_P181 d58_P182 d58_P186 d58_P187 d58_U184 d58_V0 d58_V1 d58_V2 d58_V6 d58_V12) (RF_X11_write la G P U V X O kd ln cnt this p0 p1) := by
        intro n58
        induction n58 with
        | zero => intros; exact pw_none
        | succ n58 ih58 =>
          intro y58_4 d58_G60 d58_G126 d58_G127 d58_G128 d58_G160 d58_G161 d58_G162 d58_G163 d58_G166 d58_G167 d58_G183 d58_G203 d58_P66 d58_P181 d58_P182 d58_P186 d58_P187 d58_U184 d58_V0 d58_V1 d58_V2 d58_V6 d58_V12 hf48 hf49 hf50 hf51 hf52 hf53 hf54 hf55 hf56 hf57 hf58 hf59 hf60 hl61 hf62 hl63 hf64 hl65 hf66 hl67 hf68 hl69 hf70 hf71 hf72 hf73 hf74 hf75
          show pw (B_X11_write_58 G P U V X O kd ln cnt this p0 p1 r4 c4_G141 c45_G165 c45_P164 k167 (L_X11_write_58 G P U V X O kd ln cnt this p0 p1 r4 c4_G141 c45_G165 c45_P164 k167 n58) y58_4 d58_G60 d58_G126 d58_G127 d58_G128 d58_G160 d58_G161 d58_G162 d58_G163 d58_G166 d58_G167 d58_G183 d58_G203 d58_P66 d58_P181 d58_P182 d58_P186 d58_P187 d58_U184 d58_V0 d58_V1 d58_V2 d58_V6 d58_V12) _
          unfold B_X11_write_58
          refine pw_ite (fun _ => ?_) (fun _ => ?_)
          · skip
            exact Jk167 d58_G60 d58_G126 d58_G127 d58_G128 d58_G160 d58_G161 d58_G162 d58_G163 d58_G166 d58_G167 d58_G183 d58_G203 d58_P66 d58_P181 d58_P182 d58_P186 d58_P187 d58_U184 d58_V0 d58_V1 d58_V2 d58_V6 d58_V12 hf48 hf49 hf50 hf51 hf52 hf53 hf54 hf55 hf56 hf57 hf58 hf59 hf60 hl61 hf62 hl63 hf64 hl65 hf66 hl67 hf68 hl69 hf70 hf71 hf72 hf73 hf74 hf75
          · skip
            refine pw_nn (fun a65 hn_a65 => ?_)
            have lt_a65 := ((hB.1 234 fl_234) this a65 hn_a65).2.1
            have lb_a65 : la a65 = 310 := lk_234.mp ((hB.1 234 fl_234) this a65 hn_a65).2.2
            refine pw_b7 (fun r68 c68_G160 c68_G161 c68_G162 c68_G163 c68_G166 c68_G167 hc68 => ?_)
            have hq68 := fr_X8_next la (va_up (va_up (va_up (va_up (va_up (va_up (va_up (va_up (va_up (va_up (va_up (va_up (va_up (va_up G 60 d58_G60) 126 d58_G126) 127 d58_G127) 128 d58_G128) 141 c4_G141) 160 d58_G160) 161 d58_G161) 162 d58_G162) 163 d58_G163) 165 c45_G165) 166 d58_G166) 167 d58_G167) 183 d58_G183) 203 d58_G203) (va_up (va_up (va_up (va_up (va_up (va_up P 66 d58_P66) 164 c45_P164) 181 d58_P181) 182 d58_P182) 186 d58_P186) 187 d58_P187) (va_up U 184 d58_U184) (va_up (va_up (va_up (va_up (va_up V 0 d58_V0) 1 d58_V1) 2 d58_V2) 6 d58_V6) 12 d58_V12) X O kd ln cnt a65 (LB_set (LB_set (LB_set (LB_set (LB_set (LB_set hB hl61) ql45_164) hl63) hl65) hl67) hl69) _ hc68
            obtain ⟨q68_G160, q68_G161, q68_G162, q68_G163, q68_G166, q68_G167⟩ : (∀ z, (la z < la a65 ∨ la a65 < la z) → c68_G160 z = d58_G160 z) ∧ (∀ z, (la z < la a65 ∨ la a65 < la z) → c68_G161 z = d58_G161 z) ∧ (∀ z, (la z < la a65 ∨ la a65 < la z) → c68_G162 z = d58_G162 z) ∧ (∀ z, (la z < la a65 ∨ la a65 < la z) → c68_G163 z = d58_G163 z) ∧ (∀ z, (la z < la a65 ∨ la a65 < la z) → c68_G166 z = d58_G166 z) ∧ (∀ z, (la z < la a65 ∨ la a65 < la z) → c68_G167 z = d58_G167 z) := hq68
            have tz68 : ∀ z, ((la z < 10 ∨ 10 < la z) ∧ (la z < 310 ∨ 310 < la z) ∧ (la z < 320 ∨ 320 + 2 < la z) ∧ (la z < 90 ∨ 90 + 8 < la z)) → ((la z < la a65 ∨ la a65 < la z)) := fun z hz => by omega
            have hf76 : ∀ z, ((la z < 10 ∨ 10 < la z) ∧ (la z < 310 ∨ 310 < la z) ∧ (la z < 320 ∨ 320 + 2 < la z) ∧ (la z < 90 ∨ 90 + 8 < la z)) → c68_G160 z = (G 160) z := fun z hz => (q68_G160 z (tz68 z hz)).trans (hf52 z hz)
            have hf77 : ∀ z, ((la z < 10 ∨ 10 < la z) ∧ (la z < 310 ∨ 310 < la z) ∧ (la z < 320 ∨ 320 + 2 < la z) ∧ (la z < 90 ∨ 90 + 8 < la z)) → c68_G161 z = (G 161) z := fun z hz => (q68_G161 z (tz68 z hz)).trans (hf53 z hz)
            have hf78 : ∀ z, ((la z < 10 ∨ 10 < la z) ∧ (la z < 310 ∨ 310 < la z) ∧ (la z < 320 ∨ 320 + 2 < la z) ∧ (la z < 90 ∨ 90 + 8 < la z)) → c68_G162 z = (G 162) z := fun z hz => (q68_G162 z (tz68 z hz)).trans (hf54 z hz)
            have hf79 : ∀ z, ((la z < 10 ∨ 10 < la z) ∧ (la z < 310 ∨ 310 < la z) ∧ (la z < 320 ∨ 320 + 2 < la z) ∧ (la z < 90 ∨ 90 + 8 < la z)) → c68_G163 z = (G 163) z := fun z hz => (q68_G163 z (tz68 z hz)).trans (hf55 z hz)
            have hf80 : ∀ z, ((la z < 10 ∨ 10 < la z) ∧ (la z < 310 ∨ 310 < la z) ∧ (la z < 320 ∨ 320 + 2 < la z) ∧ (la z < 90 ∨ 90 + 8 < la z)) → c68_G166 z = (G 166) z := fun z hz => (q68_G166 z (tz68 z hz)).trans (hf56 z hz)
            have hf81 : ∀ z, ((la z < 10 ∨ 10 < la z) ∧ (la z < 310 ∨ 310 < la z) ∧ (la z < 320 ∨ 320 + 2 < la z) ∧ (la z < 90 ∨ 90 + 8 < la z)) → c68_G167 z = (G 167) z := fun z hz => (q68_G167 z (tz68 z hz)).trans (hf57 z hz)
            clear hc68
            refine pw_ite (fun _ => ?_) (fun _ => ?_)
            · skip
              exact Jk167 d58_G60 d58_G126 d58_G127 d58_G128 c68_G160 c68_G161 c68_G162 c68_G163 c68_G166 c68_G167 d58_G183 d58_G203 d58_P66 d58_P181 d58_P182 d58_P186 d58_P187 d58_U184 d58_V0 d58_V1 d58_V2 d58_V6 d58_V12 hf48 hf49 hf50 hf51 hf76 hf77 hf78 hf79 hf80 hf81 hf58 hf59 hf60 hl61 hf62 hl63 hf64 hl65 hf66 hl67 hf68 hl69 hf70 hf71 hf72 hf73 hf74 hf75
            · skip
              refine pw_nn (fun a75 hn_a75 => ?_)
              have lt_a75 := ((hB.1 234 fl_234) this a75 hn_a75).2.1
              have lb_a75 : la a75 = 310 := lk_234.mp ((hB.1 234 fl_234) this a75 hn_a75).2.2
              refine pw_jn (fun j161 => ∀ (c161_G60 : Nat → Int32) (c161_G126 : Nat → Int32) (c161_G127 : Nat → Int32) (c161_G128 : Nat → Int32) (c161_G183 : Nat → Int32) (c161_G203 : Nat → Int32) (c161_P66 : Nat → Option Nat) (c161_P181 : Nat → Option Nat) (c161_P182 : Nat → Option Nat) (c161_P186 : Nat → Option Nat) (c161_P187 : Nat → Option Nat) (c161_U184 : Nat → Int64) (c161_V0 : Nat → Nat → Int32) (c161_V1 : Nat → Nat → Int32) (c161_V2 : Nat → Nat → Int32) (c161_V6 : Nat → Nat → Int32) (c161_V12 : Nat → Nat → Int32), (∀ z, ((la z < 10 ∨ 10 < la z) ∧ (la z < 310 ∨ 310 < la z) ∧ (la z < 320 ∨ 320 + 2 < la z) ∧ (la z < 90 ∨ 90 + 8 < la z)) → c161_G60 z = (G 60) z) → (∀ z, ((la z < 10 ∨ 10 < la z) ∧ (la z < 310 ∨ 310 < la z) ∧ (la z < 320 ∨ 320 + 2 < la z) ∧ (la z < 90 ∨ 90 + 8 < la z)) → c161_G126 z = (G 126) z) → (∀ z, ((la z < 10 ∨ 10 < la z) ∧ (la z < 310 ∨ 310 < la z) ∧ (la z < 320 ∨ 320 + 2 < la z) ∧ (la z < 90 ∨ 90 + 8 < la z)) → c161_G127 z = (G 127) z) → (∀ z, ((la z < 10 ∨ 10 < la z) ∧ (la z < 310 ∨ 310 < la z) ∧ (la z < 320 ∨ 320 + 2 < la z) ∧ (la z < 90 ∨ 90 + 8 < la z)) → c161_G128 z = (G 128) z) → (∀ z, ((la z < 10 ∨ 10 < la z) ∧ (la z < 310 ∨ 310 < la z) ∧ (la z < 320 ∨ 320 + 2 < la z) ∧ (la z < 90 ∨ 90 + 8 < la z)) → c161_G183 z = (G 183) z) → (∀ z, ((la z < 10 ∨ 10 < la z) ∧ (la z < 310 ∨ 310 < la z) ∧ (la z < 320 ∨ 320 + 2 < la z) ∧ (la z < 90 ∨ 90 + 8 < la z)) → c161_G203 z = (G 203) z) → (∀ z, ((la z < 10 ∨ 10 < la z) ∧ (la z < 310 ∨ 310 < la z) ∧ (la z < 320 ∨ 320 + 2 < la z) ∧ (la z < 90 ∨ 90 + 8 < la z)) → c161_P66 z = (P 66) z) → LC 66 la cnt c161_P66 → (∀ z, ((la z < 10 ∨ 10 < la z) ∧ (la z < 310 ∨ 310 < la z) ∧ (la z < 320 ∨ 320 + 2 < la z) ∧ (la z < 90 ∨ 90 + 8 < la z)) → c161_P181 z = (P 181) z) → LC 181 la cnt c161_P181 → (∀ z, ((la z < 10 ∨ 10 < la z) ∧ (la z < 310 ∨ 310 < la z) ∧ (la z < 320 ∨ 320 + 2 < la z) ∧ (la z < 90 ∨ 90 + 8 < la z)) → c161_P182 z = (P 182) z) → LC 182 la cnt c161_P182 → (∀ z, ((la z < 10 ∨ 10 < la z) ∧ (la z < 310 ∨ 310 < la z) ∧ (la z < 320 ∨ 320 + 2 < la z) ∧ (la z < 90 ∨ 90 + 8 < la z)) → c161_P186 z = (P 186) z) → LC 186 la cnt c161_P186 → (∀ z, ((la z < 10 ∨ 10 < la z) ∧ (la z < 310 ∨ 310 < la z) ∧ (la z < 320 ∨ 320 + 2 < la z) ∧ (la z < 90 ∨ 90 + 8 < la z)) → c161_P187 z = (P 187) z) → LC 187 la cnt c161_P187 → (∀ z, ((la z < 10 ∨ 10 < la z) ∧ (la z < 310 ∨ 310 < la z) ∧ (la z < 320 ∨ 320 + 2 < la z) ∧ (la z < 90 ∨ 90 + 8 < la z)) → c161_U184 z = (U 184) z) → (∀ z, ((la z < 10 ∨ 10 < la z) ∧ (la z < 310 ∨ 310 < la z) ∧ (la z < 320 ∨ 320 + 2 < la z) ∧ (la z < 90 ∨ 90 + 8 < la z)) → c161_V0 z = (V 0) z) → (∀ z, ((la z < 10 ∨ 10 < la z) ∧ (la z < 310 ∨ 310 < la z) ∧ (la z < 320 ∨ 320 + 2 < la z) ∧ (la z < 90 ∨ 90 + 8 < la z)) → c161_V1 z = (V 1) z) → (∀ z, ((la z < 10 ∨ 10 < la z) ∧ (la z < 310 ∨ 310 < la z) ∧ (la z < 320 ∨ 320 + 2 < la z) ∧ (la z < 90 ∨ 90 + 8 < la z)) → c161_V2 z = (V 2) z) → (∀ z, ((la z < 10 ∨ 10 < la z) ∧ (la z < 310 ∨ 310 < la z) ∧ (la z < 320 ∨ 320 + 2 < la z) ∧ (la z < 90 ∨ 90 + 8 < la z)) → c161_V6 z = (V 6) z) → (∀ z, ((la z < 10 ∨ 10 < la z) ∧ (la z < 310 ∨ 310 < la z) ∧ (la z < 320 ∨ 320 + 2 < la z) ∧ (la z < 90 ∨ 90 + 8 < la z)) → c161_V12 z = (V 12) z) → pw (j161 c161_G60 c161_G126 c161_G127 c161_G128 c161_G183 c161_G203 c161_P66 c161_P181 c161_P182 c161_P186 c161_P187 c161_U184 c161_V0 c161_V1 c161_V2 c161_V6 c161_V12) (RF_X11_write la G P U V X O kd ln cnt this p0 p1)) ?_ ?_
              · intro c161_G60 c161_G126 c161_G127 c161_G128 c161_G183 c161_G203 c161_P66 c161_P181 c161_P182 c161_P186 c161_P187 c161_U184 c161_V0 c161_V1 c161_V2 c161_V6 c161_V12 hf82 hf83 hf84 hf85 hf86 hf87 hf88 hl89 hf90 hl91 hf92 hl93 hf94 hl95 hf96 hl97 hf98 hf99 hf100 hf101 hf102 hf103
                show pw _ _
                exact ih58 (y58_4 + 1) c161_G60 c161_G126 c161_G127 c161_G128 c68_G160 c68_G161 c68_G162 c68_G163 c68_G166 c68_G167 c161_G183 c161_G203 c161_P66 c161_P181 c161_P182 c161_P186 c161_P187 c161_U184 c161_V0 c161_V1 c161_V2 c161_V6 c161_V12 hf82 hf83 hf84 hf85 hf76 hf77 hf78 hf79 hf80 hf81 hf86 hf87 hf88 hl89 hf90 hl91 hf92 hl93 hf94 hl95 hf96 hl97 hf98 hf99 hf100 hf101 hf102 hf103
              intro j161 Jj161
              refine pw_ite (fun _ => ?_) (fun _ => ?_)
              · skip
                refine pw_nn (fun a95 hn_a95 => ?_)
                have lt_a95 := ((hB.1 234 fl_234) this a95 hn_a95).2.1
                have lb_a95 : la a95 = 310 := lk_234.mp ((hB.1 234 fl_234) this a95 hn_a95).2.2
                refine pw_ite (fun _ => ?_) (fun _ => ?_)
                · skip
                  refine pw_nn (fun a117 hn_a117 => ?_)
                  have lt_a117 := ((hB.1 235 fl_235) this a117 hn_a117).2.1
                  have lb_a117 : la a117 = 320 := lk_235.mp ((hB.1 235 fl_235) this a117 hn_a117).2.2
                  refine pw_nn (fun a121 hn_a121 => ?_)
                  have lt_a121 := ((hB.1 234 fl_234) this a121 hn_a121).2.1
                  have lb_a121 : la a121 = 310 := lk_234.mp ((hB.1 234 fl_234) this a121 hn_a121).2.2
                  refine pw_nn (fun a125 hn_a125 => ?_)
                  have lt_a125 := ((hB.1 226 fl_226) this a125 hn_a125).2.1
                  have lb_a125 : la a125 = 90 := lk_226.mp ((hB.1 226 fl_226) this a125 hn_a125).2.2
                  refine pw_nn (fun a129 hn_a129 => ?_)
                  have lt_a129 := ((hB.1 221 fl_221) this a129 hn_a129).2.1
                  have lb_a129 : la a129 = la this + 3 := lk_221.mp ((hB.1 221 fl_221) this a129 hn_a129).2.2
                  refine pw_nn (fun a135 hn_a135 => ?_)
                  have lt_a135 := ((hB.1 220 fl_220) this a135 hn_a135).2.1
                  have lb_a135 : la a135 = 10 := lk_220.mp ((hB.1 220 fl_220) this a135 hn_a135).2.2
                  refine pw_nn (fun a138 hn_a138 => ?_)
                  have lt_a138 := ((hB.1 140 fl_140) a135 a138 hn_a138).2.1
                  have lb_a138 : la a138 = la a135 + 1 := lk_140.mp ((hB.1 140 fl_140) a135 a138 hn_a138).2.2
                  refine pw_nn (fun a142 hn_a142 => ?_)
                  have lt_a142 := ((hB.1 234 fl_234) this a142 hn_a142).2.1
                  have lb_a142 : la a142 = 310 := lk_234.mp ((hB.1 234 fl_234) this a142 hn_a142).2.2
                  refine pw_nn (fun a149 hn_a149 => ?_)
                  have lt_a149 := ((hB.1 234 fl_234) this a149 hn_a149).2.1
                  have lb_a149 : la a149 = 310 := lk_234.mp ((hB.1 234 fl_234) this a149 hn_a149).2.2
                  refine pw_b14 (fun r155 c155_G60 c155_G183 c155_G203 c155_P66 c155_P181 c155_P182 c155_P186 c155_P187 c155_U184 c155_V0 c155_V1 c155_V2 c155_V12 hc155 => ?_)
                  have hq155 := fr_X9_through la (va_up (va_up (va_up (va_up (va_up (va_up (va_up (va_up (va_up (va_up (va_up (va_up (va_up (va_up (va_up (va_up (va_up (va_up (va_up (va_up G 60 d58_G60) 126 d58_G126) 127 d58_G127) 128 d58_G128) 141 c4_G141) 160 d58_G160) 161 d58_G161) 162 d58_G162) 163 d58_G163) 165 c45_G165) 166 d58_G166) 167 d58_G167) 183 d58_G183) 203 d58_G203) 160 c68_G160) 161 c68_G161) 162 c68_G162) 163 c68_G163) 166 c68_G166) 167 c68_G167) (va_up (va_up (va_up (va_up (va_up (va_up P 66 d58_P66) 164 c45_P164) 181 d58_P181) 182 d58_P182) 186 d58_P186) 187 d58_P187) (va_up U 184 d58_U184) (va_up (va_up (va_up (va_up (va_up V 0 d58_V0) 1 d58_V1) 2 d58_V2) 6 d58_V6) 12 d58_V12) X O kd ln cnt a125 a129 p0 p1 a138 (c68_G160 a142) (c68_G161 a149) (LB_set (LB_set (LB_set (LB_set (LB_set (LB_set hB hl61) ql45_164) hl63) hl65) hl67) hl69) lt_a125 _ hc155
                  obtain ⟨q155_G60, q155_G183, q155_G203, q155_P66, q155_P181, q155_P182, q155_P186, q155_P187, q155_U184, q155_V0, q155_V1, q155_V2, q155_V12, ql155_66, ql155_181, ql155_182, ql155_186, ql155_187⟩ : (∀ z, (la z < la a125 ∨ la a125 + 8 < la z) → c155_G60 z = d58_G60 z) ∧ (∀ z, (la z < la a125 ∨ la a125 + 8 < la z) → c155_G183 z = d58_G183 z) ∧ (∀ z, (la z < la a125 ∨ la a125 + 8 < la z) → c155_G203 z = d58_G203 z) ∧ (∀ z, (la z < la a125 ∨ la a125 + 8 < la z) → c155_P66 z = d58_P66 z) ∧ (∀ z, (la z < la a125 ∨ la a125 + 8 < la z) → c155_P181 z = d58_P181 z) ∧ (∀ z, (la z < la a125 ∨ la a125 + 8 < la z) → c155_P182 z = d58_P182 z) ∧ (∀ z, (la z < la a125 ∨ la a125 + 8 < la z) → c155_P186 z = d58_P186 z) ∧ (∀ z, (la z < la a125 ∨ la a125 + 8 < la z) → c155_P187 z = d58_P187 z) ∧ (∀ z, (la z < la a125 ∨ la a125 + 8 < la z) → c155_U184 z = d58_U184 z) ∧ (∀ z, (la z < la a125 ∨ la a125 + 8 < la z) → c155_V0 z = d58_V0 z) ∧ (∀ z, (la z < la a125 ∨ la a125 + 8 < la z) → c155_V1 z = d58_V1 z) ∧ (∀ z, (la z < la a125 ∨ la a125 + 8 < la z) → c155_V2 z = d58_V2 z) ∧ (∀ z, (la z < la a125 ∨ la a125 + 8 < la z) → c155_V12 z = d58_V12 z) ∧ LC 66 la cnt c155_P66 ∧ LC 181 la cnt c155_P181 ∧ LC 182 la cnt c155_P182 ∧ LC 186 la cnt c155_P186 ∧ LC 187 la cnt c155_P187 := hq155
                  have tz155 : ∀ z, ((la z < 10 ∨ 10 < la z) ∧ (la z < 310 ∨ 310 < la z) ∧ (la z < 320 ∨ 320 + 2 < la z) ∧ (la z < 90 ∨ 90 + 8 < la z)) → ((la z < la a125 ∨ la a125 + 8 < la z)) := fun z hz => by omega
                  have hf104 : ∀ z, ((la z < 10 ∨ 10 < la z) ∧ (la z < 310 ∨ 310 < la z) ∧ (la z < 320 ∨ 320 + 2 < la z) ∧ (la z < 90 ∨ 90 + 8 < la z)) → c155_G60 z = (G 60) z := fun z hz => (q155_G60 z (tz155 z hz)).trans (hf48 z hz)
                  have hf105 : ∀ z, ((la z < 10 ∨ 10 < la z) ∧ (la z < 310 ∨ 310 < la z) ∧ (la z < 320 ∨ 320 + 2 < la z) ∧ (la z < 90 ∨ 90 + 8 < la z)) → c155_G183 z = (G 183) z := fun z hz => (q155_G183 z (tz155 z hz)).trans (hf58 z hz)
                  have hf106 : ∀ z, ((la z < 10 ∨ 10 < la z) ∧ (la z < 310 ∨ 310 < la z) ∧ (la z < 320 ∨ 320 + 2 < la z) ∧ (la z < 90 ∨ 90 + 8 < la z)) → c155_G203 z = (G 203) z := fun z hz => (q155_G203 z (tz155 z hz)).trans (hf59 z hz)
                  have hf107 : ∀ z, ((la z < 10 ∨ 10 < la z) ∧ (la z < 310 ∨ 310 < la z) ∧ (la z < 320 ∨ 320 + 2 < la z) ∧ (la z < 90 ∨ 90 + 8 < la z)) → c155_P66 z = (P 66) z := fun z hz => (q155_P66 z (tz155 z hz)).trans (hf60 z hz)
                  have hf108 : ∀ z, ((la z < 10 ∨ 10 < la z) ∧ (la z < 310 ∨ 310 < la z) ∧ (la z < 320 ∨ 320 + 2 < la z) ∧ (la z < 90 ∨ 90 + 8 < la z)) → c155_P181 z = (P 181) z := fun z hz => (q155_P181 z (tz155 z hz)).trans (hf62 z hz)
                  have hf109 : ∀ z, ((la z < 10 ∨ 10 < la z) ∧ (la z < 310 ∨ 310 < la z) ∧ (la z < 320 ∨ 320 + 2 < la z) ∧ (la z < 90 ∨ 90 + 8 < la z)) → c155_P182 z = (P 182) z := fun z hz => (q155_P182 z (tz155 z hz)).trans (hf64 z hz)
                  have hf110 : ∀ z, ((la z < 10 ∨ 10 < la z) ∧ (la z < 310 ∨ 310 < la z) ∧ (la z < 320 ∨ 320 + 2 < la z) ∧ (la z < 90 ∨ 90 + 8 < la z)) → c155_P186 z = (P 186) z := fun z hz => (q155_P186 z (tz155 z hz)).trans (hf66 z hz)
                  have hf111 : ∀ z, ((la z < 10 ∨ 10 < la z) ∧ (la z < 310 ∨ 310 < la z) ∧ (la z < 320 ∨ 320 + 2 < la z) ∧ (la z < 90 ∨ 90 + 8 < la z)) → c155_P187 z = (P 187) z := fun z hz => (q155_P187 z (tz155 z hz)).trans (hf68 z hz)
                  have hf112 : ∀ z, ((la z < 10 ∨ 10 < la z) ∧ (la z < 310 ∨ 310 < la z) ∧ (la z < 320 ∨ 320 + 2 < la z) ∧ (la z < 90 ∨ 90 + 8 < la z)) → c155_U184 z = (U 184) z := fun z hz => (q155_U184 z (tz155 z hz)).trans (hf70 z hz)
                  have hf113 : ∀ z, ((la z < 10 ∨ 10 < la z) ∧ (la z < 310 ∨ 310 < la z) ∧ (la z < 320 ∨ 320 + 2 < la z) ∧ (la z < 90 ∨ 90 + 8 < la z)) → c155_V0 z = (V 0) z := fun z hz => (q155_V0 z (tz155 z hz)).trans (hf71 z hz)
                  have hf114 : ∀ z, ((la z < 10 ∨ 10 < la z) ∧ (la z < 310 ∨ 310 < la z) ∧ (la z < 320 ∨ 320 + 2 < la z) ∧ (la z < 90 ∨ 90 + 8 < la z)) → c155_V1 z = (V 1) z := fun z hz => (q155_V1 z (tz155 z hz)).trans (hf72 z hz)
                  have hf115 : ∀ z, ((la z < 10 ∨ 10 < la z) ∧ (la z < 310 ∨ 310 < la z) ∧ (la z < 320 ∨ 320 + 2 < la z) ∧ (la z < 90 ∨ 90 + 8 < la z)) → c155_V2 z = (V 2) z := fun z hz => (q155_V2 z (tz155 z hz)).trans (hf73 z hz)
                  have hf116 : ∀ z, ((la z < 10 ∨ 10 < la z) ∧ (la z < 310 ∨ 310 < la z) ∧ (la z < 320 ∨ 320 + 2 < la z) ∧ (la z < 90 ∨ 90 + 8 < la z)) → c155_V12 z = (V 12) z := fun z hz => (q155_V12 z (tz155 z hz)).trans (hf75 z hz)
                  clear hc155
                  refine pw_b5 (fun c158_G126 c158_G127 c158_G128 c158_V0 c158_V6 hc158 => ?_)
                  have hq158 := fr_X6_put la (va_up (va_up (va_up (va_up (va_up (va_up (va_up (va_up (va_up (va_up (va_up (va_up (va_up (va_up (va_up (va_up (va_up (va_up (va_up (va_up (va_up (va_up (va_up G 60 d58_G60) 126 d58_G126) 127 d58_G127) 128 d58_G128) 141 c4_G141) 160 d58_G160) 161 d58_G161) 162 d58_G162) 163 d58_G163) 165 c45_G165) 166 d58_G166) 167 d58_G167) 183 d58_G183) 203 d58_G203) 160 c68_G160) 161 c68_G161) 162 c68_G162) 163 c68_G163) 166 c68_G166) 167 c68_G167) 60 c155_G60) 183 c155_G183) 203 c155_G203) (va_up (va_up (va_up (va_up (va_up (va_up (va_up (va_up (va_up (va_up (va_up P 66 d58_P66) 164 c45_P164) 181 d58_P181) 182 d58_P182) 186 d58_P186) 187 d58_P187) 66 c155_P66) 181 c155_P181) 182 c155_P182) 186 c155_P186) 187 c155_P187) (va_up (va_up U 184 d58_U184) 184 c155_U184) (va_up (va_up (va_up (va_up (va_up (va_up (va_up (va_up (va_up V 0 d58_V0) 1 d58_V1) 2 d58_V2) 6 d58_V6) 12 d58_V12) 0 c155_V0) 1 c155_V1) 2 c155_V2) 12 c155_V12) X O kd ln cnt a117 a121 r155 (LB_set (LB_set (LB_set (LB_set (LB_set (LB_set (LB_set (LB_set (LB_set (LB_set (LB_set hB hl61) ql45_164) hl63) hl65) hl67) hl69) ql155_66) ql155_181) ql155_182) ql155_186) ql155_187) _ hc158
                  obtain ⟨q158_G126, q158_G127, q158_G128, q158_V0, q158_V6⟩ : (∀ z, (la z < la a117 ∨ la a117 + 2 < la z) → c158_G126 z = d58_G126 z) ∧ (∀ z, (la z < la a117 ∨ la a117 + 2 < la z) → c158_G127 z = d58_G127 z) ∧ (∀ z, (la z < la a117 ∨ la a117 + 2 < la z) → c158_G128 z = d58_G128 z) ∧ (∀ z, (la z < la a117 ∨ la a117 + 2 < la z) → c158_V0 z = c155_V0 z) ∧ (∀ z, (la z < la a117 ∨ la a117 + 2 < la z) → c158_V6 z = d58_V6 z) := hq158
                  have tz158 : ∀ z, ((la z < 10 ∨ 10 < la z) ∧ (la z < 310 ∨ 310 < la z) ∧ (la z < 320 ∨ 320 + 2 < la z) ∧ (la z < 90 ∨ 90 + 8 < la z)) → ((la z < la a117 ∨ la a117 + 2 < la z)) := fun z hz => by omega
                  have hf117 : ∀ z, ((la z < 10 ∨ 10 < la z) ∧ (la z < 310 ∨ 310 < la z) ∧ (la z < 320 ∨ 320 + 2 < la z) ∧ (la z < 90 ∨ 90 + 8 < la z)) → c158_G126 z = (G 126) z := fun z hz => (q158_G126 z (tz158 z hz)).trans (hf49 z hz)
                  have hf118 : ∀ z, ((la z < 10 ∨ 10 < la z) ∧ (la z < 310 ∨ 310 < la z) ∧ (la z < 320 ∨ 320 + 2 < la z) ∧ (la z < 90 ∨ 90 + 8 < la z)) → c158_G127 z = (G 127) z := fun z hz => (q158_G127 z (tz158 z hz)).trans (hf50 z hz)
                  have hf119 : ∀ z, ((la z < 10 ∨ 10 < la z) ∧ (la z < 310 ∨ 310 < la z) ∧ (la z < 320 ∨ 320 + 2 < la z) ∧ (la z < 90 ∨ 90 + 8 < la z)) → c158_G128 z = (G 128) z := fun z hz => (q158_G128 z (tz158 z hz)).trans (hf51 z hz)
                  have hf120 : ∀ z, ((la z < 10 ∨ 10 < la z) ∧ (la z < 310 ∨ 310 < la z) ∧ (la z < 320 ∨ 320 + 2 < la z) ∧ (la z < 90 ∨ 90 + 8 < la z)) → c158_V0 z = (V 0) z := fun z hz => (q158_V0 z (tz158 z hz)).trans (hf113 z hz)
                  have hf121 : ∀ z, ((la z < 10 ∨ 10 < la z) ∧ (la z < 310 ∨ 310 < la z) ∧ (la z < 320 ∨ 320 + 2 < la z) ∧ (la z < 90 ∨ 90 + 8 < la z)) → c158_V6 z = (V 6) z := fun z hz => (q158_V6 z (tz158 z hz)).trans (hf74 z hz)
                  clear hc158
                  exact Jj161 c155_G60 c158_G126 c158_G127 c158_G128 c155_G183 c155_G203 c155_P66 c155_P181 c155_P182 c155_P186 c155_P187 c155_U184 c158_V0 c155_V1 c155_V2 c158_V6 c155_V12 hf104 hf117 hf118 hf119 hf105 hf106 hf107 ql155_66 hf108 ql155_181 hf109 ql155_182 hf110 ql155_186 hf111 ql155_187 hf112 hf120 hf114 hf115 hf121 hf116
                · skip
                  refine pw_nn (fun a107 hn_a107 => ?_)
                  have lt_a107 := ((hB.1 235 fl_235) this a107 hn_a107).2.1
                  have lb_a107 : la a107 = 320 := lk_235.mp ((hB.1 235 fl_235) this a107 hn_a107).2.2
                  refine pw_b1 (fun c110_V6 hc110 => ?_)
                  have hq110 := fr_X6_leaveLost la (va_up (va_up (va_up (va_up (va_up (va_up (va_up (va_up (va_up (va_up (va_up (va_up (va_up (va_up (va_up (va_up (va_up (va_up (va_up (va_up G 60 d58_G60) 126 d58_G126) 127 d58_G127) 128 d58_G128) 141 c4_G141) 160 d58_G160) 161 d58_G161) 162 d58_G162) 163 d58_G163) 165 c45_G165) 166 d58_G166) 167 d58_G167) 183 d58_G183) 203 d58_G203) 160 c68_G160) 161 c68_G161) 162 c68_G162) 163 c68_G163) 166 c68_G166) 167 c68_G167) (va_up (va_up (va_up (va_up (va_up (va_up P 66 d58_P66) 164 c45_P164) 181 d58_P181) 182 d58_P182) 186 d58_P186) 187 d58_P187) (va_up U 184 d58_U184) (va_up (va_up (va_up (va_up (va_up V 0 d58_V0) 1 d58_V1) 2 d58_V2) 6 d58_V6) 12 d58_V12) X O kd ln cnt a107 (LB_set (LB_set (LB_set (LB_set (LB_set (LB_set hB hl61) ql45_164) hl63) hl65) hl67) hl69) _ hc110
                  have q110_V6 : (∀ z, (la z < la a107 ∨ la a107 + 2 < la z) → c110_V6 z = d58_V6 z) := hq110
                  have tz110 : ∀ z, ((la z < 10 ∨ 10 < la z) ∧ (la z < 310 ∨ 310 < la z) ∧ (la z < 320 ∨ 320 + 2 < la z) ∧ (la z < 90 ∨ 90 + 8 < la z)) → ((la z < la a107 ∨ la a107 + 2 < la z)) := fun z hz => by omega
                  have hf122 : ∀ z, ((la z < 10 ∨ 10 < la z) ∧ (la z < 310 ∨ 310 < la z) ∧ (la z < 320 ∨ 320 + 2 < la z) ∧ (la z < 90 ∨ 90 + 8 < la z)) → c110_V6 z = (V 6) z := fun z hz => (q110_V6 z (tz110 z hz)).trans (hf74 z hz)
                  clear hc110 hq110
                  exact Jj161 d58_G60 d58_G126 d58_G127 d58_G128 d58_G183 d58_G203 d58_P66 d58_P181 d58_P182 d58_P186 d58_P187 d58_U184 d58_V0 d58_V1 d58_V2 c110_V6 d58_V12 hf48 hf49 hf50 hf51 hf58 hf59 hf60 hl61 hf62 hl63 hf64 hl65 hf66 hl67 hf68 hl69 hf70 hf71 hf72 hf73 hf122 hf75
              · skip
                refine pw_nn (fun a85 hn_a85 => ?_)
                have lt_a85 := ((hB.1 235 fl_235) this a85 hn_a85).2.1
                have lb_a85 : la a85 = 320 := lk_235.mp ((hB.1 235 fl_235) this a85 hn_a85).2.2
                refine pw_b1 (fun c88_V6 hc88 => ?_)
                have hq88 := fr_X6_leaveName la (va_up (va_up (va_up (va_up (va_up (va_up (va_up (va_up (va_up (va_up (va_up (va_up (va_up (va_up (va_up (va_up (va_up (va_up (va_up (va_up G 60 d58_G60) 126 d58_G126) 127 d58_G127) 128 d58_G128) 141 c4_G141) 160 d58_G160) 161 d58_G161) 162 d58_G162) 163 d58_G163) 165 c45_G165) 166 d58_G166) 167 d58_G167) 183 d58_G183) 203 d58_G203) 160 c68_G160) 161 c68_G161) 162 c68_G162) 163 c68_G163) 166 c68_G166) 167 c68_G167) (va_up (va_up (va_up (va_up (va_up (va_up P 66 d58_P66) 164 c45_P164) 181 d58_P181) 182 d58_P182) 186 d58_P186) 187 d58_P187) (va_up U 184 d58_U184) (va_up (va_up (va_up (va_up (va_up V 0 d58_V0) 1 d58_V1) 2 d58_V2) 6 d58_V6) 12 d58_V12) X O kd ln cnt a85 (LB_set (LB_set (LB_set (LB_set (LB_set (LB_set hB hl61) ql45_164) hl63) hl65) hl67) hl69) _ hc88
                have q88_V6 : (∀ z, (la z < la a85 ∨ la a85 + 2 < la z) → c88_V6 z = d58_V6 z) := hq88
                have tz88 : ∀ z, ((la z < 10 ∨ 10 < la z) ∧ (la z < 310 ∨ 310 < la z) ∧ (la z < 320 ∨ 320 + 2 < la z) ∧ (la z < 90 ∨ 90 + 8 < la z)) → ((la z < la a85 ∨ la a85 + 2 < la z)) := fun z hz => by omega
                have hf123 : ∀ z, ((la z < 10 ∨ 10 < la z) ∧ (la z < 310 ∨ 310 < la z) ∧ (la z < 320 ∨ 320 + 2 < la z) ∧ (la z < 90 ∨ 90 + 8 < la z)) → c88_V6 z = (V 6) z := fun z hz => (q88_V6 z (tz88 z hz)).trans (hf74 z hz)
                clear hc88 hq88
                exact Jj161 d58_G60 d58_G126 d58_G127 d58_G128 d58_G183 d58_G203 d58_P66 d58_P181 d58_P182 d58_P186 d58_P187 d58_U184 d58_V0 d58_V1 d58_V2 c88_V6 d58_V12 hf48 hf49 hf50 hf51 hf58 hf59 hf60 hl61 hf62 hl63 hf64 hl65 hf66 hl67 hf68 hl69 hf70 hf71 hf72 hf73 hf123 hf75
      exact lp58 NN 0 (G 60) c52_G126 c52_G127 c52_G128 (G 160) (G 161) c45_G162 (G 163) c45_G166 c45_G167 (G 183) (G 203) (P 66) (P 181) (P 182) (P 186) (P 187) (U 184) (V 0) (V 1) (V 2) c52_V6 (V 12) (fun _ _ => rfl) hf7 hf8 hf9 (fun _ _ => rfl) (fun _ _ => rfl) hf2 (fun _ _ => rfl) hf4 hf5 (fun _ _ => rfl) (fun _ _ => rfl) (fun _ _ => rfl) (hB.1 66 fl_66) (fun _ _ => rfl) (hB.1 181 fl_181) (fun _ _ => rfl) (hB.1 182 fl_182) (fun _ _ => rfl) (hB.1 186 fl_186) (fun _ _ => rfl) (hB.1 187 fl_187) (fun _ _ => rfl) (fun _ _ => rfl) (fun _ _ => rfl) (fun _ _ => rfl) hf10 (fun _ _ => rfl)
    · skip
      exact pw_some ⟨(fun _ _ => rfl), (fun _ _ => rfl), (fun _ _ => rfl), (fun _ _ => rfl), (fun _ _ => rfl), (fun _ _ => rfl), hf1, (fun _ _ => rfl), (fun _ _ => rfl), (fun _ _ => rfl), (fun _ _ => rfl), (fun _ _ => rfl), (fun _ _ => rfl), (fun _ _ => rfl), (fun _ _ => rfl), (fun _ _ => rfl), (fun _ _ => rfl), (fun _ _ => rfl), (fun _ _ => rfl), (fun _ _ => rfl), (fun _ _ => rfl), (fun _ _ => rfl), (fun _ _ => rfl), (fun _ _ => rfl), (fun _ _ => rfl), (fun _ _ => rfl), (fun _ _ => rfl), (fun _ _ => rfl), (fun _ _ => rfl), (fun _ _ => rfl), (fun _ _ => rfl), (fun _ _ => rfl), (hB.1 66 fl_66), (hB.1 120 fl_120), (hB.1 121 fl_121), (hB.1 122 fl_122), (hB.1 123 fl_123), (hB.1 164 fl_164), (hB.1 181 fl_181), (hB.1 182 fl_182), (hB.1 186 fl_186), (hB.1 187 fl_187)⟩
