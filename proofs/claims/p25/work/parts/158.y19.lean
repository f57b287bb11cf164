/-! the turner's two rows, two forms stay two -/
def SWT (p1 p2 p6 p7 : Nat → Option Nat) (tn nw nx ah bh : Nat) : Prop := ((p1 tn = some nw ∧ p2 tn = some nx) ∨ (p1 tn = some nx ∧ p2 tn = some nw)) ∧ ((p6 tn = some ah ∧ p7 tn = some bh) ∨ (p6 tn = some bh ∧ p7 tn = some ah))
theorem SWT_fr {p1 p2 p6 p7 q1 q2 q6 q7 : Nat → Option Nat} {tn nw nx ah bh : Nat} (h : SWT p1 p2 p6 p7 tn nw nx ah bh) (e1 : q1 tn = p1 tn) (e2 : q2 tn = p2 tn) (e6 : q6 tn = p6 tn) (e7 : q7 tn = p7 tn) : SWT q1 q2 q6 q7 tn nw nx ah bh := by
  unfold SWT
  rw [e1, e2, e6, e7]
  exact h
theorem sw_two {p q m n : Nat → Option Nat} {tn t x y a b : Nat} (h : (p tn = some a ∧ q tn = some b) ∨ (p tn = some b ∧ q tn = some a)) (em : m = va_up p t (some y)) (en : n = va_up q t (some x)) (hx : p t = some x) (hy : q t = some y) : (m tn = some a ∧ n tn = some b) ∨ (m tn = some b ∧ n tn = some a) := by
  by_cases e : tn = t
  · subst e
    rw [em, en, va_up_self, va_up_self]
    rcases h with ⟨h1, h2⟩ | ⟨h1, h2⟩
    · exact Or.inr ⟨hy.symm.trans h2, hx.symm.trans h1⟩
    · exact Or.inl ⟨hy.symm.trans h2, hx.symm.trans h1⟩
  · rw [em, en, va_up_ne _ _ e, va_up_ne _ _ e]
    exact h
theorem sw_1 {p1 p2 p6 p7 m1 m2 : Nat → Option Nat} {tn nw nx ah bh t x y : Nat} (h : SWT p1 p2 p6 p7 tn nw nx ah bh) (em : m1 = va_up p1 t (some y)) (en : m2 = va_up p2 t (some x)) (hx : p1 t = some x) (hy : p2 t = some y) : SWT m1 m2 p6 p7 tn nw nx ah bh := ⟨sw_two h.1 em en hx hy, h.2⟩
theorem sw_2 {p1 p2 p6 p7 m6 m7 : Nat → Option Nat} {tn nw nx ah bh t x y : Nat} (h : SWT p1 p2 p6 p7 tn nw nx ah bh) (em : m6 = va_up p6 t (some y)) (en : m7 = va_up p7 t (some x)) (hx : p6 t = some x) (hy : p7 t = some y) : SWT p1 p2 m6 m7 tn nw nx ah bh := ⟨h.1, sw_two h.2 em en hx hy⟩
abbrev RW_X9_apply (G : Nat → Nat → Int32) (P : Nat → Nat → Option Nat) (U : Nat → Nat → Int64) (V : Nat → Nat → Nat → Int32) (X : Nat → Nat → Nat → Int64) (O : Nat → Nat → Nat → Option Nat) (kd : Nat → Nat) (ln : Nat → Nat) (cnt : Nat) (this : Nat) (p0 : Nat) (tn nw nx ah bh : Nat) : (Int32 × (Nat → Int32) × (Nat → Option Nat) × (Nat → Option Nat) × (Nat → Nat → Int32)) → Prop := fun t => SWT (t.2.2.1) (t.2.2.2.1) (P 186) (P 187) tn nw nx ah bh
set_option maxHeartbeats 4000000 in
set_option maxRecDepth 100000 in
theorem sw_X9_apply (la : Nat → Nat) (G : Nat → Nat → Int32) (P : Nat → Nat → Option Nat) (U : Nat → Nat → Int64) (V : Nat → Nat → Nat → Int32) (X : Nat → Nat → Nat → Int64) (O : Nat → Nat → Nat → Option Nat) (kd : Nat → Nat) (ln : Nat → Nat) (cnt : Nat) (this : Nat) (p0 : Nat) (hB : LB la cnt P) (hlt_this : this < cnt) (tn nw nx ah bh : Nat) (htn : tn < cnt) (hs : SWT (P 181) (P 182) (P 186) (P 187) tn nw nx ah bh) : pw (f_X9_apply G P U V X O kd ln cnt this p0) (RW_X9_apply G P U V X O kd ln cnt this p0 tn nw nx ah bh) := by
  unfold f_X9_apply
  refine pw_jn (fun k113 => ∀ (x113_2 : Int32) (x113_3 : Int32) (c113_V0 : Nat → Nat → Int32), (∀ z, ((la z < la this ∨ la this + 8 < la z)) → c113_V0 z = (V 0) z) → pw (k113 x113_2 x113_3 c113_V0) (RW_X9_apply G P U V X O kd ln cnt this p0 tn nw nx ah bh)) ?_ ?_
  · intro x113_2 x113_3 c113_V0 hf1
    show pw _ _
    refine pw_jn (fun j142 => ∀ (c142_G183 : Nat → Int32) (c142_P181 : Nat → Option Nat) (c142_P182 : Nat → Option Nat), (∀ z, ((la z < la this ∨ la this + 8 < la z)) → c142_G183 z = (G 183) z) → (∀ z, ((la z < la this ∨ la this + 8 < la z)) → c142_P181 z = (P 181) z) → LC 181 la cnt c142_P181 → (∀ z, ((la z < la this ∨ la this + 8 < la z)) → c142_P182 z = (P 182) z) → LC 182 la cnt c142_P182 → (SWT c142_P181 c142_P182 (P 186) (P 187) tn nw nx ah bh) → pw (j142 c142_G183 c142_P181 c142_P182) (RW_X9_apply G P U V X O kd ln cnt this p0 tn nw nx ah bh)) ?_ ?_
    · intro c142_G183 c142_P181 c142_P182 hf2 hf3 hl4 hf5 hl6 hsw7
      show pw _ _
      refine pw_if (fun _ => ?_)
      exact pw_some (hsw7)
    intro j142 Jj142
    refine pw_ite (fun _ => ?_) (fun _ => ?_)
    · skip
      exact Jj142 (G 183) (P 181) (P 182) (fun _ _ => rfl) (fun _ _ => rfl) (hB.1 181 fl_181) (fun _ _ => rfl) (hB.1 182 fl_182) hs
    · skip
      refine pw_nn (fun a118 hn_a118 => ?_)
      have lt_a118 := ((hB.1 181 fl_181) this a118 hn_a118).2.1
      have lb_a118 : (la a118 = la this + 1 ∨ la a118 = la this + 2) := lk_181.mp ((hB.1 181 fl_181) this a118 hn_a118).2.2
      refine pw_nn (fun a125 hn_a125 => ?_)
      have lt_a125 := ((hB.1 182 fl_182) this a125 hn_a125).2.1
      have lb_a125 : (la a125 = la this + 1 ∨ la a125 = la this + 2) := lk_182.mp ((hB.1 182 fl_182) this a125 hn_a125).2.2
      refine pw_vl (fun m128 em128 => ?_)
      have hl8 : LC 181 la cnt m128 := LC_up (hB.1 181 fl_181) em128 (by omega) (by omega) (lk_181.mpr (by omega))
      have hf9 : ∀ z, ((la z < la this ∨ la this + 8 < la z)) → m128 z = (P 181) z := fr_up (e0 := (P 181)) (fun _ _ => rfl) em128 (show ¬ ((la this < la this ∨ la this + 8 < la this)) from by omega)
      refine pw_vl (fun m134 em134 => ?_)
      have hl10 : LC 182 la cnt m134 := LC_up (hB.1 182 fl_182) em134 (by omega) (by omega) (lk_182.mpr (by omega))
      have hf11 : ∀ z, ((la z < la this ∨ la this + 8 < la z)) → m134 z = (P 182) z := fr_up (e0 := (P 182)) (fun _ _ => rfl) em134 (show ¬ ((la this < la this ∨ la this + 8 < la this)) from by omega)
      refine pw_vl (fun m139 em139 => ?_)
      have hf12 : ∀ z, ((la z < la this ∨ la this + 8 < la z)) → m139 z = (G 183) z := fr_up (e0 := (G 183)) (fun _ _ => rfl) em139 (show ¬ ((la this < la this ∨ la this + 8 < la this)) from by omega)
      exact Jj142 m139 m128 m134 hf12 hf9 hl8 hf11 hl10 (sw_1 hs em128 em134 hn_a118 hn_a125)
  intro k113 Jk113
  have lp7 : ∀ (n7 : Nat) (y7_2 : Int32) (y7_3 : Int32) (y7_4 : Int32) (d7_V0 : Nat → Nat → Int32), (∀ z, ((la z < la this ∨ la this + 8 < la z)) → d7_V0 z = (V 0) z) → pw (L_X9_apply_7 G P U V X O kd ln cnt this p0 k113 n7 y7_2 y7_3 y7_4 d7_V0) (RW_X9_apply G P U V X O kd ln cnt this p0 tn nw nx ah bh) := by
    intro n7
    induction n7 with
    | zero => intros; exact pw_none
    | succ n7 ih7 =>
      intro y7_2 y7_3 y7_4 d7_V0 hf13
      show pw (B_X9_apply_7 G P U V X O kd ln cnt this p0 k113 (L_X9_apply_7 G P U V X O kd ln cnt this p0 k113 n7) y7_2 y7_3 y7_4 d7_V0) _
      unfold B_X9_apply_7
      refine pw_ite (fun _ => ?_) (fun _ => ?_)
      · skip
        exact Jk113 y7_2 y7_3 d7_V0 hf13
      · skip
        refine pw_ite (fun _ => ?_) (fun _ => ?_)
        · skip
          exact Jk113 y7_2 y7_3 d7_V0 hf13
        · skip
          refine pw_nn (fun a24 hn_a24 => ?_)
          have lt_a24 := ((hB.1 181 fl_181) this a24 hn_a24).2.1
          have lb_a24 : (la a24 = la this + 1 ∨ la a24 = la this + 2) := lk_181.mp ((hB.1 181 fl_181) this a24 hn_a24).2.2
          refine pw_nn (fun a34 hn_a34 => ?_)
          have lt_a34 := ((hB.1 182 fl_182) this a34 hn_a34).2.1
          have lb_a34 : (la a34 = la this + 1 ∨ la a34 = la this + 2) := lk_182.mp ((hB.1 182 fl_182) this a34 hn_a34).2.2
          refine pw_b1 (fun r38 hc38 => ?_)
          clear hc38
          refine pw_jn (fun j107 => ∀ (x107_2 : Int32) (x107_3 : Int32) (x107_4 : Int32) (c107_V0 : Nat → Nat → Int32), (∀ z, ((la z < la this ∨ la this + 8 < la z)) → c107_V0 z = (V 0) z) → pw (j107 x107_2 x107_3 x107_4 c107_V0) (RW_X9_apply G P U V X O kd ln cnt this p0 tn nw nx ah bh)) ?_ ?_
          · intro x107_2 x107_3 x107_4 c107_V0 hf14
            show pw _ _
            exact ih7 x107_2 x107_3 (x107_4 + 1) c107_V0 hf14
          intro j107 Jj107
          refine pw_ite (fun _ => ?_) (fun _ => ?_)
          · skip
            refine pw_nn (fun a92 hn_a92 => ?_)
            have lt_a92 := ((hB.1 182 fl_182) this a92 hn_a92).2.1
            have lb_a92 : (la a92 = la this + 1 ∨ la a92 = la this + 2) := lk_182.mp ((hB.1 182 fl_182) this a92 hn_a92).2.2
            refine pw_nn (fun a97 hn_a97 => ?_)
            have lt_a97 := ((hB.1 181 fl_181) this a97 hn_a97).2.1
            have lb_a97 : (la a97 = la this + 1 ∨ la a97 = la this + 2) := lk_181.mp ((hB.1 181 fl_181) this a97 hn_a97).2.2
            refine pw_if (fun _ => ?_)
            refine pw_if (fun _ => ?_)
            refine pw_vl (fun m103 em103 => ?_)
            have hf15 : ∀ z, ((la z < la this ∨ la this + 8 < la z)) → m103 z = (V 0) z := fr_up (e0 := (V 0)) hf13 em103 (show ¬ ((la a92 < la this ∨ la this + 8 < la a92)) from by omega)
            exact Jj107 y7_2 (y7_3 + 1) y7_4 m103 hf15
          · skip
            refine pw_nn (fun a45 hn_a45 => ?_)
            have lt_a45 := ((hB.1 21 fl_21) p0 a45 hn_a45).2.1
            have lb_a45 : la a45 = la p0 + 0 := lk_21.mp ((hB.1 21 fl_21) p0 a45 hn_a45).2.2
            refine pw_nn (fun a50 hn_a50 => ?_)
            have lt_a50 := ((hB.1 182 fl_182) this a50 hn_a50).2.1
            have lb_a50 : (la a50 = la this + 1 ∨ la a50 = la this + 2) := lk_182.mp ((hB.1 182 fl_182) this a50 hn_a50).2.2
            refine pw_nn (fun a55 hn_a55 => ?_)
            have lt_a55 := ((hB.1 21 fl_21) p0 a55 hn_a55).2.1
            have lb_a55 : la a55 = la p0 + 0 := lk_21.mp ((hB.1 21 fl_21) p0 a55 hn_a55).2.2
            refine pw_if (fun _ => ?_)
            refine pw_vl (fun m59 em59 => ?_)
            have hf16 : ∀ z, ((la z < la this ∨ la this + 8 < la z)) → m59 z = (V 0) z := fr_up (e0 := (V 0)) hf13 em59 (show ¬ ((la a50 < la this ∨ la this + 8 < la a50)) from by omega)
            refine pw_nn (fun a64 hn_a64 => ?_)
            have lt_a64 := ((hB.1 21 fl_21) p0 a64 hn_a64).2.1
            have lb_a64 : la a64 = la p0 + 0 := lk_21.mp ((hB.1 21 fl_21) p0 a64 hn_a64).2.2
            refine pw_vl (fun x69 _ => ?_)
            refine pw_nn (fun a73 hn_a73 => ?_)
            have lt_a73 := ((hB.1 20 fl_20) p0 a73 hn_a73).2.1
            have lb_a73 : la a73 = la p0 + 0 := lk_20.mp ((hB.1 20 fl_20) p0 a73 hn_a73).2.2
            refine pw_vl (fun x84 _ => ?_)
            exact Jj107 1 x69 x84 m59 hf16
  exact lp7 NN 0 0 0 (V 0) (fun _ _ => rfl)
abbrev RW_X9_runLaws (G : Nat → Nat → Int32) (P : Nat → Nat → Option Nat) (U : Nat → Nat → Int64) (V : Nat → Nat → Nat → Int32) (X : Nat → Nat → Nat → Int64) (O : Nat → Nat → Nat → Option Nat) (kd : Nat → Nat) (ln : Nat → Nat) (cnt : Nat) (this : Nat) (p0 : Nat) (p1 : Nat) (p2 : Int32) (p3 : Int32) (tn nw nx ah bh : Nat) : (Int32 × (Nat → Int32) × (Nat → Option Nat) × (Nat → Option Nat) × (Nat → Int64) × (Nat → Nat → Int32)) → Prop := fun t => SWT (t.2.2.1) (t.2.2.2.1) (P 186) (P 187) tn nw nx ah bh
set_option maxHeartbeats 4000000 in
set_option maxRecDepth 100000 in
theorem sw_X9_runLaws (la : Nat → Nat) (G : Nat → Nat → Int32) (P : Nat → Nat → Option Nat) (U : Nat → Nat → Int64) (V : Nat → Nat → Nat → Int32) (X : Nat → Nat → Nat → Int64) (O : Nat → Nat → Nat → Option Nat) (kd : Nat → Nat) (ln : Nat → Nat) (cnt : Nat) (this : Nat) (p0 : Nat) (p1 : Nat) (p2 : Int32) (p3 : Int32) (hB : LB la cnt P) (hlt_this : this < cnt) (tn nw nx ah bh : Nat) (htn : tn < cnt) (hs : SWT (P 181) (P 182) (P 186) (P 187) tn nw nx ah bh) : pw (f_X9_runLaws G P U V X O kd ln cnt this p0 p1 p2 p3) (RW_X9_runLaws G P U V X O kd ln cnt this p0 p1 p2 p3 tn nw nx ah bh) := by
  unfold f_X9_runLaws
  refine pw_vl (fun m2 em2 => ?_)
  have hf1 : ∀ z, ((la z < la this ∨ la this + 8 < la z)) → m2 z = (U 184) z := fr_up (e0 := (U 184)) (fun _ _ => rfl) em2 (show ¬ ((la this < la this ∨ la this + 8 < la this)) from by omega)
  refine pw_vl (fun x13 _ => ?_)
  refine pw_vl (fun m13 em13 => ?_)
  have hf2 : ∀ z, ((la z < la this ∨ la this + 8 < la z)) → m13 z = (G 183) z := fr_up (e0 := (G 183)) (fun _ _ => rfl) em13 (show ¬ ((la this < la this ∨ la this + 8 < la this)) from by omega)
  refine pw_nn (fun a19 hn_a19 => ?_)
  have lt_a19 := ((hB.1 181 fl_181) this a19 hn_a19).2.1
  have lb_a19 : (la a19 = la this + 1 ∨ la a19 = la this + 2) := lk_181.mp ((hB.1 181 fl_181) this a19 hn_a19).2.2
  refine pw_if (fun _ => ?_)
  refine pw_vl (fun m27 em27 => ?_)
  have hf3 : ∀ z, ((la z < la this ∨ la this + 8 < la z)) → m27 z = (V 0) z := fr_up (e0 := (V 0)) (fun _ _ => rfl) em27 (show ¬ ((la a19 < la this ∨ la this + 8 < la a19)) from by omega)
  refine pw_jn (fun k93 => ∀ (c93_G183 : Nat → Int32) (c93_P181 : Nat → Option Nat) (c93_P182 : Nat → Option Nat) (c93_U184 : Nat → Int64) (c93_V0 : Nat → Nat → Int32), (∀ z, ((la z < la this ∨ la this + 8 < la z)) → c93_G183 z = (G 183) z) → (∀ z, ((la z < la this ∨ la this + 8 < la z)) → c93_P181 z = (P 181) z) → LC 181 la cnt c93_P181 → (∀ z, ((la z < la this ∨ la this + 8 < la z)) → c93_P182 z = (P 182) z) → LC 182 la cnt c93_P182 → (∀ z, ((la z < la this ∨ la this + 8 < la z)) → c93_U184 z = (U 184) z) → (∀ z, ((la z < la this ∨ la this + 8 < la z)) → c93_V0 z = (V 0) z) → (SWT c93_P181 c93_P182 (P 186) (P 187) tn nw nx ah bh) → pw (k93 c93_G183 c93_P181 c93_P182 c93_U184 c93_V0) (RW_X9_runLaws G P U V X O kd ln cnt this p0 p1 p2 p3 tn nw nx ah bh)) ?_ ?_
  · intro c93_G183 c93_P181 c93_P182 c93_U184 c93_V0 hf4 hf5 hl6 hf7 hl8 hf9 hf10 hsw11
    show pw _ _
    refine pw_jn (fun j107 => ∀ (t107_0 : Int32), pw (j107 t107_0) (RW_X9_runLaws G P U V X O kd ln cnt this p0 p1 p2 p3 tn nw nx ah bh)) ?_ ?_
    · intro t107_0
      show pw _ _
      refine pw_if (fun _ => ?_)
      exact pw_some (hsw11)
    intro j107 Jj107
    refine pw_ite (fun _ => ?_) (fun _ => ?_)
    · skip
      exact Jj107 0
    · skip
      exact Jj107 1
  intro k93 Jk93
  have lp33 : ∀ (n33 : Nat) (y33_5 : Int32) (d33_G183 : Nat → Int32) (d33_P181 : Nat → Option Nat) (d33_P182 : Nat → Option Nat) (d33_U184 : Nat → Int64) (d33_V0 : Nat → Nat → Int32), (∀ z, ((la z < la this ∨ la this + 8 < la z)) → d33_G183 z = (G 183) z) → (∀ z, ((la z < la this ∨ la this + 8 < la z)) → d33_P181 z = (P 181) z) → LC 181 la cnt d33_P181 → (∀ z, ((la z < la this ∨ la this + 8 < la z)) → d33_P182 z = (P 182) z) → LC 182 la cnt d33_P182 → (∀ z, ((la z < la this ∨ la this + 8 < la z)) → d33_U184 z = (U 184) z) → (∀ z, ((la z < la this ∨ la this + 8 < la z)) → d33_V0 z = (V 0) z) → (SWT d33_P181 d33_P182 (P 186) (P 187) tn nw nx ah bh) → pw (L_X9_runLaws_33 G P U V X O kd ln cnt this p0 k93 n33 y33_5 d33_G183 d33_P181 d33_P182 d33_U184 d33_V0) (RW_X9_runLaws G P U V X O kd ln cnt this p0 p1 p2 p3 tn nw nx ah bh) := by
    intro n33
    induction n33 with
    | zero => intros; exact pw_none
    | succ n33 ih33 =>
      intro y33_5 d33_G183 d33_P181 d33_P182 d33_U184 d33_V0 hf12 hf13 hl14 hf15 hl16 hf17 hf18 hsw19
      show pw (B_X9_runLaws_33 G P U V X O kd ln cnt this p0 k93 (L_X9_runLaws_33 G P U V X O kd ln cnt this p0 k93 n33) y33_5 d33_G183 d33_P181 d33_P182 d33_U184 d33_V0) _
      unfold B_X9_runLaws_33
      refine pw_ite (fun _ => ?_) (fun _ => ?_)
      · skip
        exact Jk93 d33_G183 d33_P181 d33_P182 d33_U184 d33_V0 hf12 hf13 hl14 hf15 hl16 hf17 hf18 hsw19
      · skip
        refine pw_ite (fun _ => ?_) (fun _ => ?_)
        · skip
          exact Jk93 d33_G183 d33_P181 d33_P182 d33_U184 d33_V0 hf12 hf13 hl14 hf15 hl16 hf17 hf18 hsw19
        · skip
          refine pw_nn (fun a52 hn_a52 => ?_)
          have lt_a52 := ((hB.1 101 fl_101) p0 a52 hn_a52).2.1
          have lb_a52 : la a52 = la p0 + 0 := lk_101.mp ((hB.1 101 fl_101) p0 a52 hn_a52).2.2
          refine pw_if (fun _ => ?_)
          refine pw_vl (fun o57 _ => ?_)
          refine pw_jn (fun j87 => ∀ (c87_G183 : Nat → Int32) (c87_P181 : Nat → Option Nat) (c87_P182 : Nat → Option Nat) (c87_U184 : Nat → Int64) (c87_V0 : Nat → Nat → Int32), (∀ z, ((la z < la this ∨ la this + 8 < la z)) → c87_G183 z = (G 183) z) → (∀ z, ((la z < la this ∨ la this + 8 < la z)) → c87_P181 z = (P 181) z) → LC 181 la cnt c87_P181 → (∀ z, ((la z < la this ∨ la this + 8 < la z)) → c87_P182 z = (P 182) z) → LC 182 la cnt c87_P182 → (∀ z, ((la z < la this ∨ la this + 8 < la z)) → c87_U184 z = (U 184) z) → (∀ z, ((la z < la this ∨ la this + 8 < la z)) → c87_V0 z = (V 0) z) → (SWT c87_P181 c87_P182 (P 186) (P 187) tn nw nx ah bh) → pw (j87 c87_G183 c87_P181 c87_P182 c87_U184 c87_V0) (RW_X9_runLaws G P U V X O kd ln cnt this p0 p1 p2 p3 tn nw nx ah bh)) ?_ ?_
          · intro c87_G183 c87_P181 c87_P182 c87_U184 c87_V0 hf20 hf21 hl22 hf23 hl24 hf25 hf26 hsw27
            show pw _ _
            exact ih33 (y33_5 + 1) c87_G183 c87_P181 c87_P182 c87_U184 c87_V0 hf20 hf21 hl22 hf23 hl24 hf25 hf26 hsw27
          intro j87 Jj87
          refine pw_oc (fun _ => ?_) (fun b62 _ => ?_)
          · skip
            exact Jj87 d33_G183 d33_P181 d33_P182 d33_U184 d33_V0 hf12 hf13 hl14 hf15 hl16 hf17 hf18 hsw19
          · skip
            refine pw_b5 (fun r68 c68_G183 c68_P181 c68_P182 c68_V0 hc68 => ?_)
            have hq68 := fr_X9_apply la (va_up G 183 d33_G183) (va_up (va_up P 181 d33_P181) 182 d33_P182) (va_up U 184 d33_U184) (va_up V 0 d33_V0) X O kd ln cnt this b62 (LB_set (LB_set hB hl14) hl16) hlt_this _ hc68
            have hsw32 : SWT c68_P181 c68_P182 (P 186) (P 187) tn nw nx ah bh := sw_X9_apply la (va_up G 183 d33_G183) (va_up (va_up P 181 d33_P181) 182 d33_P182) (va_up U 184 d33_U184) (va_up V 0 d33_V0) X O kd ln cnt this b62 (LB_set (LB_set hB hl14) hl16) hlt_this tn nw nx ah bh (show tn < cnt from by omega) hsw19 _ hc68
            obtain ⟨q68_G183, q68_P181, q68_P182, q68_V0, ql68_181, ql68_182⟩ : (∀ z, (la z < la this ∨ la this + 8 < la z) → c68_G183 z = d33_G183 z) ∧ (∀ z, (la z < la this ∨ la this + 8 < la z) → c68_P181 z = d33_P181 z) ∧ (∀ z, (la z < la this ∨ la this + 8 < la z) → c68_P182 z = d33_P182 z) ∧ (∀ z, (la z < la this ∨ la this + 8 < la z) → c68_V0 z = d33_V0 z) ∧ LC 181 la cnt c68_P181 ∧ LC 182 la cnt c68_P182 := hq68
            have tz68 : ∀ z, ((la z < la this ∨ la this + 8 < la z)) → ((la z < la this ∨ la this + 8 < la z)) := fun z hz => by omega
            have hf28 : ∀ z, ((la z < la this ∨ la this + 8 < la z)) → c68_G183 z = (G 183) z := fun z hz => (q68_G183 z (tz68 z hz)).trans (hf12 z hz)
            have hf29 : ∀ z, ((la z < la this ∨ la this + 8 < la z)) → c68_P181 z = (P 181) z := fun z hz => (q68_P181 z (tz68 z hz)).trans (hf13 z hz)
            have hf30 : ∀ z, ((la z < la this ∨ la this + 8 < la z)) → c68_P182 z = (P 182) z := fun z hz => (q68_P182 z (tz68 z hz)).trans (hf15 z hz)
            have hf31 : ∀ z, ((la z < la this ∨ la this + 8 < la z)) → c68_V0 z = (V 0) z := fun z hz => (q68_V0 z (tz68 z hz)).trans (hf18 z hz)
            clear hc68
            refine pw_ite (fun _ => ?_) (fun _ => ?_)
            · skip
              exact Jj87 c68_G183 c68_P181 c68_P182 d33_U184 c68_V0 hf28 hf29 ql68_181 hf30 ql68_182 hf17 hf31 hsw32
            · skip
              refine pw_vl (fun x84 _ => ?_)
              refine pw_vl (fun m84 em84 => ?_)
              have hf33 : ∀ z, ((la z < la this ∨ la this + 8 < la z)) → m84 z = (U 184) z := fr_up (e0 := (U 184)) hf17 em84 (show ¬ ((la this < la this ∨ la this + 8 < la this)) from by omega)
              exact Jj87 c68_G183 c68_P181 c68_P182 m84 c68_V0 hf28 hf29 ql68_181 hf30 ql68_182 hf33 hf31 hsw32
  exact lp33 NN 0 m13 (P 181) (P 182) m2 m27 hf2 (fun _ _ => rfl) (hB.1 181 fl_181) (fun _ _ => rfl) (hB.1 182 fl_182) hf1 hf3 hs
abbrev RW_X9_turnParts (G : Nat → Nat → Int32) (P : Nat → Nat → Option Nat) (U : Nat → Nat → Int64) (V : Nat → Nat → Nat → Int32) (X : Nat → Nat → Nat → Int64) (O : Nat → Nat → Nat → Option Nat) (kd : Nat → Nat) (ln : Nat → Nat) (cnt : Nat) (this : Nat) (p0 : Nat) (tn nw nx ah bh : Nat) : ((Nat → Int32) × (Nat → Int32) × (Nat → Option Nat) × (Nat → Option Nat) × (Nat → Int64) × (Nat → Nat → Int32) × (Nat → Nat → Int32) × (Nat → Nat → Int32) × (Nat → Nat → Int64)) → Prop := fun t => SWT (t.2.2.1) (t.2.2.2.1) (P 186) (P 187) tn nw nx ah bh
set_option maxHeartbeats 4000000 in
set_option maxRecDepth 100000 in
theorem sw_X9_turnParts (la : Nat → Nat) (G : Nat → Nat → Int32) (P : Nat → Nat → Option Nat) (U : Nat → Nat → Int64) (V : Nat → Nat → Nat → Int32) (X : Nat → Nat → Nat → Int64) (O : Nat → Nat → Nat → Option Nat) (kd : Nat → Nat) (ln : Nat → Nat) (cnt : Nat) (this : Nat) (p0 : Nat) (hB : LB la cnt P) (hlt_this : this < cnt) (tn nw nx ah bh : Nat) (htn : tn < cnt) (hs : SWT (P 181) (P 182) (P 186) (P 187) tn nw nx ah bh) : pw (f_X9_turnParts G P U V X O kd ln cnt this p0) (RW_X9_turnParts G P U V X O kd ln cnt this p0 tn nw nx ah bh) := by
  unfold f_X9_turnParts
  refine pw_nn (fun a1 hn_a1 => ?_)
  have lt_a1 := ((hB.1 103 fl_103) p0 a1 hn_a1).2.1
  have lb_a1 : la a1 = la p0 + 1 := lk_103.mp ((hB.1 103 fl_103) p0 a1 hn_a1).2.2
  have lp7 : ∀ (n7 : Nat) (y7_3 : Int32) (d7_G183 : Nat → Int32) (d7_G203 : Nat → Int32) (d7_P181 : Nat → Option Nat) (d7_P182 : Nat → Option Nat) (d7_U184 : Nat → Int64) (d7_V0 : Nat → Nat → Int32) (d7_V1 : Nat → Nat → Int32) (d7_V11 : Nat → Nat → Int32) (d7_X0 : Nat → Nat → Int64), (∀ z, ((la z < la this ∨ la this + 8 < la z) ∧ (la z < la p0 ∨ la p0 + 5 < la z)) → d7_G183 z = (G 183) z) → (∀ z, ((la z < la this ∨ la this + 8 < la z) ∧ (la z < la p0 ∨ la p0 + 5 < la z)) → d7_G203 z = (G 203) z) → (∀ z, ((la z < la this ∨ la this + 8 < la z) ∧ (la z < la p0 ∨ la p0 + 5 < la z)) → d7_P181 z = (P 181) z) → LC 181 la cnt d7_P181 → (∀ z, ((la z < la this ∨ la this + 8 < la z) ∧ (la z < la p0 ∨ la p0 + 5 < la z)) → d7_P182 z = (P 182) z) → LC 182 la cnt d7_P182 → (∀ z, ((la z < la this ∨ la this + 8 < la z) ∧ (la z < la p0 ∨ la p0 + 5 < la z)) → d7_U184 z = (U 184) z) → (∀ z, ((la z < la this ∨ la this + 8 < la z) ∧ (la z < la p0 ∨ la p0 + 5 < la z)) → d7_V0 z = (V 0) z) → (∀ z, ((la z < la this ∨ la this + 8 < la z) ∧ (la z < la p0 ∨ la p0 + 5 < la z)) → d7_V1 z = (V 1) z) → (∀ z, ((la z < la this ∨ la this + 8 < la z) ∧ (la z < la p0 ∨ la p0 + 5 < la z)) → d7_V11 z = (V 11) z) → (∀ z, ((la z < la this ∨ la this + 8 < la z) ∧ (la z < la p0 ∨ la p0 + 5 < la z)) → d7_X0 z = (X 0) z) → (SWT d7_P181 d7_P182 (P 186) (P 187) tn nw nx ah bh) → pw (L_X9_turnParts_7 G P U V X O kd ln cnt this p0 a1 n7 y7_3 d7_G183 d7_G203 d7_P181 d7_P182 d7_U184 d7_V0 d7_V1 d7_V11 d7_X0) (RW_X9_turnParts G P U V X O kd ln cnt this p0 tn nw nx ah bh) := by
    intro n7
    induction n7 with
    | zero => intros; exact pw_none
    | succ n7 ih7 =>
      intro y7_3 d7_G183 d7_G203 d7_P181 d7_P182 d7_U184 d7_V0 d7_V1 d7_V11 d7_X0 hf1 hf2 hf3 hl4 hf5 hl6 hf7 hf8 hf9 hf10 hf11 hsw12
      show pw (B_X9_turnParts_7 G P U V X O kd ln cnt this p0 a1 (L_X9_turnParts_7 G P U V X O kd ln cnt this p0 a1 n7) y7_3 d7_G183 d7_G203 d7_P181 d7_P182 d7_U184 d7_V0 d7_V1 d7_V11 d7_X0) _
      unfold B_X9_turnParts_7
      refine pw_ite (fun _ => ?_) (fun _ => ?_)
      · skip
        exact pw_some (hsw12)
      · skip
        refine pw_nn (fun a18 hn_a18 => ?_)
        have lt_a18 := ((hB.1 201 fl_201) a1 a18 hn_a18).2.1
        have lb_a18 : la a18 = la a1 + 0 := lk_201.mp ((hB.1 201 fl_201) a1 a18 hn_a18).2.2
        refine pw_nn (fun a28 hn_a28 => ?_)
        have lt_a28 := ((hB.1 202 fl_202) a1 a28 hn_a28).2.1
        have lb_a28 : la a28 = la a1 + 0 := lk_202.mp ((hB.1 202 fl_202) a1 a28 hn_a28).2.2
        refine pw_if (fun _ => ?_)
        refine pw_b6 (fun r33 c33_G183 c33_P181 c33_P182 c33_U184 c33_V0 hc33 => ?_)
        have hq33 := fr_X9_runLaws la (va_up (va_up G 183 d7_G183) 203 d7_G203) (va_up (va_up P 181 d7_P181) 182 d7_P182) (va_up U 184 d7_U184) (va_up (va_up (va_up V 0 d7_V0) 1 d7_V1) 11 d7_V11) (va_up X 0 d7_X0) O kd ln cnt this p0 a18 (y7_3 * ((G 200) a1)) ((d7_V1 a28) (Int32.toNatClampNeg y7_3)) (LB_set (LB_set hB hl4) hl6) hlt_this _ hc33
        have hsw18 : SWT c33_P181 c33_P182 (P 186) (P 187) tn nw nx ah bh := sw_X9_runLaws la (va_up (va_up G 183 d7_G183) 203 d7_G203) (va_up (va_up P 181 d7_P181) 182 d7_P182) (va_up U 184 d7_U184) (va_up (va_up (va_up V 0 d7_V0) 1 d7_V1) 11 d7_V11) (va_up X 0 d7_X0) O kd ln cnt this p0 a18 (y7_3 * ((G 200) a1)) ((d7_V1 a28) (Int32.toNatClampNeg y7_3)) (LB_set (LB_set hB hl4) hl6) hlt_this tn nw nx ah bh (show tn < cnt from by omega) hsw12 _ hc33
        obtain ⟨q33_G183, q33_P181, q33_P182, q33_U184, q33_V0, ql33_181, ql33_182⟩ : (∀ z, (la z < la this ∨ la this + 8 < la z) → c33_G183 z = d7_G183 z) ∧ (∀ z, (la z < la this ∨ la this + 8 < la z) → c33_P181 z = d7_P181 z) ∧ (∀ z, (la z < la this ∨ la this + 8 < la z) → c33_P182 z = d7_P182 z) ∧ (∀ z, (la z < la this ∨ la this + 8 < la z) → c33_U184 z = d7_U184 z) ∧ (∀ z, (la z < la this ∨ la this + 8 < la z) → c33_V0 z = d7_V0 z) ∧ LC 181 la cnt c33_P181 ∧ LC 182 la cnt c33_P182 := hq33
        have tz33 : ∀ z, ((la z < la this ∨ la this + 8 < la z) ∧ (la z < la p0 ∨ la p0 + 5 < la z)) → ((la z < la this ∨ la this + 8 < la z)) := fun z hz => by omega
        have hf13 : ∀ z, ((la z < la this ∨ la this + 8 < la z) ∧ (la z < la p0 ∨ la p0 + 5 < la z)) → c33_G183 z = (G 183) z := fun z hz => (q33_G183 z (tz33 z hz)).trans (hf1 z hz)
        have hf14 : ∀ z, ((la z < la this ∨ la this + 8 < la z) ∧ (la z < la p0 ∨ la p0 + 5 < la z)) → c33_P181 z = (P 181) z := fun z hz => (q33_P181 z (tz33 z hz)).trans (hf3 z hz)
        have hf15 : ∀ z, ((la z < la this ∨ la this + 8 < la z) ∧ (la z < la p0 ∨ la p0 + 5 < la z)) → c33_P182 z = (P 182) z := fun z hz => (q33_P182 z (tz33 z hz)).trans (hf5 z hz)
        have hf16 : ∀ z, ((la z < la this ∨ la this + 8 < la z) ∧ (la z < la p0 ∨ la p0 + 5 < la z)) → c33_U184 z = (U 184) z := fun z hz => (q33_U184 z (tz33 z hz)).trans (hf7 z hz)
        have hf17 : ∀ z, ((la z < la this ∨ la this + 8 < la z) ∧ (la z < la p0 ∨ la p0 + 5 < la z)) → c33_V0 z = (V 0) z := fun z hz => (q33_V0 z (tz33 z hz)).trans (hf8 z hz)
        clear hc33
        refine pw_nn (fun a39 hn_a39 => ?_)
        have lt_a39 := ((hB.1 109 fl_109) p0 a39 hn_a39).2.1
        have lb_a39 : la a39 = la p0 + 0 := lk_109.mp ((hB.1 109 fl_109) p0 a39 hn_a39).2.2
        refine pw_if (fun _ => ?_)
        refine pw_vl (fun m45 em45 => ?_)
        have hf19 : ∀ z, ((la z < la this ∨ la this + 8 < la z) ∧ (la z < la p0 ∨ la p0 + 5 < la z)) → m45 z = (V 11) z := fr_up (e0 := (V 11)) hf10 em45 (show ¬ ((la a39 < la this ∨ la this + 8 < la a39) ∧ (la a39 < la p0 ∨ la p0 + 5 < la a39)) from by omega)
        refine pw_nn (fun a47 hn_a47 => ?_)
        have lt_a47 := ((hB.1 110 fl_110) p0 a47 hn_a47).2.1
        have lb_a47 : la a47 = la p0 + 0 := lk_110.mp ((hB.1 110 fl_110) p0 a47 hn_a47).2.2
        refine pw_if (fun _ => ?_)
        refine pw_vl (fun m55 em55 => ?_)
        have hf20 : ∀ z, ((la z < la this ∨ la this + 8 < la z) ∧ (la z < la p0 ∨ la p0 + 5 < la z)) → m55 z = (X 0) z := fr_up (e0 := (X 0)) hf11 em55 (show ¬ ((la a47 < la this ∨ la this + 8 < la a47) ∧ (la a47 < la p0 ∨ la p0 + 5 < la a47)) from by omega)
        refine pw_nn (fun a57 hn_a57 => ?_)
        have lt_a57 := ((hB.1 108 fl_108) p0 a57 hn_a57).2.1
        have lb_a57 : la a57 = la p0 + 4 := lk_108.mp ((hB.1 108 fl_108) p0 a57 hn_a57).2.2
        refine pw_nn (fun a61 hn_a61 => ?_)
        have lt_a61 := (ql33_181 this a61 hn_a61).2.1
        have lb_a61 : (la a61 = la this + 1 ∨ la a61 = la this + 2) := lk_181.mp (ql33_181 this a61 hn_a61).2.2
        refine pw_jn (fun j78 => ∀ (t78_0 : Int32), pw (j78 t78_0) (RW_X9_turnParts G P U V X O kd ln cnt this p0 tn nw nx ah bh)) ?_ ?_
        · intro t78_0
          show pw _ _
          refine pw_b3 (fun c78_G203 c78_V0 c78_V1 hc78 => ?_)
          have hq78 := fr_X10_add la (va_up (va_up G 183 c33_G183) 203 d7_G203) (va_up (va_up P 181 c33_P181) 182 c33_P182) (va_up U 184 c33_U184) (va_up (va_up (va_up V 0 c33_V0) 1 d7_V1) 11 m45) (va_up X 0 m55) O kd ln cnt a57 a61 (0 : Int32) t78_0 (LB_set (LB_set hB ql33_181) ql33_182) _ hc78
          obtain ⟨q78_G203, q78_V0, q78_V1⟩ : (∀ z, (la z < la a57 ∨ la a57 < la z) → c78_G203 z = d7_G203 z) ∧ (∀ z, (la z < la a57 ∨ la a57 < la z) → c78_V0 z = c33_V0 z) ∧ (∀ z, (la z < la a57 ∨ la a57 < la z) → c78_V1 z = d7_V1 z) := hq78
          have tz78 : ∀ z, ((la z < la this ∨ la this + 8 < la z) ∧ (la z < la p0 ∨ la p0 + 5 < la z)) → ((la z < la a57 ∨ la a57 < la z)) := fun z hz => by omega
          have hf21 : ∀ z, ((la z < la this ∨ la this + 8 < la z) ∧ (la z < la p0 ∨ la p0 + 5 < la z)) → c78_G203 z = (G 203) z := fun z hz => (q78_G203 z (tz78 z hz)).trans (hf2 z hz)
          have hf22 : ∀ z, ((la z < la this ∨ la this + 8 < la z) ∧ (la z < la p0 ∨ la p0 + 5 < la z)) → c78_V0 z = (V 0) z := fun z hz => (q78_V0 z (tz78 z hz)).trans (hf17 z hz)
          have hf23 : ∀ z, ((la z < la this ∨ la this + 8 < la z) ∧ (la z < la p0 ∨ la p0 + 5 < la z)) → c78_V1 z = (V 1) z := fun z hz => (q78_V1 z (tz78 z hz)).trans (hf9 z hz)
          clear hc78
          exact ih7 (y7_3 + 1) c33_G183 c78_G203 c33_P181 c33_P182 c33_U184 c78_V0 c78_V1 m45 m55 hf13 hf21 hf14 ql33_181 hf15 ql33_182 hf16 hf22 hf23 hf19 hf20 hsw18
        intro j78 Jj78
        refine pw_ite (fun _ => ?_) (fun _ => ?_)
        · skip
          exact Jj78 0
        · skip
          exact Jj78 (c33_G183 this)
  exact lp7 NN 0 (G 183) (G 203) (P 181) (P 182) (U 184) (V 0) (V 1) (V 11) (X 0) (fun _ _ => rfl) (fun _ _ => rfl) (fun _ _ => rfl) (hB.1 181 fl_181) (fun _ _ => rfl) (hB.1 182 fl_182) (fun _ _ => rfl) (fun _ _ => rfl) (fun _ _ => rfl) (fun _ _ => rfl) (fun _ _ => rfl) hs
abbrev RW_X9_turnWord (G : Nat → Nat → Int32) (P : Nat → Nat → Option Nat) (U : Nat → Nat → Int64) (V : Nat → Nat → Nat → Int32) (X : Nat → Nat → Nat → Int64) (O : Nat → Nat → Nat → Option Nat) (kd : Nat → Nat) (ln : Nat → Nat) (cnt : Nat) (this : Nat) (p0 : Nat) (p1 : Nat) (p2 : Int32) (p3 : Nat) (tn nw nx ah bh : Nat) : (Int64 × (Nat → Int32) × (Nat → Int32) × (Nat → Int32) × (Nat → Option Nat) × (Nat → Option Nat) × (Nat → Option Nat) × (Nat → Int64) × (Nat → Nat → Int32) × (Nat → Nat → Int32) × (Nat → Nat → Int32) × (Nat → Nat → Int32)) → Prop := fun t => SWT (t.2.2.2.2.2.1) (t.2.2.2.2.2.2.1) (P 186) (P 187) tn nw nx ah bh
set_option maxHeartbeats 4000000 in
set_option maxRecDepth 100000 in
theorem sw_X9_turnWord (la : Nat → Nat) (G : Nat → Nat → Int32) (P : Nat → Nat → Option Nat) (U : Nat → Nat → Int64) (V : Nat → Nat → Nat → Int32) (X : Nat → Nat → Nat → Int64) (O : Nat → Nat → Nat → Option Nat) (kd : Nat → Nat) (ln : Nat → Nat) (cnt : Nat) (this : Nat) (p0 : Nat) (p1 : Nat) (p2 : Int32) (p3 : Nat) (hB : LB la cnt P) (hlt_this : this < cnt) (tn nw nx ah bh : Nat) (htn : tn < cnt) (hs : SWT (P 181) (P 182) (P 186) (P 187) tn nw nx ah bh) : pw (f_X9_turnWord G P U V X O kd ln cnt this p0 p1 p2 p3) (RW_X9_turnWord G P U V X O kd ln cnt this p0 p1 p2 p3 tn nw nx ah bh) := by
  unfold f_X9_turnWord
  refine pw_vl (fun x6 _ => ?_)
  refine pw_nn (fun a9 hn_a9 => ?_)
  have lt_a9 := ((hB.1 202 fl_202) p1 a9 hn_a9).2.1
  have lb_a9 : la a9 = la p1 + 0 := lk_202.mp ((hB.1 202 fl_202) p1 a9 hn_a9).2.2
  refine pw_if (fun _ => ?_)
  refine pw_vl (fun x14 _ => ?_)
  refine pw_nn (fun a17 hn_a17 => ?_)
  have lt_a17 := ((hB.1 104 fl_104) p0 a17 hn_a17).2.1
  have lb_a17 : la a17 = la p0 + 2 := lk_104.mp ((hB.1 104 fl_104) p0 a17 hn_a17).2.2
  refine pw_nn (fun a21 hn_a21 => ?_)
  have lt_a21 := ((hB.1 201 fl_201) p1 a21 hn_a21).2.1
  have lb_a21 : la a21 = la p1 + 0 := lk_201.mp ((hB.1 201 fl_201) p1 a21 hn_a21).2.2
  refine pw_b1 (fun r28 hc28 => ?_)
  clear hc28
  refine pw_ite (fun _ => ?_) (fun _ => ?_)
  · skip
    refine pw_nn (fun a51 hn_a51 => ?_)
    have lt_a51 := ((hB.1 180 fl_180) this a51 hn_a51).2.1
    have lb_a51 : la a51 = la this + 6 := lk_180.mp ((hB.1 180 fl_180) this a51 hn_a51).2.2
    refine pw_nn (fun a55 hn_a55 => ?_)
    have lt_a55 := ((hB.1 103 fl_103) p0 a55 hn_a55).2.1
    have lb_a55 : la a55 = la p0 + 1 := lk_103.mp ((hB.1 103 fl_103) p0 a55 hn_a55).2.2
    refine pw_nn (fun a59 hn_a59 => ?_)
    have lt_a59 := ((hB.1 201 fl_201) p1 a59 hn_a59).2.1
    have lb_a59 : la a59 = la p1 + 0 := lk_201.mp ((hB.1 201 fl_201) p1 a59 hn_a59).2.2
    refine pw_b5 (fun c66_G60 c66_P66 c66_V0 c66_V2 c66_V12 hc66 => ?_)
    have hq66 := fr_X3_find la G P U V X O kd ln cnt a51 a55 a59 x6 x14 hB lt_a51 lt_a55 _ hc66
    obtain ⟨q66_G60, q66_P66, q66_V0, q66_V2, q66_V12, ql66_66⟩ : (∀ z, (la z < la a51 ∨ la a51 + 2 < la z) → c66_G60 z = (G 60) z) ∧ (∀ z, (la z < la a51 ∨ la a51 + 2 < la z) → c66_P66 z = (P 66) z) ∧ (∀ z, (la z < la a51 ∨ la a51 + 2 < la z) → c66_V0 z = (V 0) z) ∧ (∀ z, (la z < la a51 ∨ la a51 + 2 < la z) → c66_V2 z = (V 2) z) ∧ (∀ z, (la z < la a51 ∨ la a51 + 2 < la z) → c66_V12 z = (V 12) z) ∧ LC 66 la cnt c66_P66 := hq66
    have tz66 : ∀ z, ((la z < la this ∨ la this + 8 < la z) ∧ (la z < la p3 ∨ la p3 < la z)) → ((la z < la a51 ∨ la a51 + 2 < la z)) := fun z hz => by omega
    have hf1 : ∀ z, ((la z < la this ∨ la this + 8 < la z) ∧ (la z < la p3 ∨ la p3 < la z)) → c66_G60 z = (G 60) z := fun z hz => (q66_G60 z (tz66 z hz)).trans (rfl)
    have hf2 : ∀ z, ((la z < la this ∨ la this + 8 < la z) ∧ (la z < la p3 ∨ la p3 < la z)) → c66_P66 z = (P 66) z := fun z hz => (q66_P66 z (tz66 z hz)).trans (rfl)
    have hf3 : ∀ z, ((la z < la this ∨ la this + 8 < la z) ∧ (la z < la p3 ∨ la p3 < la z)) → c66_V0 z = (V 0) z := fun z hz => (q66_V0 z (tz66 z hz)).trans (rfl)
    have hf4 : ∀ z, ((la z < la this ∨ la this + 8 < la z) ∧ (la z < la p3 ∨ la p3 < la z)) → c66_V2 z = (V 2) z := fun z hz => (q66_V2 z (tz66 z hz)).trans (rfl)
    have hf5 : ∀ z, ((la z < la this ∨ la this + 8 < la z) ∧ (la z < la p3 ∨ la p3 < la z)) → c66_V12 z = (V 12) z := fun z hz => (q66_V12 z (tz66 z hz)).trans (rfl)
    clear hc66
    refine pw_nn (fun a70 hn_a70 => ?_)
    have lt_a70 := ((hB.1 180 fl_180) this a70 hn_a70).2.1
    have lb_a70 : la a70 = la this + 6 := lk_180.mp ((hB.1 180 fl_180) this a70 hn_a70).2.2
    refine pw_ite (fun _ => ?_) (fun _ => ?_)
    · skip
      refine pw_nn (fun a82 hn_a82 => ?_)
      have lt_a82 := ((hB.1 201 fl_201) p1 a82 hn_a82).2.1
      have lb_a82 : la a82 = la p1 + 0 := lk_201.mp ((hB.1 201 fl_201) p1 a82 hn_a82).2.2
      refine pw_b6 (fun r89 c89_G183 c89_P181 c89_P182 c89_U184 c89_V0 hc89 => ?_)
      have hq89 := fr_X9_runLaws la (va_up G 60 c66_G60) (va_up P 66 c66_P66) U (va_up (va_up (va_up V 0 c66_V0) 2 c66_V2) 12 c66_V12) X O kd ln cnt this p0 a82 x6 x14 (LB_set hB ql66_66) hlt_this _ hc89
      have hsw11 : SWT c89_P181 c89_P182 (P 186) (P 187) tn nw nx ah bh := sw_X9_runLaws la (va_up G 60 c66_G60) (va_up P 66 c66_P66) U (va_up (va_up (va_up V 0 c66_V0) 2 c66_V2) 12 c66_V12) X O kd ln cnt this p0 a82 x6 x14 (LB_set hB ql66_66) hlt_this tn nw nx ah bh (show tn < cnt from by omega) hs _ hc89
      obtain ⟨q89_G183, q89_P181, q89_P182, q89_U184, q89_V0, ql89_181, ql89_182⟩ : (∀ z, (la z < la this ∨ la this + 8 < la z) → c89_G183 z = (G 183) z) ∧ (∀ z, (la z < la this ∨ la this + 8 < la z) → c89_P181 z = (P 181) z) ∧ (∀ z, (la z < la this ∨ la this + 8 < la z) → c89_P182 z = (P 182) z) ∧ (∀ z, (la z < la this ∨ la this + 8 < la z) → c89_U184 z = (U 184) z) ∧ (∀ z, (la z < la this ∨ la this + 8 < la z) → c89_V0 z = c66_V0 z) ∧ LC 181 la cnt c89_P181 ∧ LC 182 la cnt c89_P182 := hq89
      have tz89 : ∀ z, ((la z < la this ∨ la this + 8 < la z) ∧ (la z < la p3 ∨ la p3 < la z)) → ((la z < la this ∨ la this + 8 < la z)) := fun z hz => by omega
      have hf6 : ∀ z, ((la z < la this ∨ la this + 8 < la z) ∧ (la z < la p3 ∨ la p3 < la z)) → c89_G183 z = (G 183) z := fun z hz => (q89_G183 z (tz89 z hz)).trans (rfl)
      have hf7 : ∀ z, ((la z < la this ∨ la this + 8 < la z) ∧ (la z < la p3 ∨ la p3 < la z)) → c89_P181 z = (P 181) z := fun z hz => (q89_P181 z (tz89 z hz)).trans (rfl)
      have hf8 : ∀ z, ((la z < la this ∨ la this + 8 < la z) ∧ (la z < la p3 ∨ la p3 < la z)) → c89_P182 z = (P 182) z := fun z hz => (q89_P182 z (tz89 z hz)).trans (rfl)
      have hf9 : ∀ z, ((la z < la this ∨ la this + 8 < la z) ∧ (la z < la p3 ∨ la p3 < la z)) → c89_U184 z = (U 184) z := fun z hz => (q89_U184 z (tz89 z hz)).trans (rfl)
      have hf10 : ∀ z, ((la z < la this ∨ la this + 8 < la z) ∧ (la z < la p3 ∨ la p3 < la z)) → c89_V0 z = (V 0) z := fun z hz => (q89_V0 z (tz89 z hz)).trans (hf3 z hz)
      clear hc89
      refine pw_jn (fun j109 => ∀ (c109_G203 : Nat → Int32) (c109_V0 : Nat → Nat → Int32) (c109_V1 : Nat → Nat → Int32), (∀ z, ((la z < la this ∨ la this + 8 < la z) ∧ (la z < la p3 ∨ la p3 < la z)) → c109_G203 z = (G 203) z) → (∀ z, ((la z < la this ∨ la this + 8 < la z) ∧ (la z < la p3 ∨ la p3 < la z)) → c109_V0 z = (V 0) z) → (∀ z, ((la z < la this ∨ la this + 8 < la z) ∧ (la z < la p3 ∨ la p3 < la z)) → c109_V1 z = (V 1) z) → pw (j109 c109_G203 c109_V0 c109_V1) (RW_X9_turnWord G P U V X O kd ln cnt this p0 p1 p2 p3 tn nw nx ah bh)) ?_ ?_
      · intro c109_G203 c109_V0 c109_V1 hf12 hf13 hf14
        show pw _ _
        exact pw_some (hsw11)
      intro j109 Jj109
      refine pw_ite (fun _ => ?_) (fun _ => ?_)
      · skip
        exact Jj109 (G 203) c89_V0 (V 1) (fun _ _ => rfl) hf10 (fun _ _ => rfl)
      · skip
        refine pw_nn (fun a98 hn_a98 => ?_)
        have lt_a98 := (ql89_181 this a98 hn_a98).2.1
        have lb_a98 : (la a98 = la this + 1 ∨ la a98 = la this + 2) := lk_181.mp (ql89_181 this a98 hn_a98).2.2
        refine pw_b3 (fun c106_G203 c106_V0 c106_V1 hc106 => ?_)
        have hq106 := fr_X10_addForm la (va_up (va_up G 60 c66_G60) 183 c89_G183) (va_up (va_up (va_up P 66 c66_P66) 181 c89_P181) 182 c89_P182) (va_up U 184 c89_U184) (va_up (va_up (va_up (va_up V 0 c66_V0) 2 c66_V2) 12 c66_V12) 0 c89_V0) X O kd ln cnt p3 a98 (0 : Int32) (c89_G183 this) (LB_set (LB_set (LB_set hB ql66_66) ql89_181) ql89_182) _ hc106
        obtain ⟨q106_G203, q106_V0, q106_V1⟩ : (∀ z, (la z < la p3 ∨ la p3 < la z) → c106_G203 z = (G 203) z) ∧ (∀ z, (la z < la p3 ∨ la p3 < la z) → c106_V0 z = c89_V0 z) ∧ (∀ z, (la z < la p3 ∨ la p3 < la z) → c106_V1 z = (V 1) z) := hq106
        have tz106 : ∀ z, ((la z < la this ∨ la this + 8 < la z) ∧ (la z < la p3 ∨ la p3 < la z)) → ((la z < la p3 ∨ la p3 < la z)) := fun z hz => by omega
        have hf15 : ∀ z, ((la z < la this ∨ la this + 8 < la z) ∧ (la z < la p3 ∨ la p3 < la z)) → c106_G203 z = (G 203) z := fun z hz => (q106_G203 z (tz106 z hz)).trans (rfl)
        have hf16 : ∀ z, ((la z < la this ∨ la this + 8 < la z) ∧ (la z < la p3 ∨ la p3 < la z)) → c106_V0 z = (V 0) z := fun z hz => (q106_V0 z (tz106 z hz)).trans (hf10 z hz)
        have hf17 : ∀ z, ((la z < la this ∨ la this + 8 < la z) ∧ (la z < la p3 ∨ la p3 < la z)) → c106_V1 z = (V 1) z := fun z hz => (q106_V1 z (tz106 z hz)).trans (rfl)
        clear hc106
        exact Jj109 c106_G203 c106_V0 c106_V1 hf15 hf16 hf17
    · skip
      have lp120 : ∀ (n120 : Nat) (y120_8 : Int64) (y120_10 : Int32) (d120_G203 : Nat → Int32) (d120_V0 : Nat → Nat → Int32) (d120_V1 : Nat → Nat → Int32), (∀ z, ((la z < la this ∨ la this + 8 < la z) ∧ (la z < la p3 ∨ la p3 < la z)) → d120_G203 z = (G 203) z) → (∀ z, ((la z < la this ∨ la this + 8 < la z) ∧ (la z < la p3 ∨ la p3 < la z)) → d120_V0 z = (V 0) z) → (∀ z, ((la z < la this ∨ la this + 8 < la z) ∧ (la z < la p3 ∨ la p3 < la z)) → d120_V1 z = (V 1) z) → pw (L_X9_turnWord_120 G P U V X O kd ln cnt this p0 p3 c66_G60 c66_P66 c66_V2 c66_V12 n120 y120_8 y120_10 d120_G203 d120_V0 d120_V1) (RW_X9_turnWord G P U V X O kd ln cnt this p0 p1 p2 p3 tn nw nx ah bh) := by
        intro n120
        induction n120 with
        | zero => intros; exact pw_none
        | succ n120 ih120 =>
          intro y120_8 y120_10 d120_G203 d120_V0 d120_V1 hf18 hf19 hf20
          show pw (B_X9_turnWord_120 G P U V X O kd ln cnt this p0 p3 c66_G60 c66_P66 c66_V2 c66_V12 (L_X9_turnWord_120 G P U V X O kd ln cnt this p0 p3 c66_G60 c66_P66 c66_V2 c66_V12 n120) y120_8 y120_10 d120_G203 d120_V0 d120_V1) _
          unfold B_X9_turnWord_120
          refine pw_nn (fun a123 hn_a123 => ?_)
          have lt_a123 := ((hB.1 180 fl_180) this a123 hn_a123).2.1
          have lb_a123 : la a123 = la this + 6 := lk_180.mp ((hB.1 180 fl_180) this a123 hn_a123).2.2
          refine pw_ite (fun _ => ?_) (fun _ => ?_)
          · skip
            exact pw_some (hs)
          · skip
            refine pw_b4 (fun r140 c140_G203 c140_V0 c140_V1 hc140 => ?_)
            have hq140 := fr_X9_turnParting la (va_up (va_up G 60 c66_G60) 203 d120_G203) (va_up P 66 c66_P66) U (va_up (va_up (va_up (va_up V 0 d120_V0) 1 d120_V1) 2 c66_V2) 12 c66_V12) X O kd ln cnt this p0 y120_10 p3 (LB_set hB ql66_66) _ hc140
            obtain ⟨q140_G203, q140_V0, q140_V1⟩ : (∀ z, (la z < la this ∨ la this + 8 < la z) ∧ (la z < la p3 ∨ la p3 < la z) → c140_G203 z = d120_G203 z) ∧ (∀ z, (la z < la this ∨ la this + 8 < la z) ∧ (la z < la p3 ∨ la p3 < la z) → c140_V0 z = d120_V0 z) ∧ (∀ z, (la z < la this ∨ la this + 8 < la z) ∧ (la z < la p3 ∨ la p3 < la z) → c140_V1 z = d120_V1 z) := hq140
            have tz140 : ∀ z, ((la z < la this ∨ la this + 8 < la z) ∧ (la z < la p3 ∨ la p3 < la z)) → ((la z < la this ∨ la this + 8 < la z) ∧ (la z < la p3 ∨ la p3 < la z)) := fun z hz => by omega
            have hf21 : ∀ z, ((la z < la this ∨ la this + 8 < la z) ∧ (la z < la p3 ∨ la p3 < la z)) → c140_G203 z = (G 203) z := fun z hz => (q140_G203 z (tz140 z hz)).trans (hf18 z hz)
            have hf22 : ∀ z, ((la z < la this ∨ la this + 8 < la z) ∧ (la z < la p3 ∨ la p3 < la z)) → c140_V0 z = (V 0) z := fun z hz => (q140_V0 z (tz140 z hz)).trans (hf19 z hz)
            have hf23 : ∀ z, ((la z < la this ∨ la this + 8 < la z) ∧ (la z < la p3 ∨ la p3 < la z)) → c140_V1 z = (V 1) z := fun z hz => (q140_V1 z (tz140 z hz)).trans (hf20 z hz)
            clear hc140
            refine pw_vl (fun x144 _ => ?_)
            exact ih120 x144 (y120_10 + 1) c140_G203 c140_V0 c140_V1 hf21 hf22 hf23
      exact lp120 NN 0 0 (G 203) c66_V0 (V 1) (fun _ _ => rfl) hf3 (fun _ _ => rfl)
  · skip
    refine pw_b3 (fun c45_G203 c45_V0 c45_V1 hc45 => ?_)
    have hq45 := fr_X9_addEntry la G P U V X O kd ln cnt this p0 r28 p3 hB _ hc45
    obtain ⟨q45_G203, q45_V0, q45_V1⟩ : (∀ z, (la z < la p3 ∨ la p3 < la z) → c45_G203 z = (G 203) z) ∧ (∀ z, (la z < la p3 ∨ la p3 < la z) → c45_V0 z = (V 0) z) ∧ (∀ z, (la z < la p3 ∨ la p3 < la z) → c45_V1 z = (V 1) z) := hq45
    have tz45 : ∀ z, ((la z < la this ∨ la this + 8 < la z) ∧ (la z < la p3 ∨ la p3 < la z)) → ((la z < la p3 ∨ la p3 < la z)) := fun z hz => by omega
    have hf24 : ∀ z, ((la z < la this ∨ la this + 8 < la z) ∧ (la z < la p3 ∨ la p3 < la z)) → c45_G203 z = (G 203) z := fun z hz => (q45_G203 z (tz45 z hz)).trans (rfl)
    have hf25 : ∀ z, ((la z < la this ∨ la this + 8 < la z) ∧ (la z < la p3 ∨ la p3 < la z)) → c45_V0 z = (V 0) z := fun z hz => (q45_V0 z (tz45 z hz)).trans (rfl)
    have hf26 : ∀ z, ((la z < la this ∨ la this + 8 < la z) ∧ (la z < la p3 ∨ la p3 < la z)) → c45_V1 z = (V 1) z := fun z hz => (q45_V1 z (tz45 z hz)).trans (rfl)
    clear hc45
    exact pw_some (hs)
abbrev RW_X9_turnForms (G : Nat → Nat → Int32) (P : Nat → Nat → Option Nat) (U : Nat → Nat → Int64) (V : Nat → Nat → Nat → Int32) (X : Nat → Nat → Nat → Int64) (O : Nat → Nat → Nat → Option Nat) (kd : Nat → Nat) (ln : Nat → Nat) (cnt : Nat) (this : Nat) (p0 : Option Nat) (p1 : Nat) (p2 : Nat) (tn nw nx ah bh : Nat) : (Int64 × (Nat → Int32) × (Nat → Int32) × (Nat → Int32) × (Nat → Option Nat) × (Nat → Option Nat) × (Nat → Option Nat) × (Nat → Int64) × (Nat → Nat → Int32) × (Nat → Nat → Int32) × (Nat → Nat → Int32) × (Nat → Nat → Int32)) → Prop := fun t => SWT (t.2.2.2.2.2.1) (t.2.2.2.2.2.2.1) (P 186) (P 187) tn nw nx ah bh
set_option maxHeartbeats 4000000 in
set_option maxRecDepth 100000 in
theorem sw_X9_turnForms (la : Nat → Nat) (G : Nat → Nat → Int32) (P : Nat → Nat → Option Nat) (U : Nat → Nat → Int64) (V : Nat → Nat → Nat → Int32) (X : Nat → Nat → Nat → Int64) (O : Nat → Nat → Nat → Option Nat) (kd : Nat → Nat) (ln : Nat → Nat) (cnt : Nat) (this : Nat) (p0 : Option Nat) (p1 : Nat) (p2 : Nat) (hB : LB la cnt P) (hlt_this : this < cnt) (tn nw nx ah bh : Nat) (htn : tn < cnt) (hs : SWT (P 181) (P 182) (P 186) (P 187) tn nw nx ah bh) : pw (f_X9_turnForms G P U V X O kd ln cnt this p0 p1 p2) (RW_X9_turnForms G P U V X O kd ln cnt this p0 p1 p2 tn nw nx ah bh) := by
  unfold f_X9_turnForms
  refine pw_jn (fun k39 => ∀ (x39_4 : Int64) (c39_G60 : Nat → Int32) (c39_G183 : Nat → Int32) (c39_G203 : Nat → Int32) (c39_P66 : Nat → Option Nat) (c39_P181 : Nat → Option Nat) (c39_P182 : Nat → Option Nat) (c39_U184 : Nat → Int64) (c39_V0 : Nat → Nat → Int32) (c39_V1 : Nat → Nat → Int32) (c39_V2 : Nat → Nat → Int32) (c39_V12 : Nat → Nat → Int32), (∀ z, ((la z < la this ∨ la this + 8 < la z) ∧ (la z < la p2 ∨ la p2 < la z)) → c39_G60 z = (G 60) z) → (∀ z, ((la z < la this ∨ la this + 8 < la z) ∧ (la z < la p2 ∨ la p2 < la z)) → c39_G183 z = (G 183) z) → (∀ z, ((la z < la this ∨ la this + 8 < la z) ∧ (la z < la p2 ∨ la p2 < la z)) → c39_G203 z = (G 203) z) → (∀ z, ((la z < la this ∨ la this + 8 < la z) ∧ (la z < la p2 ∨ la p2 < la z)) → c39_P66 z = (P 66) z) → LC 66 la cnt c39_P66 → (∀ z, ((la z < la this ∨ la this + 8 < la z) ∧ (la z < la p2 ∨ la p2 < la z)) → c39_P181 z = (P 181) z) → LC 181 la cnt c39_P181 → (∀ z, ((la z < la this ∨ la this + 8 < la z) ∧ (la z < la p2 ∨ la p2 < la z)) → c39_P182 z = (P 182) z) → LC 182 la cnt c39_P182 → (∀ z, ((la z < la this ∨ la this + 8 < la z) ∧ (la z < la p2 ∨ la p2 < la z)) → c39_U184 z = (U 184) z) → (∀ z, ((la z < la this ∨ la this + 8 < la z) ∧ (la z < la p2 ∨ la p2 < la z)) → c39_V0 z = (V 0) z) → (∀ z, ((la z < la this ∨ la this + 8 < la z) ∧ (la z < la p2 ∨ la p2 < la z)) → c39_V1 z = (V 1) z) → (∀ z, ((la z < la this ∨ la this + 8 < la z) ∧ (la z < la p2 ∨ la p2 < la z)) → c39_V2 z = (V 2) z) → (∀ z, ((la z < la this ∨ la this + 8 < la z) ∧ (la z < la p2 ∨ la p2 < la z)) → c39_V12 z = (V 12) z) → (SWT c39_P181 c39_P182 (P 186) (P 187) tn nw nx ah bh) → pw (k39 x39_4 c39_G60 c39_G183 c39_G203 c39_P66 c39_P181 c39_P182 c39_U184 c39_V0 c39_V1 c39_V2 c39_V12) (RW_X9_turnForms G P U V X O kd ln cnt this p0 p1 p2 tn nw nx ah bh)) ?_ ?_
  · intro x39_4 c39_G60 c39_G183 c39_G203 c39_P66 c39_P181 c39_P182 c39_U184 c39_V0 c39_V1 c39_V2 c39_V12 hf1 hf2 hf3 hf4 hl5 hf6 hl7 hf8 hl9 hf10 hf11 hf12 hf13 hf14 hsw15
    show pw _ _
    exact pw_some (hsw15)
  intro k39 Jk39
  have lp6 : ∀ (n6 : Nat) (y6_4 : Int64) (y6_6 : Int32) (d6_G60 : Nat → Int32) (d6_G183 : Nat → Int32) (d6_G203 : Nat → Int32) (d6_P66 : Nat → Option Nat) (d6_P181 : Nat → Option Nat) (d6_P182 : Nat → Option Nat) (d6_U184 : Nat → Int64) (d6_V0 : Nat → Nat → Int32) (d6_V1 : Nat → Nat → Int32) (d6_V2 : Nat → Nat → Int32) (d6_V12 : Nat → Nat → Int32), (∀ z, ((la z < la this ∨ la this + 8 < la z) ∧ (la z < la p2 ∨ la p2 < la z)) → d6_G60 z = (G 60) z) → (∀ z, ((la z < la this ∨ la this + 8 < la z) ∧ (la z < la p2 ∨ la p2 < la z)) → d6_G183 z = (G 183) z) → (∀ z, ((la z < la this ∨ la this + 8 < la z) ∧ (la z < la p2 ∨ la p2 < la z)) → d6_G203 z = (G 203) z) → (∀ z, ((la z < la this ∨ la this + 8 < la z) ∧ (la z < la p2 ∨ la p2 < la z)) → d6_P66 z = (P 66) z) → LC 66 la cnt d6_P66 → (∀ z, ((la z < la this ∨ la this + 8 < la z) ∧ (la z < la p2 ∨ la p2 < la z)) → d6_P181 z = (P 181) z) → LC 181 la cnt d6_P181 → (∀ z, ((la z < la this ∨ la this + 8 < la z) ∧ (la z < la p2 ∨ la p2 < la z)) → d6_P182 z = (P 182) z) → LC 182 la cnt d6_P182 → (∀ z, ((la z < la this ∨ la this + 8 < la z) ∧ (la z < la p2 ∨ la p2 < la z)) → d6_U184 z = (U 184) z) → (∀ z, ((la z < la this ∨ la this + 8 < la z) ∧ (la z < la p2 ∨ la p2 < la z)) → d6_V0 z = (V 0) z) → (∀ z, ((la z < la this ∨ la this + 8 < la z) ∧ (la z < la p2 ∨ la p2 < la z)) → d6_V1 z = (V 1) z) → (∀ z, ((la z < la this ∨ la this + 8 < la z) ∧ (la z < la p2 ∨ la p2 < la z)) → d6_V2 z = (V 2) z) → (∀ z, ((la z < la this ∨ la this + 8 < la z) ∧ (la z < la p2 ∨ la p2 < la z)) → d6_V12 z = (V 12) z) → (SWT d6_P181 d6_P182 (P 186) (P 187) tn nw nx ah bh) → pw (L_X9_turnForms_6 G P U V X O kd ln cnt this p0 p1 p2 k39 n6 y6_4 y6_6 d6_G60 d6_G183 d6_G203 d6_P66 d6_P181 d6_P182 d6_U184 d6_V0 d6_V1 d6_V2 d6_V12) (RW_X9_turnForms G P U V X O kd ln cnt this p0 p1 p2 tn nw nx ah bh) := by
    intro n6
    induction n6 with
    | zero => intros; exact pw_none
    | succ n6 ih6 =>
      intro y6_4 y6_6 d6_G60 d6_G183 d6_G203 d6_P66 d6_P181 d6_P182 d6_U184 d6_V0 d6_V1 d6_V2 d6_V12 hf16 hf17 hf18 hf19 hl20 hf21 hl22 hf23 hl24 hf25 hf26 hf27 hf28 hf29 hsw30
      show pw (B_X9_turnForms_6 G P U V X O kd ln cnt this p0 p1 p2 k39 (L_X9_turnForms_6 G P U V X O kd ln cnt this p0 p1 p2 k39 n6) y6_4 y6_6 d6_G60 d6_G183 d6_G203 d6_P66 d6_P181 d6_P182 d6_U184 d6_V0 d6_V1 d6_V2 d6_V12) _
      unfold B_X9_turnForms_6
      refine pw_oc (fun _ => ?_) (fun b7 _ => ?_)
      · skip
        exact Jk39 y6_4 d6_G60 d6_G183 d6_G203 d6_P66 d6_P181 d6_P182 d6_U184 d6_V0 d6_V1 d6_V2 d6_V12 hf16 hf17 hf18 hf19 hl20 hf21 hl22 hf23 hl24 hf25 hf26 hf27 hf28 hf29 hsw30
      · skip
        refine pw_ite (fun _ => ?_) (fun _ => ?_)
        · skip
          exact Jk39 y6_4 d6_G60 d6_G183 d6_G203 d6_P66 d6_P181 d6_P182 d6_U184 d6_V0 d6_V1 d6_V2 d6_V12 hf16 hf17 hf18 hf19 hl20 hf21 hl22 hf23 hl24 hf25 hf26 hf27 hf28 hf29 hsw30
        · skip
          refine pw_b12 (fun r27 c27_G60 c27_G183 c27_G203 c27_P66 c27_P181 c27_P182 c27_U184 c27_V0 c27_V1 c27_V2 c27_V12 hc27 => ?_)
          have hq27 := fr_X9_turnWord la (va_up (va_up (va_up G 60 d6_G60) 183 d6_G183) 203 d6_G203) (va_up (va_up (va_up P 66 d6_P66) 181 d6_P181) 182 d6_P182) (va_up U 184 d6_U184) (va_up (va_up (va_up (va_up V 0 d6_V0) 1 d6_V1) 2 d6_V2) 12 d6_V12) X O kd ln cnt this b7 p1 y6_6 p2 (LB_set (LB_set (LB_set hB hl20) hl22) hl24) hlt_this _ hc27
          have hsw42 : SWT c27_P181 c27_P182 (P 186) (P 187) tn nw nx ah bh := sw_X9_turnWord la (va_up (va_up (va_up G 60 d6_G60) 183 d6_G183) 203 d6_G203) (va_up (va_up (va_up P 66 d6_P66) 181 d6_P181) 182 d6_P182) (va_up U 184 d6_U184) (va_up (va_up (va_up (va_up V 0 d6_V0) 1 d6_V1) 2 d6_V2) 12 d6_V12) X O kd ln cnt this b7 p1 y6_6 p2 (LB_set (LB_set (LB_set hB hl20) hl22) hl24) hlt_this tn nw nx ah bh (show tn < cnt from by omega) hsw30 _ hc27
          obtain ⟨q27_G60, q27_G183, q27_G203, q27_P66, q27_P181, q27_P182, q27_U184, q27_V0, q27_V1, q27_V2, q27_V12, ql27_66, ql27_181, ql27_182⟩ : (∀ z, (la z < la this ∨ la this + 8 < la z) ∧ (la z < la p2 ∨ la p2 < la z) → c27_G60 z = d6_G60 z) ∧ (∀ z, (la z < la this ∨ la this + 8 < la z) ∧ (la z < la p2 ∨ la p2 < la z) → c27_G183 z = d6_G183 z) ∧ (∀ z, (la z < la this ∨ la this + 8 < la z) ∧ (la z < la p2 ∨ la p2 < la z) → c27_G203 z = d6_G203 z) ∧ (∀ z, (la z < la this ∨ la this + 8 < la z) ∧ (la z < la p2 ∨ la p2 < la z) → c27_P66 z = d6_P66 z) ∧ (∀ z, (la z < la this ∨ la this + 8 < la z) ∧ (la z < la p2 ∨ la p2 < la z) → c27_P181 z = d6_P181 z) ∧ (∀ z, (la z < la this ∨ la this + 8 < la z) ∧ (la z < la p2 ∨ la p2 < la z) → c27_P182 z = d6_P182 z) ∧ (∀ z, (la z < la this ∨ la this + 8 < la z) ∧ (la z < la p2 ∨ la p2 < la z) → c27_U184 z = d6_U184 z) ∧ (∀ z, (la z < la this ∨ la this + 8 < la z) ∧ (la z < la p2 ∨ la p2 < la z) → c27_V0 z = d6_V0 z) ∧ (∀ z, (la z < la this ∨ la this + 8 < la z) ∧ (la z < la p2 ∨ la p2 < la z) → c27_V1 z = d6_V1 z) ∧ (∀ z, (la z < la this ∨ la this + 8 < la z) ∧ (la z < la p2 ∨ la p2 < la z) → c27_V2 z = d6_V2 z) ∧ (∀ z, (la z < la this ∨ la this + 8 < la z) ∧ (la z < la p2 ∨ la p2 < la z) → c27_V12 z = d6_V12 z) ∧ LC 66 la cnt c27_P66 ∧ LC 181 la cnt c27_P181 ∧ LC 182 la cnt c27_P182 := hq27
          have tz27 : ∀ z, ((la z < la this ∨ la this + 8 < la z) ∧ (la z < la p2 ∨ la p2 < la z)) → ((la z < la this ∨ la this + 8 < la z) ∧ (la z < la p2 ∨ la p2 < la z)) := fun z hz => by omega
          have hf31 : ∀ z, ((la z < la this ∨ la this + 8 < la z) ∧ (la z < la p2 ∨ la p2 < la z)) → c27_G60 z = (G 60) z := fun z hz => (q27_G60 z (tz27 z hz)).trans (hf16 z hz)
          have hf32 : ∀ z, ((la z < la this ∨ la this + 8 < la z) ∧ (la z < la p2 ∨ la p2 < la z)) → c27_G183 z = (G 183) z := fun z hz => (q27_G183 z (tz27 z hz)).trans (hf17 z hz)
          have hf33 : ∀ z, ((la z < la this ∨ la this + 8 < la z) ∧ (la z < la p2 ∨ la p2 < la z)) → c27_G203 z = (G 203) z := fun z hz => (q27_G203 z (tz27 z hz)).trans (hf18 z hz)
          have hf34 : ∀ z, ((la z < la this ∨ la this + 8 < la z) ∧ (la z < la p2 ∨ la p2 < la z)) → c27_P66 z = (P 66) z := fun z hz => (q27_P66 z (tz27 z hz)).trans (hf19 z hz)
          have hf35 : ∀ z, ((la z < la this ∨ la this + 8 < la z) ∧ (la z < la p2 ∨ la p2 < la z)) → c27_P181 z = (P 181) z := fun z hz => (q27_P181 z (tz27 z hz)).trans (hf21 z hz)
          have hf36 : ∀ z, ((la z < la this ∨ la this + 8 < la z) ∧ (la z < la p2 ∨ la p2 < la z)) → c27_P182 z = (P 182) z := fun z hz => (q27_P182 z (tz27 z hz)).trans (hf23 z hz)
          have hf37 : ∀ z, ((la z < la this ∨ la this + 8 < la z) ∧ (la z < la p2 ∨ la p2 < la z)) → c27_U184 z = (U 184) z := fun z hz => (q27_U184 z (tz27 z hz)).trans (hf25 z hz)
          have hf38 : ∀ z, ((la z < la this ∨ la this + 8 < la z) ∧ (la z < la p2 ∨ la p2 < la z)) → c27_V0 z = (V 0) z := fun z hz => (q27_V0 z (tz27 z hz)).trans (hf26 z hz)
          have hf39 : ∀ z, ((la z < la this ∨ la this + 8 < la z) ∧ (la z < la p2 ∨ la p2 < la z)) → c27_V1 z = (V 1) z := fun z hz => (q27_V1 z (tz27 z hz)).trans (hf27 z hz)
          have hf40 : ∀ z, ((la z < la this ∨ la this + 8 < la z) ∧ (la z < la p2 ∨ la p2 < la z)) → c27_V2 z = (V 2) z := fun z hz => (q27_V2 z (tz27 z hz)).trans (hf28 z hz)
          have hf41 : ∀ z, ((la z < la this ∨ la this + 8 < la z) ∧ (la z < la p2 ∨ la p2 < la z)) → c27_V12 z = (V 12) z := fun z hz => (q27_V12 z (tz27 z hz)).trans (hf29 z hz)
          clear hc27
          refine pw_vl (fun x31 _ => ?_)
          exact ih6 x31 (y6_6 + 1) c27_G60 c27_G183 c27_G203 c27_P66 c27_P181 c27_P182 c27_U184 c27_V0 c27_V1 c27_V2 c27_V12 hf31 hf32 hf33 hf34 ql27_66 hf35 ql27_181 hf36 ql27_182 hf37 hf38 hf39 hf40 hf41 hsw42
  exact lp6 NN 0 0 (G 60) (G 183) (G 203) (P 66) (P 181) (P 182) (U 184) (V 0) (V 1) (V 2) (V 12) (fun _ _ => rfl) (fun _ _ => rfl) (fun _ _ => rfl) (fun _ _ => rfl) (hB.1 66 fl_66) (fun _ _ => rfl) (hB.1 181 fl_181) (fun _ _ => rfl) (hB.1 182 fl_182) (fun _ _ => rfl) (fun _ _ => rfl) (fun _ _ => rfl) (fun _ _ => rfl) (fun _ _ => rfl) hs
abbrev RW_X9_through (G : Nat → Nat → Int32) (P : Nat → Nat → Option Nat) (U : Nat → Nat → Int64) (V : Nat → Nat → Nat → Int32) (X : Nat → Nat → Nat → Int64) (O : Nat → Nat → Nat → Option Nat) (kd : Nat → Nat) (ln : Nat → Nat) (cnt : Nat) (this : Nat) (p0 : Nat) (p1 : Int32) (p2 : Int32) (p3 : Nat) (p4 : Int32) (p5 : Int32) (tn nw nx ah bh : Nat) : (Nat × (Nat → Int32) × (Nat → Int32) × (Nat → Int32) × (Nat → Option Nat) × (Nat → Option Nat) × (Nat → Option Nat) × (Nat → Option Nat) × (Nat → Option Nat) × (Nat → Int64) × (Nat → Nat → Int32) × (Nat → Nat → Int32) × (Nat → Nat → Int32) × (Nat → Nat → Int32)) → Prop := fun t => SWT (t.2.2.2.2.2.1) (t.2.2.2.2.2.2.1) (t.2.2.2.2.2.2.2.1) (t.2.2.2.2.2.2.2.2.1) tn nw nx ah bh
set_option maxHeartbeats 4000000 in
set_option maxRecDepth 100000 in
theorem sw_X9_through (la : Nat → Nat) (G : Nat → Nat → Int32) (P : Nat → Nat → Option Nat) (U : Nat → Nat → Int64) (V : Nat → Nat → Nat → Int32) (X : Nat → Nat → Nat → Int64) (O : Nat → Nat → Nat → Option Nat) (kd : Nat → Nat) (ln : Nat → Nat) (cnt : Nat) (this : Nat) (p0 : Nat) (p1 : Int32) (p2 : Int32) (p3 : Nat) (p4 : Int32) (p5 : Int32) (hB : LB la cnt P) (hlt_this : this < cnt) (tn nw nx ah bh : Nat) (htn : tn < cnt) (hs : SWT (P 181) (P 182) (P 186) (P 187) tn nw nx ah bh) : pw (f_X9_through G P U V X O kd ln cnt this p0 p1 p2 p3 p4 p5) (RW_X9_through G P U V X O kd ln cnt this p0 p1 p2 p3 p4 p5 tn nw nx ah bh) := by
  unfold f_X9_through
  refine pw_nn (fun a1 hn_a1 => ?_)
  have lt_a1 := ((hB.1 187 fl_187) this a1 hn_a1).2.1
  have lb_a1 : (la a1 = la this + 4 ∨ la a1 = la this + 5) := lk_187.mp ((hB.1 187 fl_187) this a1 hn_a1).2.2
  refine pw_vl (fun m5 em5 => ?_)
  have hf1 : ∀ z, ((la z < la this ∨ la this + 8 < la z)) → m5 z = (G 203) z := fr_up (e0 := (G 203)) (fun _ _ => rfl) em5 (show ¬ ((la a1 < la this ∨ la this + 8 < la a1)) from by omega)
  refine pw_nn (fun a9 hn_a9 => ?_)
  have lt_a9 := ((hB.1 187 fl_187) this a9 hn_a9).2.1
  have lb_a9 : (la a9 = la this + 4 ∨ la a9 = la this + 5) := lk_187.mp ((hB.1 187 fl_187) this a9 hn_a9).2.2
  refine pw_b3 (fun c18_G203 c18_V0 c18_V1 hc18 => ?_)
  have hq18 := fr_X10_addForm la (va_up G 203 m5) P U V X O kd ln cnt a9 p3 p4 p5 hB _ hc18
  obtain ⟨q18_G203, q18_V0, q18_V1⟩ : (∀ z, (la z < la a9 ∨ la a9 < la z) → c18_G203 z = m5 z) ∧ (∀ z, (la z < la a9 ∨ la a9 < la z) → c18_V0 z = (V 0) z) ∧ (∀ z, (la z < la a9 ∨ la a9 < la z) → c18_V1 z = (V 1) z) := hq18
  have tz18 : ∀ z, ((la z < la this ∨ la this + 8 < la z)) → ((la z < la a9 ∨ la a9 < la z)) := fun z hz => by omega
  have hf2 : ∀ z, ((la z < la this ∨ la this + 8 < la z)) → c18_G203 z = (G 203) z := fun z hz => (q18_G203 z (tz18 z hz)).trans (hf1 z hz)
  have hf3 : ∀ z, ((la z < la this ∨ la this + 8 < la z)) → c18_V0 z = (V 0) z := fun z hz => (q18_V0 z (tz18 z hz)).trans (rfl)
  have hf4 : ∀ z, ((la z < la this ∨ la this + 8 < la z)) → c18_V1 z = (V 1) z := fun z hz => (q18_V1 z (tz18 z hz)).trans (rfl)
  clear hc18
  refine pw_vl (fun x26 _ => ?_)
  refine pw_jn (fun k92 => ∀ (c92_G60 : Nat → Int32) (c92_G183 : Nat → Int32) (c92_G203 : Nat → Int32) (c92_P66 : Nat → Option Nat) (c92_P181 : Nat → Option Nat) (c92_P182 : Nat → Option Nat) (c92_P186 : Nat → Option Nat) (c92_P187 : Nat → Option Nat) (c92_U184 : Nat → Int64) (c92_V0 : Nat → Nat → Int32) (c92_V1 : Nat → Nat → Int32) (c92_V2 : Nat → Nat → Int32) (c92_V12 : Nat → Nat → Int32), (∀ z, ((la z < la this ∨ la this + 8 < la z)) → c92_G60 z = (G 60) z) → (∀ z, ((la z < la this ∨ la this + 8 < la z)) → c92_G183 z = (G 183) z) → (∀ z, ((la z < la this ∨ la this + 8 < la z)) → c92_G203 z = (G 203) z) → (∀ z, ((la z < la this ∨ la this + 8 < la z)) → c92_P66 z = (P 66) z) → LC 66 la cnt c92_P66 → (∀ z, ((la z < la this ∨ la this + 8 < la z)) → c92_P181 z = (P 181) z) → LC 181 la cnt c92_P181 → (∀ z, ((la z < la this ∨ la this + 8 < la z)) → c92_P182 z = (P 182) z) → LC 182 la cnt c92_P182 → (∀ z, ((la z < la this ∨ la this + 8 < la z)) → c92_P186 z = (P 186) z) → LC 186 la cnt c92_P186 → (∀ z, ((la z < la this ∨ la this + 8 < la z)) → c92_P187 z = (P 187) z) → LC 187 la cnt c92_P187 → (∀ z, ((la z < la this ∨ la this + 8 < la z)) → c92_U184 z = (U 184) z) → (∀ z, ((la z < la this ∨ la this + 8 < la z)) → c92_V0 z = (V 0) z) → (∀ z, ((la z < la this ∨ la this + 8 < la z)) → c92_V1 z = (V 1) z) → (∀ z, ((la z < la this ∨ la this + 8 < la z)) → c92_V2 z = (V 2) z) → (∀ z, ((la z < la this ∨ la this + 8 < la z)) → c92_V12 z = (V 12) z) → (SWT c92_P181 c92_P182 c92_P186 c92_P187 tn nw nx ah bh) → pw (k92 c92_G60 c92_G183 c92_G203 c92_P66 c92_P181 c92_P182 c92_P186 c92_P187 c92_U184 c92_V0 c92_V1 c92_V2 c92_V12) (RW_X9_through G P U V X O kd ln cnt this p0 p1 p2 p3 p4 p5 tn nw nx ah bh)) ?_ ?_
  · intro c92_G60 c92_G183 c92_G203 c92_P66 c92_P181 c92_P182 c92_P186 c92_P187 c92_U184 c92_V0 c92_V1 c92_V2 c92_V12 hf5 hf6 hf7 hf8 hl9 hf10 hl11 hf12 hl13 hf14 hl15 hf16 hl17 hf18 hf19 hf20 hf21 hf22 hsw23
    show pw _ _
    refine pw_nn (fun a93 hn_a93 => ?_)
    have lt_a93 := (hl17 this a93 hn_a93).2.1
    have lb_a93 : (la a93 = la this + 4 ∨ la a93 = la this + 5) := lk_187.mp (hl17 this a93 hn_a93).2.2
    exact pw_some (hsw23)
  intro k92 Jk92
  have lp28 : ∀ (n28 : Nat) (y28_7 : Int32) (d28_G60 : Nat → Int32) (d28_G183 : Nat → Int32) (d28_G203 : Nat → Int32) (d28_P66 : Nat → Option Nat) (d28_P181 : Nat → Option Nat) (d28_P182 : Nat → Option Nat) (d28_P186 : Nat → Option Nat) (d28_P187 : Nat → Option Nat) (d28_U184 : Nat → Int64) (d28_V0 : Nat → Nat → Int32) (d28_V1 : Nat → Nat → Int32) (d28_V2 : Nat → Nat → Int32) (d28_V12 : Nat → Nat → Int32), (∀ z, ((la z < la this ∨ la this + 8 < la z)) → d28_G60 z = (G 60) z) → (∀ z, ((la z < la this ∨ la this + 8 < la z)) → d28_G183 z = (G 183) z) → (∀ z, ((la z < la this ∨ la this + 8 < la z)) → d28_G203 z = (G 203) z) → (∀ z, ((la z < la this ∨ la this + 8 < la z)) → d28_P66 z = (P 66) z) → LC 66 la cnt d28_P66 → (∀ z, ((la z < la this ∨ la this + 8 < la z)) → d28_P181 z = (P 181) z) → LC 181 la cnt d28_P181 → (∀ z, ((la z < la this ∨ la this + 8 < la z)) → d28_P182 z = (P 182) z) → LC 182 la cnt d28_P182 → (∀ z, ((la z < la this ∨ la this + 8 < la z)) → d28_P186 z = (P 186) z) → LC 186 la cnt d28_P186 → (∀ z, ((la z < la this ∨ la this + 8 < la z)) → d28_P187 z = (P 187) z) → LC 187 la cnt d28_P187 → (∀ z, ((la z < la this ∨ la this + 8 < la z)) → d28_U184 z = (U 184) z) → (∀ z, ((la z < la this ∨ la this + 8 < la z)) → d28_V0 z = (V 0) z) → (∀ z, ((la z < la this ∨ la this + 8 < la z)) → d28_V1 z = (V 1) z) → (∀ z, ((la z < la this ∨ la this + 8 < la z)) → d28_V2 z = (V 2) z) → (∀ z, ((la z < la this ∨ la this + 8 < la z)) → d28_V12 z = (V 12) z) → (SWT d28_P181 d28_P182 d28_P186 d28_P187 tn nw nx ah bh) → pw (L_X9_through_28 G P U V X O kd ln cnt this p0 p2 k92 n28 y28_7 d28_G60 d28_G183 d28_G203 d28_P66 d28_P181 d28_P182 d28_P186 d28_P187 d28_U184 d28_V0 d28_V1 d28_V2 d28_V12) (RW_X9_through G P U V X O kd ln cnt this p0 p1 p2 p3 p4 p5 tn nw nx ah bh) := by
    intro n28
    induction n28 with
    | zero => intros; exact pw_none
    | succ n28 ih28 =>
      intro y28_7 d28_G60 d28_G183 d28_G203 d28_P66 d28_P181 d28_P182 d28_P186 d28_P187 d28_U184 d28_V0 d28_V1 d28_V2 d28_V12 hf24 hf25 hf26 hf27 hl28 hf29 hl30 hf31 hl32 hf33 hl34 hf35 hl36 hf37 hf38 hf39 hf40 hf41 hsw42
      show pw (B_X9_through_28 G P U V X O kd ln cnt this p0 p2 k92 (L_X9_through_28 G P U V X O kd ln cnt this p0 p2 k92 n28) y28_7 d28_G60 d28_G183 d28_G203 d28_P66 d28_P181 d28_P182 d28_P186 d28_P187 d28_U184 d28_V0 d28_V1 d28_V2 d28_V12) _
      unfold B_X9_through_28
      refine pw_ite (fun _ => ?_) (fun _ => ?_)
      · skip
        exact Jk92 d28_G60 d28_G183 d28_G203 d28_P66 d28_P181 d28_P182 d28_P186 d28_P187 d28_U184 d28_V0 d28_V1 d28_V2 d28_V12 hf24 hf25 hf26 hf27 hl28 hf29 hl30 hf31 hl32 hf33 hl34 hf35 hl36 hf37 hf38 hf39 hf40 hf41 hsw42
      · skip
        refine pw_ite (fun _ => ?_) (fun _ => ?_)
        · skip
          exact Jk92 d28_G60 d28_G183 d28_G203 d28_P66 d28_P181 d28_P182 d28_P186 d28_P187 d28_U184 d28_V0 d28_V1 d28_V2 d28_V12 hf24 hf25 hf26 hf27 hl28 hf29 hl30 hf31 hl32 hf33 hl34 hf35 hl36 hf37 hf38 hf39 hf40 hf41 hsw42
        · skip
          refine pw_nn (fun a42 hn_a42 => ?_)
          have lt_a42 := (hl34 this a42 hn_a42).2.1
          have lb_a42 : (la a42 = la this + 4 ∨ la a42 = la this + 5) := lk_186.mp (hl34 this a42 hn_a42).2.2
          refine pw_nn (fun a49 hn_a49 => ?_)
          have lt_a49 := (hl36 this a49 hn_a49).2.1
          have lb_a49 : (la a49 = la this + 4 ∨ la a49 = la this + 5) := lk_187.mp (hl36 this a49 hn_a49).2.2
          refine pw_vl (fun m52 em52 => ?_)
          have hl43 : LC 186 la cnt m52 := LC_up hl34 em52 (by omega) (by omega) (lk_186.mpr (by omega))
          have hf44 : ∀ z, ((la z < la this ∨ la this + 8 < la z)) → m52 z = (P 186) z := fr_up (e0 := (P 186)) hf33 em52 (show ¬ ((la this < la this ∨ la this + 8 < la this)) from by omega)
          refine pw_vl (fun m58 em58 => ?_)
          have hl45 : LC 187 la cnt m58 := LC_up hl36 em58 (by omega) (by omega) (lk_187.mpr (by omega))
          have hf46 : ∀ z, ((la z < la this ∨ la this + 8 < la z)) → m58 z = (P 187) z := fr_up (e0 := (P 187)) hf35 em58 (show ¬ ((la this < la this ∨ la this + 8 < la this)) from by omega)
          refine pw_nn (fun a62 hn_a62 => ?_)
          have lt_a62 := (hl45 this a62 hn_a62).2.1
          have lb_a62 : (la a62 = la this + 4 ∨ la a62 = la this + 5) := lk_187.mp (hl45 this a62 hn_a62).2.2
          refine pw_vl (fun m66 em66 => ?_)
          have hf47 : ∀ z, ((la z < la this ∨ la this + 8 < la z)) → m66 z = (G 203) z := fr_up (e0 := (G 203)) hf26 em66 (show ¬ ((la a62 < la this ∨ la this + 8 < la a62)) from by omega)
          refine pw_if (fun _ => ?_)
          refine pw_vl (fun o73 _ => ?_)
          refine pw_nn (fun a75 hn_a75 => ?_)
          have lt_a75 := (hl43 this a75 hn_a75).2.1
          have lb_a75 : (la a75 = la this + 4 ∨ la a75 = la this + 5) := lk_186.mp (hl43 this a75 hn_a75).2.2
          refine pw_nn (fun a79 hn_a79 => ?_)
          have lt_a79 := (hl45 this a79 hn_a79).2.1
          have lb_a79 : (la a79 = la this + 4 ∨ la a79 = la this + 5) := lk_187.mp (hl45 this a79 hn_a79).2.2
          refine pw_b12 (fun r82 c82_G60 c82_G183 c82_G203 c82_P66 c82_P181 c82_P182 c82_U184 c82_V0 c82_V1 c82_V2 c82_V12 hc82 => ?_)
          have hq82 := fr_X9_turnForms la (va_up (va_up (va_up (va_up G 60 d28_G60) 183 d28_G183) 203 d28_G203) 203 m66) (va_up (va_up (va_up (va_up (va_up (va_up (va_up P 66 d28_P66) 181 d28_P181) 182 d28_P182) 186 d28_P186) 187 d28_P187) 186 m52) 187 m58) (va_up U 184 d28_U184) (va_up (va_up (va_up (va_up V 0 d28_V0) 1 d28_V1) 2 d28_V2) 12 d28_V12) X O kd ln cnt this o73 a75 a79 (LB_set (LB_set (LB_set (LB_set (LB_set (LB_set (LB_set hB hl28) hl30) hl32) hl34) hl36) hl43) hl45) hlt_this _ hc82
          have hsw59 : SWT c82_P181 c82_P182 m52 m58 tn nw nx ah bh := sw_X9_turnForms la (va_up (va_up (va_up (va_up G 60 d28_G60) 183 d28_G183) 203 d28_G203) 203 m66) (va_up (va_up (va_up (va_up (va_up (va_up (va_up P 66 d28_P66) 181 d28_P181) 182 d28_P182) 186 d28_P186) 187 d28_P187) 186 m52) 187 m58) (va_up U 184 d28_U184) (va_up (va_up (va_up (va_up V 0 d28_V0) 1 d28_V1) 2 d28_V2) 12 d28_V12) X O kd ln cnt this o73 a75 a79 (LB_set (LB_set (LB_set (LB_set (LB_set (LB_set (LB_set hB hl28) hl30) hl32) hl34) hl36) hl43) hl45) hlt_this tn nw nx ah bh (show tn < cnt from by omega) (sw_2 hsw42 em52 em58 hn_a42 hn_a49) _ hc82
          obtain ⟨q82_G60, q82_G183, q82_G203, q82_P66, q82_P181, q82_P182, q82_U184, q82_V0, q82_V1, q82_V2, q82_V12, ql82_66, ql82_181, ql82_182⟩ : (∀ z, (la z < la this ∨ la this + 8 < la z) ∧ (la z < la a79 ∨ la a79 < la z) → c82_G60 z = d28_G60 z) ∧ (∀ z, (la z < la this ∨ la this + 8 < la z) ∧ (la z < la a79 ∨ la a79 < la z) → c82_G183 z = d28_G183 z) ∧ (∀ z, (la z < la this ∨ la this + 8 < la z) ∧ (la z < la a79 ∨ la a79 < la z) → c82_G203 z = m66 z) ∧ (∀ z, (la z < la this ∨ la this + 8 < la z) ∧ (la z < la a79 ∨ la a79 < la z) → c82_P66 z = d28_P66 z) ∧ (∀ z, (la z < la this ∨ la this + 8 < la z) ∧ (la z < la a79 ∨ la a79 < la z) → c82_P181 z = d28_P181 z) ∧ (∀ z, (la z < la this ∨ la this + 8 < la z) ∧ (la z < la a79 ∨ la a79 < la z) → c82_P182 z = d28_P182 z) ∧ (∀ z, (la z < la this ∨ la this + 8 < la z) ∧ (la z < la a79 ∨ la a79 < la z) → c82_U184 z = d28_U184 z) ∧ (∀ z, (la z < la this ∨ la this + 8 < la z) ∧ (la z < la a79 ∨ la a79 < la z) → c82_V0 z = d28_V0 z) ∧ (∀ z, (la z < la this ∨ la this + 8 < la z) ∧ (la z < la a79 ∨ la a79 < la z) → c82_V1 z = d28_V1 z) ∧ (∀ z, (la z < la this ∨ la this + 8 < la z) ∧ (la z < la a79 ∨ la a79 < la z) → c82_V2 z = d28_V2 z) ∧ (∀ z, (la z < la this ∨ la this + 8 < la z) ∧ (la z < la a79 ∨ la a79 < la z) → c82_V12 z = d28_V12 z) ∧ LC 66 la cnt c82_P66 ∧ LC 181 la cnt c82_P181 ∧ LC 182 la cnt c82_P182 := hq82
          have tz82 : ∀ z, ((la z < la this ∨ la this + 8 < la z)) → ((la z < la this ∨ la this + 8 < la z) ∧ (la z < la a79 ∨ la a79 < la z)) := fun z hz => by omega
          have hf48 : ∀ z, ((la z < la this ∨ la this + 8 < la z)) → c82_G60 z = (G 60) z := fun z hz => (q82_G60 z (tz82 z hz)).trans (hf24 z hz)
          have hf49 : ∀ z, ((la z < la this ∨ la this + 8 < la z)) → c82_G183 z = (G 183) z := fun z hz => (q82_G183 z (tz82 z hz)).trans (hf25 z hz)
          have hf50 : ∀ z, ((la z < la this ∨ la this + 8 < la z)) → c82_G203 z = (G 203) z := fun z hz => (q82_G203 z (tz82 z hz)).trans (hf47 z hz)
          have hf51 : ∀ z, ((la z < la this ∨ la this + 8 < la z)) → c82_P66 z = (P 66) z := fun z hz => (q82_P66 z (tz82 z hz)).trans (hf27 z hz)
          have hf52 : ∀ z, ((la z < la this ∨ la this + 8 < la z)) → c82_P181 z = (P 181) z := fun z hz => (q82_P181 z (tz82 z hz)).trans (hf29 z hz)
          have hf53 : ∀ z, ((la z < la this ∨ la this + 8 < la z)) → c82_P182 z = (P 182) z := fun z hz => (q82_P182 z (tz82 z hz)).trans (hf31 z hz)
          have hf54 : ∀ z, ((la z < la this ∨ la this + 8 < la z)) → c82_U184 z = (U 184) z := fun z hz => (q82_U184 z (tz82 z hz)).trans (hf37 z hz)
          have hf55 : ∀ z, ((la z < la this ∨ la this + 8 < la z)) → c82_V0 z = (V 0) z := fun z hz => (q82_V0 z (tz82 z hz)).trans (hf38 z hz)
          have hf56 : ∀ z, ((la z < la this ∨ la this + 8 < la z)) → c82_V1 z = (V 1) z := fun z hz => (q82_V1 z (tz82 z hz)).trans (hf39 z hz)
          have hf57 : ∀ z, ((la z < la this ∨ la this + 8 < la z)) → c82_V2 z = (V 2) z := fun z hz => (q82_V2 z (tz82 z hz)).trans (hf40 z hz)
          have hf58 : ∀ z, ((la z < la this ∨ la this + 8 < la z)) → c82_V12 z = (V 12) z := fun z hz => (q82_V12 z (tz82 z hz)).trans (hf41 z hz)
          clear hc82
          exact ih28 (y28_7 + 1) c82_G60 c82_G183 c82_G203 c82_P66 c82_P181 c82_P182 m52 m58 c82_U184 c82_V0 c82_V1 c82_V2 c82_V12 hf48 hf49 hf50 hf51 ql82_66 hf52 ql82_181 hf53 ql82_182 hf44 hl43 hf46 hl45 hf54 hf55 hf56 hf57 hf58 hsw59
  exact lp28 NN x26 (G 60) (G 183) c18_G203 (P 66) (P 181) (P 182) (P 186) (P 187) (U 184) c18_V0 c18_V1 (V 2) (V 12) (fun _ _ => rfl) (fun _ _ => rfl) hf2 (fun _ _ => rfl) (hB.1 66 fl_66) (fun _ _ => rfl) (hB.1 181 fl_181) (fun _ _ => rfl) (hB.1 182 fl_182) (fun _ _ => rfl) (hB.1 186 fl_186) (fun _ _ => rfl) (hB.1 187 fl_187) (fun _ _ => rfl) hf3 hf4 (fun _ _ => rfl) (fun _ _ => rfl) hs
abbrev RW_X11_turn (G : Nat → Nat → Int32) (P : Nat → Nat → Option Nat) (U : Nat → Nat → Int64) (V : Nat → Nat → Nat → Int32) (X : Nat → Nat → Nat → Int64) (O : Nat → Nat → Nat → Option Nat) (kd : Nat → Nat) (ln : Nat → Nat) (cnt : Nat) (this : Nat) (p0 : Int32) (p1 : Int32) (tn nw nx ah bh : Nat) : (Int32 × (Nat → Int32) × (Nat → Int32) × (Nat → Int32) × (Nat → Int32) × (Nat → Option Nat) × (Nat → Option Nat) × (Nat → Option Nat) × (Nat → Option Nat) × (Nat → Option Nat) × (Nat → Int64) × (Nat → Nat → Int32) × (Nat → Nat → Int32) × (Nat → Nat → Int32) × (Nat → Nat → Int32)) → Prop := fun t => SWT (t.2.2.2.2.2.2.1) (t.2.2.2.2.2.2.2.1) (t.2.2.2.2.2.2.2.2.1) (t.2.2.2.2.2.2.2.2.2.1) tn nw nx ah bh
set_option maxHeartbeats 4000000 in
set_option maxRecDepth 100000 in
theorem sw_X11_turn (la : Nat → Nat) (G : Nat → Nat → Int32) (P : Nat → Nat → Option Nat) (U : Nat → Nat → Int64) (V : Nat → Nat → Nat → Int32) (X : Nat → Nat → Nat → Int64) (O : Nat → Nat → Nat → Option Nat) (kd : Nat → Nat) (ln : Nat → Nat) (cnt : Nat) (this : Nat) (p0 : Int32) (p1 : Int32) (hB : LB la cnt P) (hlt_this : this < cnt) (hp0 : la this = 200) (tn nw nx ah bh : Nat) (htn : tn < cnt) (hs : SWT (P 181) (P 182) (P 186) (P 187) tn nw nx ah bh) : pw (f_X11_turn G P U V X O kd ln cnt this p0 p1) (RW_X11_turn G P U V X O kd ln cnt this p0 p1 tn nw nx ah bh) := by
  unfold f_X11_turn
  refine pw_nn (fun a1 hn_a1 => ?_)
  have lt_a1 := ((hB.1 220 fl_220) this a1 hn_a1).2.1
  have lb_a1 : la a1 = 10 := lk_220.mp ((hB.1 220 fl_220) this a1 hn_a1).2.2
  refine pw_b2 (fun r4 c4_G141 hc4 => ?_)
  have hq4 := fr_X7_take la G P U V X O kd ln cnt a1 hB _ hc4
  have q4_G141 : (∀ z, (la z < la a1 ∨ la a1 < la z) → c4_G141 z = (G 141) z) := hq4
  have tz4 : ∀ z, ((la z < 10 ∨ 10 < la z) ∧ (la z < 90 ∨ 90 + 8 < la z) ∧ (la z < 50 ∨ 50 < la z)) → ((la z < la a1 ∨ la a1 < la z)) := fun z hz => by omega
  have hf1 : ∀ z, ((la z < 10 ∨ 10 < la z) ∧ (la z < 90 ∨ 90 + 8 < la z) ∧ (la z < 50 ∨ 50 < la z)) → c4_G141 z = (G 141) z := fun z hz => (q4_G141 z (tz4 z hz)).trans (rfl)
  clear hc4 hq4
  refine pw_b1 (fun r11 hc11 => ?_)
  clear hc11
  refine pw_jn (fun j28 => pw (j28 ()) (RW_X11_turn G P U V X O kd ln cnt this p0 p1 tn nw nx ah bh)) ?_ ?_
  · show pw _ _
    exact pw_some (hs)
  intro j28 Jj28
  refine pw_ite (fun _ => ?_) (fun _ => ?_)
  · skip
    exact Jj28
  · skip
    refine pw_nn (fun a18 hn_a18 => ?_)
    have lt_a18 := ((hB.1 220 fl_220) this a18 hn_a18).2.1
    have lb_a18 : la a18 = 10 := lk_220.mp ((hB.1 220 fl_220) this a18 hn_a18).2.2
    refine pw_b1 (fun r22 hc22 => ?_)
    clear hc22
    refine pw_ite (fun _ => ?_) (fun _ => ?_)
    · skip
      exact Jj28
    · skip
      refine pw_nn (fun a32 hn_a32 => ?_)
      have lt_a32 := ((hB.1 227 fl_227) this a32 hn_a32).2.1
      have lb_a32 : la a32 = 50 := lk_227.mp ((hB.1 227 fl_227) this a32 hn_a32).2.2
      refine pw_nn (fun a36 hn_a36 => ?_)
      have lt_a36 := ((hB.1 226 fl_226) this a36 hn_a36).2.1
      have lb_a36 : la a36 = 90 := lk_226.mp ((hB.1 226 fl_226) this a36 hn_a36).2.2
      refine pw_nn (fun a40 hn_a40 => ?_)
      have lt_a40 := ((hB.1 221 fl_221) this a40 hn_a40).2.1
      have lb_a40 : la a40 = la this + 3 := lk_221.mp ((hB.1 221 fl_221) this a40 hn_a40).2.2
      refine pw_nn (fun a46 hn_a46 => ?_)
      have lt_a46 := ((hB.1 220 fl_220) this a46 hn_a46).2.1
      have lb_a46 : la a46 = 10 := lk_220.mp ((hB.1 220 fl_220) this a46 hn_a46).2.2
      refine pw_nn (fun a49 hn_a49 => ?_)
      have lt_a49 := ((hB.1 140 fl_140) a46 a49 hn_a49).2.1
      have lb_a49 : la a49 = la a46 + 1 := lk_140.mp ((hB.1 140 fl_140) a46 a49 hn_a49).2.2
      refine pw_b14 (fun r54 c54_G60 c54_G183 c54_G203 c54_P66 c54_P181 c54_P182 c54_P186 c54_P187 c54_U184 c54_V0 c54_V1 c54_V2 c54_V12 hc54 => ?_)
      have hq54 := fr_X9_through la (va_up G 141 c4_G141) P U V X O kd ln cnt a36 a40 p0 p1 a49 (0 : Int32) r4 hB lt_a36 _ hc54
      have hsw15 : SWT c54_P181 c54_P182 c54_P186 c54_P187 tn nw nx ah bh := sw_X9_through la (va_up G 141 c4_G141) P U V X O kd ln cnt a36 a40 p0 p1 a49 (0 : Int32) r4 hB lt_a36 tn nw nx ah bh (show tn < cnt from by omega) hs _ hc54
      obtain ⟨q54_G60, q54_G183, q54_G203, q54_P66, q54_P181, q54_P182, q54_P186, q54_P187, q54_U184, q54_V0, q54_V1, q54_V2, q54_V12, ql54_66, ql54_181, ql54_182, ql54_186, ql54_187⟩ : (∀ z, (la z < la a36 ∨ la a36 + 8 < la z) → c54_G60 z = (G 60) z) ∧ (∀ z, (la z < la a36 ∨ la a36 + 8 < la z) → c54_G183 z = (G 183) z) ∧ (∀ z, (la z < la a36 ∨ la a36 + 8 < la z) → c54_G203 z = (G 203) z) ∧ (∀ z, (la z < la a36 ∨ la a36 + 8 < la z) → c54_P66 z = (P 66) z) ∧ (∀ z, (la z < la a36 ∨ la a36 + 8 < la z) → c54_P181 z = (P 181) z) ∧ (∀ z, (la z < la a36 ∨ la a36 + 8 < la z) → c54_P182 z = (P 182) z) ∧ (∀ z, (la z < la a36 ∨ la a36 + 8 < la z) → c54_P186 z = (P 186) z) ∧ (∀ z, (la z < la a36 ∨ la a36 + 8 < la z) → c54_P187 z = (P 187) z) ∧ (∀ z, (la z < la a36 ∨ la a36 + 8 < la z) → c54_U184 z = (U 184) z) ∧ (∀ z, (la z < la a36 ∨ la a36 + 8 < la z) → c54_V0 z = (V 0) z) ∧ (∀ z, (la z < la a36 ∨ la a36 + 8 < la z) → c54_V1 z = (V 1) z) ∧ (∀ z, (la z < la a36 ∨ la a36 + 8 < la z) → c54_V2 z = (V 2) z) ∧ (∀ z, (la z < la a36 ∨ la a36 + 8 < la z) → c54_V12 z = (V 12) z) ∧ LC 66 la cnt c54_P66 ∧ LC 181 la cnt c54_P181 ∧ LC 182 la cnt c54_P182 ∧ LC 186 la cnt c54_P186 ∧ LC 187 la cnt c54_P187 := hq54
      have tz54 : ∀ z, ((la z < 10 ∨ 10 < la z) ∧ (la z < 90 ∨ 90 + 8 < la z) ∧ (la z < 50 ∨ 50 < la z)) → ((la z < la a36 ∨ la a36 + 8 < la z)) := fun z hz => by omega
      have hf2 : ∀ z, ((la z < 10 ∨ 10 < la z) ∧ (la z < 90 ∨ 90 + 8 < la z) ∧ (la z < 50 ∨ 50 < la z)) → c54_G60 z = (G 60) z := fun z hz => (q54_G60 z (tz54 z hz)).trans (rfl)
      have hf3 : ∀ z, ((la z < 10 ∨ 10 < la z) ∧ (la z < 90 ∨ 90 + 8 < la z) ∧ (la z < 50 ∨ 50 < la z)) → c54_G183 z = (G 183) z := fun z hz => (q54_G183 z (tz54 z hz)).trans (rfl)
      have hf4 : ∀ z, ((la z < 10 ∨ 10 < la z) ∧ (la z < 90 ∨ 90 + 8 < la z) ∧ (la z < 50 ∨ 50 < la z)) → c54_G203 z = (G 203) z := fun z hz => (q54_G203 z (tz54 z hz)).trans (rfl)
      have hf5 : ∀ z, ((la z < 10 ∨ 10 < la z) ∧ (la z < 90 ∨ 90 + 8 < la z) ∧ (la z < 50 ∨ 50 < la z)) → c54_P66 z = (P 66) z := fun z hz => (q54_P66 z (tz54 z hz)).trans (rfl)
      have hf6 : ∀ z, ((la z < 10 ∨ 10 < la z) ∧ (la z < 90 ∨ 90 + 8 < la z) ∧ (la z < 50 ∨ 50 < la z)) → c54_P181 z = (P 181) z := fun z hz => (q54_P181 z (tz54 z hz)).trans (rfl)
      have hf7 : ∀ z, ((la z < 10 ∨ 10 < la z) ∧ (la z < 90 ∨ 90 + 8 < la z) ∧ (la z < 50 ∨ 50 < la z)) → c54_P182 z = (P 182) z := fun z hz => (q54_P182 z (tz54 z hz)).trans (rfl)
      have hf8 : ∀ z, ((la z < 10 ∨ 10 < la z) ∧ (la z < 90 ∨ 90 + 8 < la z) ∧ (la z < 50 ∨ 50 < la z)) → c54_P186 z = (P 186) z := fun z hz => (q54_P186 z (tz54 z hz)).trans (rfl)
      have hf9 : ∀ z, ((la z < 10 ∨ 10 < la z) ∧ (la z < 90 ∨ 90 + 8 < la z) ∧ (la z < 50 ∨ 50 < la z)) → c54_P187 z = (P 187) z := fun z hz => (q54_P187 z (tz54 z hz)).trans (rfl)
      have hf10 : ∀ z, ((la z < 10 ∨ 10 < la z) ∧ (la z < 90 ∨ 90 + 8 < la z) ∧ (la z < 50 ∨ 50 < la z)) → c54_U184 z = (U 184) z := fun z hz => (q54_U184 z (tz54 z hz)).trans (rfl)
      have hf11 : ∀ z, ((la z < 10 ∨ 10 < la z) ∧ (la z < 90 ∨ 90 + 8 < la z) ∧ (la z < 50 ∨ 50 < la z)) → c54_V0 z = (V 0) z := fun z hz => (q54_V0 z (tz54 z hz)).trans (rfl)
      have hf12 : ∀ z, ((la z < 10 ∨ 10 < la z) ∧ (la z < 90 ∨ 90 + 8 < la z) ∧ (la z < 50 ∨ 50 < la z)) → c54_V1 z = (V 1) z := fun z hz => (q54_V1 z (tz54 z hz)).trans (rfl)
      have hf13 : ∀ z, ((la z < 10 ∨ 10 < la z) ∧ (la z < 90 ∨ 90 + 8 < la z) ∧ (la z < 50 ∨ 50 < la z)) → c54_V2 z = (V 2) z := fun z hz => (q54_V2 z (tz54 z hz)).trans (rfl)
      have hf14 : ∀ z, ((la z < 10 ∨ 10 < la z) ∧ (la z < 90 ∨ 90 + 8 < la z) ∧ (la z < 50 ∨ 50 < la z)) → c54_V12 z = (V 12) z := fun z hz => (q54_V12 z (tz54 z hz)).trans (rfl)
      clear hc54
      refine pw_b3 (fun c57_G203 c57_V0 c57_V1 hc57 => ?_)
      have hq57 := fr_X10_copy la (va_up (va_up (va_up (va_up G 141 c4_G141) 60 c54_G60) 183 c54_G183) 203 c54_G203) (va_up (va_up (va_up (va_up (va_up P 66 c54_P66) 181 c54_P181) 182 c54_P182) 186 c54_P186) 187 c54_P187) (va_up U 184 c54_U184) (va_up (va_up (va_up (va_up V 0 c54_V0) 1 c54_V1) 2 c54_V2) 12 c54_V12) X O kd ln cnt a32 r54 (LB_set (LB_set (LB_set (LB_set (LB_set hB ql54_66) ql54_181) ql54_182) ql54_186) ql54_187) _ hc57
      obtain ⟨q57_G203, q57_V0, q57_V1⟩ : (∀ z, (la z < la a32 ∨ la a32 < la z) → c57_G203 z = c54_G203 z) ∧ (∀ z, (la z < la a32 ∨ la a32 < la z) → c57_V0 z = c54_V0 z) ∧ (∀ z, (la z < la a32 ∨ la a32 < la z) → c57_V1 z = c54_V1 z) := hq57
      have tz57 : ∀ z, ((la z < 10 ∨ 10 < la z) ∧ (la z < 90 ∨ 90 + 8 < la z) ∧ (la z < 50 ∨ 50 < la z)) → ((la z < la a32 ∨ la a32 < la z)) := fun z hz => by omega
      have hf16 : ∀ z, ((la z < 10 ∨ 10 < la z) ∧ (la z < 90 ∨ 90 + 8 < la z) ∧ (la z < 50 ∨ 50 < la z)) → c57_G203 z = (G 203) z := fun z hz => (q57_G203 z (tz57 z hz)).trans (hf4 z hz)
      have hf17 : ∀ z, ((la z < 10 ∨ 10 < la z) ∧ (la z < 90 ∨ 90 + 8 < la z) ∧ (la z < 50 ∨ 50 < la z)) → c57_V0 z = (V 0) z := fun z hz => (q57_V0 z (tz57 z hz)).trans (hf11 z hz)
      have hf18 : ∀ z, ((la z < 10 ∨ 10 < la z) ∧ (la z < 90 ∨ 90 + 8 < la z) ∧ (la z < 50 ∨ 50 < la z)) → c57_V1 z = (V 1) z := fun z hz => (q57_V1 z (tz57 z hz)).trans (hf12 z hz)
      clear hc57
      refine pw_nn (fun a61 hn_a61 => ?_)
      have lt_a61 := ((hB.1 227 fl_227) this a61 hn_a61).2.1
      have lb_a61 : la a61 = 50 := lk_227.mp ((hB.1 227 fl_227) this a61 hn_a61).2.2
      exact pw_some (hsw15)
abbrev RW_X11_write (G : Nat → Nat → Int32) (P : Nat → Nat → Option Nat) (U : Nat → Nat → Int64) (V : Nat → Nat → Nat → Int32) (X : Nat → Nat → Nat → Int64) (O : Nat → Nat → Nat → Option Nat) (kd : Nat → Nat) (ln : Nat → Nat) (cnt : Nat) (this : Nat) (p0 : Int32) (p1 : Int32) (tn nw nx ah bh : Nat) : (Int32 × (Nat → Int32) × (Nat → Int32) × (Nat → Int32) × (Nat → Int32) × (Nat → Int32) × (Nat → Int32) × (Nat → Int32) × (Nat → Int32) × (Nat → Int32) × (Nat → Int32) × (Nat → Int32) × (Nat → Int32) × (Nat → Int32) × (Nat → Int32) × (Nat → Int32) × (Nat → Int32) × (Nat → Option Nat) × (Nat → Option Nat) × (Nat → Option Nat) × (Nat → Option Nat) × (Nat → Option Nat) × (Nat → Option Nat) × (Nat → Option Nat) × (Nat → Option Nat) × (Nat → Option Nat) × (Nat → Option Nat) × (Nat → Int64) × (Nat → Nat → Int32) × (Nat → Nat → Int32) × (Nat → Nat → Int32) × (Nat → Nat → Int32) × (Nat → Nat → Int32)) → Prop := fun t => SWT (t.2.2.2.2.2.2.2.2.2.2.2.2.2.2.2.2.2.2.2.2.2.2.2.1) (t.2.2.2.2.2.2.2.2.2.2.2.2.2.2.2.2.2.2.2.2.2.2.2.2.1) (t.2.2.2.2.2.2.2.2.2.2.2.2.2.2.2.2.2.2.2.2.2.2.2.2.2.1) (t.2.2.2.2.2.2.2.2.2.2.2.2.2.2.2.2.2.2.2.2.2.2.2.2.2.2.1) tn nw nx ah bh
set_option maxHeartbeats 4000000 in
set_option maxRecDepth 100000 in
theorem sw_X11_write (la : Nat → Nat) (G : Nat → Nat → Int32) (P : Nat → Nat → Option Nat) (U : Nat → Nat → Int64) (V : Nat → Nat → Nat → Int32) (X : Nat → Nat → Nat → Int64) (O : Nat → Nat → Nat → Option Nat) (kd : Nat → Nat) (ln : Nat → Nat) (cnt : Nat) (this : Nat) (p0 : Int32) (p1 : Int32) (hB : LB la cnt P) (hlt_this : this < cnt) (hp0 : la this = 200) (tn nw nx ah bh : Nat) (htn : tn < cnt) (hs : SWT (P 181) (P 182) (P 186) (P 187) tn nw nx ah bh) : pw (f_X11_write G P U V X O kd ln cnt this p0 p1) (RW_X11_write G P U V X O kd ln cnt this p0 p1 tn nw nx ah bh) := by
  unfold f_X11_write
  refine pw_nn (fun a1 hn_a1 => ?_)
  have lt_a1 := ((hB.1 220 fl_220) this a1 hn_a1).2.1
  have lb_a1 : la a1 = 10 := lk_220.mp ((hB.1 220 fl_220) this a1 hn_a1).2.2
  refine pw_b2 (fun r4 c4_G141 hc4 => ?_)
  have hq4 := fr_X7_take la G P U V X O kd ln cnt a1 hB _ hc4
  have q4_G141 : (∀ z, (la z < la a1 ∨ la a1 < la z) → c4_G141 z = (G 141) z) := hq4
  have tz4 : ∀ z, ((la z < 10 ∨ 10 < la z) ∧ (la z < 310 ∨ 310 < la z) ∧ (la z < 320 ∨ 320 + 2 < la z) ∧ (la z < 90 ∨ 90 + 8 < la z)) → ((la z < la a1 ∨ la a1 < la z)) := fun z hz => by omega
  have hf1 : ∀ z, ((la z < 10 ∨ 10 < la z) ∧ (la z < 310 ∨ 310 < la z) ∧ (la z < 320 ∨ 320 + 2 < la z) ∧ (la z < 90 ∨ 90 + 8 < la z)) → c4_G141 z = (G 141) z := fun z hz => (q4_G141 z (tz4 z hz)).trans (rfl)
  clear hc4 hq4
  refine pw_b1 (fun r11 hc11 => ?_)
  clear hc11
  refine pw_ite (fun _ => ?_) (fun _ => ?_)
  · skip
    exact pw_some (hs)
  · skip
    refine pw_nn (fun a21 hn_a21 => ?_)
    have lt_a21 := ((hB.1 220 fl_220) this a21 hn_a21).2.1
    have lb_a21 : la a21 = 10 := lk_220.mp ((hB.1 220 fl_220) this a21 hn_a21).2.2
    refine pw_b1 (fun r25 hc25 => ?_)
    clear hc25
    refine pw_ite (fun _ => ?_) (fun _ => ?_)
    · skip
      refine pw_nn (fun a34 hn_a34 => ?_)
      have lt_a34 := ((hB.1 234 fl_234) this a34 hn_a34).2.1
      have lb_a34 : la a34 = 310 := lk_234.mp ((hB.1 234 fl_234) this a34 hn_a34).2.2
      refine pw_nn (fun a38 hn_a38 => ?_)
      have lt_a38 := ((hB.1 220 fl_220) this a38 hn_a38).2.1
      have lb_a38 : la a38 = 10 := lk_220.mp ((hB.1 220 fl_220) this a38 hn_a38).2.2
      refine pw_nn (fun a41 hn_a41 => ?_)
      have lt_a41 := ((hB.1 140 fl_140) a38 a41 hn_a41).2.1
      have lb_a41 : la a41 = la a38 + 1 := lk_140.mp ((hB.1 140 fl_140) a38 a41 hn_a41).2.2
      refine pw_b5 (fun c45_G162 c45_G165 c45_G166 c45_G167 c45_P164 hc45 => ?_)
      have hq45 := fr_X8_begin la (va_up G 141 c4_G141) P U V X O kd ln cnt a34 a41 r4 hB lt_a34 lt_a41 _ hc45
      obtain ⟨q45_G162, q45_G165, q45_G166, q45_G167, q45_P164, ql45_164⟩ : (∀ z, (la z < la a34 ∨ la a34 < la z) → c45_G162 z = (G 162) z) ∧ (∀ z, (la z < la a34 ∨ la a34 < la z) → c45_G165 z = (G 165) z) ∧ (∀ z, (la z < la a34 ∨ la a34 < la z) → c45_G166 z = (G 166) z) ∧ (∀ z, (la z < la a34 ∨ la a34 < la z) → c45_G167 z = (G 167) z) ∧ (∀ z, (la z < la a34 ∨ la a34 < la z) → c45_P164 z = (P 164) z) ∧ LC 164 la cnt c45_P164 := hq45
      have tz45 : ∀ z, ((la z < 10 ∨ 10 < la z) ∧ (la z < 310 ∨ 310 < la z) ∧ (la z < 320 ∨ 320 + 2 < la z) ∧ (la z < 90 ∨ 90 + 8 < la z)) → ((la z < la a34 ∨ la a34 < la z)) := fun z hz => by omega
      have hf2 : ∀ z, ((la z < 10 ∨ 10 < la z) ∧ (la z < 310 ∨ 310 < la z) ∧ (la z < 320 ∨ 320 + 2 < la z) ∧ (la z < 90 ∨ 90 + 8 < la z)) → c45_G162 z = (G 162) z := fun z hz => (q45_G162 z (tz45 z hz)).trans (rfl)
      have hf3 : ∀ z, ((la z < 10 ∨ 10 < la z) ∧ (la z < 310 ∨ 310 < la z) ∧ (la z < 320 ∨ 320 + 2 < la z) ∧ (la z < 90 ∨ 90 + 8 < la z)) → c45_G165 z = (G 165) z := fun z hz => (q45_G165 z (tz45 z hz)).trans (rfl)
      have hf4 : ∀ z, ((la z < 10 ∨ 10 < la z) ∧ (la z < 310 ∨ 310 < la z) ∧ (la z < 320 ∨ 320 + 2 < la z) ∧ (la z < 90 ∨ 90 + 8 < la z)) → c45_G166 z = (G 166) z := fun z hz => (q45_G166 z (tz45 z hz)).trans (rfl)
      have hf5 : ∀ z, ((la z < 10 ∨ 10 < la z) ∧ (la z < 310 ∨ 310 < la z) ∧ (la z < 320 ∨ 320 + 2 < la z) ∧ (la z < 90 ∨ 90 + 8 < la z)) → c45_G167 z = (G 167) z := fun z hz => (q45_G167 z (tz45 z hz)).trans (rfl)
      have hf6 : ∀ z, ((la z < 10 ∨ 10 < la z) ∧ (la z < 310 ∨ 310 < la z) ∧ (la z < 320 ∨ 320 + 2 < la z) ∧ (la z < 90 ∨ 90 + 8 < la z)) → c45_P164 z = (P 164) z := fun z hz => (q45_P164 z (tz45 z hz)).trans (rfl)
      clear hc45
      refine pw_nn (fun a49 hn_a49 => ?_)
      have lt_a49 := ((hB.1 235 fl_235) this a49 hn_a49).2.1
      have lb_a49 : la a49 = 320 := lk_235.mp ((hB.1 235 fl_235) this a49 hn_a49).2.2
      refine pw_b4 (fun c52_G126 c52_G127 c52_G128 c52_V6 hc52 => ?_)
      have hq52 := fr_X6_begin la (va_up (va_up (va_up (va_up (va_up G 141 c4_G141) 162 c45_G162) 165 c45_G165) 166 c45_G166) 167 c45_G167) (va_up P 164 c45_P164) U V X O kd ln cnt a49 (LB_set hB ql45_164) _ hc52
      obtain ⟨q52_G126, q52_G127, q52_G128, q52_V6⟩ : (∀ z, (la z < la a49 ∨ la a49 + 2 < la z) → c52_G126 z = (G 126) z) ∧ (∀ z, (la z < la a49 ∨ la a49 + 2 < la z) → c52_G127 z = (G 127) z) ∧ (∀ z, (la z < la a49 ∨ la a49 + 2 < la z) → c52_G128 z = (G 128) z) ∧ (∀ z, (la z < la a49 ∨ la a49 + 2 < la z) → c52_V6 z = (V 6) z) := hq52
      have tz52 : ∀ z, ((la z < 10 ∨ 10 < la z) ∧ (la z < 310 ∨ 310 < la z) ∧ (la z < 320 ∨ 320 + 2 < la z) ∧ (la z < 90 ∨ 90 + 8 < la z)) → ((la z < la a49 ∨ la a49 + 2 < la z)) := fun z hz => by omega
      have hf7 : ∀ z, ((la z < 10 ∨ 10 < la z) ∧ (la z < 310 ∨ 310 < la z) ∧ (la z < 320 ∨ 320 + 2 < la z) ∧ (la z < 90 ∨ 90 + 8 < la z)) → c52_G126 z = (G 126) z := fun z hz => (q52_G126 z (tz52 z hz)).trans (rfl)
      have hf8 : ∀ z, ((la z < 10 ∨ 10 < la z) ∧ (la z < 310 ∨ 310 < la z) ∧ (la z < 320 ∨ 320 + 2 < la z) ∧ (la z < 90 ∨ 90 + 8 < la z)) → c52_G127 z = (G 127) z := fun z hz => (q52_G127 z (tz52 z hz)).trans (rfl)
      have hf9 : ∀ z, ((la z < 10 ∨ 10 < la z) ∧ (la z < 310 ∨ 310 < la z) ∧ (la z < 320 ∨ 320 + 2 < la z) ∧ (la z < 90 ∨ 90 + 8 < la z)) → c52_G128 z = (G 128) z := fun z hz => (q52_G128 z (tz52 z hz)).trans (rfl)
      have hf10 : ∀ z, ((la z < 10 ∨ 10 < la z) ∧ (la z < 310 ∨ 310 < la z) ∧ (la z < 320 ∨ 320 + 2 < la z) ∧ (la z < 90 ∨ 90 + 8 < la z)) → c52_V6 z = (V 6) z := fun z hz => (q52_V6 z (tz52 z hz)).trans (rfl)
      clear hc52
      refine pw_jn (fun k167 => ∀ (c167_G60 : Nat → Int32) (c167_G126 : Nat → Int32) (c167_G127 : Nat → Int32) (c167_G128 : Nat → Int32) (c167_G160 : Nat → Int32) (c167_G161 : Nat → Int32) (c167_G162 : Nat → Int32) (c167_G163 : Nat → Int32) (c167_G166 : Nat → Int32) (c167_G167 : Nat → Int32) (c167_G183 : Nat → Int32) (c167_G203 : Nat → Int32) (c167_P66 : Nat → Option Nat) (c167_P181 : Nat → Option Nat) (c167_P182 : Nat → Option Nat) (c167_P186 : Nat → Option Nat) (c167_P187 : Nat → Option Nat) (c167_U184 : Nat → Int64) (c167_V0 : Nat → Nat → Int32) (c167_V1 : Nat → Nat → Int32) (c167_V2 : Nat → Nat → Int32) (c167_V6 : Nat → Nat → Int32) (c167_V12 : Nat → Nat → Int32), (∀ z, ((la z < 10 ∨ 10 < la z) ∧ (la z < 310 ∨ 310 < la z) ∧ (la z < 320 ∨ 320 + 2 < la z) ∧ (la z < 90 ∨ 90 + 8 < la z)) → c167_G60 z = (G 60) z) → (∀ z, ((la z < 10 ∨ 10 < la z) ∧ (la z < 310 ∨ 310 < la z) ∧ (la z < 320 ∨ 320 + 2 < la z) ∧ (la z < 90 ∨ 90 + 8 < la z)) → c167_G126 z = (G 126) z) → (∀ z, ((la z < 10 ∨ 10 < la z) ∧ (la z < 310 ∨ 310 < la z) ∧ (la z < 320 ∨ 320 + 2 < la z) ∧ (la z < 90 ∨ 90 + 8 < la z)) → c167_G127 z = (G 127) z) → (∀ z, ((la z < 10 ∨ 10 < la z) ∧ (la z < 310 ∨ 310 < la z) ∧ (la z < 320 ∨ 320 + 2 < la z) ∧ (la z < 90 ∨ 90 + 8 < la z)) → c167_G128 z = (G 128) z) → (∀ z, ((la z < 10 ∨ 10 < la z) ∧ (la z < 310 ∨ 310 < la z) ∧ (la z < 320 ∨ 320 + 2 < la z) ∧ (la z < 90 ∨ 90 + 8 < la z)) → c167_G160 z = (G 160) z) → (∀ z, ((la z < 10 ∨ 10 < la z) ∧ (la z < 310 ∨ 310 < la z) ∧ (la z < 320 ∨ 320 + 2 < la z) ∧ (la z < 90 ∨ 90 + 8 < la z)) → c167_G161 z = (G 161) z) → (∀ z, ((la z < 10 ∨ 10 < la z) ∧ (la z < 310 ∨ 310 < la z) ∧ (la z < 320 ∨ 320 + 2 < la z) ∧ (la z < 90 ∨ 90 + 8 < la z)) → c167_G162 z = (G 162) z) → (∀ z, ((la z < 10 ∨ 10 < la z) ∧ (la z < 310 ∨ 310 < la z) ∧ (la z < 320 ∨ 320 + 2 < la z) ∧ (la z < 90 ∨ 90 + 8 < la z)) → c167_G163 z = (G 163) z) → (∀ z, ((la z < 10 ∨ 10 < la z) ∧ (la z < 310 ∨ 310 < la z) ∧ (la z < 320 ∨ 320 + 2 < la z) ∧ (la z < 90 ∨ 90 + 8 < la z)) → c167_G166 z = (G 166) z) → (∀ z, ((la z < 10 ∨ 10 < la z) ∧ (la z < 310 ∨ 310 < la z) ∧ (la z < 320 ∨ 320 + 2 < la z) ∧ (la z < 90 ∨ 90 + 8 < la z)) → c167_G167 z = (G 167) z) → (∀ z, ((la z < 10 ∨ 10 < la z) ∧ (la z < 310 ∨ 310 < la z) ∧ (la z < 320 ∨ 320 + 2 < la z) ∧ (la z < 90 ∨ 90 + 8 < la z)) → c167_G183 z = (G 183) z) → (∀ z, ((la z < 10 ∨ 10 < la z) ∧ (la z < 310 ∨ 310 < la z) ∧ (la z < 320 ∨ 320 + 2 < la z) ∧ (la z < 90 ∨ 90 + 8 < la z)) → c167_G203 z = (G 203) z) → (∀ z, ((la z < 10 ∨ 10 < la z) ∧ (la z < 310 ∨ 310 < la z) ∧ (la z < 320 ∨ 320 + 2 < la z) ∧ (la z < 90 ∨ 90 + 8 < la z)) → c167_P66 z = (P 66) z) → LC 66 la cnt c167_P66 → (∀ z, ((la z < 10 ∨ 10 < la z) ∧ (la z < 310 ∨ 310 < la z) ∧ (la z < 320 ∨ 320 + 2 < la z) ∧ (la z < 90 ∨ 90 + 8 < la z)) → c167_P181 z = (P 181) z) → LC 181 la cnt c167_P181 → (∀ z, ((la z < 10 ∨ 10 < la z) ∧ (la z < 310 ∨ 310 < la z) ∧ (la z < 320 ∨ 320 + 2 < la z) ∧ (la z < 90 ∨ 90 + 8 < la z)) → c167_P182 z = (P 182) z) → LC 182 la cnt c167_P182 → (∀ z, ((la z < 10 ∨ 10 < la z) ∧ (la z < 310 ∨ 310 < la z) ∧ (la z < 320 ∨ 320 + 2 < la z) ∧ (la z < 90 ∨ 90 + 8 < la z)) → c167_P186 z = (P 186) z) → LC 186 la cnt c167_P186 → (∀ z, ((la z < 10 ∨ 10 < la z) ∧ (la z < 310 ∨ 310 < la z) ∧ (la z < 320 ∨ 320 + 2 < la z) ∧ (la z < 90 ∨ 90 + 8 < la z)) → c167_P187 z = (P 187) z) → LC 187 la cnt c167_P187 → (∀ z, ((la z < 10 ∨ 10 < la z) ∧ (la z < 310 ∨ 310 < la z) ∧ (la z < 320 ∨ 320 + 2 < la z) ∧ (la z < 90 ∨ 90 + 8 < la z)) → c167_U184 z = (U 184) z) → (∀ z, ((la z < 10 ∨ 10 < la z) ∧ (la z < 310 ∨ 310 < la z) ∧ (la z < 320 ∨ 320 + 2 < la z) ∧ (la z < 90 ∨ 90 + 8 < la z)) → c167_V0 z = (V 0) z) → (∀ z, ((la z < 10 ∨ 10 < la z) ∧ (la z < 310 ∨ 310 < la z) ∧ (la z < 320 ∨ 320 + 2 < la z) ∧ (la z < 90 ∨ 90 + 8 < la z)) → c167_V1 z = (V 1) z) → (∀ z, ((la z < 10 ∨ 10 < la z) ∧ (la z < 310 ∨ 310 < la z) ∧ (la z < 320 ∨ 320 + 2 < la z) ∧ (la z < 90 ∨ 90 + 8 < la z)) → c167_V2 z = (V 2) z) → (∀ z, ((la z < 10 ∨ 10 < la z) ∧ (la z < 310 ∨ 310 < la z) ∧ (la z < 320 ∨ 320 + 2 < la z) ∧ (la z < 90 ∨ 90 + 8 < la z)) → c167_V6 z = (V 6) z) → (∀ z, ((la z < 10 ∨ 10 < la z) ∧ (la z < 310 ∨ 310 < la z) ∧ (la z < 320 ∨ 320 + 2 < la z) ∧ (la z < 90 ∨ 90 + 8 < la z)) → c167_V12 z = (V 12) z) → (SWT c167_P181 c167_P182 c167_P186 c167_P187 tn nw nx ah bh) → pw (k167 c167_G60 c167_G126 c167_G127 c167_G128 c167_G160 c167_G161 c167_G162 c167_G163 c167_G166 c167_G167 c167_G183 c167_G203 c167_P66 c167_P181 c167_P182 c167_P186 c167_P187 c167_U184 c167_V0 c167_V1 c167_V2 c167_V6 c167_V12) (RW_X11_write G P U V X O kd ln cnt this p0 p1 tn nw nx ah bh)) ?_ ?_
      · intro c167_G60 c167_G126 c167_G127 c167_G128 c167_G160 c167_G161 c167_G162 c167_G163 c167_G166 c167_G167 c167_G183 c167_G203 c167_P66 c167_P181 c167_P182 c167_P186 c167_P187 c167_U184 c167_V0 c167_V1 c167_V2 c167_V6 c167_V12 hf11 hf12 hf13 hf14 hf15 hf16 hf17 hf18 hf19 hf20 hf21 hf22 hf23 hl24 hf25 hl26 hf27 hl28 hf29 hl30 hf31 hl32 hf33 hf34 hf35 hf36 hf37 hf38 hsw39
        show pw _ _
        refine pw_nn (fun a168 hn_a168 => ?_)
        have lt_a168 := ((hB.1 235 fl_235) this a168 hn_a168).2.1
        have lb_a168 : la a168 = 320 := lk_235.mp ((hB.1 235 fl_235) this a168 hn_a168).2.2
        refine pw_nn (fun a172 hn_a172 => ?_)
        have lt_a172 := ((hB.1 220 fl_220) this a172 hn_a172).2.1
        have lb_a172 : la a172 = 10 := lk_220.mp ((hB.1 220 fl_220) this a172 hn_a172).2.2
        refine pw_nn (fun a175 hn_a175 => ?_)
        have lt_a175 := ((hB.1 140 fl_140) a172 a175 hn_a175).2.1
        have lb_a175 : la a175 = la a172 + 1 := lk_140.mp ((hB.1 140 fl_140) a172 a175 hn_a175).2.2
        refine pw_b10 (fun r179 c179_G124 c179_G125 c179_G126 c179_G128 c179_P120 c179_P121 c179_P122 c179_P123 c179_V0 hc179 => ?_)
        have hq179 := fr_X6_finish la (va_up (va_up (va_up (va_up (va_up (va_up (va_up (va_up (va_up (va_up (va_up (va_up (va_up (va_up G 60 c167_G60) 126 c167_G126) 127 c167_G127) 128 c167_G128) 141 c4_G141) 160 c167_G160) 161 c167_G161) 162 c167_G162) 163 c167_G163) 165 c45_G165) 166 c167_G166) 167 c167_G167) 183 c167_G183) 203 c167_G203) (va_up (va_up (va_up (va_up (va_up (va_up P 66 c167_P66) 164 c45_P164) 181 c167_P181) 182 c167_P182) 186 c167_P186) 187 c167_P187) (va_up U 184 c167_U184) (va_up (va_up (va_up (va_up (va_up V 0 c167_V0) 1 c167_V1) 2 c167_V2) 6 c167_V6) 12 c167_V12) X O kd ln cnt a168 a175 r4 (LB_set (LB_set (LB_set (LB_set (LB_set (LB_set hB hl24) ql45_164) hl26) hl28) hl30) hl32) lt_a168 _ hc179
        obtain ⟨q179_G124, q179_G125, q179_G126, q179_G128, q179_P120, q179_P121, q179_P122, q179_P123, q179_V0, ql179_120, ql179_121, ql179_122, ql179_123⟩ : (∀ z, (la z < la a168 ∨ la a168 + 2 < la z) → c179_G124 z = (G 124) z) ∧ (∀ z, (la z < la a168 ∨ la a168 + 2 < la z) → c179_G125 z = (G 125) z) ∧ (∀ z, (la z < la a168 ∨ la a168 + 2 < la z) → c179_G126 z = c167_G126 z) ∧ (∀ z, (la z < la a168 ∨ la a168 + 2 < la z) → c179_G128 z = c167_G128 z) ∧ (∀ z, (la z < la a168 ∨ la a168 + 2 < la z) → c179_P120 z = (P 120) z) ∧ (∀ z, (la z < la a168 ∨ la a168 + 2 < la z) → c179_P121 z = (P 121) z) ∧ (∀ z, (la z < la a168 ∨ la a168 + 2 < la z) → c179_P122 z = (P 122) z) ∧ (∀ z, (la z < la a168 ∨ la a168 + 2 < la z) → c179_P123 z = (P 123) z) ∧ (∀ z, (la z < la a168 ∨ la a168 + 2 < la z) → c179_V0 z = c167_V0 z) ∧ LC 120 la cnt c179_P120 ∧ LC 121 la cnt c179_P121 ∧ LC 122 la cnt c179_P122 ∧ LC 123 la cnt c179_P123 := hq179
        have tz179 : ∀ z, ((la z < 10 ∨ 10 < la z) ∧ (la z < 310 ∨ 310 < la z) ∧ (la z < 320 ∨ 320 + 2 < la z) ∧ (la z < 90 ∨ 90 + 8 < la z)) → ((la z < la a168 ∨ la a168 + 2 < la z)) := fun z hz => by omega
        have hf40 : ∀ z, ((la z < 10 ∨ 10 < la z) ∧ (la z < 310 ∨ 310 < la z) ∧ (la z < 320 ∨ 320 + 2 < la z) ∧ (la z < 90 ∨ 90 + 8 < la z)) → c179_G124 z = (G 124) z := fun z hz => (q179_G124 z (tz179 z hz)).trans (rfl)
        have hf41 : ∀ z, ((la z < 10 ∨ 10 < la z) ∧ (la z < 310 ∨ 310 < la z) ∧ (la z < 320 ∨ 320 + 2 < la z) ∧ (la z < 90 ∨ 90 + 8 < la z)) → c179_G125 z = (G 125) z := fun z hz => (q179_G125 z (tz179 z hz)).trans (rfl)
        have hf42 : ∀ z, ((la z < 10 ∨ 10 < la z) ∧ (la z < 310 ∨ 310 < la z) ∧ (la z < 320 ∨ 320 + 2 < la z) ∧ (la z < 90 ∨ 90 + 8 < la z)) → c179_G126 z = (G 126) z := fun z hz => (q179_G126 z (tz179 z hz)).trans (hf12 z hz)
        have hf43 : ∀ z, ((la z < 10 ∨ 10 < la z) ∧ (la z < 310 ∨ 310 < la z) ∧ (la z < 320 ∨ 320 + 2 < la z) ∧ (la z < 90 ∨ 90 + 8 < la z)) → c179_G128 z = (G 128) z := fun z hz => (q179_G128 z (tz179 z hz)).trans (hf14 z hz)
        have hf44 : ∀ z, ((la z < 10 ∨ 10 < la z) ∧ (la z < 310 ∨ 310 < la z) ∧ (la z < 320 ∨ 320 + 2 < la z) ∧ (la z < 90 ∨ 90 + 8 < la z)) → c179_P120 z = (P 120) z := fun z hz => (q179_P120 z (tz179 z hz)).trans (rfl)
        have hf45 : ∀ z, ((la z < 10 ∨ 10 < la z) ∧ (la z < 310 ∨ 310 < la z) ∧ (la z < 320 ∨ 320 + 2 < la z) ∧ (la z < 90 ∨ 90 + 8 < la z)) → c179_P121 z = (P 121) z := fun z hz => (q179_P121 z (tz179 z hz)).trans (rfl)
        have hf46 : ∀ z, ((la z < 10 ∨ 10 < la z) ∧ (la z < 310 ∨ 310 < la z) ∧ (la z < 320 ∨ 320 + 2 < la z) ∧ (la z < 90 ∨ 90 + 8 < la z)) → c179_P122 z = (P 122) z := fun z hz => (q179_P122 z (tz179 z hz)).trans (rfl)
        have hf47 : ∀ z, ((la z < 10 ∨ 10 < la z) ∧ (la z < 310 ∨ 310 < la z) ∧ (la z < 320 ∨ 320 + 2 < la z) ∧ (la z < 90 ∨ 90 + 8 < la z)) → c179_P123 z = (P 123) z := fun z hz => (q179_P123 z (tz179 z hz)).trans (rfl)
        have hf48 : ∀ z, ((la z < 10 ∨ 10 < la z) ∧ (la z < 310 ∨ 310 < la z) ∧ (la z < 320 ∨ 320 + 2 < la z) ∧ (la z < 90 ∨ 90 + 8 < la z)) → c179_V0 z = (V 0) z := fun z hz => (q179_V0 z (tz179 z hz)).trans (hf34 z hz)
        clear hc179
        exact pw_some (hsw39)
      intro k167 Jk167
      have lp58 : ∀ (n58 : Nat) (y58_4 : Int32) (d58_G60 : Nat → Int32) (d58_G126 : Nat → Int32) (d58_G127 : Nat → Int32) (d58_G128 : Nat → Int32) (d58_G160 : Nat → Int32) (d58_G161 : Nat → Int32) (d58_G162 : Nat → Int32) (d58_G163 : Nat → Int32) (d58_G166 : Nat → Int32) (d58_G167 : Nat → Int32) (d58_G183 : Nat → Int32) (d58_G203 : Nat → Int32) (d58_P66 : Nat → Option Nat) (d58_P181 : Nat → Option Nat) (d58_P182 : Nat → Option Nat) (d58_P186 : Nat → Option Nat) (d58_P187 : Nat → Option Nat) (d58_U184 : Nat → Int64) (d58_V0 : Nat → Nat → Int32) (d58_V1 : Nat → Nat → Int32) (d58_V2 : Nat → Nat → Int32) (d58_V6 : Nat → Nat → Int32) (d58_V12 : Nat → Nat → Int32), (∀ z, ((la z < 10 ∨ 10 < la z) ∧ (la z < 310 ∨ 310 < la z) ∧ (la z < 320 ∨ 320 + 2 < la z) ∧ (la z < 90 ∨ 90 + 8 < la z)) → d58_G60 z = (G 60) z) → (∀ z, ((la z < 10 ∨ 10 < la z) ∧ (la z < 310 ∨ 310 < la z) ∧ (la z < 320 ∨ 320 + 2 < la z) ∧ (la z < 90 ∨ 90 + 8 < la z)) → d58_G126 z = (G 126) z) → (∀ z, ((la z < 10 ∨ 10 < la z) ∧ (la z < 310 ∨ 310 < la z) ∧ (la z < 320 ∨ 320 + 2 < la z) ∧ (la z < 90 ∨ 90 + 8 < la z)) → d58_G127 z = (G 127) z) → (∀ z, ((la z < 10 ∨ 10 < la z) ∧ (la z < 310 ∨ 310 < la z) ∧ (la z < 320 ∨ 320 + 2 < la z) ∧ (la z < 90 ∨ 90 + 8 < la z)) → d58_G128 z = (G 128) z) → (∀ z, ((la z < 10 ∨ 10 < la z) ∧ (la z < 310 ∨ 310 < la z) ∧ (la z < 320 ∨ 320 + 2 < la z) ∧ (la z < 90 ∨ 90 + 8 < la z)) → d58_G160 z = (G 160) z) → (∀ z, ((la z < 10 ∨ 10 < la z) ∧ (la z < 310 ∨ 310 < la z) ∧ (la z < 320 ∨ 320 + 2 < la z) ∧ (la z < 90 ∨ 90 + 8 < la z)) → d58_G161 z = (G 161) z) → (∀ z, ((la z < 10 ∨ 10 < la z) ∧ (la z < 310 ∨ 310 < la z) ∧ (la z < 320 ∨ 320 + 2 < la z) ∧ (la z < 90 ∨ 90 + 8 < la z)) → d58_G162 z = (G 162) z) → (∀ z, ((la z < 10 ∨ 10 < la z) ∧ (la z < 310 ∨ 310 < la z) ∧ (la z < 320 ∨ 320 + 2 < la z) ∧ (la z < 90 ∨ 90 + 8 < la z)) → d58_G163 z = (G 163) z) → (∀ z, ((la z < 10 ∨ 10 < la z) ∧ (la z < 310 ∨ 310 < la z) ∧ (la z < 320 ∨ 320 + 2 < la z) ∧ (la z < 90 ∨ 90 + 8 < la z)) → d58_G166 z = (G 166) z) → (∀ z, ((la z < 10 ∨ 10 < la z) ∧ (la z < 310 ∨ 310 < la z) ∧ (la z < 320 ∨ 320 + 2 < la z) ∧ (la z < 90 ∨ 90 + 8 < la z)) → d58_G167 z = (G 167) z) → (∀ z, ((la z < 10 ∨ 10 < la z) ∧ (la z < 310 ∨ 310 < la z) ∧ (la z < 320 ∨ 320 + 2 < la z) ∧ (la z < 90 ∨ 90 + 8 < la z)) → d58_G183 z = (G 183) z) → (∀ z, ((la z < 10 ∨ 10 < la z) ∧ (la z < 310 ∨ 310 < la z) ∧ (la z < 320 ∨ 320 + 2 < la z) ∧ (la z < 90 ∨ 90 + 8 < la z)) → d58_G203 z = (G 203) z) → (∀ z, ((la z < 10 ∨ 10 < la z) ∧ (la z < 310 ∨ 310 < la z) ∧ (la z < 320 ∨ 320 + 2 < la z) ∧ (la z < 90 ∨ 90 + 8 < la z)) → d58_P66 z = (P 66) z) → LC 66 la cnt d58_P66 → (∀ z, ((la z < 10 ∨ 10 < la z) ∧ (la z < 310 ∨ 310 < la z) ∧ (la z < 320 ∨ 320 + 2 < la z) ∧ (la z < 90 ∨ 90 + 8 < la z)) → d58_P181 z = (P 181) z) → LC 181 la cnt d58_P181 → (∀ z, ((la z < 10 ∨ 10 < la z) ∧ (la z < 310 ∨ 310 < la z) ∧ (la z < 320 ∨ 320 + 2 < la z) ∧ (la z < 90 ∨ 90 + 8 < la z)) → d58_P182 z = (P 182) z) → LC 182 la cnt d58_P182 → (∀ z, ((la z < 10 ∨ 10 < la z) ∧ (la z < 310 ∨ 310 < la z) ∧ (la z < 320 ∨ 320 + 2 < la z) ∧ (la z < 90 ∨ 90 + 8 < la z)) → d58_P186 z = (P 186) z) → LC 186 la cnt d58_P186 → (∀ z, ((la z < 10 ∨ 10 < la z) ∧ (la z < 310 ∨ 310 < la z) ∧ (la z < 320 ∨ 320 + 2 < la z) ∧ (la z < 90 ∨ 90 + 8 < la z)) → d58_P187 z = (P 187) z) → LC 187 la cnt d58_P187 → (∀ z, ((la z < 10 ∨ 10 < la z) ∧ (la z < 310 ∨ 310 < la z) ∧ (la z < 320 ∨ 320 + 2 < la z) ∧ (la z < 90 ∨ 90 + 8 < la z)) → d58_U184 z = (U 184) z) → (∀ z, ((la z < 10 ∨ 10 < la z) ∧ (la z < 310 ∨ 310 < la z) ∧ (la z < 320 ∨ 320 + 2 < la z) ∧ (la z < 90 ∨ 90 + 8 < la z)) → d58_V0 z = (V 0) z) → (∀ z, ((la z < 10 ∨ 10 < la z) ∧ (la z < 310 ∨ 310 < la z) ∧ (la z < 320 ∨ 320 + 2 < la z) ∧ (la z < 90 ∨ 90 + 8 < la z)) → d58_V1 z = (V 1) z) → (∀ z, ((la z < 10 ∨ 10 < la z) ∧ (la z < 310 ∨ 310 < la z) ∧ (la z < 320 ∨ 320 + 2 < la z) ∧ (la z < 90 ∨ 90 + 8 < la z)) → d58_V2 z = (V 2) z) → (∀ z, ((la z < 10 ∨ 10 < la z) ∧ (la z < 310 ∨ 310 < la z) ∧ (la z < 320 ∨ 320 + 2 < la z) ∧ (la z < 90 ∨ 90 + 8 < la z)) → d58_V6 z = (V 6) z) → (∀ z, ((la z < 10 ∨ 10 < la z) ∧ (la z < 310 ∨ 310 < la z) ∧ (la z < 320 ∨ 320 + 2 < la z) ∧ (la z < 90 ∨ 90 + 8 < la z)) → d58_V12 z = (V 12) z) → (SWT d58_P181 d58_P182 d58_P186 d58_P187 tn nw nx ah bh) → pw (L_X11_write_58 G P U V X O kd ln cnt this p0 p1 r4 c4_G141 c45_G165 c45_P164 k167 n58 y58_4 d58_G60 d58_G126 d58_G127 d58_G128 d58_G160 d58_G161 d58_G162 d58_G163 d58_G166 d58_G167 d58_G183 d58_G203 d58_P66 d58_P181 d58_P182 d58_P186 d58_P187 d58_U184 d58_V0 d58_V1 d58_V2 d58_V6 d58_V12) (RW_X11_write G P U V X O kd ln cnt this p0 p1 tn nw nx ah bh) := by
        intro n58
        induction n58 with
        | zero => intros; exact pw_none
        | succ n58 ih58 =>
          intro y58_4 d58_G60 d58_G126 d58_G127 d58_G128 d58_G160 d58_G161 d58_G162 d58_G163 d58_G166 d58_G167 d58_G183 d58_G203 d58_P66 d58_P181 d58_P182 d58_P186 d58_P187 d58_U184 d58_V0 d58_V1 d58_V2 d58_V6 d58_V12 hf49 hf50 hf51 hf52 hf53 hf54 hf55 hf56 hf57 hf58 hf59 hf60 hf61 hl62 hf63 hl64 hf65 hl66 hf67 hl68 hf69 hl70 hf71 hf72 hf73 hf74 hf75 hf76 hsw77
          show pw (B_X11_write_58 G P U V X O kd ln cnt this p0 p1 r4 c4_G141 c45_G165 c45_P164 k167 (L_X11_write_58 G P U V X O kd ln cnt this p0 p1 r4 c4_G141 c45_G165 c45_P164 k167 n58) y58_4 d58_G60 d58_G126 d58_G127 d58_G128 d58_G160 d58_G161 d58_G162 d58_G163 d58_G166 d58_G167 d58_G183 d58_G203 d58_P66 d58_P181 d58_P182 d58_P186 d58_P187 d58_U184 d58_V0 d58_V1 d58_V2 d58_V6 d58_V12) _
          unfold B_X11_write_58
          refine pw_ite (fun _ => ?_) (fun _ => ?_)
          · skip
            exact Jk167 d58_G60 d58_G126 d58_G127 d58_G128 d58_G160 d58_G161 d58_G162 d58_G163 d58_G166 d58_G167 d58_G183 d58_G203 d58_P66 d58_P181 d58_P182 d58_P186 d58_P187 d58_U184 d58_V0 d58_V1 d58_V2 d58_V6 d58_V12 hf49 hf50 hf51 hf52 hf53 hf54 hf55 hf56 hf57 hf58 hf59 hf60 hf61 hl62 hf63 hl64 hf65 hl66 hf67 hl68 hf69 hl70 hf71 hf72 hf73 hf74 hf75 hf76 hsw77
          · skip
            refine pw_nn (fun a65 hn_a65 => ?_)
            have lt_a65 := ((hB.1 234 fl_234) this a65 hn_a65).2.1
            have lb_a65 : la a65 = 310 := lk_234.mp ((hB.1 234 fl_234) this a65 hn_a65).2.2
            refine pw_b7 (fun r68 c68_G160 c68_G161 c68_G162 c68_G163 c68_G166 c68_G167 hc68 => ?_)
            have hq68 := fr_X8_next la (va_up (va_up (va_up (va_up (va_up (va_up (va_up (va_up (va_up (va_up (va_up (va_up (va_up (va_up G 60 d58_G60) 126 d58_G126) 127 d58_G127) 128 d58_G128) 141 c4_G141) 160 d58_G160) 161 d58_G161) 162 d58_G162) 163 d58_G163) 165 c45_G165) 166 d58_G166) 167 d58_G167) 183 d58_G183) 203 d58_G203) (va_up (va_up (va_up (va_up (va_up (va_up P 66 d58_P66) 164 c45_P164) 181 d58_P181) 182 d58_P182) 186 d58_P186) 187 d58_P187) (va_up U 184 d58_U184) (va_up (va_up (va_up (va_up (va_up V 0 d58_V0) 1 d58_V1) 2 d58_V2) 6 d58_V6) 12 d58_V12) X O kd ln cnt a65 (LB_set (LB_set (LB_set (LB_set (LB_set (LB_set hB hl62) ql45_164) hl64) hl66) hl68) hl70) _ hc68
            obtain ⟨q68_G160, q68_G161, q68_G162, q68_G163, q68_G166, q68_G167⟩ : (∀ z, (la z < la a65 ∨ la a65 < la z) → c68_G160 z = d58_G160 z) ∧ (∀ z, (la z < la a65 ∨ la a65 < la z) → c68_G161 z = d58_G161 z) ∧ (∀ z, (la z < la a65 ∨ la a65 < la z) → c68_G162 z = d58_G162 z) ∧ (∀ z, (la z < la a65 ∨ la a65 < la z) → c68_G163 z = d58_G163 z) ∧ (∀ z, (la z < la a65 ∨ la a65 < la z) → c68_G166 z = d58_G166 z) ∧ (∀ z, (la z < la a65 ∨ la a65 < la z) → c68_G167 z = d58_G167 z) := hq68
            have tz68 : ∀ z, ((la z < 10 ∨ 10 < la z) ∧ (la z < 310 ∨ 310 < la z) ∧ (la z < 320 ∨ 320 + 2 < la z) ∧ (la z < 90 ∨ 90 + 8 < la z)) → ((la z < la a65 ∨ la a65 < la z)) := fun z hz => by omega
            have hf78 : ∀ z, ((la z < 10 ∨ 10 < la z) ∧ (la z < 310 ∨ 310 < la z) ∧ (la z < 320 ∨ 320 + 2 < la z) ∧ (la z < 90 ∨ 90 + 8 < la z)) → c68_G160 z = (G 160) z := fun z hz => (q68_G160 z (tz68 z hz)).trans (hf53 z hz)
            have hf79 : ∀ z, ((la z < 10 ∨ 10 < la z) ∧ (la z < 310 ∨ 310 < la z) ∧ (la z < 320 ∨ 320 + 2 < la z) ∧ (la z < 90 ∨ 90 + 8 < la z)) → c68_G161 z = (G 161) z := fun z hz => (q68_G161 z (tz68 z hz)).trans (hf54 z hz)
            have hf80 : ∀ z, ((la z < 10 ∨ 10 < la z) ∧ (la z < 310 ∨ 310 < la z) ∧ (la z < 320 ∨ 320 + 2 < la z) ∧ (la z < 90 ∨ 90 + 8 < la z)) → c68_G162 z = (G 162) z := fun z hz => (q68_G162 z (tz68 z hz)).trans (hf55 z hz)
            have hf81 : ∀ z, ((la z < 10 ∨ 10 < la z) ∧ (la z < 310 ∨ 310 < la z) ∧ (la z < 320 ∨ 320 + 2 < la z) ∧ (la z < 90 ∨ 90 + 8 < la z)) → c68_G163 z = (G 163) z := fun z hz => (q68_G163 z (tz68 z hz)).trans (hf56 z hz)
            have hf82 : ∀ z, ((la z < 10 ∨ 10 < la z) ∧ (la z < 310 ∨ 310 < la z) ∧ (la z < 320 ∨ 320 + 2 < la z) ∧ (la z < 90 ∨ 90 + 8 < la z)) → c68_G166 z = (G 166) z := fun z hz => (q68_G166 z (tz68 z hz)).trans (hf57 z hz)
            have hf83 : ∀ z, ((la z < 10 ∨ 10 < la z) ∧ (la z < 310 ∨ 310 < la z) ∧ (la z < 320 ∨ 320 + 2 < la z) ∧ (la z < 90 ∨ 90 + 8 < la z)) → c68_G167 z = (G 167) z := fun z hz => (q68_G167 z (tz68 z hz)).trans (hf58 z hz)
            clear hc68
            refine pw_ite (fun _ => ?_) (fun _ => ?_)
            · skip
              exact Jk167 d58_G60 d58_G126 d58_G127 d58_G128 c68_G160 c68_G161 c68_G162 c68_G163 c68_G166 c68_G167 d58_G183 d58_G203 d58_P66 d58_P181 d58_P182 d58_P186 d58_P187 d58_U184 d58_V0 d58_V1 d58_V2 d58_V6 d58_V12 hf49 hf50 hf51 hf52 hf78 hf79 hf80 hf81 hf82 hf83 hf59 hf60 hf61 hl62 hf63 hl64 hf65 hl66 hf67 hl68 hf69 hl70 hf71 hf72 hf73 hf74 hf75 hf76 hsw77
            · skip
              refine pw_nn (fun a75 hn_a75 => ?_)
              have lt_a75 := ((hB.1 234 fl_234) this a75 hn_a75).2.1
              have lb_a75 : la a75 = 310 := lk_234.mp ((hB.1 234 fl_234) this a75 hn_a75).2.2
              refine pw_jn (fun j161 => ∀ (c161_G60 : Nat → Int32) (c161_G126 : Nat → Int32) (c161_G127 : Nat → Int32) (c161_G128 : Nat → Int32) (c161_G183 : Nat → Int32) (c161_G203 : Nat → Int32) (c161_P66 : Nat → Option Nat) (c161_P181 : Nat → Option Nat) (c161_P182 : Nat → Option Nat) (c161_P186 : Nat → Option Nat) (c161_P187 : Nat → Option Nat) (c161_U184 : Nat → Int64) (c161_V0 : Nat → Nat → Int32) (c161_V1 : Nat → Nat → Int32) (c161_V2 : Nat → Nat → Int32) (c161_V6 : Nat → Nat → Int32) (c161_V12 : Nat → Nat → Int32), (∀ z, ((la z < 10 ∨ 10 < la z) ∧ (la z < 310 ∨ 310 < la z) ∧ (la z < 320 ∨ 320 + 2 < la z) ∧ (la z < 90 ∨ 90 + 8 < la z)) → c161_G60 z = (G 60) z) → (∀ z, ((la z < 10 ∨ 10 < la z) ∧ (la z < 310 ∨ 310 < la z) ∧ (la z < 320 ∨ 320 + 2 < la z) ∧ (la z < 90 ∨ 90 + 8 < la z)) → c161_G126 z = (G 126) z) → (∀ z, ((la z < 10 ∨ 10 < la z) ∧ (la z < 310 ∨ 310 < la z) ∧ (la z < 320 ∨ 320 + 2 < la z) ∧ (la z < 90 ∨ 90 + 8 < la z)) → c161_G127 z = (G 127) z) → (∀ z, ((la z < 10 ∨ 10 < la z) ∧ (la z < 310 ∨ 310 < la z) ∧ (la z < 320 ∨ 320 + 2 < la z) ∧ (la z < 90 ∨ 90 + 8 < la z)) → c161_G128 z = (G 128) z) → (∀ z, ((la z < 10 ∨ 10 < la z) ∧ (la z < 310 ∨ 310 < la z) ∧ (la z < 320 ∨ 320 + 2 < la z) ∧ (la z < 90 ∨ 90 + 8 < la z)) → c161_G183 z = (G 183) z) → (∀ z, ((la z < 10 ∨ 10 < la z) ∧ (la z < 310 ∨ 310 < la z) ∧ (la z < 320 ∨ 320 + 2 < la z) ∧ (la z < 90 ∨ 90 + 8 < la z)) → c161_G203 z = (G 203) z) → (∀ z, ((la z < 10 ∨ 10 < la z) ∧ (la z < 310 ∨ 310 < la z) ∧ (la z < 320 ∨ 320 + 2 < la z) ∧ (la z < 90 ∨ 90 + 8 < la z)) → c161_P66 z = (P 66) z) → LC 66 la cnt c161_P66 → (∀ z, ((la z < 10 ∨ 10 < la z) ∧ (la z < 310 ∨ 310 < la z) ∧ (la z < 320 ∨ 320 + 2 < la z) ∧ (la z < 90 ∨ 90 + 8 < la z)) → c161_P181 z = (P 181) z) → LC 181 la cnt c161_P181 → (∀ z, ((la z < 10 ∨ 10 < la z) ∧ (la z < 310 ∨ 310 < la z) ∧ (la z < 320 ∨ 320 + 2 < la z) ∧ (la z < 90 ∨ 90 + 8 < la z)) → c161_P182 z = (P 182) z) → LC 182 la cnt c161_P182 → (∀ z, ((la z < 10 ∨ 10 < la z) ∧ (la z < 310 ∨ 310 < la z) ∧ (la z < 320 ∨ 320 + 2 < la z) ∧ (la z < 90 ∨ 90 + 8 < la z)) → c161_P186 z = (P 186) z) → LC 186 la cnt c161_P186 → (∀ z, ((la z < 10 ∨ 10 < la z) ∧ (la z < 310 ∨ 310 < la z) ∧ (la z < 320 ∨ 320 + 2 < la z) ∧ (la z < 90 ∨ 90 + 8 < la z)) → c161_P187 z = (P 187) z) → LC 187 la cnt c161_P187 → (∀ z, ((la z < 10 ∨ 10 < la z) ∧ (la z < 310 ∨ 310 < la z) ∧ (la z < 320 ∨ 320 + 2 < la z) ∧ (la z < 90 ∨ 90 + 8 < la z)) → c161_U184 z = (U 184) z) → (∀ z, ((la z < 10 ∨ 10 < la z) ∧ (la z < 310 ∨ 310 < la z) ∧ (la z < 320 ∨ 320 + 2 < la z) ∧ (la z < 90 ∨ 90 + 8 < la z)) → c161_V0 z = (V 0) z) → (∀ z, ((la z < 10 ∨ 10 < la z) ∧ (la z < 310 ∨ 310 < la z) ∧ (la z < 320 ∨ 320 + 2 < la z) ∧ (la z < 90 ∨ 90 + 8 < la z)) → c161_V1 z = (V 1) z) → (∀ z, ((la z < 10 ∨ 10 < la z) ∧ (la z < 310 ∨ 310 < la z) ∧ (la z < 320 ∨ 320 + 2 < la z) ∧ (la z < 90 ∨ 90 + 8 < la z)) → c161_V2 z = (V 2) z) → (∀ z, ((la z < 10 ∨ 10 < la z) ∧ (la z < 310 ∨ 310 < la z) ∧ (la z < 320 ∨ 320 + 2 < la z) ∧ (la z < 90 ∨ 90 + 8 < la z)) → c161_V6 z = (V 6) z) → (∀ z, ((la z < 10 ∨ 10 < la z) ∧ (la z < 310 ∨ 310 < la z) ∧ (la z < 320 ∨ 320 + 2 < la z) ∧ (la z < 90 ∨ 90 + 8 < la z)) → c161_V12 z = (V 12) z) → (SWT c161_P181 c161_P182 c161_P186 c161_P187 tn nw nx ah bh) → pw (j161 c161_G60 c161_G126 c161_G127 c161_G128 c161_G183 c161_G203 c161_P66 c161_P181 c161_P182 c161_P186 c161_P187 c161_U184 c161_V0 c161_V1 c161_V2 c161_V6 c161_V12) (RW_X11_write G P U V X O kd ln cnt this p0 p1 tn nw nx ah bh)) ?_ ?_
              · intro c161_G60 c161_G126 c161_G127 c161_G128 c161_G183 c161_G203 c161_P66 c161_P181 c161_P182 c161_P186 c161_P187 c161_U184 c161_V0 c161_V1 c161_V2 c161_V6 c161_V12 hf84 hf85 hf86 hf87 hf88 hf89 hf90 hl91 hf92 hl93 hf94 hl95 hf96 hl97 hf98 hl99 hf100 hf101 hf102 hf103 hf104 hf105 hsw106
                show pw _ _
                exact ih58 (y58_4 + 1) c161_G60 c161_G126 c161_G127 c161_G128 c68_G160 c68_G161 c68_G162 c68_G163 c68_G166 c68_G167 c161_G183 c161_G203 c161_P66 c161_P181 c161_P182 c161_P186 c161_P187 c161_U184 c161_V0 c161_V1 c161_V2 c161_V6 c161_V12 hf84 hf85 hf86 hf87 hf78 hf79 hf80 hf81 hf82 hf83 hf88 hf89 hf90 hl91 hf92 hl93 hf94 hl95 hf96 hl97 hf98 hl99 hf100 hf101 hf102 hf103 hf104 hf105 hsw106
              intro j161 Jj161
              refine pw_ite (fun _ => ?_) (fun _ => ?_)
              · skip
                refine pw_nn (fun a95 hn_a95 => ?_)
                have lt_a95 := ((hB.1 234 fl_234) this a95 hn_a95).2.1
                have lb_a95 : la a95 = 310 := lk_234.mp ((hB.1 234 fl_234) this a95 hn_a95).2.2
                refine pw_ite (fun _ => ?_) (fun _ => ?_)
                · skip
                  refine pw_nn (fun a117 hn_a117 => ?_)
                  have lt_a117 := ((hB.1 235 fl_235) this a117 hn_a117).2.1
                  have lb_a117 : la a117 = 320 := lk_235.mp ((hB.1 235 fl_235) this a117 hn_a117).2.2
                  refine pw_nn (fun a121 hn_a121 => ?_)
                  have lt_a121 := ((hB.1 234 fl_234) this a121 hn_a121).2.1
                  have lb_a121 : la a121 = 310 := lk_234.mp ((hB.1 234 fl_234) this a121 hn_a121).2.2
                  refine pw_nn (fun a125 hn_a125 => ?_)
                  have lt_a125 := ((hB.1 226 fl_226) this a125 hn_a125).2.1
                  have lb_a125 : la a125 = 90 := lk_226.mp ((hB.1 226 fl_226) this a125 hn_a125).2.2
                  refine pw_nn (fun a129 hn_a129 => ?_)
                  have lt_a129 := ((hB.1 221 fl_221) this a129 hn_a129).2.1
                  have lb_a129 : la a129 = la this + 3 := lk_221.mp ((hB.1 221 fl_221) this a129 hn_a129).2.2
                  refine pw_nn (fun a135 hn_a135 => ?_)
                  have lt_a135 := ((hB.1 220 fl_220) this a135 hn_a135).2.1
                  have lb_a135 : la a135 = 10 := lk_220.mp ((hB.1 220 fl_220) this a135 hn_a135).2.2
                  refine pw_nn (fun a138 hn_a138 => ?_)
                  have lt_a138 := ((hB.1 140 fl_140) a135 a138 hn_a138).2.1
                  have lb_a138 : la a138 = la a135 + 1 := lk_140.mp ((hB.1 140 fl_140) a135 a138 hn_a138).2.2
                  refine pw_nn (fun a142 hn_a142 => ?_)
                  have lt_a142 := ((hB.1 234 fl_234) this a142 hn_a142).2.1
                  have lb_a142 : la a142 = 310 := lk_234.mp ((hB.1 234 fl_234) this a142 hn_a142).2.2
                  refine pw_nn (fun a149 hn_a149 => ?_)
                  have lt_a149 := ((hB.1 234 fl_234) this a149 hn_a149).2.1
                  have lb_a149 : la a149 = 310 := lk_234.mp ((hB.1 234 fl_234) this a149 hn_a149).2.2
                  refine pw_b14 (fun r155 c155_G60 c155_G183 c155_G203 c155_P66 c155_P181 c155_P182 c155_P186 c155_P187 c155_U184 c155_V0 c155_V1 c155_V2 c155_V12 hc155 => ?_)
                  have hq155 := fr_X9_through la (va_up (va_up (va_up (va_up (va_up (va_up (va_up (va_up (va_up (va_up (va_up (va_up (va_up (va_up (va_up (va_up (va_up (va_up (va_up (va_up G 60 d58_G60) 126 d58_G126) 127 d58_G127) 128 d58_G128) 141 c4_G141) 160 d58_G160) 161 d58_G161) 162 d58_G162) 163 d58_G163) 165 c45_G165) 166 d58_G166) 167 d58_G167) 183 d58_G183) 203 d58_G203) 160 c68_G160) 161 c68_G161) 162 c68_G162) 163 c68_G163) 166 c68_G166) 167 c68_G167) (va_up (va_up (va_up (va_up (va_up (va_up P 66 d58_P66) 164 c45_P164) 181 d58_P181) 182 d58_P182) 186 d58_P186) 187 d58_P187) (va_up U 184 d58_U184) (va_up (va_up (va_up (va_up (va_up V 0 d58_V0) 1 d58_V1) 2 d58_V2) 6 d58_V6) 12 d58_V12) X O kd ln cnt a125 a129 p0 p1 a138 (c68_G160 a142) (c68_G161 a149) (LB_set (LB_set (LB_set (LB_set (LB_set (LB_set hB hl62) ql45_164) hl64) hl66) hl68) hl70) lt_a125 _ hc155
                  have hsw120 : SWT c155_P181 c155_P182 c155_P186 c155_P187 tn nw nx ah bh := sw_X9_through la (va_up (va_up (va_up (va_up (va_up (va_up (va_up (va_up (va_up (va_up (va_up (va_up (va_up (va_up (va_up (va_up (va_up (va_up (va_up (va_up G 60 d58_G60) 126 d58_G126) 127 d58_G127) 128 d58_G128) 141 c4_G141) 160 d58_G160) 161 d58_G161) 162 d58_G162) 163 d58_G163) 165 c45_G165) 166 d58_G166) 167 d58_G167) 183 d58_G183) 203 d58_G203) 160 c68_G160) 161 c68_G161) 162 c68_G162) 163 c68_G163) 166 c68_G166) 167 c68_G167) (va_up (va_up (va_up (va_up (va_up (va_up P 66 d58_P66) 164 c45_P164) 181 d58_P181) 182 d58_P182) 186 d58_P186) 187 d58_P187) (va_up U 184 d58_U184) (va_up (va_up (va_up (va_up (va_up V 0 d58_V0) 1 d58_V1) 2 d58_V2) 6 d58_V6) 12 d58_V12) X O kd ln cnt a125 a129 p0 p1 a138 (c68_G160 a142) (c68_G161 a149) (LB_set (LB_set (LB_set (LB_set (LB_set (LB_set hB hl62) ql45_164) hl64) hl66) hl68) hl70) lt_a125 tn nw nx ah bh (show tn < cnt from by omega) hsw77 _ hc155
                  obtain ⟨q155_G60, q155_G183, q155_G203, q155_P66, q155_P181, q155_P182, q155_P186, q155_P187, q155_U184, q155_V0, q155_V1, q155_V2, q155_V12, ql155_66, ql155_181, ql155_182, ql155_186, ql155_187⟩ : (∀ z, (la z < la a125 ∨ la a125 + 8 < la z) → c155_G60 z = d58_G60 z) ∧ (∀ z, (la z < la a125 ∨ la a125 + 8 < la z) → c155_G183 z = d58_G183 z) ∧ (∀ z, (la z < la a125 ∨ la a125 + 8 < la z) → c155_G203 z = d58_G203 z) ∧ (∀ z, (la z < la a125 ∨ la a125 + 8 < la z) → c155_P66 z = d58_P66 z) ∧ (∀ z, (la z < la a125 ∨ la a125 + 8 < la z) → c155_P181 z = d58_P181 z) ∧ (∀ z, (la z < la a125 ∨ la a125 + 8 < la z) → c155_P182 z = d58_P182 z) ∧ (∀ z, (la z < la a125 ∨ la a125 + 8 < la z) → c155_P186 z = d58_P186 z) ∧ (∀ z, (la z < la a125 ∨ la a125 + 8 < la z) → c155_P187 z = d58_P187 z) ∧ (∀ z, (la z < la a125 ∨ la a125 + 8 < la z) → c155_U184 z = d58_U184 z) ∧ (∀ z, (la z < la a125 ∨ la a125 + 8 < la z) → c155_V0 z = d58_V0 z) ∧ (∀ z, (la z < la a125 ∨ la a125 + 8 < la z) → c155_V1 z = d58_V1 z) ∧ (∀ z, (la z < la a125 ∨ la a125 + 8 < la z) → c155_V2 z = d58_V2 z) ∧ (∀ z, (la z < la a125 ∨ la a125 + 8 < la z) → c155_V12 z = d58_V12 z) ∧ LC 66 la cnt c155_P66 ∧ LC 181 la cnt c155_P181 ∧ LC 182 la cnt c155_P182 ∧ LC 186 la cnt c155_P186 ∧ LC 187 la cnt c155_P187 := hq155
                  have tz155 : ∀ z, ((la z < 10 ∨ 10 < la z) ∧ (la z < 310 ∨ 310 < la z) ∧ (la z < 320 ∨ 320 + 2 < la z) ∧ (la z < 90 ∨ 90 + 8 < la z)) → ((la z < la a125 ∨ la a125 + 8 < la z)) := fun z hz => by omega
                  have hf107 : ∀ z, ((la z < 10 ∨ 10 < la z) ∧ (la z < 310 ∨ 310 < la z) ∧ (la z < 320 ∨ 320 + 2 < la z) ∧ (la z < 90 ∨ 90 + 8 < la z)) → c155_G60 z = (G 60) z := fun z hz => (q155_G60 z (tz155 z hz)).trans (hf49 z hz)
                  have hf108 : ∀ z, ((la z < 10 ∨ 10 < la z) ∧ (la z < 310 ∨ 310 < la z) ∧ (la z < 320 ∨ 320 + 2 < la z) ∧ (la z < 90 ∨ 90 + 8 < la z)) → c155_G183 z = (G 183) z := fun z hz => (q155_G183 z (tz155 z hz)).trans (hf59 z hz)
                  have hf109 : ∀ z, ((la z < 10 ∨ 10 < la z) ∧ (la z < 310 ∨ 310 < la z) ∧ (la z < 320 ∨ 320 + 2 < la z) ∧ (la z < 90 ∨ 90 + 8 < la z)) → c155_G203 z = (G 203) z := fun z hz => (q155_G203 z (tz155 z hz)).trans (hf60 z hz)
                  have hf110 : ∀ z, ((la z < 10 ∨ 10 < la z) ∧ (la z < 310 ∨ 310 < la z) ∧ (la z < 320 ∨ 320 + 2 < la z) ∧ (la z < 90 ∨ 90 + 8 < la z)) → c155_P66 z = (P 66) z := fun z hz => (q155_P66 z (tz155 z hz)).trans (hf61 z hz)
                  have hf111 : ∀ z, ((la z < 10 ∨ 10 < la z) ∧ (la z < 310 ∨ 310 < la z) ∧ (la z < 320 ∨ 320 + 2 < la z) ∧ (la z < 90 ∨ 90 + 8 < la z)) → c155_P181 z = (P 181) z := fun z hz => (q155_P181 z (tz155 z hz)).trans (hf63 z hz)
                  have hf112 : ∀ z, ((la z < 10 ∨ 10 < la z) ∧ (la z < 310 ∨ 310 < la z) ∧ (la z < 320 ∨ 320 + 2 < la z) ∧ (la z < 90 ∨ 90 + 8 < la z)) → c155_P182 z = (P 182) z := fun z hz => (q155_P182 z (tz155 z hz)).trans (hf65 z hz)
                  have hf113 : ∀ z, ((la z < 10 ∨ 10 < la z) ∧ (la z < 310 ∨ 310 < la z) ∧ (la z < 320 ∨ 320 + 2 < la z) ∧ (la z < 90 ∨ 90 + 8 < la z)) → c155_P186 z = (P 186) z := fun z hz => (q155_P186 z (tz155 z hz)).trans (hf67 z hz)
                  have hf114 : ∀ z, ((la z < 10 ∨ 10 < la z) ∧ (la z < 310 ∨ 310 < la z) ∧ (la z < 320 ∨ 320 + 2 < la z) ∧ (la z < 90 ∨ 90 + 8 < la z)) → c155_P187 z = (P 187) z := fun z hz => (q155_P187 z (tz155 z hz)).trans (hf69 z hz)
                  have hf115 : ∀ z, ((la z < 10 ∨ 10 < la z) ∧ (la z < 310 ∨ 310 < la z) ∧ (la z < 320 ∨ 320 + 2 < la z) ∧ (la z < 90 ∨ 90 + 8 < la z)) → c155_U184 z = (U 184) z := fun z hz => (q155_U184 z (tz155 z hz)).trans (hf71 z hz)
                  have hf116 : ∀ z, ((la z < 10 ∨ 10 < la z) ∧ (la z < 310 ∨ 310 < la z) ∧ (la z < 320 ∨ 320 + 2 < la z) ∧ (la z < 90 ∨ 90 + 8 < la z)) → c155_V0 z = (V 0) z := fun z hz => (q155_V0 z (tz155 z hz)).trans (hf72 z hz)
                  have hf117 : ∀ z, ((la z < 10 ∨ 10 < la z) ∧ (la z < 310 ∨ 310 < la z) ∧ (la z < 320 ∨ 320 + 2 < la z) ∧ (la z < 90 ∨ 90 + 8 < la z)) → c155_V1 z = (V 1) z := fun z hz => (q155_V1 z (tz155 z hz)).trans (hf73 z hz)
                  have hf118 : ∀ z, ((la z < 10 ∨ 10 < la z) ∧ (la z < 310 ∨ 310 < la z) ∧ (la z < 320 ∨ 320 + 2 < la z) ∧ (la z < 90 ∨ 90 + 8 < la z)) → c155_V2 z = (V 2) z := fun z hz => (q155_V2 z (tz155 z hz)).trans (hf74 z hz)
                  have hf119 : ∀ z, ((la z < 10 ∨ 10 < la z) ∧ (la z < 310 ∨ 310 < la z) ∧ (la z < 320 ∨ 320 + 2 < la z) ∧ (la z < 90 ∨ 90 + 8 < la z)) → c155_V12 z = (V 12) z := fun z hz => (q155_V12 z (tz155 z hz)).trans (hf76 z hz)
                  clear hc155
                  refine pw_b5 (fun c158_G126 c158_G127 c158_G128 c158_V0 c158_V6 hc158 => ?_)
                  have hq158 := fr_X6_put la (va_up (va_up (va_up (va_up (va_up (va_up (va_up (va_up (va_up (va_up (va_up (va_up (va_up (va_up (va_up (va_up (va_up (va_up (va_up (va_up (va_up (va_up (va_up G 60 d58_G60) 126 d58_G126) 127 d58_G127) 128 d58_G128) 141 c4_G141) 160 d58_G160) 161 d58_G161) 162 d58_G162) 163 d58_G163) 165 c45_G165) 166 d58_G166) 167 d58_G167) 183 d58_G183) 203 d58_G203) 160 c68_G160) 161 c68_G161) 162 c68_G162) 163 c68_G163) 166 c68_G166) 167 c68_G167) 60 c155_G60) 183 c155_G183) 203 c155_G203) (va_up (va_up (va_up (va_up (va_up (va_up (va_up (va_up (va_up (va_up (va_up P 66 d58_P66) 164 c45_P164) 181 d58_P181) 182 d58_P182) 186 d58_P186) 187 d58_P187) 66 c155_P66) 181 c155_P181) 182 c155_P182) 186 c155_P186) 187 c155_P187) (va_up (va_up U 184 d58_U184) 184 c155_U184) (va_up (va_up (va_up (va_up (va_up (va_up (va_up (va_up (va_up V 0 d58_V0) 1 d58_V1) 2 d58_V2) 6 d58_V6) 12 d58_V12) 0 c155_V0) 1 c155_V1) 2 c155_V2) 12 c155_V12) X O kd ln cnt a117 a121 r155 (LB_set (LB_set (LB_set (LB_set (LB_set (LB_set (LB_set (LB_set (LB_set (LB_set (LB_set hB hl62) ql45_164) hl64) hl66) hl68) hl70) ql155_66) ql155_181) ql155_182) ql155_186) ql155_187) _ hc158
                  obtain ⟨q158_G126, q158_G127, q158_G128, q158_V0, q158_V6⟩ : (∀ z, (la z < la a117 ∨ la a117 + 2 < la z) → c158_G126 z = d58_G126 z) ∧ (∀ z, (la z < la a117 ∨ la a117 + 2 < la z) → c158_G127 z = d58_G127 z) ∧ (∀ z, (la z < la a117 ∨ la a117 + 2 < la z) → c158_G128 z = d58_G128 z) ∧ (∀ z, (la z < la a117 ∨ la a117 + 2 < la z) → c158_V0 z = c155_V0 z) ∧ (∀ z, (la z < la a117 ∨ la a117 + 2 < la z) → c158_V6 z = d58_V6 z) := hq158
                  have tz158 : ∀ z, ((la z < 10 ∨ 10 < la z) ∧ (la z < 310 ∨ 310 < la z) ∧ (la z < 320 ∨ 320 + 2 < la z) ∧ (la z < 90 ∨ 90 + 8 < la z)) → ((la z < la a117 ∨ la a117 + 2 < la z)) := fun z hz => by omega
                  have hf121 : ∀ z, ((la z < 10 ∨ 10 < la z) ∧ (la z < 310 ∨ 310 < la z) ∧ (la z < 320 ∨ 320 + 2 < la z) ∧ (la z < 90 ∨ 90 + 8 < la z)) → c158_G126 z = (G 126) z := fun z hz => (q158_G126 z (tz158 z hz)).trans (hf50 z hz)
                  have hf122 : ∀ z, ((la z < 10 ∨ 10 < la z) ∧ (la z < 310 ∨ 310 < la z) ∧ (la z < 320 ∨ 320 + 2 < la z) ∧ (la z < 90 ∨ 90 + 8 < la z)) → c158_G127 z = (G 127) z := fun z hz => (q158_G127 z (tz158 z hz)).trans (hf51 z hz)
                  have hf123 : ∀ z, ((la z < 10 ∨ 10 < la z) ∧ (la z < 310 ∨ 310 < la z) ∧ (la z < 320 ∨ 320 + 2 < la z) ∧ (la z < 90 ∨ 90 + 8 < la z)) → c158_G128 z = (G 128) z := fun z hz => (q158_G128 z (tz158 z hz)).trans (hf52 z hz)
                  have hf124 : ∀ z, ((la z < 10 ∨ 10 < la z) ∧ (la z < 310 ∨ 310 < la z) ∧ (la z < 320 ∨ 320 + 2 < la z) ∧ (la z < 90 ∨ 90 + 8 < la z)) → c158_V0 z = (V 0) z := fun z hz => (q158_V0 z (tz158 z hz)).trans (hf116 z hz)
                  have hf125 : ∀ z, ((la z < 10 ∨ 10 < la z) ∧ (la z < 310 ∨ 310 < la z) ∧ (la z < 320 ∨ 320 + 2 < la z) ∧ (la z < 90 ∨ 90 + 8 < la z)) → c158_V6 z = (V 6) z := fun z hz => (q158_V6 z (tz158 z hz)).trans (hf75 z hz)
                  clear hc158
                  exact Jj161 c155_G60 c158_G126 c158_G127 c158_G128 c155_G183 c155_G203 c155_P66 c155_P181 c155_P182 c155_P186 c155_P187 c155_U184 c158_V0 c155_V1 c155_V2 c158_V6 c155_V12 hf107 hf121 hf122 hf123 hf108 hf109 hf110 ql155_66 hf111 ql155_181 hf112 ql155_182 hf113 ql155_186 hf114 ql155_187 hf115 hf124 hf117 hf118 hf125 hf119 hsw120
                · skip
                  refine pw_nn (fun a107 hn_a107 => ?_)
                  have lt_a107 := ((hB.1 235 fl_235) this a107 hn_a107).2.1
                  have lb_a107 : la a107 = 320 := lk_235.mp ((hB.1 235 fl_235) this a107 hn_a107).2.2
                  refine pw_b1 (fun c110_V6 hc110 => ?_)
                  have hq110 := fr_X6_leaveLost la (va_up (va_up (va_up (va_up (va_up (va_up (va_up (va_up (va_up (va_up (va_up (va_up (va_up (va_up (va_up (va_up (va_up (va_up (va_up (va_up G 60 d58_G60) 126 d58_G126) 127 d58_G127) 128 d58_G128) 141 c4_G141) 160 d58_G160) 161 d58_G161) 162 d58_G162) 163 d58_G163) 165 c45_G165) 166 d58_G166) 167 d58_G167) 183 d58_G183) 203 d58_G203) 160 c68_G160) 161 c68_G161) 162 c68_G162) 163 c68_G163) 166 c68_G166) 167 c68_G167) (va_up (va_up (va_up (va_up (va_up (va_up P 66 d58_P66) 164 c45_P164) 181 d58_P181) 182 d58_P182) 186 d58_P186) 187 d58_P187) (va_up U 184 d58_U184) (va_up (va_up (va_up (va_up (va_up V 0 d58_V0) 1 d58_V1) 2 d58_V2) 6 d58_V6) 12 d58_V12) X O kd ln cnt a107 (LB_set (LB_set (LB_set (LB_set (LB_set (LB_set hB hl62) ql45_164) hl64) hl66) hl68) hl70) _ hc110
                  have q110_V6 : (∀ z, (la z < la a107 ∨ la a107 + 2 < la z) → c110_V6 z = d58_V6 z) := hq110
                  have tz110 : ∀ z, ((la z < 10 ∨ 10 < la z) ∧ (la z < 310 ∨ 310 < la z) ∧ (la z < 320 ∨ 320 + 2 < la z) ∧ (la z < 90 ∨ 90 + 8 < la z)) → ((la z < la a107 ∨ la a107 + 2 < la z)) := fun z hz => by omega
                  have hf126 : ∀ z, ((la z < 10 ∨ 10 < la z) ∧ (la z < 310 ∨ 310 < la z) ∧ (la z < 320 ∨ 320 + 2 < la z) ∧ (la z < 90 ∨ 90 + 8 < la z)) → c110_V6 z = (V 6) z := fun z hz => (q110_V6 z (tz110 z hz)).trans (hf75 z hz)
                  clear hc110 hq110
                  exact Jj161 d58_G60 d58_G126 d58_G127 d58_G128 d58_G183 d58_G203 d58_P66 d58_P181 d58_P182 d58_P186 d58_P187 d58_U184 d58_V0 d58_V1 d58_V2 c110_V6 d58_V12 hf49 hf50 hf51 hf52 hf59 hf60 hf61 hl62 hf63 hl64 hf65 hl66 hf67 hl68 hf69 hl70 hf71 hf72 hf73 hf74 hf126 hf76 hsw77
              · skip
                refine pw_nn (fun a85 hn_a85 => ?_)
                have lt_a85 := ((hB.1 235 fl_235) this a85 hn_a85).2.1
                have lb_a85 : la a85 = 320 := lk_235.mp ((hB.1 235 fl_235) this a85 hn_a85).2.2
                refine pw_b1 (fun c88_V6 hc88 => ?_)
                have hq88 := fr_X6_leaveName la (va_up (va_up (va_up (va_up (va_up (va_up (va_up (va_up (va_up (va_up (va_up (va_up (va_up (va_up (va_up (va_up (va_up (va_up (va_up (va_up G 60 d58_G60) 126 d58_G126) 127 d58_G127) 128 d58_G128) 141 c4_G141) 160 d58_G160) 161 d58_G161) 162 d58_G162) 163 d58_G163) 165 c45_G165) 166 d58_G166) 167 d58_G167) 183 d58_G183) 203 d58_G203) 160 c68_G160) 161 c68_G161) 162 c68_G162) 163 c68_G163) 166 c68_G166) 167 c68_G167) (va_up (va_up (va_up (va_up (va_up (va_up P 66 d58_P66) 164 c45_P164) 181 d58_P181) 182 d58_P182) 186 d58_P186) 187 d58_P187) (va_up U 184 d58_U184) (va_up (va_up (va_up (va_up (va_up V 0 d58_V0) 1 d58_V1) 2 d58_V2) 6 d58_V6) 12 d58_V12) X O kd ln cnt a85 (LB_set (LB_set (LB_set (LB_set (LB_set (LB_set hB hl62) ql45_164) hl64) hl66) hl68) hl70) _ hc88
                have q88_V6 : (∀ z, (la z < la a85 ∨ la a85 + 2 < la z) → c88_V6 z = d58_V6 z) := hq88
                have tz88 : ∀ z, ((la z < 10 ∨ 10 < la z) ∧ (la z < 310 ∨ 310 < la z) ∧ (la z < 320 ∨ 320 + 2 < la z) ∧ (la z < 90 ∨ 90 + 8 < la z)) → ((la z < la a85 ∨ la a85 + 2 < la z)) := fun z hz => by omega
                have hf127 : ∀ z, ((la z < 10 ∨ 10 < la z) ∧ (la z < 310 ∨ 310 < la z) ∧ (la z < 320 ∨ 320 + 2 < la z) ∧ (la z < 90 ∨ 90 + 8 < la z)) → c88_V6 z = (V 6) z := fun z hz => (q88_V6 z (tz88 z hz)).trans (hf75 z hz)
                clear hc88 hq88
                exact Jj161 d58_G60 d58_G126 d58_G127 d58_G128 d58_G183 d58_G203 d58_P66 d58_P181 d58_P182 d58_P186 d58_P187 d58_U184 d58_V0 d58_V1 d58_V2 c88_V6 d58_V12 hf49 hf50 hf51 hf52 hf59 hf60 hf61 hl62 hf63 hl64 hf65 hl66 hf67 hl68 hf69 hl70 hf71 hf72 hf73 hf74 hf127 hf76 hsw77
      exact lp58 NN 0 (G 60) c52_G126 c52_G127 c52_G128 (G 160) (G 161) c45_G162 (G 163) c45_G166 c45_G167 (G 183) (G 203) (P 66) (P 181) (P 182) (P 186) (P 187) (U 184) (V 0) (V 1) (V 2) c52_V6 (V 12) (fun _ _ => rfl) hf7 hf8 hf9 (fun _ _ => rfl) (fun _ _ => rfl) hf2 (fun _ _ => rfl) hf4 hf5 (fun _ _ => rfl) (fun _ _ => rfl) (fun _ _ => rfl) (hB.1 66 fl_66) (fun _ _ => rfl) (hB.1 181 fl_181) (fun _ _ => rfl) (hB.1 182 fl_182) (fun _ _ => rfl) (hB.1 186 fl_186) (fun _ _ => rfl) (hB.1 187 fl_187) (fun _ _ => rfl) (fun _ _ => rfl) (fun _ _ => rfl) (fun _ _ => rfl) hf10 (fun _ _ => rfl) hs
    · skip
      exact pw_some (hs)
abbrev RW_X11_reform (G : Nat → Nat → Int32) (P : Nat → Nat → Option Nat) (U : Nat → Nat → Int64) (V : Nat → Nat → Nat → Int32) (X : Nat → Nat → Nat → Int64) (O : Nat → Nat → Nat → Option Nat) (kd : Nat → Nat) (ln : Nat → Nat) (cnt : Nat) (this : Nat) (p0 : Int32) (D : Nat) (tn nw nx ah bh : Nat) : (Int32 × (Nat → Nat → Int32) × (Nat → Nat → Option Nat) × (Nat → Nat → Int64) × (Nat → Nat → Nat → Int32) × (Nat → Nat → Nat → Int64) × (Nat → Nat → Nat → Option Nat) × (Nat → Nat) × (Nat → Nat) × Nat) → Prop := fun t => SWT ((t.2.2.1) 181) ((t.2.2.1) 182) ((t.2.2.1) 186) ((t.2.2.1) 187) tn nw nx ah bh
set_option maxHeartbeats 4000000 in
set_option maxRecDepth 100000 in
theorem sw_X11_reform (la : Nat → Nat) (G : Nat → Nat → Int32) (P : Nat → Nat → Option Nat) (U : Nat → Nat → Int64) (V : Nat → Nat → Nat → Int32) (X : Nat → Nat → Nat → Int64) (O : Nat → Nat → Nat → Option Nat) (kd : Nat → Nat) (ln : Nat → Nat) (cnt : Nat) (this : Nat) (p0 : Int32) (D : Nat) (hB : LB la cnt P) (hlt_this : this < cnt) (hp0 : la this = 200) (hp1 : ∀ b, (P 224) this = some b → b < cnt ∧ la b = D) (tn nw nx ah bh : Nat) (htn : tn < cnt) (hs : SWT (P 181) (P 182) (P 186) (P 187) tn nw nx ah bh) : pw (f_X11_reform G P U V X O kd ln cnt this p0) (sp1 (RW_X11_reform G P U V X O kd ln cnt this p0 D tn nw nx ah bh)) := by
  unfold f_X11_reform
  refine pw_nn (fun a1 hn_a1 => ?_)
  have lt_a1 := ((hB.1 220 fl_220) this a1 hn_a1).2.1
  have lb_a1 : la a1 = 10 := lk_220.mp ((hB.1 220 fl_220) this a1 hn_a1).2.2
  refine pw_b2 (fun r4 c4_G141 hc4 => ?_)
  have hq4 := fr_X7_take la G P U V X O kd ln cnt a1 hB _ hc4
  have q4_G141 : (∀ z, (la z < la a1 ∨ la a1 < la z) → c4_G141 z = (G 141) z) := hq4
  have tz4 : ∀ z, (z < cnt ∧ (la z < 10 ∨ 10 < la z) ∧ (la z < 300 ∨ 300 < la z) ∧ (la z < 90 ∨ 90 + 8 < la z) ∧ (la z < 200 ∨ 200 + 3 < la z) ∧ (la z < D ∨ D + 5 < la z)) → ((la z < la a1 ∨ la a1 < la z)) := fun z hz => by omega
  have hf1 : ∀ z, (z < cnt ∧ (la z < 10 ∨ 10 < la z) ∧ (la z < 300 ∨ 300 < la z) ∧ (la z < 90 ∨ 90 + 8 < la z) ∧ (la z < 200 ∨ 200 + 3 < la z) ∧ (la z < D ∨ D + 5 < la z)) → c4_G141 z = (G 141) z := fun z hz => (q4_G141 z (tz4 z hz)).trans (rfl)
  clear hc4 hq4
  refine pw_jn (fun j22 => pw (j22 ()) (sp1 (RW_X11_reform G P U V X O kd ln cnt this p0 D tn nw nx ah bh))) ?_ ?_
  · show pw _ _
    exact pw_some (hs)
  intro j22 Jj22
  refine pw_ite (fun _ => ?_) (fun _ => ?_)
  · skip
    exact Jj22
  · skip
    refine pw_ite (fun _ => ?_) (fun _ => ?_)
    · skip
      refine pw_nn (fun a26 hn_a26 => ?_)
      obtain ⟨_, lt_a26, lb_a26⟩ := (hB.1 224 fl_224) this a26 hn_a26
      have ld_a26 := (hp1 a26 hn_a26).2
      refine pw_b4 (fun c30_G100 c30_G102 c30_G107 c30_G203 hc30 => ?_)
      have hq30 := fr_X5_clear la (va_up G 141 c4_G141) P U V X O kd ln cnt a26 p0 hB _ hc30
      obtain ⟨q30_G100, q30_G102, q30_G107, q30_G203⟩ : (∀ z, (la z < la a26 ∨ la a26 + 5 < la z) → c30_G100 z = (G 100) z) ∧ (∀ z, (la z < la a26 ∨ la a26 + 5 < la z) → c30_G102 z = (G 102) z) ∧ (∀ z, (la z < la a26 ∨ la a26 + 5 < la z) → c30_G107 z = (G 107) z) ∧ (∀ z, (la z < la a26 ∨ la a26 + 5 < la z) → c30_G203 z = (G 203) z) := hq30
      have tz30 : ∀ z, (z < cnt ∧ (la z < 10 ∨ 10 < la z) ∧ (la z < 300 ∨ 300 < la z) ∧ (la z < 90 ∨ 90 + 8 < la z) ∧ (la z < 200 ∨ 200 + 3 < la z) ∧ (la z < D ∨ D + 5 < la z)) → ((la z < la a26 ∨ la a26 + 5 < la z)) := fun z hz => by omega
      have hf2 : ∀ z, (z < cnt ∧ (la z < 10 ∨ 10 < la z) ∧ (la z < 300 ∨ 300 < la z) ∧ (la z < 90 ∨ 90 + 8 < la z) ∧ (la z < 200 ∨ 200 + 3 < la z) ∧ (la z < D ∨ D + 5 < la z)) → c30_G100 z = (G 100) z := fun z hz => (q30_G100 z (tz30 z hz)).trans (rfl)
      have hf3 : ∀ z, (z < cnt ∧ (la z < 10 ∨ 10 < la z) ∧ (la z < 300 ∨ 300 < la z) ∧ (la z < 90 ∨ 90 + 8 < la z) ∧ (la z < 200 ∨ 200 + 3 < la z) ∧ (la z < D ∨ D + 5 < la z)) → c30_G102 z = (G 102) z := fun z hz => (q30_G102 z (tz30 z hz)).trans (rfl)
      have hf4 : ∀ z, (z < cnt ∧ (la z < 10 ∨ 10 < la z) ∧ (la z < 300 ∨ 300 < la z) ∧ (la z < 90 ∨ 90 + 8 < la z) ∧ (la z < 200 ∨ 200 + 3 < la z) ∧ (la z < D ∨ D + 5 < la z)) → c30_G107 z = (G 107) z := fun z hz => (q30_G107 z (tz30 z hz)).trans (rfl)
      have hf5 : ∀ z, (z < cnt ∧ (la z < 10 ∨ 10 < la z) ∧ (la z < 300 ∨ 300 < la z) ∧ (la z < 90 ∨ 90 + 8 < la z) ∧ (la z < 200 ∨ 200 + 3 < la z) ∧ (la z < D ∨ D + 5 < la z)) → c30_G203 z = (G 203) z := fun z hz => (q30_G203 z (tz30 z hz)).trans (rfl)
      clear hc30
      refine pw_nn (fun a34 hn_a34 => ?_)
      have lt_a34 := ((hB.1 225 fl_225) this a34 hn_a34).2.1
      have lb_a34 : la a34 = 300 := lk_225.mp ((hB.1 225 fl_225) this a34 hn_a34).2.2
      refine pw_nn (fun a38 hn_a38 => ?_)
      have lt_a38 := ((hB.1 220 fl_220) this a38 hn_a38).2.1
      have lb_a38 : la a38 = 10 := lk_220.mp ((hB.1 220 fl_220) this a38 hn_a38).2.2
      refine pw_nn (fun a41 hn_a41 => ?_)
      have lt_a41 := ((hB.1 140 fl_140) a38 a41 hn_a41).2.1
      have lb_a41 : la a41 = la a38 + 1 := lk_140.mp ((hB.1 140 fl_140) a38 a41 hn_a41).2.2
      refine pw_nn (fun a46 hn_a46 => ?_)
      obtain ⟨_, lt_a46, lb_a46⟩ := (hB.1 224 fl_224) this a46 hn_a46
      have ld_a46 := (hp1 a46 hn_a46).2
      refine pw_bA9 (fun c49_G c49_P c49_U c49_V c49_X c49_O c49_kd c49_ln c49_cnt v1_49 v2_49 hc49 => ?_)
      have hq49 := fr_X4_read la (va_up (va_up (va_up (va_up (va_up G 141 c4_G141) 100 c30_G100) 102 c30_G102) 107 c30_G107) 203 c30_G203) P U V X O kd ln cnt a34 a41 r4 a46 hB lt_a34 lt_a41 lt_a46 _ hc49
      obtain ⟨la49_6, ag49, hB49, cc49, qG49, qP49, qU49, qV49, qX49, qO49, ql49⟩ : ∃ la9 : Nat → Nat, (∀ z, z < cnt → la9 z = la z) ∧ LB la9 c49_cnt c49_P ∧ cnt ≤ c49_cnt ∧ FRM cnt [24, 25, 80, 81, 83, 84, 85, 86, 87, 88, 102, 107, 203] (fun z => (la z < la a34 ∨ la a34 < la z) ∧ (la z < la a46 ∨ la a46 + 3 < la z) ∧ (la z < la a46 + 5 ∨ la a46 + 5 < la z)) (va_up (va_up (va_up (va_up (va_up G 141 c4_G141) 100 c30_G100) 102 c30_G102) 107 c30_G107) 203 c30_G203) c49_G ∧ FRM cnt [22, 23, 82] (fun z => (la z < la a34 ∨ la a34 < la z) ∧ (la z < la a46 ∨ la a46 + 3 < la z) ∧ (la z < la a46 + 5 ∨ la a46 + 5 < la z)) P c49_P ∧ FRM cnt [] (fun z => (la z < la a34 ∨ la a34 < la z) ∧ (la z < la a46 ∨ la a46 + 3 < la z) ∧ (la z < la a46 + 5 ∨ la a46 + 5 < la z)) U c49_U ∧ FRM cnt [0, 1, 10] (fun z => (la z < la a34 ∨ la a34 < la z) ∧ (la z < la a46 ∨ la a46 + 3 < la z) ∧ (la z < la a46 + 5 ∨ la a46 + 5 < la z)) V c49_V ∧ FRM cnt [] (fun z => (la z < la a34 ∨ la a34 < la z) ∧ (la z < la a46 ∨ la a46 + 3 < la z) ∧ (la z < la a46 + 5 ∨ la a46 + 5 < la z)) X c49_X ∧ FRM cnt [0] (fun z => (la z < la a34 ∨ la a34 < la z) ∧ (la z < la a46 ∨ la a46 + 3 < la z) ∧ (la z < la a46 + 5 ∨ la a46 + 5 < la z)) O c49_O ∧ (∀ z, z < cnt → c49_ln z = ln z) := hq49
      have hle49 : cnt ≤ cnt := Nat.le_refl _
      have hg49 : ∀ z, z < cnt → la49_6 z = la z := fun z hz => (ag49 z (Nat.lt_of_lt_of_le hz hle49)).trans (rfl)
      have hF49_G : FRM cnt [24, 25, 80, 81, 83, 84, 85, 86, 87, 88, 100, 102, 107, 141, 183, 203, 222, 223] (fun z => (la z < 10 ∨ 10 < la z) ∧ (la z < 300 ∨ 300 < la z) ∧ (la z < 90 ∨ 90 + 8 < la z) ∧ (la z < 200 ∨ 200 + 3 < la z) ∧ (la z < D ∨ D + 5 < la z)) G c49_G := FRM_trans (FRM_set (FRM_set (FRM_set (FRM_set (FRM_set FRM_refl (by decide) (fun z h1 h2 => hf1 z ⟨h1, h2⟩)) (by decide) (fun z h1 h2 => hf2 z ⟨h1, h2⟩)) (by decide) (fun z h1 h2 => hf3 z ⟨h1, h2⟩)) (by decide) (fun z h1 h2 => hf4 z ⟨h1, h2⟩)) (by decide) (fun z h1 h2 => hf5 z ⟨h1, h2⟩)) qG49 hle49 (by decide) (fun z h0 hz => (show (la z < la a34 ∨ la a34 < la z) ∧ (la z < la a46 ∨ la a46 + 3 < la z) ∧ (la z < la a46 + 5 ∨ la a46 + 5 < la z) from by have q2 := hB.2 z h0; omega))
      have hF49_P : FRM cnt [22, 23, 82, 181, 182, 224] (fun z => (la z < 10 ∨ 10 < la z) ∧ (la z < 300 ∨ 300 < la z) ∧ (la z < 90 ∨ 90 + 8 < la z) ∧ (la z < 200 ∨ 200 + 3 < la z) ∧ (la z < D ∨ D + 5 < la z)) P c49_P := FRM_trans FRM_refl qP49 hle49 (by decide) (fun z h0 hz => (show (la z < la a34 ∨ la a34 < la z) ∧ (la z < la a46 ∨ la a46 + 3 < la z) ∧ (la z < la a46 + 5 ∨ la a46 + 5 < la z) from by have q2 := hB.2 z h0; omega))
      have hF49_U : FRM cnt [184] (fun z => (la z < 10 ∨ 10 < la z) ∧ (la z < 300 ∨ 300 < la z) ∧ (la z < 90 ∨ 90 + 8 < la z) ∧ (la z < 200 ∨ 200 + 3 < la z) ∧ (la z < D ∨ D + 5 < la z)) U c49_U := FRM_trans FRM_refl qU49 hle49 (by decide) (fun z h0 hz => (show (la z < la a34 ∨ la a34 < la z) ∧ (la z < la a46 ∨ la a46 + 3 < la z) ∧ (la z < la a46 + 5 ∨ la a46 + 5 < la z) from by have q2 := hB.2 z h0; omega))
      have hF49_V : FRM cnt [0, 1, 10, 11] (fun z => (la z < 10 ∨ 10 < la z) ∧ (la z < 300 ∨ 300 < la z) ∧ (la z < 90 ∨ 90 + 8 < la z) ∧ (la z < 200 ∨ 200 + 3 < la z) ∧ (la z < D ∨ D + 5 < la z)) V c49_V := FRM_trans FRM_refl qV49 hle49 (by decide) (fun z h0 hz => (show (la z < la a34 ∨ la a34 < la z) ∧ (la z < la a46 ∨ la a46 + 3 < la z) ∧ (la z < la a46 + 5 ∨ la a46 + 5 < la z) from by have q2 := hB.2 z h0; omega))
      have hF49_X : FRM cnt [0] (fun z => (la z < 10 ∨ 10 < la z) ∧ (la z < 300 ∨ 300 < la z) ∧ (la z < 90 ∨ 90 + 8 < la z) ∧ (la z < 200 ∨ 200 + 3 < la z) ∧ (la z < D ∨ D + 5 < la z)) X c49_X := FRM_trans FRM_refl qX49 hle49 (by decide) (fun z h0 hz => (show (la z < la a34 ∨ la a34 < la z) ∧ (la z < la a46 ∨ la a46 + 3 < la z) ∧ (la z < la a46 + 5 ∨ la a46 + 5 < la z) from by have q2 := hB.2 z h0; omega))
      have hF49_O : FRM cnt [0, 2] (fun z => (la z < 10 ∨ 10 < la z) ∧ (la z < 300 ∨ 300 < la z) ∧ (la z < 90 ∨ 90 + 8 < la z) ∧ (la z < 200 ∨ 200 + 3 < la z) ∧ (la z < D ∨ D + 5 < la z)) O c49_O := FRM_trans FRM_refl qO49 hle49 (by decide) (fun z h0 hz => (show (la z < la a34 ∨ la a34 < la z) ∧ (la z < la a46 ∨ la a46 + 3 < la z) ∧ (la z < la a46 + 5 ∨ la a46 + 5 < la z) from by have q2 := hB.2 z h0; omega))
      have hln49 : ∀ z, z < cnt → c49_ln z = ln z := fun z hz => (ql49 z (Nat.lt_of_lt_of_le hz hle49)).trans (rfl)
      have g7 := ag49 this hlt_this
      have lt8 : this < c49_cnt := by omega
      have hdr49 : ∀ b, c49_P 224 this = some b → b < c49_cnt ∧ la49_6 b = D := by
        intro b hb
        rw [qP49 224 this hlt_this (fun q => absurd q (by decide))] at hb
        obtain ⟨h2, h3⟩ := hp1 b hb
        exact ⟨by omega, (ag49 b h2).trans h3⟩
      have hsw9 : SWT (c49_P 181) (c49_P 182) (c49_P 186) (c49_P 187) tn nw nx ah bh := SWT_fr hs (qP49 181 tn (show tn < cnt from by omega) (fun q => absurd q (by decide))) (qP49 182 tn (show tn < cnt from by omega) (fun q => absurd q (by decide))) (qP49 186 tn (show tn < cnt from by omega) (fun q => absurd q (by decide))) (qP49 187 tn (show tn < cnt from by omega) (fun q => absurd q (by decide)))
      refine pw_nn (fun a53 hn_a53 => ?_)
      have lt_a53 := ((hB49.1 225 fl_225) this a53 hn_a53).2.1
      have lb_a53 : la49_6 a53 = 300 := lk_225.mp ((hB49.1 225 fl_225) this a53 hn_a53).2.2
      refine pw_ite (fun _ => ?_) (fun _ => ?_)
      · skip
        refine pw_ite (fun _ => ?_) (fun _ => ?_)
        · skip
          refine pw_nn (fun a77 hn_a77 => ?_)
          have lt_a77 := ((hB49.1 226 fl_226) this a77 hn_a77).2.1
          have lb_a77 : la49_6 a77 = 90 := lk_226.mp ((hB49.1 226 fl_226) this a77 hn_a77).2.2
          refine pw_nn (fun a81 hn_a81 => ?_)
          obtain ⟨_, lt_a81, lb_a81⟩ := (hB49.1 224 fl_224) this a81 hn_a81
          have ld_a81 := (hdr49 a81 hn_a81).2
          refine pw_b9 (fun c84_G183 c84_G203 c84_P181 c84_P182 c84_U184 c84_V0 c84_V1 c84_V11 c84_X0 hc84 => ?_)
          have hq84 := fr_X9_turnParts la49_6 c49_G c49_P c49_U c49_V c49_X c49_O c49_kd c49_ln c49_cnt a77 a81 hB49 lt_a77 _ hc84
          have hsw19 : SWT c84_P181 c84_P182 (c49_P 186) (c49_P 187) tn nw nx ah bh := sw_X9_turnParts la49_6 c49_G c49_P c49_U c49_V c49_X c49_O c49_kd c49_ln c49_cnt a77 a81 hB49 lt_a77 tn nw nx ah bh (show tn < c49_cnt from by omega) hsw9 _ hc84
          obtain ⟨q84_G183, q84_G203, q84_P181, q84_P182, q84_U184, q84_V0, q84_V1, q84_V11, q84_X0, ql84_181, ql84_182⟩ : (∀ z, (la49_6 z < la49_6 a77 ∨ la49_6 a77 + 8 < la49_6 z) ∧ (la49_6 z < la49_6 a81 ∨ la49_6 a81 + 5 < la49_6 z) → c84_G183 z = (c49_G 183) z) ∧ (∀ z, (la49_6 z < la49_6 a77 ∨ la49_6 a77 + 8 < la49_6 z) ∧ (la49_6 z < la49_6 a81 ∨ la49_6 a81 + 5 < la49_6 z) → c84_G203 z = (c49_G 203) z) ∧ (∀ z, (la49_6 z < la49_6 a77 ∨ la49_6 a77 + 8 < la49_6 z) ∧ (la49_6 z < la49_6 a81 ∨ la49_6 a81 + 5 < la49_6 z) → c84_P181 z = (c49_P 181) z) ∧ (∀ z, (la49_6 z < la49_6 a77 ∨ la49_6 a77 + 8 < la49_6 z) ∧ (la49_6 z < la49_6 a81 ∨ la49_6 a81 + 5 < la49_6 z) → c84_P182 z = (c49_P 182) z) ∧ (∀ z, (la49_6 z < la49_6 a77 ∨ la49_6 a77 + 8 < la49_6 z) ∧ (la49_6 z < la49_6 a81 ∨ la49_6 a81 + 5 < la49_6 z) → c84_U184 z = (c49_U 184) z) ∧ (∀ z, (la49_6 z < la49_6 a77 ∨ la49_6 a77 + 8 < la49_6 z) ∧ (la49_6 z < la49_6 a81 ∨ la49_6 a81 + 5 < la49_6 z) → c84_V0 z = (c49_V 0) z) ∧ (∀ z, (la49_6 z < la49_6 a77 ∨ la49_6 a77 + 8 < la49_6 z) ∧ (la49_6 z < la49_6 a81 ∨ la49_6 a81 + 5 < la49_6 z) → c84_V1 z = (c49_V 1) z) ∧ (∀ z, (la49_6 z < la49_6 a77 ∨ la49_6 a77 + 8 < la49_6 z) ∧ (la49_6 z < la49_6 a81 ∨ la49_6 a81 + 5 < la49_6 z) → c84_V11 z = (c49_V 11) z) ∧ (∀ z, (la49_6 z < la49_6 a77 ∨ la49_6 a77 + 8 < la49_6 z) ∧ (la49_6 z < la49_6 a81 ∨ la49_6 a81 + 5 < la49_6 z) → c84_X0 z = (c49_X 0) z) ∧ LC 181 la49_6 c49_cnt c84_P181 ∧ LC 182 la49_6 c49_cnt c84_P182 := hq84
          have tz84 : ∀ z, (z < cnt ∧ (la z < 10 ∨ 10 < la z) ∧ (la z < 300 ∨ 300 < la z) ∧ (la z < 90 ∨ 90 + 8 < la z) ∧ (la z < 200 ∨ 200 + 3 < la z) ∧ (la z < D ∨ D + 5 < la z)) → ((la49_6 z < la49_6 a77 ∨ la49_6 a77 + 8 < la49_6 z) ∧ (la49_6 z < la49_6 a81 ∨ la49_6 a81 + 5 < la49_6 z)) := fun z hz => by have q1 := hg49 z hz.1; have q2 := hB.2 z hz.1; omega
          have hf10 : ∀ z, (z < cnt ∧ (la z < 10 ∨ 10 < la z) ∧ (la z < 300 ∨ 300 < la z) ∧ (la z < 90 ∨ 90 + 8 < la z) ∧ (la z < 200 ∨ 200 + 3 < la z) ∧ (la z < D ∨ D + 5 < la z)) → c84_G183 z = (G 183) z := fun z hz => (q84_G183 z (tz84 z hz)).trans (hF49_G 183 z hz.1 (fun _ => hz.2))
          have hf11 : ∀ z, (z < cnt ∧ (la z < 10 ∨ 10 < la z) ∧ (la z < 300 ∨ 300 < la z) ∧ (la z < 90 ∨ 90 + 8 < la z) ∧ (la z < 200 ∨ 200 + 3 < la z) ∧ (la z < D ∨ D + 5 < la z)) → c84_G203 z = (G 203) z := fun z hz => (q84_G203 z (tz84 z hz)).trans (hF49_G 203 z hz.1 (fun _ => hz.2))
          have hf12 : ∀ z, (z < cnt ∧ (la z < 10 ∨ 10 < la z) ∧ (la z < 300 ∨ 300 < la z) ∧ (la z < 90 ∨ 90 + 8 < la z) ∧ (la z < 200 ∨ 200 + 3 < la z) ∧ (la z < D ∨ D + 5 < la z)) → c84_P181 z = (P 181) z := fun z hz => (q84_P181 z (tz84 z hz)).trans (hF49_P 181 z hz.1 (fun _ => hz.2))
          have hf13 : ∀ z, (z < cnt ∧ (la z < 10 ∨ 10 < la z) ∧ (la z < 300 ∨ 300 < la z) ∧ (la z < 90 ∨ 90 + 8 < la z) ∧ (la z < 200 ∨ 200 + 3 < la z) ∧ (la z < D ∨ D + 5 < la z)) → c84_P182 z = (P 182) z := fun z hz => (q84_P182 z (tz84 z hz)).trans (hF49_P 182 z hz.1 (fun _ => hz.2))
          have hf14 : ∀ z, (z < cnt ∧ (la z < 10 ∨ 10 < la z) ∧ (la z < 300 ∨ 300 < la z) ∧ (la z < 90 ∨ 90 + 8 < la z) ∧ (la z < 200 ∨ 200 + 3 < la z) ∧ (la z < D ∨ D + 5 < la z)) → c84_U184 z = (U 184) z := fun z hz => (q84_U184 z (tz84 z hz)).trans (hF49_U 184 z hz.1 (fun _ => hz.2))
          have hf15 : ∀ z, (z < cnt ∧ (la z < 10 ∨ 10 < la z) ∧ (la z < 300 ∨ 300 < la z) ∧ (la z < 90 ∨ 90 + 8 < la z) ∧ (la z < 200 ∨ 200 + 3 < la z) ∧ (la z < D ∨ D + 5 < la z)) → c84_V0 z = (V 0) z := fun z hz => (q84_V0 z (tz84 z hz)).trans (hF49_V 0 z hz.1 (fun _ => hz.2))
          have hf16 : ∀ z, (z < cnt ∧ (la z < 10 ∨ 10 < la z) ∧ (la z < 300 ∨ 300 < la z) ∧ (la z < 90 ∨ 90 + 8 < la z) ∧ (la z < 200 ∨ 200 + 3 < la z) ∧ (la z < D ∨ D + 5 < la z)) → c84_V1 z = (V 1) z := fun z hz => (q84_V1 z (tz84 z hz)).trans (hF49_V 1 z hz.1 (fun _ => hz.2))
          have hf17 : ∀ z, (z < cnt ∧ (la z < 10 ∨ 10 < la z) ∧ (la z < 300 ∨ 300 < la z) ∧ (la z < 90 ∨ 90 + 8 < la z) ∧ (la z < 200 ∨ 200 + 3 < la z) ∧ (la z < D ∨ D + 5 < la z)) → c84_V11 z = (V 11) z := fun z hz => (q84_V11 z (tz84 z hz)).trans (hF49_V 11 z hz.1 (fun _ => hz.2))
          have hf18 : ∀ z, (z < cnt ∧ (la z < 10 ∨ 10 < la z) ∧ (la z < 300 ∨ 300 < la z) ∧ (la z < 90 ∨ 90 + 8 < la z) ∧ (la z < 200 ∨ 200 + 3 < la z) ∧ (la z < D ∨ D + 5 < la z)) → c84_X0 z = (X 0) z := fun z hz => (q84_X0 z (tz84 z hz)).trans (hF49_X 0 z hz.1 (fun _ => hz.2))
          clear hc84
          refine pw_nn (fun a88 hn_a88 => ?_)
          have lt_a88 := ((hB49.1 221 fl_221) this a88 hn_a88).2.1
          have lb_a88 : la49_6 a88 = la49_6 this + 3 := lk_221.mp ((hB49.1 221 fl_221) this a88 hn_a88).2.2
          refine pw_nn (fun a96 hn_a96 => ?_)
          obtain ⟨_, lt_a96, lb_a96⟩ := (hB49.1 224 fl_224) this a96 hn_a96
          have ld_a96 := (hdr49 a96 hn_a96).2
          refine pw_if (fun _ => ?_)
          refine pw_vl (fun m99 em99 => ?_)
          have hf20 : ∀ z, (z < cnt ∧ (la z < 10 ∨ 10 < la z) ∧ (la z < 300 ∨ 300 < la z) ∧ (la z < 90 ∨ 90 + 8 < la z) ∧ (la z < 200 ∨ 200 + 3 < la z) ∧ (la z < D ∨ D + 5 < la z)) → m99 z = (O 2) z := fr_up (e0 := (O 2)) (fun z hz => hF49_O 2 z hz.1 (fun _ => hz.2)) em99 (show ¬ (a88 < cnt ∧ (la a88 < 10 ∨ 10 < la a88) ∧ (la a88 < 300 ∨ 300 < la a88) ∧ (la a88 < 90 ∨ 90 + 8 < la a88) ∧ (la a88 < 200 ∨ 200 + 3 < la a88) ∧ (la a88 < D ∨ D + 5 < la a88)) from fun hz => by have q1 := hg49 a88 hz.1; omega)
          refine pw_tk ?_
          refine pw_newc (la := la49_6) (L := 100000 + 10 * c49_cnt) (LB_set (LB_set hB49 ql84_181) ql84_182) (by have q21 := hB49.2 this lt8; omega) (fun la101 G101 P101 U101 V101 X101 O101 kd101 ln101 cnt101 hcn101 hB101 hL101 ag101 qG101 qP101 qU101 qV101 qX101 qO101 ql101 => ?_)
          have hle101 : cnt ≤ c49_cnt := by omega
          have hg101 : ∀ z, z < cnt → la101 z = la z := fun z hz => (ag101 z (Nat.lt_of_lt_of_le hz hle101)).trans (hg49 z hz)
          have hF101_G : FRM cnt [24, 25, 80, 81, 83, 84, 85, 86, 87, 88, 100, 102, 107, 141, 183, 203, 222, 223] (fun z => (la z < 10 ∨ 10 < la z) ∧ (la z < 300 ∨ 300 < la z) ∧ (la z < 90 ∨ 90 + 8 < la z) ∧ (la z < 200 ∨ 200 + 3 < la z) ∧ (la z < D ∨ D + 5 < la z)) G G101 := FRM_trans (FRM_set (FRM_set hF49_G (by decide) (fun z h1 h2 => hf10 z ⟨h1, h2⟩)) (by decide) (fun z h1 h2 => hf11 z ⟨h1, h2⟩)) qG101 hle101 (by decide) (fun _ _ _ => trivial)
          have hF101_P : FRM cnt [22, 23, 82, 181, 182, 224] (fun z => (la z < 10 ∨ 10 < la z) ∧ (la z < 300 ∨ 300 < la z) ∧ (la z < 90 ∨ 90 + 8 < la z) ∧ (la z < 200 ∨ 200 + 3 < la z) ∧ (la z < D ∨ D + 5 < la z)) P P101 := FRM_trans (FRM_set (FRM_set hF49_P (by decide) (fun z h1 h2 => hf12 z ⟨h1, h2⟩)) (by decide) (fun z h1 h2 => hf13 z ⟨h1, h2⟩)) qP101 hle101 (by decide) (fun _ _ _ => trivial)
          have hF101_U : FRM cnt [184] (fun z => (la z < 10 ∨ 10 < la z) ∧ (la z < 300 ∨ 300 < la z) ∧ (la z < 90 ∨ 90 + 8 < la z) ∧ (la z < 200 ∨ 200 + 3 < la z) ∧ (la z < D ∨ D + 5 < la z)) U U101 := FRM_trans (FRM_set hF49_U (by decide) (fun z h1 h2 => hf14 z ⟨h1, h2⟩)) qU101 hle101 (by decide) (fun _ _ _ => trivial)
          have hF101_V : FRM cnt [0, 1, 10, 11] (fun z => (la z < 10 ∨ 10 < la z) ∧ (la z < 300 ∨ 300 < la z) ∧ (la z < 90 ∨ 90 + 8 < la z) ∧ (la z < 200 ∨ 200 + 3 < la z) ∧ (la z < D ∨ D + 5 < la z)) V V101 := FRM_trans (FRM_set (FRM_set (FRM_set hF49_V (by decide) (fun z h1 h2 => hf15 z ⟨h1, h2⟩)) (by decide) (fun z h1 h2 => hf16 z ⟨h1, h2⟩)) (by decide) (fun z h1 h2 => hf17 z ⟨h1, h2⟩)) qV101 hle101 (by decide) (fun _ _ _ => trivial)
          have hF101_X : FRM cnt [0] (fun z => (la z < 10 ∨ 10 < la z) ∧ (la z < 300 ∨ 300 < la z) ∧ (la z < 90 ∨ 90 + 8 < la z) ∧ (la z < 200 ∨ 200 + 3 < la z) ∧ (la z < D ∨ D + 5 < la z)) X X101 := FRM_trans (FRM_set hF49_X (by decide) (fun z h1 h2 => hf18 z ⟨h1, h2⟩)) qX101 hle101 (by decide) (fun _ _ _ => trivial)
          have hF101_O : FRM cnt [0, 2] (fun z => (la z < 10 ∨ 10 < la z) ∧ (la z < 300 ∨ 300 < la z) ∧ (la z < 90 ∨ 90 + 8 < la z) ∧ (la z < 200 ∨ 200 + 3 < la z) ∧ (la z < D ∨ D + 5 < la z)) O O101 := FRM_trans (FRM_set hF49_O (by decide) (fun z h1 h2 => hf20 z ⟨h1, h2⟩)) qO101 hle101 (by decide) (fun _ _ _ => trivial)
          have hln101 : ∀ z, z < cnt → ln101 z = ln z := fun z hz => (ql101 z (Nat.lt_of_lt_of_le hz hle101)).trans (hln49 z hz)
          have g22 := ag101 this lt8
          have lt23 : this < cnt101 := by omega
          have hdr101 : ∀ b, P101 224 this = some b → b < cnt101 ∧ la101 b = D := by
            intro b hb
            rw [qP101 224 this lt8 (fun q => absurd q (by decide))] at hb
            obtain ⟨h2, h3⟩ := hdr49 b hb
            exact ⟨by omega, (ag101 b h2).trans h3⟩
          have ltn101 : c49_cnt < cnt101 := by omega
          have hsw24 : SWT (P101 181) (P101 182) (P101 186) (P101 187) tn nw nx ah bh := SWT_fr hsw19 (qP101 181 tn (show tn < c49_cnt from by omega) (fun q => absurd q (by decide))) (qP101 182 tn (show tn < c49_cnt from by omega) (fun q => absurd q (by decide))) (qP101 186 tn (show tn < c49_cnt from by omega) (fun q => absurd q (by decide))) (qP101 187 tn (show tn < c49_cnt from by omega) (fun q => absurd q (by decide)))
          refine pw_bA9 (fun c105_G c105_P c105_U c105_V c105_X c105_O c105_kd c105_ln c105_cnt v1_105 v2_105 hc105 => ?_)
          have hq105 := fr_X5_init la101 G101 P101 U101 V101 X101 O101 kd101 ln101 cnt101 c49_cnt hB101 ltn101 _ hc105
          obtain ⟨la105_25, ag105, hB105, cc105, qG105, qP105, qU105, qV105, qX105, qO105, ql105⟩ : ∃ la9 : Nat → Nat, (∀ z, z < cnt101 → la9 z = la101 z) ∧ LB la9 c105_cnt c105_P ∧ cnt101 ≤ c105_cnt ∧ FRM cnt101 [100, 102, 107, 200, 203] (fun z => z ≠ c49_cnt) G101 c105_G ∧ FRM cnt101 [101, 103, 104, 105, 106, 108, 109, 110, 201, 202] (fun z => z ≠ c49_cnt) P101 c105_P ∧ FRM cnt101 [] (fun z => z ≠ c49_cnt) U101 c105_U ∧ FRM cnt101 [] (fun z => z ≠ c49_cnt) V101 c105_V ∧ FRM cnt101 [] (fun z => z ≠ c49_cnt) X101 c105_X ∧ FRM cnt101 [] (fun z => z ≠ c49_cnt) O101 c105_O ∧ (∀ z, z < cnt101 → c105_ln z = ln101 z) := hq105
          have hle105 : cnt ≤ cnt101 := by omega
          have hg105 : ∀ z, z < cnt → la105_25 z = la z := fun z hz => (ag105 z (Nat.lt_of_lt_of_le hz hle105)).trans (hg101 z hz)
          have hF105_G : FRM cnt [24, 25, 80, 81, 83, 84, 85, 86, 87, 88, 100, 102, 107, 141, 183, 203, 222, 223] (fun z => (la z < 10 ∨ 10 < la z) ∧ (la z < 300 ∨ 300 < la z) ∧ (la z < 90 ∨ 90 + 8 < la z) ∧ (la z < 200 ∨ 200 + 3 < la z) ∧ (la z < D ∨ D + 5 < la z)) G c105_G := FRM_tri hF101_G qG105 hle105 (show cnt ≤ c49_cnt from by omega)
          have hF105_P : FRM cnt [22, 23, 82, 181, 182, 224] (fun z => (la z < 10 ∨ 10 < la z) ∧ (la z < 300 ∨ 300 < la z) ∧ (la z < 90 ∨ 90 + 8 < la z) ∧ (la z < 200 ∨ 200 + 3 < la z) ∧ (la z < D ∨ D + 5 < la z)) P c105_P := FRM_tri hF101_P qP105 hle105 (show cnt ≤ c49_cnt from by omega)
          have hF105_U : FRM cnt [184] (fun z => (la z < 10 ∨ 10 < la z) ∧ (la z < 300 ∨ 300 < la z) ∧ (la z < 90 ∨ 90 + 8 < la z) ∧ (la z < 200 ∨ 200 + 3 < la z) ∧ (la z < D ∨ D + 5 < la z)) U c105_U := FRM_tri hF101_U qU105 hle105 (show cnt ≤ c49_cnt from by omega)
          have hF105_V : FRM cnt [0, 1, 10, 11] (fun z => (la z < 10 ∨ 10 < la z) ∧ (la z < 300 ∨ 300 < la z) ∧ (la z < 90 ∨ 90 + 8 < la z) ∧ (la z < 200 ∨ 200 + 3 < la z) ∧ (la z < D ∨ D + 5 < la z)) V c105_V := FRM_tri hF101_V qV105 hle105 (show cnt ≤ c49_cnt from by omega)
          have hF105_X : FRM cnt [0] (fun z => (la z < 10 ∨ 10 < la z) ∧ (la z < 300 ∨ 300 < la z) ∧ (la z < 90 ∨ 90 + 8 < la z) ∧ (la z < 200 ∨ 200 + 3 < la z) ∧ (la z < D ∨ D + 5 < la z)) X c105_X := FRM_tri hF101_X qX105 hle105 (show cnt ≤ c49_cnt from by omega)
          have hF105_O : FRM cnt [0, 2] (fun z => (la z < 10 ∨ 10 < la z) ∧ (la z < 300 ∨ 300 < la z) ∧ (la z < 90 ∨ 90 + 8 < la z) ∧ (la z < 200 ∨ 200 + 3 < la z) ∧ (la z < D ∨ D + 5 < la z)) O c105_O := FRM_tri hF101_O qO105 hle105 (show cnt ≤ c49_cnt from by omega)
          have hln105 : ∀ z, z < cnt → c105_ln z = ln z := fun z hz => (ql105 z (Nat.lt_of_lt_of_le hz hle105)).trans (hln101 z hz)
          have g26 := ag105 this lt23
          have lt27 : this < c105_cnt := by omega
          have g28 := ag105 c49_cnt ltn101
          have lt29 : c49_cnt < c105_cnt := by omega
          have hdr105 : ∀ b, c105_P 224 this = some b → b < c105_cnt ∧ la105_25 b = D := by
            intro b hb
            rw [qP105 224 this lt23 (fun q => absurd q (by decide))] at hb
            obtain ⟨h2, h3⟩ := hdr101 b hb
            exact ⟨by omega, (ag105 b h2).trans h3⟩
          have hsw30 : SWT (c105_P 181) (c105_P 182) (c105_P 186) (c105_P 187) tn nw nx ah bh := SWT_fr hsw24 (qP105 181 tn (show tn < cnt101 from by omega) (fun q => absurd q (by decide))) (qP105 182 tn (show tn < cnt101 from by omega) (fun q => absurd q (by decide))) (qP105 186 tn (show tn < cnt101 from by omega) (fun q => absurd q (by decide))) (qP105 187 tn (show tn < cnt101 from by omega) (fun q => absurd q (by decide)))
          refine pw_vl (fun m108 em108 => ?_)
          have hl31 : LC 224 la105_25 c105_cnt m108 := LC_up (hB105.1 224 fl_224) em108 (by omega) (by omega) (lk_224 _ _)
          have hdr108 : ∀ b, m108 this = some b → b < c105_cnt ∧ la105_25 b = 100000 + 10 * c49_cnt := fun b hb => by rw [em108, va_up_self] at hb; cases hb; exact ⟨by omega, by omega⟩
          have hf32 : ∀ z, (z < cnt ∧ (la z < 10 ∨ 10 < la z) ∧ (la z < 300 ∨ 300 < la z) ∧ (la z < 90 ∨ 90 + 8 < la z) ∧ (la z < 200 ∨ 200 + 3 < la z) ∧ (la z < D ∨ D + 5 < la z)) → m108 z = (P 224) z := fr_up (e0 := (P 224)) (fun z hz => hF105_P 224 z hz.1 (fun _ => hz.2)) em108 (show ¬ (this < cnt ∧ (la this < 10 ∨ 10 < la this) ∧ (la this < 300 ∨ 300 < la this) ∧ (la this < 90 ∨ 90 + 8 < la this) ∧ (la this < 200 ∨ 200 + 3 < la this) ∧ (la this < D ∨ D + 5 < la this)) from fun hz => by have q1 := hg105 this hz.1; omega)
          refine pw_vl (fun m113 em113 => ?_)
          have hf33 : ∀ z, (z < cnt ∧ (la z < 10 ∨ 10 < la z) ∧ (la z < 300 ∨ 300 < la z) ∧ (la z < 90 ∨ 90 + 8 < la z) ∧ (la z < 200 ∨ 200 + 3 < la z) ∧ (la z < D ∨ D + 5 < la z)) → m113 z = (G 223) z := fr_up (e0 := (G 223)) (fun z hz => hF105_G 223 z hz.1 (fun _ => hz.2)) em113 (show ¬ (this < cnt ∧ (la this < 10 ∨ 10 < la this) ∧ (la this < 300 ∨ 300 < la this) ∧ (la this < 90 ∨ 90 + 8 < la this) ∧ (la this < 200 ∨ 200 + 3 < la this) ∧ (la this < D ∨ D + 5 < la this)) from fun hz => by have q1 := hg105 this hz.1; omega)
          refine pw_vl (fun x123 _ => ?_)
          refine pw_vl (fun m123 em123 => ?_)
          have hf34 : ∀ z, (z < cnt ∧ (la z < 10 ∨ 10 < la z) ∧ (la z < 300 ∨ 300 < la z) ∧ (la z < 90 ∨ 90 + 8 < la z) ∧ (la z < 200 ∨ 200 + 3 < la z) ∧ (la z < D ∨ D + 5 < la z)) → m123 z = (G 222) z := fr_up (e0 := (G 222)) (fun z hz => hF105_G 222 z hz.1 (fun _ => hz.2)) em123 (show ¬ (this < cnt ∧ (la this < 10 ∨ 10 < la this) ∧ (la this < 300 ∨ 300 < la this) ∧ (la this < 90 ∨ 90 + 8 < la this) ∧ (la this < 200 ∨ 200 + 3 < la this) ∧ (la this < D ∨ D + 5 < la this)) from fun hz => by have q1 := hg105 this hz.1; omega)
          exact pw_some (hsw30)
        · skip
          exact pw_some (hsw9)
      · skip
        exact pw_some (hsw9)
    · skip
      exact Jj22
abbrev RW_X0_fill (G : Nat → Nat → Int32) (P : Nat → Nat → Option Nat) (U : Nat → Nat → Int64) (V : Nat → Nat → Nat → Int32) (X : Nat → Nat → Nat → Int64) (O : Nat → Nat → Nat → Option Nat) (kd : Nat → Nat) (ln : Nat → Nat) (cnt : Nat) (this : Nat) (p0 : Int32) (p1 : Nat) (p2 : Nat) (tn nw nx ah bh : Nat) : ((Nat → Nat → Int32) × (Nat → Nat → Option Nat) × (Nat → Nat → Int64) × (Nat → Nat → Nat → Int32) × (Nat → Nat → Nat → Int64) × (Nat → Nat → Nat → Option Nat) × (Nat → Nat) × (Nat → Nat) × Nat) → Prop := fun t => SWT ((t.2.1) 181) ((t.2.1) 182) ((t.2.1) 186) ((t.2.1) 187) tn nw nx ah bh
set_option maxHeartbeats 4000000 in
set_option maxRecDepth 100000 in
theorem sw_X0_fill (la : Nat → Nat) (G : Nat → Nat → Int32) (P : Nat → Nat → Option Nat) (U : Nat → Nat → Int64) (V : Nat → Nat → Nat → Int32) (X : Nat → Nat → Nat → Int64) (O : Nat → Nat → Nat → Option Nat) (kd : Nat → Nat) (ln : Nat → Nat) (cnt : Nat) (this : Nat) (p0 : Int32) (p1 : Nat) (p2 : Nat) (hB : LB la cnt P) (hlt_this : this < cnt) (hlt_p1 : p1 < cnt) (hlt_p2 : p2 < cnt) (tn nw nx ah bh : Nat) (htn : tn < cnt) (hs : SWT (P 181) (P 182) (P 186) (P 187) tn nw nx ah bh) : pw (f_X0_fill G P U V X O kd ln cnt this p0 p1 p2) (sp1 (RW_X0_fill G P U V X O kd ln cnt this p0 p1 p2 tn nw nx ah bh)) := by
  unfold f_X0_fill
  refine pw_jn (fun k194 => ∀ (c194_G : Nat → Nat → Int32) (c194_P : Nat → Nat → Option Nat) (c194_U : Nat → Nat → Int64) (c194_V : Nat → Nat → Nat → Int32) (c194_X : Nat → Nat → Nat → Int64) (c194_O : Nat → Nat → Nat → Option Nat) (c194_kd : Nat → Nat) (c194_ln : Nat → Nat) (c194_cnt : Nat) (la194 : Nat → Nat), (∀ z, z < cnt → la194 z = la z) → LB la194 c194_cnt c194_P → cnt ≤ c194_cnt → FRM cnt [60, 183, 203] (fun z => (la z < la this ∨ la this + 2 < la z) ∧ (la z < la p2 ∨ la p2 + 8 < la z)) G c194_G → FRM cnt [66, 181, 182] (fun z => (la z < la this ∨ la this + 2 < la z) ∧ (la z < la p2 ∨ la p2 + 8 < la z)) P c194_P → FRM cnt [184] (fun z => (la z < la this ∨ la this + 2 < la z) ∧ (la z < la p2 ∨ la p2 + 8 < la z)) U c194_U → FRM cnt [0, 1, 2, 3, 12] (fun z => (la z < la this ∨ la this + 2 < la z) ∧ (la z < la p2 ∨ la p2 + 8 < la z)) V c194_V → FRM cnt [1] (fun z => (la z < la this ∨ la this + 2 < la z) ∧ (la z < la p2 ∨ la p2 + 8 < la z)) X c194_X → FRM cnt [1] (fun z => (la z < la this ∨ la this + 2 < la z) ∧ (la z < la p2 ∨ la p2 + 8 < la z)) O c194_O → (∀ z, z < cnt → c194_ln z = ln z) → (SWT (c194_P 181) (c194_P 182) (c194_P 186) (c194_P 187) tn nw nx ah bh) → pw (k194 c194_G c194_P c194_U c194_V c194_X c194_O c194_kd c194_ln c194_cnt) (sp1 (RW_X0_fill G P U V X O kd ln cnt this p0 p1 p2 tn nw nx ah bh))) ?_ ?_
  · intro c194_G c194_P c194_U c194_V c194_X c194_O c194_kd c194_ln c194_cnt la194 hag194 hB194 hcc194 hF194_G hF194_P hF194_U hF194_V hF194_X hF194_O hln194 hsw1
    show pw _ _
    have g2 := hag194 this hlt_this
    have lt3 : this < c194_cnt := by omega
    have g4 := hag194 p1 hlt_p1
    have lt5 : p1 < c194_cnt := by omega
    have g6 := hag194 p2 hlt_p2
    have lt7 : p2 < c194_cnt := by omega
    exact pw_some (hsw1)
  intro k194 Jk194
  have lp3 : ∀ (n3 : Nat) (y3_4 : Int32) (d3_G : Nat → Nat → Int32) (d3_P : Nat → Nat → Option Nat) (d3_U : Nat → Nat → Int64) (d3_V : Nat → Nat → Nat → Int32) (d3_X : Nat → Nat → Nat → Int64) (d3_O : Nat → Nat → Nat → Option Nat) (d3_kd : Nat → Nat) (d3_ln : Nat → Nat) (d3_cnt : Nat) (la3 : Nat → Nat), (∀ z, z < cnt → la3 z = la z) → LB la3 d3_cnt d3_P → cnt ≤ d3_cnt → FRM cnt [60, 183, 203] (fun z => (la z < la this ∨ la this + 2 < la z) ∧ (la z < la p2 ∨ la p2 + 8 < la z)) G d3_G → FRM cnt [66, 181, 182] (fun z => (la z < la this ∨ la this + 2 < la z) ∧ (la z < la p2 ∨ la p2 + 8 < la z)) P d3_P → FRM cnt [184] (fun z => (la z < la this ∨ la this + 2 < la z) ∧ (la z < la p2 ∨ la p2 + 8 < la z)) U d3_U → FRM cnt [0, 1, 2, 3, 12] (fun z => (la z < la this ∨ la this + 2 < la z) ∧ (la z < la p2 ∨ la p2 + 8 < la z)) V d3_V → FRM cnt [1] (fun z => (la z < la this ∨ la this + 2 < la z) ∧ (la z < la p2 ∨ la p2 + 8 < la z)) X d3_X → FRM cnt [1] (fun z => (la z < la this ∨ la this + 2 < la z) ∧ (la z < la p2 ∨ la p2 + 8 < la z)) O d3_O → (∀ z, z < cnt → d3_ln z = ln z) → (SWT (d3_P 181) (d3_P 182) (d3_P 186) (d3_P 187) tn nw nx ah bh) → pw (L_X0_fill_3 this p0 p1 p2 k194 n3 y3_4 d3_G d3_P d3_U d3_V d3_X d3_O d3_kd d3_ln d3_cnt) (sp1 (RW_X0_fill G P U V X O kd ln cnt this p0 p1 p2 tn nw nx ah bh)) := by
    intro n3
    induction n3 with
    | zero => intros; exact pw_none
    | succ n3 ih3 =>
      intro y3_4 d3_G d3_P d3_U d3_V d3_X d3_O d3_kd d3_ln d3_cnt la3 hag3 hB3 hcc3 hF3_G hF3_P hF3_U hF3_V hF3_X hF3_O hln3 hsw8
      show pw (B_X0_fill_3 this p0 p1 p2 k194 (L_X0_fill_3 this p0 p1 p2 k194 n3) y3_4 d3_G d3_P d3_U d3_V d3_X d3_O d3_kd d3_ln d3_cnt) _
      unfold B_X0_fill_3
      have g9 := hag3 this hlt_this
      have lt10 : this < d3_cnt := by omega
      have g11 := hag3 p1 hlt_p1
      have lt12 : p1 < d3_cnt := by omega
      have g13 := hag3 p2 hlt_p2
      have lt14 : p2 < d3_cnt := by omega
      refine pw_ite (fun _ => ?_) (fun _ => ?_)
      · skip
        exact Jk194 d3_G d3_P d3_U d3_V d3_X d3_O d3_kd d3_ln d3_cnt la3 hag3 hB3 (by omega) hF3_G hF3_P hF3_U hF3_V hF3_X hF3_O hln3 hsw8
      · skip
        refine pw_ite (fun _ => ?_) (fun _ => ?_)
        · skip
          exact Jk194 d3_G d3_P d3_U d3_V d3_X d3_O d3_kd d3_ln d3_cnt la3 hag3 hB3 (by omega) hF3_G hF3_P hF3_U hF3_V hF3_X hF3_O hln3 hsw8
        · skip
          refine pw_nn (fun a17 hn_a17 => ?_)
          have lt_a17 := ((hB3.1 3 fl_3) this a17 hn_a17).2.1
          have lb_a17 : la3 a17 = la3 this + 0 := lk_3.mp ((hB3.1 3 fl_3) this a17 hn_a17).2.2
          refine pw_if (fun _ => ?_)
          refine pw_vl (fun x23 _ => ?_)
          refine pw_jn (fun k174 => ∀ (c174_G : Nat → Nat → Int32) (c174_P : Nat → Nat → Option Nat) (c174_U : Nat → Nat → Int64) (c174_V : Nat → Nat → Nat → Int32) (c174_X : Nat → Nat → Nat → Int64) (c174_O : Nat → Nat → Nat → Option Nat) (c174_kd : Nat → Nat) (c174_ln : Nat → Nat) (c174_cnt : Nat) (la174 : Nat → Nat), (∀ z, z < cnt → la174 z = la z) → LB la174 c174_cnt c174_P → cnt ≤ c174_cnt → FRM cnt [60, 183, 203] (fun z => (la z < la this ∨ la this + 2 < la z) ∧ (la z < la p2 ∨ la p2 + 8 < la z)) G c174_G → FRM cnt [66, 181, 182] (fun z => (la z < la this ∨ la this + 2 < la z) ∧ (la z < la p2 ∨ la p2 + 8 < la z)) P c174_P → FRM cnt [184] (fun z => (la z < la this ∨ la this + 2 < la z) ∧ (la z < la p2 ∨ la p2 + 8 < la z)) U c174_U → FRM cnt [0, 1, 2, 3, 12] (fun z => (la z < la this ∨ la this + 2 < la z) ∧ (la z < la p2 ∨ la p2 + 8 < la z)) V c174_V → FRM cnt [1] (fun z => (la z < la this ∨ la this + 2 < la z) ∧ (la z < la p2 ∨ la p2 + 8 < la z)) X c174_X → FRM cnt [1] (fun z => (la z < la this ∨ la this + 2 < la z) ∧ (la z < la p2 ∨ la p2 + 8 < la z)) O c174_O → (∀ z, z < cnt → c174_ln z = ln z) → (SWT (c174_P 181) (c174_P 182) (c174_P 186) (c174_P 187) tn nw nx ah bh) → pw (k174 c174_G c174_P c174_U c174_V c174_X c174_O c174_kd c174_ln c174_cnt) (sp1 (RW_X0_fill G P U V X O kd ln cnt this p0 p1 p2 tn nw nx ah bh))) ?_ ?_
          · intro c174_G c174_P c174_U c174_V c174_X c174_O c174_kd c174_ln c174_cnt la174 hag174 hB174 hcc174 hF174_G hF174_P hF174_U hF174_V hF174_X hF174_O hln174 hsw15
            show pw _ _
            have g16 := hag174 this hlt_this
            have lt17 : this < c174_cnt := by omega
            have g18 := hag174 p1 hlt_p1
            have lt19 : p1 < c174_cnt := by omega
            have g20 := hag174 p2 hlt_p2
            have lt21 : p2 < c174_cnt := by omega
            refine pw_nn (fun a175 hn_a175 => ?_)
            have lt_a175 := ((hB174.1 3 fl_3) this a175 hn_a175).2.1
            have lb_a175 : la174 a175 = la174 this + 0 := lk_3.mp ((hB174.1 3 fl_3) this a175 hn_a175).2.2
            refine pw_nn (fun a181 hn_a181 => ?_)
            have lt_a181 := ((hB174.1 0 fl_0) this a181 hn_a181).2.1
            have lb_a181 : la174 a181 = 20 := lk_0.mp ((hB174.1 0 fl_0) this a181 hn_a181).2.2
            refine pw_if (fun _ => ?_)
            refine pw_vl (fun m187 em187 => ?_)
            have hf22 : ∀ z, (z < cnt ∧ (la z < la this ∨ la this + 2 < la z) ∧ (la z < la p2 ∨ la p2 + 8 < la z)) → m187 z = (V 3) z := fr_up (e0 := (V 3)) (fun z hz => hF174_V 3 z hz.1 (fun _ => hz.2)) em187 (show ¬ (a175 < cnt ∧ (la a175 < la this ∨ la this + 2 < la a175) ∧ (la a175 < la p2 ∨ la p2 + 8 < la a175)) from fun hz => by have q1 := hag174 a175 hz.1; omega)
            exact ih3 (y3_4 + 1) c174_G c174_P c174_U (va_up c174_V 3 m187) c174_X c174_O c174_kd c174_ln c174_cnt la174 hag174 hB174 (by omega) hF174_G hF174_P hF174_U (FRM_set hF174_V (by decide) (fun z h1 h2 => hf22 z ⟨h1, h2⟩)) hF174_X hF174_O hln174 hsw15
          intro k174 Jk174
          have lp25 : ∀ (n25 : Nat) (y25_5 : Int32) (d25_G : Nat → Nat → Int32) (d25_P : Nat → Nat → Option Nat) (d25_U : Nat → Nat → Int64) (d25_V : Nat → Nat → Nat → Int32) (d25_X : Nat → Nat → Nat → Int64) (d25_O : Nat → Nat → Nat → Option Nat) (d25_kd : Nat → Nat) (d25_ln : Nat → Nat) (d25_cnt : Nat) (la25 : Nat → Nat), (∀ z, z < cnt → la25 z = la z) → LB la25 d25_cnt d25_P → cnt ≤ d25_cnt → FRM cnt [60, 183, 203] (fun z => (la z < la this ∨ la this + 2 < la z) ∧ (la z < la p2 ∨ la p2 + 8 < la z)) G d25_G → FRM cnt [66, 181, 182] (fun z => (la z < la this ∨ la this + 2 < la z) ∧ (la z < la p2 ∨ la p2 + 8 < la z)) P d25_P → FRM cnt [184] (fun z => (la z < la this ∨ la this + 2 < la z) ∧ (la z < la p2 ∨ la p2 + 8 < la z)) U d25_U → FRM cnt [0, 1, 2, 3, 12] (fun z => (la z < la this ∨ la this + 2 < la z) ∧ (la z < la p2 ∨ la p2 + 8 < la z)) V d25_V → FRM cnt [1] (fun z => (la z < la this ∨ la this + 2 < la z) ∧ (la z < la p2 ∨ la p2 + 8 < la z)) X d25_X → FRM cnt [1] (fun z => (la z < la this ∨ la this + 2 < la z) ∧ (la z < la p2 ∨ la p2 + 8 < la z)) O d25_O → (∀ z, z < cnt → d25_ln z = ln z) → (SWT (d25_P 181) (d25_P 182) (d25_P 186) (d25_P 187) tn nw nx ah bh) → pw (L_X0_fill_25 this p1 p2 y3_4 k174 n25 y25_5 d25_G d25_P d25_U d25_V d25_X d25_O d25_kd d25_ln d25_cnt) (sp1 (RW_X0_fill G P U V X O kd ln cnt this p0 p1 p2 tn nw nx ah bh)) := by
            intro n25
            induction n25 with
            | zero => intros; exact pw_none
            | succ n25 ih25 =>
              intro y25_5 d25_G d25_P d25_U d25_V d25_X d25_O d25_kd d25_ln d25_cnt la25 hag25 hB25 hcc25 hF25_G hF25_P hF25_U hF25_V hF25_X hF25_O hln25 hsw23
              show pw (B_X0_fill_25 this p1 p2 y3_4 k174 (L_X0_fill_25 this p1 p2 y3_4 k174 n25) y25_5 d25_G d25_P d25_U d25_V d25_X d25_O d25_kd d25_ln d25_cnt) _
              unfold B_X0_fill_25
              have g24 := hag25 this hlt_this
              have lt25 : this < d25_cnt := by omega
              have g26 := hag25 p1 hlt_p1
              have lt27 : p1 < d25_cnt := by omega
              have g28 := hag25 p2 hlt_p2
              have lt29 : p2 < d25_cnt := by omega
              refine pw_nn (fun a28 hn_a28 => ?_)
              have lt_a28 := ((hB25.1 0 fl_0) this a28 hn_a28).2.1
              have lb_a28 : la25 a28 = 20 := lk_0.mp ((hB25.1 0 fl_0) this a28 hn_a28).2.2
              refine pw_ite (fun _ => ?_) (fun _ => ?_)
              · skip
                exact Jk174 d25_G d25_P d25_U d25_V d25_X d25_O d25_kd d25_ln d25_cnt la25 hag25 hB25 (by omega) hF25_G hF25_P hF25_U hF25_V hF25_X hF25_O hln25 hsw23
              · skip
                refine pw_nn (fun a38 hn_a38 => ?_)
                have lt_a38 := ((hB25.1 4 fl_4) this a38 hn_a38).2.1
                have lb_a38 : la25 a38 = la25 this + 1 := lk_4.mp ((hB25.1 4 fl_4) this a38 hn_a38).2.2
                refine pw_vl (fun m42 em42 => ?_)
                have hf30 : ∀ z, (z < cnt ∧ (la z < la this ∨ la this + 2 < la z) ∧ (la z < la p2 ∨ la p2 + 8 < la z)) → m42 z = (G 203) z := fr_up (e0 := (G 203)) (fun z hz => hF25_G 203 z hz.1 (fun _ => hz.2)) em42 (show ¬ (a38 < cnt ∧ (la a38 < la this ∨ la this + 2 < la a38) ∧ (la a38 < la p2 ∨ la p2 + 8 < la a38)) from fun hz => by have q1 := hag25 a38 hz.1; omega)
                refine pw_jn (fun j126 => ∀ (c126_G60 : Nat → Int32) (c126_G183 : Nat → Int32) (c126_G203 : Nat → Int32) (c126_P66 : Nat → Option Nat) (c126_P181 : Nat → Option Nat) (c126_P182 : Nat → Option Nat) (c126_U184 : Nat → Int64) (c126_V0 : Nat → Nat → Int32) (c126_V1 : Nat → Nat → Int32) (c126_V2 : Nat → Nat → Int32) (c126_V12 : Nat → Nat → Int32) (c126_X1 : Nat → Nat → Int64), (∀ z, (z < cnt ∧ (la z < la this ∨ la this + 2 < la z) ∧ (la z < la p2 ∨ la p2 + 8 < la z)) → c126_G60 z = (G 60) z) → (∀ z, (z < cnt ∧ (la z < la this ∨ la this + 2 < la z) ∧ (la z < la p2 ∨ la p2 + 8 < la z)) → c126_G183 z = (G 183) z) → (∀ z, (z < cnt ∧ (la z < la this ∨ la this + 2 < la z) ∧ (la z < la p2 ∨ la p2 + 8 < la z)) → c126_G203 z = (G 203) z) → (∀ z, (z < cnt ∧ (la z < la this ∨ la this + 2 < la z) ∧ (la z < la p2 ∨ la p2 + 8 < la z)) → c126_P66 z = (P 66) z) → LC 66 la25 d25_cnt c126_P66 → (∀ z, (z < cnt ∧ (la z < la this ∨ la this + 2 < la z) ∧ (la z < la p2 ∨ la p2 + 8 < la z)) → c126_P181 z = (P 181) z) → LC 181 la25 d25_cnt c126_P181 → (∀ z, (z < cnt ∧ (la z < la this ∨ la this + 2 < la z) ∧ (la z < la p2 ∨ la p2 + 8 < la z)) → c126_P182 z = (P 182) z) → LC 182 la25 d25_cnt c126_P182 → (∀ z, (z < cnt ∧ (la z < la this ∨ la this + 2 < la z) ∧ (la z < la p2 ∨ la p2 + 8 < la z)) → c126_U184 z = (U 184) z) → (∀ z, (z < cnt ∧ (la z < la this ∨ la this + 2 < la z) ∧ (la z < la p2 ∨ la p2 + 8 < la z)) → c126_V0 z = (V 0) z) → (∀ z, (z < cnt ∧ (la z < la this ∨ la this + 2 < la z) ∧ (la z < la p2 ∨ la p2 + 8 < la z)) → c126_V1 z = (V 1) z) → (∀ z, (z < cnt ∧ (la z < la this ∨ la this + 2 < la z) ∧ (la z < la p2 ∨ la p2 + 8 < la z)) → c126_V2 z = (V 2) z) → (∀ z, (z < cnt ∧ (la z < la this ∨ la this + 2 < la z) ∧ (la z < la p2 ∨ la p2 + 8 < la z)) → c126_V12 z = (V 12) z) → (∀ z, (z < cnt ∧ (la z < la this ∨ la this + 2 < la z) ∧ (la z < la p2 ∨ la p2 + 8 < la z)) → c126_X1 z = (X 1) z) → (SWT c126_P181 c126_P182 (d25_P 186) (d25_P 187) tn nw nx ah bh) → pw (j126 c126_G60 c126_G183 c126_G203 c126_P66 c126_P181 c126_P182 c126_U184 c126_V0 c126_V1 c126_V2 c126_V12 c126_X1) (sp1 (RW_X0_fill G P U V X O kd ln cnt this p0 p1 p2 tn nw nx ah bh))) ?_ ?_
                · intro c126_G60 c126_G183 c126_G203 c126_P66 c126_P181 c126_P182 c126_U184 c126_V0 c126_V1 c126_V2 c126_V12 c126_X1 hf31 hf32 hf33 hf34 hl35 hf36 hl37 hf38 hl39 hf40 hf41 hf42 hf43 hf44 hf45 hsw46
                  show pw _ _
                  refine pw_tk ?_
                  refine pw_newc (la := la25) (L := 100000 + 10 * d25_cnt) (LB_set (LB_set (LB_set hB25 hl35) hl37) hl39) (by have q47 := hB25.2 this lt25; omega) (fun la126 G126 P126 U126 V126 X126 O126 kd126 ln126 cnt126 hcn126 hB126 hL126 ag126 qG126 qP126 qU126 qV126 qX126 qO126 ql126 => ?_)
                  have hle126 : cnt ≤ d25_cnt := by omega
                  have hg126 : ∀ z, z < cnt → la126 z = la z := fun z hz => (ag126 z (Nat.lt_of_lt_of_le hz hle126)).trans (hag25 z hz)
                  have hF126_G : FRM cnt [60, 183, 203] (fun z => (la z < la this ∨ la this + 2 < la z) ∧ (la z < la p2 ∨ la p2 + 8 < la z)) G G126 := FRM_trans (FRM_set (FRM_set (FRM_set hF25_G (by decide) (fun z h1 h2 => hf31 z ⟨h1, h2⟩)) (by decide) (fun z h1 h2 => hf32 z ⟨h1, h2⟩)) (by decide) (fun z h1 h2 => hf33 z ⟨h1, h2⟩)) qG126 hle126 (by decide) (fun _ _ _ => trivial)
                  have hF126_P : FRM cnt [66, 181, 182] (fun z => (la z < la this ∨ la this + 2 < la z) ∧ (la z < la p2 ∨ la p2 + 8 < la z)) P P126 := FRM_trans (FRM_set (FRM_set (FRM_set hF25_P (by decide) (fun z h1 h2 => hf34 z ⟨h1, h2⟩)) (by decide) (fun z h1 h2 => hf36 z ⟨h1, h2⟩)) (by decide) (fun z h1 h2 => hf38 z ⟨h1, h2⟩)) qP126 hle126 (by decide) (fun _ _ _ => trivial)
                  have hF126_U : FRM cnt [184] (fun z => (la z < la this ∨ la this + 2 < la z) ∧ (la z < la p2 ∨ la p2 + 8 < la z)) U U126 := FRM_trans (FRM_set hF25_U (by decide) (fun z h1 h2 => hf40 z ⟨h1, h2⟩)) qU126 hle126 (by decide) (fun _ _ _ => trivial)
                  have hF126_V : FRM cnt [0, 1, 2, 3, 12] (fun z => (la z < la this ∨ la this + 2 < la z) ∧ (la z < la p2 ∨ la p2 + 8 < la z)) V V126 := FRM_trans (FRM_set (FRM_set (FRM_set (FRM_set hF25_V (by decide) (fun z h1 h2 => hf41 z ⟨h1, h2⟩)) (by decide) (fun z h1 h2 => hf42 z ⟨h1, h2⟩)) (by decide) (fun z h1 h2 => hf43 z ⟨h1, h2⟩)) (by decide) (fun z h1 h2 => hf44 z ⟨h1, h2⟩)) qV126 hle126 (by decide) (fun _ _ _ => trivial)
                  have hF126_X : FRM cnt [1] (fun z => (la z < la this ∨ la this + 2 < la z) ∧ (la z < la p2 ∨ la p2 + 8 < la z)) X X126 := FRM_trans (FRM_set hF25_X (by decide) (fun z h1 h2 => hf45 z ⟨h1, h2⟩)) qX126 hle126 (by decide) (fun _ _ _ => trivial)
                  have hF126_O : FRM cnt [1] (fun z => (la z < la this ∨ la this + 2 < la z) ∧ (la z < la p2 ∨ la p2 + 8 < la z)) O O126 := FRM_trans hF25_O qO126 hle126 (by decide) (fun _ _ _ => trivial)
                  have hln126 : ∀ z, z < cnt → ln126 z = ln z := fun z hz => (ql126 z (Nat.lt_of_lt_of_le hz hle126)).trans (hln25 z hz)
                  have g48 := ag126 this lt25
                  have lt49 : this < cnt126 := by omega
                  have g50 := ag126 p1 lt27
                  have lt51 : p1 < cnt126 := by omega
                  have g52 := ag126 p2 lt29
                  have lt53 : p2 < cnt126 := by omega
                  have ltn126 : d25_cnt < cnt126 := by omega
                  have hsw54 : SWT (P126 181) (P126 182) (P126 186) (P126 187) tn nw nx ah bh := SWT_fr hsw46 (qP126 181 tn (show tn < d25_cnt from by omega) (fun q => absurd q (by decide))) (qP126 182 tn (show tn < d25_cnt from by omega) (fun q => absurd q (by decide))) (qP126 186 tn (show tn < d25_cnt from by omega) (fun q => absurd q (by decide))) (qP126 187 tn (show tn < d25_cnt from by omega) (fun q => absurd q (by decide)))
                  refine pw_nn (fun a131 hn_a131 => ?_)
                  have lt_a131 := ((hB126.1 4 fl_4) this a131 hn_a131).2.1
                  have lb_a131 : la126 a131 = la126 this + 1 := lk_4.mp ((hB126.1 4 fl_4) this a131 hn_a131).2.2
                  refine pw_bA9 (fun c139_G c139_P c139_U c139_V c139_X c139_O c139_kd c139_ln c139_cnt v1_139 v2_139 hc139 => ?_)
                  have hq139 := fr_X10_init la126 G126 P126 U126 V126 X126 O126 kd126 ln126 cnt126 d25_cnt ((G126 203) a131) (24 : Int32) hB126 ltn126 _ hc139
                  obtain ⟨la139_55, ag139, hB139, cc139, qG139, qP139, qU139, qV139, qX139, qO139, ql139⟩ : ∃ la9 : Nat → Nat, (∀ z, z < cnt126 → la9 z = la126 z) ∧ LB la9 c139_cnt c139_P ∧ cnt126 ≤ c139_cnt ∧ FRM cnt126 [200, 203] (fun z => z ≠ d25_cnt) G126 c139_G ∧ FRM cnt126 [201, 202] (fun z => z ≠ d25_cnt) P126 c139_P ∧ FRM cnt126 [] (fun z => z ≠ d25_cnt) U126 c139_U ∧ FRM cnt126 [] (fun z => z ≠ d25_cnt) V126 c139_V ∧ FRM cnt126 [] (fun z => z ≠ d25_cnt) X126 c139_X ∧ FRM cnt126 [] (fun z => z ≠ d25_cnt) O126 c139_O ∧ (∀ z, z < cnt126 → c139_ln z = ln126 z) := hq139
                  have hle139 : cnt ≤ cnt126 := by omega
                  have hg139 : ∀ z, z < cnt → la139_55 z = la z := fun z hz => (ag139 z (Nat.lt_of_lt_of_le hz hle139)).trans (hg126 z hz)
                  have hF139_G : FRM cnt [60, 183, 203] (fun z => (la z < la this ∨ la this + 2 < la z) ∧ (la z < la p2 ∨ la p2 + 8 < la z)) G c139_G := FRM_tri hF126_G qG139 hle139 (show cnt ≤ d25_cnt from by omega)
                  have hF139_P : FRM cnt [66, 181, 182] (fun z => (la z < la this ∨ la this + 2 < la z) ∧ (la z < la p2 ∨ la p2 + 8 < la z)) P c139_P := FRM_tri hF126_P qP139 hle139 (show cnt ≤ d25_cnt from by omega)
                  have hF139_U : FRM cnt [184] (fun z => (la z < la this ∨ la this + 2 < la z) ∧ (la z < la p2 ∨ la p2 + 8 < la z)) U c139_U := FRM_tri hF126_U qU139 hle139 (show cnt ≤ d25_cnt from by omega)
                  have hF139_V : FRM cnt [0, 1, 2, 3, 12] (fun z => (la z < la this ∨ la this + 2 < la z) ∧ (la z < la p2 ∨ la p2 + 8 < la z)) V c139_V := FRM_tri hF126_V qV139 hle139 (show cnt ≤ d25_cnt from by omega)
                  have hF139_X : FRM cnt [1] (fun z => (la z < la this ∨ la this + 2 < la z) ∧ (la z < la p2 ∨ la p2 + 8 < la z)) X c139_X := FRM_tri hF126_X qX139 hle139 (show cnt ≤ d25_cnt from by omega)
                  have hF139_O : FRM cnt [1] (fun z => (la z < la this ∨ la this + 2 < la z) ∧ (la z < la p2 ∨ la p2 + 8 < la z)) O c139_O := FRM_tri hF126_O qO139 hle139 (show cnt ≤ d25_cnt from by omega)
                  have hln139 : ∀ z, z < cnt → c139_ln z = ln z := fun z hz => (ql139 z (Nat.lt_of_lt_of_le hz hle139)).trans (hln126 z hz)
                  have g56 := ag139 this lt49
                  have lt57 : this < c139_cnt := by omega
                  have g58 := ag139 p1 lt51
                  have lt59 : p1 < c139_cnt := by omega
                  have g60 := ag139 p2 lt53
                  have lt61 : p2 < c139_cnt := by omega
                  have g62 := ag139 d25_cnt ltn126
                  have lt63 : d25_cnt < c139_cnt := by omega
                  have hsw64 : SWT (c139_P 181) (c139_P 182) (c139_P 186) (c139_P 187) tn nw nx ah bh := SWT_fr hsw54 (qP139 181 tn (show tn < cnt126 from by omega) (fun q => absurd q (by decide))) (qP139 182 tn (show tn < cnt126 from by omega) (fun q => absurd q (by decide))) (qP139 186 tn (show tn < cnt126 from by omega) (fun q => absurd q (by decide))) (qP139 187 tn (show tn < cnt126 from by omega) (fun q => absurd q (by decide)))
                  refine pw_nn (fun a147 hn_a147 => ?_)
                  have lt_a147 := ((hB139.1 4 fl_4) this a147 hn_a147).2.1
                  have lb_a147 : la139_55 a147 = la139_55 this + 1 := lk_4.mp ((hB139.1 4 fl_4) this a147 hn_a147).2.2
                  refine pw_b3 (fun c150_G203 c150_V0 c150_V1 hc150 => ?_)
                  have hq150 := fr_X10_copy la139_55 c139_G c139_P c139_U c139_V c139_X c139_O c139_kd c139_ln c139_cnt d25_cnt a147 hB139 _ hc150
                  obtain ⟨q150_G203, q150_V0, q150_V1⟩ : (∀ z, (la139_55 z < la139_55 d25_cnt ∨ la139_55 d25_cnt < la139_55 z) → c150_G203 z = (c139_G 203) z) ∧ (∀ z, (la139_55 z < la139_55 d25_cnt ∨ la139_55 d25_cnt < la139_55 z) → c150_V0 z = (c139_V 0) z) ∧ (∀ z, (la139_55 z < la139_55 d25_cnt ∨ la139_55 d25_cnt < la139_55 z) → c150_V1 z = (c139_V 1) z) := hq150
                  have tz150 : ∀ z, (z < cnt ∧ (la z < la this ∨ la this + 2 < la z) ∧ (la z < la p2 ∨ la p2 + 8 < la z)) → ((la139_55 z < la139_55 d25_cnt ∨ la139_55 d25_cnt < la139_55 z)) := fun z hz => by have q1 := hg139 z hz.1; have q2 := hB.2 z hz.1; omega
                  have hf65 : ∀ z, (z < cnt ∧ (la z < la this ∨ la this + 2 < la z) ∧ (la z < la p2 ∨ la p2 + 8 < la z)) → c150_G203 z = (G 203) z := fun z hz => (q150_G203 z (tz150 z hz)).trans (hF139_G 203 z hz.1 (fun _ => hz.2))
                  have hf66 : ∀ z, (z < cnt ∧ (la z < la this ∨ la this + 2 < la z) ∧ (la z < la p2 ∨ la p2 + 8 < la z)) → c150_V0 z = (V 0) z := fun z hz => (q150_V0 z (tz150 z hz)).trans (hF139_V 0 z hz.1 (fun _ => hz.2))
                  have hf67 : ∀ z, (z < cnt ∧ (la z < la this ∨ la this + 2 < la z) ∧ (la z < la p2 ∨ la p2 + 8 < la z)) → c150_V1 z = (V 1) z := fun z hz => (q150_V1 z (tz150 z hz)).trans (hF139_V 1 z hz.1 (fun _ => hz.2))
                  clear hc150
                  refine pw_nn (fun a154 hn_a154 => ?_)
                  have lt_a154 := ((hB139.1 1 fl_1) this a154 hn_a154).2.1
                  have lb_a154 : la139_55 a154 = la139_55 this + 0 := lk_1.mp ((hB139.1 1 fl_1) this a154 hn_a154).2.2
                  refine pw_if (fun _ => ?_)
                  refine pw_vl (fun m167 em167 => ?_)
                  have hf68 : ∀ z, (z < cnt ∧ (la z < la this ∨ la this + 2 < la z) ∧ (la z < la p2 ∨ la p2 + 8 < la z)) → m167 z = (O 1) z := fr_up (e0 := (O 1)) (fun z hz => hF139_O 1 z hz.1 (fun _ => hz.2)) em167 (show ¬ (a154 < cnt ∧ (la a154 < la this ∨ la this + 2 < la a154) ∧ (la a154 < la p2 ∨ la p2 + 8 < la a154)) from fun hz => by have q1 := hg139 a154 hz.1; omega)
                  exact ih25 (y25_5 + 1) (va_up c139_G 203 c150_G203) c139_P c139_U (va_up (va_up c139_V 0 c150_V0) 1 c150_V1) c139_X (va_up c139_O 1 m167) c139_kd c139_ln c139_cnt la139_55 hg139 hB139 (by omega) (FRM_set hF139_G (by decide) (fun z h1 h2 => hf65 z ⟨h1, h2⟩)) hF139_P hF139_U (FRM_set (FRM_set hF139_V (by decide) (fun z h1 h2 => hf66 z ⟨h1, h2⟩)) (by decide) (fun z h1 h2 => hf67 z ⟨h1, h2⟩)) hF139_X (FRM_set hF139_O (by decide) (fun z h1 h2 => hf68 z ⟨h1, h2⟩)) hln139 hsw64
                intro j126 Jj126
                refine pw_ite (fun _ => ?_) (fun _ => ?_)
                · skip
                  refine pw_nn (fun a51 hn_a51 => ?_)
                  have lt_a51 := ((hB25.1 4 fl_4) this a51 hn_a51).2.1
                  have lb_a51 : la25 a51 = la25 this + 1 := lk_4.mp ((hB25.1 4 fl_4) this a51 hn_a51).2.2
                  refine pw_nn (fun a55 hn_a55 => ?_)
                  have lt_a55 := ((hB25.1 0 fl_0) this a55 hn_a55).2.1
                  have lb_a55 : la25 a55 = 20 := lk_0.mp ((hB25.1 0 fl_0) this a55 hn_a55).2.2
                  refine pw_nn (fun a58 hn_a58 => ?_)
                  have lt_a58 := ((hB25.1 201 fl_201) a55 a58 hn_a58).2.1
                  have lb_a58 : la25 a58 = la25 a55 + 0 := lk_201.mp ((hB25.1 201 fl_201) a55 a58 hn_a58).2.2
                  refine pw_nn (fun a64 hn_a64 => ?_)
                  have lt_a64 := ((hB25.1 0 fl_0) this a64 hn_a64).2.1
                  have lb_a64 : la25 a64 = 20 := lk_0.mp ((hB25.1 0 fl_0) this a64 hn_a64).2.2
                  refine pw_nn (fun a72 hn_a72 => ?_)
                  have lt_a72 := ((hB25.1 0 fl_0) this a72 hn_a72).2.1
                  have lb_a72 : la25 a72 = 20 := lk_0.mp ((hB25.1 0 fl_0) this a72 hn_a72).2.2
                  refine pw_nn (fun a75 hn_a75 => ?_)
                  have lt_a75 := ((hB25.1 202 fl_202) a72 a75 hn_a75).2.1
                  have lb_a75 : la25 a75 = la25 a72 + 0 := lk_202.mp ((hB25.1 202 fl_202) a72 a75 hn_a75).2.2
                  refine pw_if (fun _ => ?_)
                  refine pw_b3 (fun c81_G203 c81_V0 c81_V1 hc81 => ?_)
                  have hq81 := fr_X10_add la25 (va_up d25_G 203 m42) d25_P d25_U d25_V d25_X d25_O d25_kd d25_ln d25_cnt a51 a58 (y25_5 * ((d25_G 200) a64)) (((d25_V 1) a75) (Int32.toNatClampNeg y25_5)) hB25 _ hc81
                  obtain ⟨q81_G203, q81_V0, q81_V1⟩ : (∀ z, (la25 z < la25 a51 ∨ la25 a51 < la25 z) → c81_G203 z = m42 z) ∧ (∀ z, (la25 z < la25 a51 ∨ la25 a51 < la25 z) → c81_V0 z = (d25_V 0) z) ∧ (∀ z, (la25 z < la25 a51 ∨ la25 a51 < la25 z) → c81_V1 z = (d25_V 1) z) := hq81
                  have tz81 : ∀ z, (z < cnt ∧ (la z < la this ∨ la this + 2 < la z) ∧ (la z < la p2 ∨ la p2 + 8 < la z)) → ((la25 z < la25 a51 ∨ la25 a51 < la25 z)) := fun z hz => by have q1 := hag25 z hz.1; have q2 := hB.2 z hz.1; omega
                  have hf69 : ∀ z, (z < cnt ∧ (la z < la this ∨ la this + 2 < la z) ∧ (la z < la p2 ∨ la p2 + 8 < la z)) → c81_G203 z = (G 203) z := fun z hz => (q81_G203 z (tz81 z hz)).trans (hf30 z hz)
                  have hf70 : ∀ z, (z < cnt ∧ (la z < la this ∨ la this + 2 < la z) ∧ (la z < la p2 ∨ la p2 + 8 < la z)) → c81_V0 z = (V 0) z := fun z hz => (q81_V0 z (tz81 z hz)).trans (hF25_V 0 z hz.1 (fun _ => hz.2))
                  have hf71 : ∀ z, (z < cnt ∧ (la z < la this ∨ la this + 2 < la z) ∧ (la z < la p2 ∨ la p2 + 8 < la z)) → c81_V1 z = (V 1) z := fun z hz => (q81_V1 z (tz81 z hz)).trans (hF25_V 1 z hz.1 (fun _ => hz.2))
                  clear hc81
                  exact Jj126 (d25_G 60) (d25_G 183) c81_G203 (d25_P 66) (d25_P 181) (d25_P 182) (d25_U 184) c81_V0 c81_V1 (d25_V 2) (d25_V 12) (d25_X 1) (fun z hz => hF25_G 60 z hz.1 (fun _ => hz.2)) (fun z hz => hF25_G 183 z hz.1 (fun _ => hz.2)) hf69 (fun z hz => hF25_P 66 z hz.1 (fun _ => hz.2)) (hB25.1 66 fl_66) (fun z hz => hF25_P 181 z hz.1 (fun _ => hz.2)) (hB25.1 181 fl_181) (fun z hz => hF25_P 182 z hz.1 (fun _ => hz.2)) (hB25.1 182 fl_182) (fun z hz => hF25_U 184 z hz.1 (fun _ => hz.2)) hf70 hf71 (fun z hz => hF25_V 2 z hz.1 (fun _ => hz.2)) (fun z hz => hF25_V 12 z hz.1 (fun _ => hz.2)) (fun z hz => hF25_X 1 z hz.1 (fun _ => hz.2)) hsw23
                · skip
                  refine pw_nn (fun a88 hn_a88 => ?_)
                  have lt_a88 := ((hB25.1 2 fl_2) this a88 hn_a88).2.1
                  have lb_a88 : la25 a88 = la25 this + 0 := lk_2.mp ((hB25.1 2 fl_2) this a88 hn_a88).2.2
                  refine pw_if (fun _ => ?_)
                  refine pw_vl (fun o107 _ => ?_)
                  refine pw_b1 (fun r115 hc115 => ?_)
                  clear hc115
                  refine pw_nn (fun a119 hn_a119 => ?_)
                  have lt_a119 := ((hB25.1 4 fl_4) this a119 hn_a119).2.1
                  have lb_a119 : la25 a119 = la25 this + 1 := lk_4.mp ((hB25.1 4 fl_4) this a119 hn_a119).2.2
                  refine pw_b12 (fun r122 c122_G60 c122_G183 c122_G203 c122_P66 c122_P181 c122_P182 c122_U184 c122_V0 c122_V1 c122_V2 c122_V12 hc122 => ?_)
                  have hq122 := fr_X9_turnForms la25 (va_up d25_G 203 m42) d25_P d25_U d25_V d25_X d25_O d25_kd d25_ln d25_cnt p2 o107 r115 a119 hB25 lt29 _ hc122
                  have hsw83 : SWT c122_P181 c122_P182 (d25_P 186) (d25_P 187) tn nw nx ah bh := sw_X9_turnForms la25 (va_up d25_G 203 m42) d25_P d25_U d25_V d25_X d25_O d25_kd d25_ln d25_cnt p2 o107 r115 a119 hB25 lt29 tn nw nx ah bh (show tn < d25_cnt from by omega) hsw23 _ hc122
                  obtain ⟨q122_G60, q122_G183, q122_G203, q122_P66, q122_P181, q122_P182, q122_U184, q122_V0, q122_V1, q122_V2, q122_V12, ql122_66, ql122_181, ql122_182⟩ : (∀ z, (la25 z < la25 p2 ∨ la25 p2 + 8 < la25 z) ∧ (la25 z < la25 a119 ∨ la25 a119 < la25 z) → c122_G60 z = (d25_G 60) z) ∧ (∀ z, (la25 z < la25 p2 ∨ la25 p2 + 8 < la25 z) ∧ (la25 z < la25 a119 ∨ la25 a119 < la25 z) → c122_G183 z = (d25_G 183) z) ∧ (∀ z, (la25 z < la25 p2 ∨ la25 p2 + 8 < la25 z) ∧ (la25 z < la25 a119 ∨ la25 a119 < la25 z) → c122_G203 z = m42 z) ∧ (∀ z, (la25 z < la25 p2 ∨ la25 p2 + 8 < la25 z) ∧ (la25 z < la25 a119 ∨ la25 a119 < la25 z) → c122_P66 z = (d25_P 66) z) ∧ (∀ z, (la25 z < la25 p2 ∨ la25 p2 + 8 < la25 z) ∧ (la25 z < la25 a119 ∨ la25 a119 < la25 z) → c122_P181 z = (d25_P 181) z) ∧ (∀ z, (la25 z < la25 p2 ∨ la25 p2 + 8 < la25 z) ∧ (la25 z < la25 a119 ∨ la25 a119 < la25 z) → c122_P182 z = (d25_P 182) z) ∧ (∀ z, (la25 z < la25 p2 ∨ la25 p2 + 8 < la25 z) ∧ (la25 z < la25 a119 ∨ la25 a119 < la25 z) → c122_U184 z = (d25_U 184) z) ∧ (∀ z, (la25 z < la25 p2 ∨ la25 p2 + 8 < la25 z) ∧ (la25 z < la25 a119 ∨ la25 a119 < la25 z) → c122_V0 z = (d25_V 0) z) ∧ (∀ z, (la25 z < la25 p2 ∨ la25 p2 + 8 < la25 z) ∧ (la25 z < la25 a119 ∨ la25 a119 < la25 z) → c122_V1 z = (d25_V 1) z) ∧ (∀ z, (la25 z < la25 p2 ∨ la25 p2 + 8 < la25 z) ∧ (la25 z < la25 a119 ∨ la25 a119 < la25 z) → c122_V2 z = (d25_V 2) z) ∧ (∀ z, (la25 z < la25 p2 ∨ la25 p2 + 8 < la25 z) ∧ (la25 z < la25 a119 ∨ la25 a119 < la25 z) → c122_V12 z = (d25_V 12) z) ∧ LC 66 la25 d25_cnt c122_P66 ∧ LC 181 la25 d25_cnt c122_P181 ∧ LC 182 la25 d25_cnt c122_P182 := hq122
                  have tz122 : ∀ z, (z < cnt ∧ (la z < la this ∨ la this + 2 < la z) ∧ (la z < la p2 ∨ la p2 + 8 < la z)) → ((la25 z < la25 p2 ∨ la25 p2 + 8 < la25 z) ∧ (la25 z < la25 a119 ∨ la25 a119 < la25 z)) := fun z hz => by have q1 := hag25 z hz.1; have q2 := hB.2 z hz.1; omega
                  have hf72 : ∀ z, (z < cnt ∧ (la z < la this ∨ la this + 2 < la z) ∧ (la z < la p2 ∨ la p2 + 8 < la z)) → c122_G60 z = (G 60) z := fun z hz => (q122_G60 z (tz122 z hz)).trans (hF25_G 60 z hz.1 (fun _ => hz.2))
                  have hf73 : ∀ z, (z < cnt ∧ (la z < la this ∨ la this + 2 < la z) ∧ (la z < la p2 ∨ la p2 + 8 < la z)) → c122_G183 z = (G 183) z := fun z hz => (q122_G183 z (tz122 z hz)).trans (hF25_G 183 z hz.1 (fun _ => hz.2))
                  have hf74 : ∀ z, (z < cnt ∧ (la z < la this ∨ la this + 2 < la z) ∧ (la z < la p2 ∨ la p2 + 8 < la z)) → c122_G203 z = (G 203) z := fun z hz => (q122_G203 z (tz122 z hz)).trans (hf30 z hz)
                  have hf75 : ∀ z, (z < cnt ∧ (la z < la this ∨ la this + 2 < la z) ∧ (la z < la p2 ∨ la p2 + 8 < la z)) → c122_P66 z = (P 66) z := fun z hz => (q122_P66 z (tz122 z hz)).trans (hF25_P 66 z hz.1 (fun _ => hz.2))
                  have hf76 : ∀ z, (z < cnt ∧ (la z < la this ∨ la this + 2 < la z) ∧ (la z < la p2 ∨ la p2 + 8 < la z)) → c122_P181 z = (P 181) z := fun z hz => (q122_P181 z (tz122 z hz)).trans (hF25_P 181 z hz.1 (fun _ => hz.2))
                  have hf77 : ∀ z, (z < cnt ∧ (la z < la this ∨ la this + 2 < la z) ∧ (la z < la p2 ∨ la p2 + 8 < la z)) → c122_P182 z = (P 182) z := fun z hz => (q122_P182 z (tz122 z hz)).trans (hF25_P 182 z hz.1 (fun _ => hz.2))
                  have hf78 : ∀ z, (z < cnt ∧ (la z < la this ∨ la this + 2 < la z) ∧ (la z < la p2 ∨ la p2 + 8 < la z)) → c122_U184 z = (U 184) z := fun z hz => (q122_U184 z (tz122 z hz)).trans (hF25_U 184 z hz.1 (fun _ => hz.2))
                  have hf79 : ∀ z, (z < cnt ∧ (la z < la this ∨ la this + 2 < la z) ∧ (la z < la p2 ∨ la p2 + 8 < la z)) → c122_V0 z = (V 0) z := fun z hz => (q122_V0 z (tz122 z hz)).trans (hF25_V 0 z hz.1 (fun _ => hz.2))
                  have hf80 : ∀ z, (z < cnt ∧ (la z < la this ∨ la this + 2 < la z) ∧ (la z < la p2 ∨ la p2 + 8 < la z)) → c122_V1 z = (V 1) z := fun z hz => (q122_V1 z (tz122 z hz)).trans (hF25_V 1 z hz.1 (fun _ => hz.2))
                  have hf81 : ∀ z, (z < cnt ∧ (la z < la this ∨ la this + 2 < la z) ∧ (la z < la p2 ∨ la p2 + 8 < la z)) → c122_V2 z = (V 2) z := fun z hz => (q122_V2 z (tz122 z hz)).trans (hF25_V 2 z hz.1 (fun _ => hz.2))
                  have hf82 : ∀ z, (z < cnt ∧ (la z < la this ∨ la this + 2 < la z) ∧ (la z < la p2 ∨ la p2 + 8 < la z)) → c122_V12 z = (V 12) z := fun z hz => (q122_V12 z (tz122 z hz)).trans (hF25_V 12 z hz.1 (fun _ => hz.2))
                  clear hc122
                  refine pw_if (fun _ => ?_)
                  refine pw_vl (fun m125 em125 => ?_)
                  have hf84 : ∀ z, (z < cnt ∧ (la z < la this ∨ la this + 2 < la z) ∧ (la z < la p2 ∨ la p2 + 8 < la z)) → m125 z = (X 1) z := fr_up (e0 := (X 1)) (fun z hz => hF25_X 1 z hz.1 (fun _ => hz.2)) em125 (show ¬ (a88 < cnt ∧ (la a88 < la this ∨ la this + 2 < la a88) ∧ (la a88 < la p2 ∨ la p2 + 8 < la a88)) from fun hz => by have q1 := hag25 a88 hz.1; omega)
                  exact Jj126 c122_G60 c122_G183 c122_G203 c122_P66 c122_P181 c122_P182 c122_U184 c122_V0 c122_V1 c122_V2 c122_V12 m125 hf72 hf73 hf74 hf75 ql122_66 hf76 ql122_181 hf77 ql122_182 hf78 hf79 hf80 hf81 hf82 hf84 hsw83
          exact lp25 NN x23 d3_G d3_P d3_U d3_V d3_X d3_O d3_kd d3_ln d3_cnt la3 hag3 hB3 (by omega) hF3_G hF3_P hF3_U hF3_V hF3_X hF3_O hln3 hsw8
  exact lp3 NN 0 G P U V X O kd ln cnt la (fun _ _ => rfl) hB (Nat.le_refl _) FRM_refl FRM_refl FRM_refl FRM_refl FRM_refl FRM_refl (fun _ _ => rfl) hs
abbrev RW_X11_back (G : Nat → Nat → Int32) (P : Nat → Nat → Option Nat) (U : Nat → Nat → Int64) (V : Nat → Nat → Nat → Int32) (X : Nat → Nat → Nat → Int64) (O : Nat → Nat → Nat → Option Nat) (kd : Nat → Nat) (ln : Nat → Nat) (cnt : Nat) (this : Nat) (p0 : Int32) (tn nw nx ah bh : Nat) : (Int32 × (Nat → Nat → Int32) × (Nat → Nat → Option Nat) × (Nat → Nat → Int64) × (Nat → Nat → Nat → Int32) × (Nat → Nat → Nat → Int64) × (Nat → Nat → Nat → Option Nat) × (Nat → Nat) × (Nat → Nat) × Nat) → Prop := fun t => SWT ((t.2.2.1) 181) ((t.2.2.1) 182) ((t.2.2.1) 186) ((t.2.2.1) 187) tn nw nx ah bh
set_option maxHeartbeats 4000000 in
set_option maxRecDepth 100000 in
theorem sw_X11_back (la : Nat → Nat) (G : Nat → Nat → Int32) (P : Nat → Nat → Option Nat) (U : Nat → Nat → Int64) (V : Nat → Nat → Nat → Int32) (X : Nat → Nat → Nat → Int64) (O : Nat → Nat → Nat → Option Nat) (kd : Nat → Nat) (ln : Nat → Nat) (cnt : Nat) (this : Nat) (p0 : Int32) (hB : LB la cnt P) (hlt_this : this < cnt) (hp0 : la this = 200) (tn nw nx ah bh : Nat) (htn : tn < cnt) (hs : SWT (P 181) (P 182) (P 186) (P 187) tn nw nx ah bh) : pw (f_X11_back G P U V X O kd ln cnt this p0) (sp1 (RW_X11_back G P U V X O kd ln cnt this p0 tn nw nx ah bh)) := by
  unfold f_X11_back
  refine pw_nn (fun a1 hn_a1 => ?_)
  have lt_a1 := ((hB.1 220 fl_220) this a1 hn_a1).2.1
  have lb_a1 : la a1 = 10 := lk_220.mp ((hB.1 220 fl_220) this a1 hn_a1).2.2
  refine pw_b2 (fun r4 c4_G141 hc4 => ?_)
  have hq4 := fr_X7_take la G P U V X O kd ln cnt a1 hB _ hc4
  have q4_G141 : (∀ z, (la z < la a1 ∨ la a1 < la z) → c4_G141 z = (G 141) z) := hq4
  have tz4 : ∀ z, (z < cnt ∧ (la z < 10 ∨ 10 < la z) ∧ (la z < 70 ∨ 70 + 2 < la z) ∧ (la z < 90 ∨ 90 + 8 < la z) ∧ (la z < 200 ∨ 200 + 3 < la z)) → ((la z < la a1 ∨ la a1 < la z)) := fun z hz => by omega
  have hf1 : ∀ z, (z < cnt ∧ (la z < 10 ∨ 10 < la z) ∧ (la z < 70 ∨ 70 + 2 < la z) ∧ (la z < 90 ∨ 90 + 8 < la z) ∧ (la z < 200 ∨ 200 + 3 < la z)) → c4_G141 z = (G 141) z := fun z hz => (q4_G141 z (tz4 z hz)).trans (rfl)
  clear hc4 hq4
  refine pw_b1 (fun r10 hc10 => ?_)
  clear hc10
  refine pw_jn (fun j27 => pw (j27 ()) (sp1 (RW_X11_back G P U V X O kd ln cnt this p0 tn nw nx ah bh))) ?_ ?_
  · show pw _ _
    exact pw_some (hs)
  intro j27 Jj27
  refine pw_ite (fun _ => ?_) (fun _ => ?_)
  · skip
    exact Jj27
  · skip
    refine pw_nn (fun a17 hn_a17 => ?_)
    have lt_a17 := ((hB.1 220 fl_220) this a17 hn_a17).2.1
    have lb_a17 : la a17 = 10 := lk_220.mp ((hB.1 220 fl_220) this a17 hn_a17).2.2
    refine pw_b1 (fun r21 hc21 => ?_)
    clear hc21
    refine pw_ite (fun _ => ?_) (fun _ => ?_)
    · skip
      exact Jj27
    · skip
      refine pw_nn (fun a31 hn_a31 => ?_)
      have lt_a31 := ((hB.1 229 fl_229) this a31 hn_a31).2.1
      have lb_a31 : la a31 = 70 := lk_229.mp ((hB.1 229 fl_229) this a31 hn_a31).2.2
      refine pw_nn (fun a36 hn_a36 => ?_)
      have lt_a36 := ((hB.1 221 fl_221) this a36 hn_a36).2.1
      have lb_a36 : la a36 = la this + 3 := lk_221.mp ((hB.1 221 fl_221) this a36 hn_a36).2.2
      refine pw_nn (fun a40 hn_a40 => ?_)
      have lt_a40 := ((hB.1 226 fl_226) this a40 hn_a40).2.1
      have lb_a40 : la a40 = 90 := lk_226.mp ((hB.1 226 fl_226) this a40 hn_a40).2.2
      refine pw_bA9 (fun c43_G c43_P c43_U c43_V c43_X c43_O c43_kd c43_ln c43_cnt v1_43 v2_43 hc43 => ?_)
      have hq43 := fr_X0_fill la (va_up G 141 c4_G141) P U V X O kd ln cnt a31 p0 a36 a40 hB lt_a31 lt_a36 lt_a40 _ hc43
      have hsw5 : SWT (c43_P 181) (c43_P 182) (c43_P 186) (c43_P 187) tn nw nx ah bh := sw_X0_fill la (va_up G 141 c4_G141) P U V X O kd ln cnt a31 p0 a36 a40 hB lt_a31 lt_a36 lt_a40 tn nw nx ah bh (show tn < cnt from by omega) hs _ hc43
      obtain ⟨la43_2, ag43, hB43, cc43, qG43, qP43, qU43, qV43, qX43, qO43, ql43⟩ : ∃ la9 : Nat → Nat, (∀ z, z < cnt → la9 z = la z) ∧ LB la9 c43_cnt c43_P ∧ cnt ≤ c43_cnt ∧ FRM cnt [60, 183, 203] (fun z => (la z < la a31 ∨ la a31 + 2 < la z) ∧ (la z < la a40 ∨ la a40 + 8 < la z)) (va_up G 141 c4_G141) c43_G ∧ FRM cnt [66, 181, 182] (fun z => (la z < la a31 ∨ la a31 + 2 < la z) ∧ (la z < la a40 ∨ la a40 + 8 < la z)) P c43_P ∧ FRM cnt [184] (fun z => (la z < la a31 ∨ la a31 + 2 < la z) ∧ (la z < la a40 ∨ la a40 + 8 < la z)) U c43_U ∧ FRM cnt [0, 1, 2, 3, 12] (fun z => (la z < la a31 ∨ la a31 + 2 < la z) ∧ (la z < la a40 ∨ la a40 + 8 < la z)) V c43_V ∧ FRM cnt [1] (fun z => (la z < la a31 ∨ la a31 + 2 < la z) ∧ (la z < la a40 ∨ la a40 + 8 < la z)) X c43_X ∧ FRM cnt [1] (fun z => (la z < la a31 ∨ la a31 + 2 < la z) ∧ (la z < la a40 ∨ la a40 + 8 < la z)) O c43_O ∧ (∀ z, z < cnt → c43_ln z = ln z) := hq43
      have hle43 : cnt ≤ cnt := Nat.le_refl _
      have hg43 : ∀ z, z < cnt → la43_2 z = la z := fun z hz => (ag43 z (Nat.lt_of_lt_of_le hz hle43)).trans (rfl)
      have hF43_G : FRM cnt [60, 141, 183, 203, 231] (fun z => (la z < 10 ∨ 10 < la z) ∧ (la z < 70 ∨ 70 + 2 < la z) ∧ (la z < 90 ∨ 90 + 8 < la z) ∧ (la z < 200 ∨ 200 + 3 < la z)) G c43_G := FRM_trans (FRM_set FRM_refl (by decide) (fun z h1 h2 => hf1 z ⟨h1, h2⟩)) qG43 hle43 (by decide) (fun z h0 hz => (show (la z < la a31 ∨ la a31 + 2 < la z) ∧ (la z < la a40 ∨ la a40 + 8 < la z) from by have q2 := hB.2 z h0; omega))
      have hF43_P : FRM cnt [66, 181, 182] (fun z => (la z < 10 ∨ 10 < la z) ∧ (la z < 70 ∨ 70 + 2 < la z) ∧ (la z < 90 ∨ 90 + 8 < la z) ∧ (la z < 200 ∨ 200 + 3 < la z)) P c43_P := FRM_trans FRM_refl qP43 hle43 (by decide) (fun z h0 hz => (show (la z < la a31 ∨ la a31 + 2 < la z) ∧ (la z < la a40 ∨ la a40 + 8 < la z) from by have q2 := hB.2 z h0; omega))
      have hF43_U : FRM cnt [184] (fun z => (la z < 10 ∨ 10 < la z) ∧ (la z < 70 ∨ 70 + 2 < la z) ∧ (la z < 90 ∨ 90 + 8 < la z) ∧ (la z < 200 ∨ 200 + 3 < la z)) U c43_U := FRM_trans FRM_refl qU43 hle43 (by decide) (fun z h0 hz => (show (la z < la a31 ∨ la a31 + 2 < la z) ∧ (la z < la a40 ∨ la a40 + 8 < la z) from by have q2 := hB.2 z h0; omega))
      have hF43_V : FRM cnt [0, 1, 2, 3, 4, 12] (fun z => (la z < 10 ∨ 10 < la z) ∧ (la z < 70 ∨ 70 + 2 < la z) ∧ (la z < 90 ∨ 90 + 8 < la z) ∧ (la z < 200 ∨ 200 + 3 < la z)) V c43_V := FRM_trans FRM_refl qV43 hle43 (by decide) (fun z h0 hz => (show (la z < la a31 ∨ la a31 + 2 < la z) ∧ (la z < la a40 ∨ la a40 + 8 < la z) from by have q2 := hB.2 z h0; omega))
      have hF43_X : FRM cnt [1] (fun z => (la z < 10 ∨ 10 < la z) ∧ (la z < 70 ∨ 70 + 2 < la z) ∧ (la z < 90 ∨ 90 + 8 < la z) ∧ (la z < 200 ∨ 200 + 3 < la z)) X c43_X := FRM_trans FRM_refl qX43 hle43 (by decide) (fun z h0 hz => (show (la z < la a31 ∨ la a31 + 2 < la z) ∧ (la z < la a40 ∨ la a40 + 8 < la z) from by have q2 := hB.2 z h0; omega))
      have hF43_O : FRM cnt [1] (fun z => (la z < 10 ∨ 10 < la z) ∧ (la z < 70 ∨ 70 + 2 < la z) ∧ (la z < 90 ∨ 90 + 8 < la z) ∧ (la z < 200 ∨ 200 + 3 < la z)) O c43_O := FRM_trans FRM_refl qO43 hle43 (by decide) (fun z h0 hz => (show (la z < la a31 ∨ la a31 + 2 < la z) ∧ (la z < la a40 ∨ la a40 + 8 < la z) from by have q2 := hB.2 z h0; omega))
      have hln43 : ∀ z, z < cnt → c43_ln z = ln z := fun z hz => (ql43 z (Nat.lt_of_lt_of_le hz hle43)).trans (rfl)
      have g3 := ag43 this hlt_this
      have lt4 : this < c43_cnt := by omega
      refine pw_vl (fun m48 em48 => ?_)
      have hf6 : ∀ z, (z < cnt ∧ (la z < 10 ∨ 10 < la z) ∧ (la z < 70 ∨ 70 + 2 < la z) ∧ (la z < 90 ∨ 90 + 8 < la z) ∧ (la z < 200 ∨ 200 + 3 < la z)) → m48 z = (G 231) z := fr_up (e0 := (G 231)) (fun z hz => hF43_G 231 z hz.1 (fun _ => hz.2)) em48 (show ¬ (this < cnt ∧ (la this < 10 ∨ 10 < la this) ∧ (la this < 70 ∨ 70 + 2 < la this) ∧ (la this < 90 ∨ 90 + 8 < la this) ∧ (la this < 200 ∨ 200 + 3 < la this)) from fun hz => by have q1 := hg43 this hz.1; omega)
      have lp53 : ∀ (n53 : Nat) (y53_3 : Int32) (d53_G231 : Nat → Int32) (d53_V4 : Nat → Nat → Int32), (∀ z, (z < cnt ∧ (la z < 10 ∨ 10 < la z) ∧ (la z < 70 ∨ 70 + 2 < la z) ∧ (la z < 90 ∨ 90 + 8 < la z) ∧ (la z < 200 ∨ 200 + 3 < la z)) → d53_G231 z = (G 231) z) → (∀ z, (z < cnt ∧ (la z < 10 ∨ 10 < la z) ∧ (la z < 70 ∨ 70 + 2 < la z) ∧ (la z < 90 ∨ 90 + 8 < la z) ∧ (la z < 200 ∨ 200 + 3 < la z)) → d53_V4 z = (V 4) z) → pw (L_X11_back_53 this p0 r4 c43_G c43_P c43_U c43_V c43_X c43_O c43_kd c43_ln c43_cnt n53 y53_3 d53_G231 d53_V4) (sp1 (RW_X11_back G P U V X O kd ln cnt this p0 tn nw nx ah bh)) := by
        intro n53
        induction n53 with
        | zero => intros; exact pw_none
        | succ n53 ih53 =>
          intro y53_3 d53_G231 d53_V4 hf7 hf8
          show pw (B_X11_back_53 this p0 r4 c43_G c43_P c43_U c43_V c43_X c43_O c43_kd c43_ln c43_cnt (L_X11_back_53 this p0 r4 c43_G c43_P c43_U c43_V c43_X c43_O c43_kd c43_ln c43_cnt n53) y53_3 d53_G231 d53_V4) _
          unfold B_X11_back_53
          refine pw_nn (fun a55 hn_a55 => ?_)
          have lt_a55 := ((hB43.1 229 fl_229) this a55 hn_a55).2.1
          have lb_a55 : la43_2 a55 = 70 := lk_229.mp ((hB43.1 229 fl_229) this a55 hn_a55).2.2
          refine pw_nn (fun a58 hn_a58 => ?_)
          have lt_a58 := ((hB43.1 0 fl_0) a55 a58 hn_a58).2.1
          have lb_a58 : la43_2 a58 = 20 := lk_0.mp ((hB43.1 0 fl_0) a55 a58 hn_a58).2.2
          refine pw_ite (fun _ => ?_) (fun _ => ?_)
          · skip
            exact pw_some (hsw5)
          · skip
            refine pw_nn (fun a68 hn_a68 => ?_)
            have lt_a68 := ((hB43.1 229 fl_229) this a68 hn_a68).2.1
            have lb_a68 : la43_2 a68 = 70 := lk_229.mp ((hB43.1 229 fl_229) this a68 hn_a68).2.2
            refine pw_b1 (fun r73 hc73 => ?_)
            clear hc73
            refine pw_nn (fun a77 hn_a77 => ?_)
            have lt_a77 := ((hB43.1 220 fl_220) this a77 hn_a77).2.1
            have lb_a77 : la43_2 a77 = 10 := lk_220.mp ((hB43.1 220 fl_220) this a77 hn_a77).2.2
            refine pw_nn (fun a80 hn_a80 => ?_)
            have lt_a80 := ((hB43.1 140 fl_140) a77 a80 hn_a80).2.1
            have lb_a80 : la43_2 a80 = la43_2 a77 + 1 := lk_140.mp ((hB43.1 140 fl_140) a77 a80 hn_a80).2.2
            refine pw_b1 (fun r85 hc85 => ?_)
            clear hc85
            refine pw_jn (fun j112 => ∀ (c112_G231 : Nat → Int32) (c112_V4 : Nat → Nat → Int32), (∀ z, (z < cnt ∧ (la z < 10 ∨ 10 < la z) ∧ (la z < 70 ∨ 70 + 2 < la z) ∧ (la z < 90 ∨ 90 + 8 < la z) ∧ (la z < 200 ∨ 200 + 3 < la z)) → c112_G231 z = (G 231) z) → (∀ z, (z < cnt ∧ (la z < 10 ∨ 10 < la z) ∧ (la z < 70 ∨ 70 + 2 < la z) ∧ (la z < 90 ∨ 90 + 8 < la z) ∧ (la z < 200 ∨ 200 + 3 < la z)) → c112_V4 z = (V 4) z) → pw (j112 c112_G231 c112_V4) (sp1 (RW_X11_back G P U V X O kd ln cnt this p0 tn nw nx ah bh))) ?_ ?_
            · intro c112_G231 c112_V4 hf9 hf10
              show pw _ _
              exact ih53 (y53_3 + 1) c112_G231 c112_V4 hf9 hf10
            intro j112 Jj112
            refine pw_ite (fun _ => ?_) (fun _ => ?_)
            · skip
              exact Jj112 d53_G231 d53_V4 hf7 hf8
            · skip
              refine pw_nn (fun a93 hn_a93 => ?_)
              have lt_a93 := ((hB43.1 230 fl_230) this a93 hn_a93).2.1
              have lb_a93 : la43_2 a93 = la43_2 this + 1 := lk_230.mp ((hB43.1 230 fl_230) this a93 hn_a93).2.2
              refine pw_if (fun _ => ?_)
              refine pw_vl (fun m101 em101 => ?_)
              have hf11 : ∀ z, (z < cnt ∧ (la z < 10 ∨ 10 < la z) ∧ (la z < 70 ∨ 70 + 2 < la z) ∧ (la z < 90 ∨ 90 + 8 < la z) ∧ (la z < 200 ∨ 200 + 3 < la z)) → m101 z = (V 4) z := fr_up (e0 := (V 4)) hf8 em101 (show ¬ (a93 < cnt ∧ (la a93 < 10 ∨ 10 < la a93) ∧ (la a93 < 70 ∨ 70 + 2 < la a93) ∧ (la a93 < 90 ∨ 90 + 8 < la a93) ∧ (la a93 < 200 ∨ 200 + 3 < la a93)) from fun hz => by have q1 := hg43 a93 hz.1; omega)
              refine pw_vl (fun x109 _ => ?_)
              refine pw_vl (fun m109 em109 => ?_)
              have hf12 : ∀ z, (z < cnt ∧ (la z < 10 ∨ 10 < la z) ∧ (la z < 70 ∨ 70 + 2 < la z) ∧ (la z < 90 ∨ 90 + 8 < la z) ∧ (la z < 200 ∨ 200 + 3 < la z)) → m109 z = (G 231) z := fr_up (e0 := (G 231)) hf7 em109 (show ¬ (this < cnt ∧ (la this < 10 ∨ 10 < la this) ∧ (la this < 70 ∨ 70 + 2 < la this) ∧ (la this < 90 ∨ 90 + 8 < la this) ∧ (la this < 200 ∨ 200 + 3 < la this)) from fun hz => by have q1 := hg43 this hz.1; omega)
              exact Jj112 m109 m101 hf12 hf11
      exact lp53 NN 0 m48 (c43_V 4) hf6 (fun z hz => hF43_V 4 z hz.1 (fun _ => hz.2))
abbrev RW_X11_collisions (G : Nat → Nat → Int32) (P : Nat → Nat → Option Nat) (U : Nat → Nat → Int64) (V : Nat → Nat → Nat → Int32) (X : Nat → Nat → Nat → Int64) (O : Nat → Nat → Nat → Option Nat) (kd : Nat → Nat) (ln : Nat → Nat) (cnt : Nat) (this : Nat) (p0 : Int32) (tn nw nx ah bh : Nat) : (Int32 × (Nat → Nat → Int32) × (Nat → Nat → Option Nat) × (Nat → Nat → Int64) × (Nat → Nat → Nat → Int32) × (Nat → Nat → Nat → Int64) × (Nat → Nat → Nat → Option Nat) × (Nat → Nat) × (Nat → Nat) × Nat) → Prop := fun t => SWT ((t.2.2.1) 181) ((t.2.2.1) 182) ((t.2.2.1) 186) ((t.2.2.1) 187) tn nw nx ah bh
set_option maxHeartbeats 4000000 in
set_option maxRecDepth 100000 in
theorem sw_X11_collisions (la : Nat → Nat) (G : Nat → Nat → Int32) (P : Nat → Nat → Option Nat) (U : Nat → Nat → Int64) (V : Nat → Nat → Nat → Int32) (X : Nat → Nat → Nat → Int64) (O : Nat → Nat → Nat → Option Nat) (kd : Nat → Nat) (ln : Nat → Nat) (cnt : Nat) (this : Nat) (p0 : Int32) (hB : LB la cnt P) (hlt_this : this < cnt) (hp0 : la this = 200) (tn nw nx ah bh : Nat) (htn : tn < cnt) (hs : SWT (P 181) (P 182) (P 186) (P 187) tn nw nx ah bh) : pw (f_X11_collisions G P U V X O kd ln cnt this p0) (sp1 (RW_X11_collisions G P U V X O kd ln cnt this p0 tn nw nx ah bh)) := by
  unfold f_X11_collisions
  refine pw_vl (fun m2 em2 => ?_)
  have hf1 : ∀ z, (z < cnt ∧ (la z < 70 ∨ 70 + 2 < la z) ∧ (la z < 90 ∨ 90 + 8 < la z) ∧ (la z < 200 ∨ 200 + 3 < la z)) → m2 z = (G 233) z := fr_up (e0 := (G 233)) (fun _ _ => rfl) em2 (show ¬ (this < cnt ∧ (la this < 70 ∨ 70 + 2 < la this) ∧ (la this < 90 ∨ 90 + 8 < la this) ∧ (la this < 200 ∨ 200 + 3 < la this)) from fun hz => by omega)
  refine pw_b1 (fun r7 hc7 => ?_)
  clear hc7
  refine pw_ite (fun _ => ?_) (fun _ => ?_)
  · skip
    exact pw_some (hs)
  · skip
    refine pw_nn (fun a17 hn_a17 => ?_)
    have lt_a17 := ((hB.1 229 fl_229) this a17 hn_a17).2.1
    have lb_a17 : la a17 = 70 := lk_229.mp ((hB.1 229 fl_229) this a17 hn_a17).2.2
    refine pw_nn (fun a22 hn_a22 => ?_)
    have lt_a22 := ((hB.1 221 fl_221) this a22 hn_a22).2.1
    have lb_a22 : la a22 = la this + 3 := lk_221.mp ((hB.1 221 fl_221) this a22 hn_a22).2.2
    refine pw_nn (fun a26 hn_a26 => ?_)
    have lt_a26 := ((hB.1 226 fl_226) this a26 hn_a26).2.1
    have lb_a26 : la a26 = 90 := lk_226.mp ((hB.1 226 fl_226) this a26 hn_a26).2.2
    refine pw_bA9 (fun c29_G c29_P c29_U c29_V c29_X c29_O c29_kd c29_ln c29_cnt v1_29 v2_29 hc29 => ?_)
    have hq29 := fr_X0_fill la (va_up G 233 m2) P U V X O kd ln cnt a17 p0 a22 a26 hB lt_a17 lt_a22 lt_a26 _ hc29
    have hsw5 : SWT (c29_P 181) (c29_P 182) (c29_P 186) (c29_P 187) tn nw nx ah bh := sw_X0_fill la (va_up G 233 m2) P U V X O kd ln cnt a17 p0 a22 a26 hB lt_a17 lt_a22 lt_a26 tn nw nx ah bh (show tn < cnt from by omega) hs _ hc29
    obtain ⟨la29_2, ag29, hB29, cc29, qG29, qP29, qU29, qV29, qX29, qO29, ql29⟩ : ∃ la9 : Nat → Nat, (∀ z, z < cnt → la9 z = la z) ∧ LB la9 c29_cnt c29_P ∧ cnt ≤ c29_cnt ∧ FRM cnt [60, 183, 203] (fun z => (la z < la a17 ∨ la a17 + 2 < la z) ∧ (la z < la a26 ∨ la a26 + 8 < la z)) (va_up G 233 m2) c29_G ∧ FRM cnt [66, 181, 182] (fun z => (la z < la a17 ∨ la a17 + 2 < la z) ∧ (la z < la a26 ∨ la a26 + 8 < la z)) P c29_P ∧ FRM cnt [184] (fun z => (la z < la a17 ∨ la a17 + 2 < la z) ∧ (la z < la a26 ∨ la a26 + 8 < la z)) U c29_U ∧ FRM cnt [0, 1, 2, 3, 12] (fun z => (la z < la a17 ∨ la a17 + 2 < la z) ∧ (la z < la a26 ∨ la a26 + 8 < la z)) V c29_V ∧ FRM cnt [1] (fun z => (la z < la a17 ∨ la a17 + 2 < la z) ∧ (la z < la a26 ∨ la a26 + 8 < la z)) X c29_X ∧ FRM cnt [1] (fun z => (la z < la a17 ∨ la a17 + 2 < la z) ∧ (la z < la a26 ∨ la a26 + 8 < la z)) O c29_O ∧ (∀ z, z < cnt → c29_ln z = ln z) := hq29
    have hle29 : cnt ≤ cnt := Nat.le_refl _
    have hg29 : ∀ z, z < cnt → la29_2 z = la z := fun z hz => (ag29 z (Nat.lt_of_lt_of_le hz hle29)).trans (rfl)
    have hF29_G : FRM cnt [60, 183, 203, 233] (fun z => (la z < 70 ∨ 70 + 2 < la z) ∧ (la z < 90 ∨ 90 + 8 < la z) ∧ (la z < 200 ∨ 200 + 3 < la z)) G c29_G := FRM_trans (FRM_set FRM_refl (by decide) (fun z h1 h2 => hf1 z ⟨h1, h2⟩)) qG29 hle29 (by decide) (fun z h0 hz => (show (la z < la a17 ∨ la a17 + 2 < la z) ∧ (la z < la a26 ∨ la a26 + 8 < la z) from by have q2 := hB.2 z h0; omega))
    have hF29_P : FRM cnt [66, 181, 182] (fun z => (la z < 70 ∨ 70 + 2 < la z) ∧ (la z < 90 ∨ 90 + 8 < la z) ∧ (la z < 200 ∨ 200 + 3 < la z)) P c29_P := FRM_trans FRM_refl qP29 hle29 (by decide) (fun z h0 hz => (show (la z < la a17 ∨ la a17 + 2 < la z) ∧ (la z < la a26 ∨ la a26 + 8 < la z) from by have q2 := hB.2 z h0; omega))
    have hF29_U : FRM cnt [184] (fun z => (la z < 70 ∨ 70 + 2 < la z) ∧ (la z < 90 ∨ 90 + 8 < la z) ∧ (la z < 200 ∨ 200 + 3 < la z)) U c29_U := FRM_trans FRM_refl qU29 hle29 (by decide) (fun z h0 hz => (show (la z < la a17 ∨ la a17 + 2 < la z) ∧ (la z < la a26 ∨ la a26 + 8 < la z) from by have q2 := hB.2 z h0; omega))
    have hF29_V : FRM cnt [0, 1, 2, 3, 5, 12] (fun z => (la z < 70 ∨ 70 + 2 < la z) ∧ (la z < 90 ∨ 90 + 8 < la z) ∧ (la z < 200 ∨ 200 + 3 < la z)) V c29_V := FRM_trans FRM_refl qV29 hle29 (by decide) (fun z h0 hz => (show (la z < la a17 ∨ la a17 + 2 < la z) ∧ (la z < la a26 ∨ la a26 + 8 < la z) from by have q2 := hB.2 z h0; omega))
    have hF29_X : FRM cnt [1] (fun z => (la z < 70 ∨ 70 + 2 < la z) ∧ (la z < 90 ∨ 90 + 8 < la z) ∧ (la z < 200 ∨ 200 + 3 < la z)) X c29_X := FRM_trans FRM_refl qX29 hle29 (by decide) (fun z h0 hz => (show (la z < la a17 ∨ la a17 + 2 < la z) ∧ (la z < la a26 ∨ la a26 + 8 < la z) from by have q2 := hB.2 z h0; omega))
    have hF29_O : FRM cnt [1] (fun z => (la z < 70 ∨ 70 + 2 < la z) ∧ (la z < 90 ∨ 90 + 8 < la z) ∧ (la z < 200 ∨ 200 + 3 < la z)) O c29_O := FRM_trans FRM_refl qO29 hle29 (by decide) (fun z h0 hz => (show (la z < la a17 ∨ la a17 + 2 < la z) ∧ (la z < la a26 ∨ la a26 + 8 < la z) from by have q2 := hB.2 z h0; omega))
    have hln29 : ∀ z, z < cnt → c29_ln z = ln z := fun z hz => (ql29 z (Nat.lt_of_lt_of_le hz hle29)).trans (rfl)
    have g3 := ag29 this hlt_this
    have lt4 : this < c29_cnt := by omega
    have lp36 : ∀ (n36 : Nat) (y36_2 : Int32) (y36_3 : Int32) (d36_G233 : Nat → Int32) (d36_V5 : Nat → Nat → Int32), (∀ z, (z < cnt ∧ (la z < 70 ∨ 70 + 2 < la z) ∧ (la z < 90 ∨ 90 + 8 < la z) ∧ (la z < 200 ∨ 200 + 3 < la z)) → d36_G233 z = (G 233) z) → (∀ z, (z < cnt ∧ (la z < 70 ∨ 70 + 2 < la z) ∧ (la z < 90 ∨ 90 + 8 < la z) ∧ (la z < 200 ∨ 200 + 3 < la z)) → d36_V5 z = (V 5) z) → pw (L_X11_collisions_36 this p0 c29_G c29_P c29_U c29_V c29_X c29_O c29_kd c29_ln c29_cnt n36 y36_2 y36_3 d36_G233 d36_V5) (sp1 (RW_X11_collisions G P U V X O kd ln cnt this p0 tn nw nx ah bh)) := by
      intro n36
      induction n36 with
      | zero => intros; exact pw_none
      | succ n36 ih36 =>
        intro y36_2 y36_3 d36_G233 d36_V5 hf6 hf7
        show pw (B_X11_collisions_36 this p0 c29_G c29_P c29_U c29_V c29_X c29_O c29_kd c29_ln c29_cnt (L_X11_collisions_36 this p0 c29_G c29_P c29_U c29_V c29_X c29_O c29_kd c29_ln c29_cnt n36) y36_2 y36_3 d36_G233 d36_V5) _
        unfold B_X11_collisions_36
        refine pw_nn (fun a38 hn_a38 => ?_)
        have lt_a38 := ((hB29.1 229 fl_229) this a38 hn_a38).2.1
        have lb_a38 : la29_2 a38 = 70 := lk_229.mp ((hB29.1 229 fl_229) this a38 hn_a38).2.2
        refine pw_nn (fun a41 hn_a41 => ?_)
        have lt_a41 := ((hB29.1 0 fl_0) a38 a41 hn_a41).2.1
        have lb_a41 : la29_2 a41 = 20 := lk_0.mp ((hB29.1 0 fl_0) a38 a41 hn_a41).2.2
        refine pw_ite (fun _ => ?_) (fun _ => ?_)
        · skip
          exact pw_some (hsw5)
        · skip
          refine pw_vl (fun x53 _ => ?_)
          refine pw_jn (fun k105 => ∀ (x105_2 : Int32) (c105_G233 : Nat → Int32) (c105_V5 : Nat → Nat → Int32), (∀ z, (z < cnt ∧ (la z < 70 ∨ 70 + 2 < la z) ∧ (la z < 90 ∨ 90 + 8 < la z) ∧ (la z < 200 ∨ 200 + 3 < la z)) → c105_G233 z = (G 233) z) → (∀ z, (z < cnt ∧ (la z < 70 ∨ 70 + 2 < la z) ∧ (la z < 90 ∨ 90 + 8 < la z) ∧ (la z < 200 ∨ 200 + 3 < la z)) → c105_V5 z = (V 5) z) → pw (k105 x105_2 c105_G233 c105_V5) (sp1 (RW_X11_collisions G P U V X O kd ln cnt this p0 tn nw nx ah bh))) ?_ ?_
          · intro x105_2 c105_G233 c105_V5 hf8 hf9
            show pw _ _
            exact ih36 x105_2 (y36_3 + 1) c105_G233 c105_V5 hf8 hf9
          intro k105 Jk105
          have lp55 : ∀ (n55 : Nat) (y55_2 : Int32) (y55_4 : Int32) (d55_G233 : Nat → Int32) (d55_V5 : Nat → Nat → Int32), (∀ z, (z < cnt ∧ (la z < 70 ∨ 70 + 2 < la z) ∧ (la z < 90 ∨ 90 + 8 < la z) ∧ (la z < 200 ∨ 200 + 3 < la z)) → d55_G233 z = (G 233) z) → (∀ z, (z < cnt ∧ (la z < 70 ∨ 70 + 2 < la z) ∧ (la z < 90 ∨ 90 + 8 < la z) ∧ (la z < 200 ∨ 200 + 3 < la z)) → d55_V5 z = (V 5) z) → pw (L_X11_collisions_55 this p0 c29_G c29_P c29_U c29_V c29_X c29_O c29_kd c29_ln c29_cnt y36_3 k105 n55 y55_2 y55_4 d55_G233 d55_V5) (sp1 (RW_X11_collisions G P U V X O kd ln cnt this p0 tn nw nx ah bh)) := by
            intro n55
            induction n55 with
            | zero => intros; exact pw_none
            | succ n55 ih55 =>
              intro y55_2 y55_4 d55_G233 d55_V5 hf10 hf11
              show pw (B_X11_collisions_55 this p0 c29_G c29_P c29_U c29_V c29_X c29_O c29_kd c29_ln c29_cnt y36_3 k105 (L_X11_collisions_55 this p0 c29_G c29_P c29_U c29_V c29_X c29_O c29_kd c29_ln c29_cnt y36_3 k105 n55) y55_2 y55_4 d55_G233 d55_V5) _
              unfold B_X11_collisions_55
              refine pw_nn (fun a58 hn_a58 => ?_)
              have lt_a58 := ((hB29.1 229 fl_229) this a58 hn_a58).2.1
              have lb_a58 : la29_2 a58 = 70 := lk_229.mp ((hB29.1 229 fl_229) this a58 hn_a58).2.2
              refine pw_nn (fun a61 hn_a61 => ?_)
              have lt_a61 := ((hB29.1 0 fl_0) a58 a61 hn_a61).2.1
              have lb_a61 : la29_2 a61 = 20 := lk_0.mp ((hB29.1 0 fl_0) a58 a61 hn_a61).2.2
              refine pw_ite (fun _ => ?_) (fun _ => ?_)
              · skip
                exact Jk105 y55_2 d55_G233 d55_V5 hf10 hf11
              · skip
                refine pw_nn (fun a71 hn_a71 => ?_)
                have lt_a71 := ((hB29.1 229 fl_229) this a71 hn_a71).2.1
                have lb_a71 : la29_2 a71 = 70 := lk_229.mp ((hB29.1 229 fl_229) this a71 hn_a71).2.2
                refine pw_b1 (fun r78 hc78 => ?_)
                clear hc78
                refine pw_jn (fun j99 => ∀ (x99_2 : Int32) (c99_G233 : Nat → Int32) (c99_V5 : Nat → Nat → Int32), (∀ z, (z < cnt ∧ (la z < 70 ∨ 70 + 2 < la z) ∧ (la z < 90 ∨ 90 + 8 < la z) ∧ (la z < 200 ∨ 200 + 3 < la z)) → c99_G233 z = (G 233) z) → (∀ z, (z < cnt ∧ (la z < 70 ∨ 70 + 2 < la z) ∧ (la z < 90 ∨ 90 + 8 < la z) ∧ (la z < 200 ∨ 200 + 3 < la z)) → c99_V5 z = (V 5) z) → pw (j99 x99_2 c99_G233 c99_V5) (sp1 (RW_X11_collisions G P U V X O kd ln cnt this p0 tn nw nx ah bh))) ?_ ?_
                · intro x99_2 c99_G233 c99_V5 hf12 hf13
                  show pw _ _
                  exact ih55 x99_2 (y55_4 + 1) c99_G233 c99_V5 hf12 hf13
                intro j99 Jj99
                refine pw_ite (fun _ => ?_) (fun _ => ?_)
                · skip
                  exact Jj99 y55_2 d55_G233 d55_V5 hf10 hf11
                · skip
                  refine pw_b2 (fun c93_G233 c93_V5 hc93 => ?_)
                  have hq93 := fr_X11_notePair la29_2 (va_up c29_G 233 d55_G233) c29_P c29_U (va_up c29_V 5 d55_V5) c29_X c29_O c29_kd c29_ln c29_cnt this ((1000 * y36_3) + y55_4) hB29 (show la29_2 this = 200 from by omega) _ hc93
                  obtain ⟨q93_G233, q93_V5⟩ : (∀ z, (la29_2 z < la29_2 this ∨ la29_2 this + 3 < la29_2 z) → c93_G233 z = d55_G233 z) ∧ (∀ z, (la29_2 z < la29_2 this ∨ la29_2 this + 3 < la29_2 z) → c93_V5 z = d55_V5 z) := hq93
                  have tz93 : ∀ z, (z < cnt ∧ (la z < 70 ∨ 70 + 2 < la z) ∧ (la z < 90 ∨ 90 + 8 < la z) ∧ (la z < 200 ∨ 200 + 3 < la z)) → ((la29_2 z < la29_2 this ∨ la29_2 this + 3 < la29_2 z)) := fun z hz => by have q1 := hg29 z hz.1; have q2 := hB.2 z hz.1; omega
                  have hf14 : ∀ z, (z < cnt ∧ (la z < 70 ∨ 70 + 2 < la z) ∧ (la z < 90 ∨ 90 + 8 < la z) ∧ (la z < 200 ∨ 200 + 3 < la z)) → c93_G233 z = (G 233) z := fun z hz => (q93_G233 z (tz93 z hz)).trans (hf10 z hz)
                  have hf15 : ∀ z, (z < cnt ∧ (la z < 70 ∨ 70 + 2 < la z) ∧ (la z < 90 ∨ 90 + 8 < la z) ∧ (la z < 200 ∨ 200 + 3 < la z)) → c93_V5 z = (V 5) z := fun z hz => (q93_V5 z (tz93 z hz)).trans (hf11 z hz)
                  clear hc93
                  exact Jj99 (y55_2 + 1) c93_G233 c93_V5 hf14 hf15
          exact lp55 NN y36_2 x53 d36_G233 d36_V5 hf6 hf7
    exact lp36 NN 0 0 (c29_G 233) (c29_V 5) (fun z hz => hF29_G 233 z hz.1 (fun _ => hz.2)) (fun z hz => hF29_V 5 z hz.1 (fun _ => hz.2))
abbrev RW_X11_rhymes (G : Nat → Nat → Int32) (P : Nat → Nat → Option Nat) (U : Nat → Nat → Int64) (V : Nat → Nat → Nat → Int32) (X : Nat → Nat → Nat → Int64) (O : Nat → Nat → Nat → Option Nat) (kd : Nat → Nat) (ln : Nat → Nat) (cnt : Nat) (this : Nat) (p0 : Int32) (tn nw nx ah bh : Nat) : (Int32 × (Nat → Nat → Int32) × (Nat → Nat → Option Nat) × (Nat → Nat → Int64) × (Nat → Nat → Nat → Int32) × (Nat → Nat → Nat → Int64) × (Nat → Nat → Nat → Option Nat) × (Nat → Nat) × (Nat → Nat) × Nat) → Prop := fun t => SWT ((t.2.2.1) 181) ((t.2.2.1) 182) ((t.2.2.1) 186) ((t.2.2.1) 187) tn nw nx ah bh
set_option maxHeartbeats 4000000 in
set_option maxRecDepth 100000 in
theorem sw_X11_rhymes (la : Nat → Nat) (G : Nat → Nat → Int32) (P : Nat → Nat → Option Nat) (U : Nat → Nat → Int64) (V : Nat → Nat → Nat → Int32) (X : Nat → Nat → Nat → Int64) (O : Nat → Nat → Nat → Option Nat) (kd : Nat → Nat) (ln : Nat → Nat) (cnt : Nat) (this : Nat) (p0 : Int32) (hB : LB la cnt P) (hlt_this : this < cnt) (hp0 : la this = 200) (tn nw nx ah bh : Nat) (htn : tn < cnt) (hs : SWT (P 181) (P 182) (P 186) (P 187) tn nw nx ah bh) : pw (f_X11_rhymes G P U V X O kd ln cnt this p0) (sp1 (RW_X11_rhymes G P U V X O kd ln cnt this p0 tn nw nx ah bh)) := by
  unfold f_X11_rhymes
  refine pw_b1 (fun r2 hc2 => ?_)
  clear hc2
  refine pw_ite (fun _ => ?_) (fun _ => ?_)
  · skip
    exact pw_some (hs)
  · skip
    refine pw_nn (fun a12 hn_a12 => ?_)
    have lt_a12 := ((hB.1 229 fl_229) this a12 hn_a12).2.1
    have lb_a12 : la a12 = 70 := lk_229.mp ((hB.1 229 fl_229) this a12 hn_a12).2.2
    refine pw_nn (fun a17 hn_a17 => ?_)
    have lt_a17 := ((hB.1 221 fl_221) this a17 hn_a17).2.1
    have lb_a17 : la a17 = la this + 3 := lk_221.mp ((hB.1 221 fl_221) this a17 hn_a17).2.2
    refine pw_nn (fun a21 hn_a21 => ?_)
    have lt_a21 := ((hB.1 226 fl_226) this a21 hn_a21).2.1
    have lb_a21 : la a21 = 90 := lk_226.mp ((hB.1 226 fl_226) this a21 hn_a21).2.2
    refine pw_bA9 (fun c24_G c24_P c24_U c24_V c24_X c24_O c24_kd c24_ln c24_cnt v1_24 v2_24 hc24 => ?_)
    have hq24 := fr_X0_fill la G P U V X O kd ln cnt a12 p0 a17 a21 hB lt_a12 lt_a17 lt_a21 _ hc24
    have hsw4 : SWT (c24_P 181) (c24_P 182) (c24_P 186) (c24_P 187) tn nw nx ah bh := sw_X0_fill la G P U V X O kd ln cnt a12 p0 a17 a21 hB lt_a12 lt_a17 lt_a21 tn nw nx ah bh (show tn < cnt from by omega) hs _ hc24
    obtain ⟨la24_1, ag24, hB24, cc24, qG24, qP24, qU24, qV24, qX24, qO24, ql24⟩ : ∃ la9 : Nat → Nat, (∀ z, z < cnt → la9 z = la z) ∧ LB la9 c24_cnt c24_P ∧ cnt ≤ c24_cnt ∧ FRM cnt [60, 183, 203] (fun z => (la z < la a12 ∨ la a12 + 2 < la z) ∧ (la z < la a21 ∨ la a21 + 8 < la z)) G c24_G ∧ FRM cnt [66, 181, 182] (fun z => (la z < la a12 ∨ la a12 + 2 < la z) ∧ (la z < la a21 ∨ la a21 + 8 < la z)) P c24_P ∧ FRM cnt [184] (fun z => (la z < la a12 ∨ la a12 + 2 < la z) ∧ (la z < la a21 ∨ la a21 + 8 < la z)) U c24_U ∧ FRM cnt [0, 1, 2, 3, 12] (fun z => (la z < la a12 ∨ la a12 + 2 < la z) ∧ (la z < la a21 ∨ la a21 + 8 < la z)) V c24_V ∧ FRM cnt [1] (fun z => (la z < la a12 ∨ la a12 + 2 < la z) ∧ (la z < la a21 ∨ la a21 + 8 < la z)) X c24_X ∧ FRM cnt [1] (fun z => (la z < la a12 ∨ la a12 + 2 < la z) ∧ (la z < la a21 ∨ la a21 + 8 < la z)) O c24_O ∧ (∀ z, z < cnt → c24_ln z = ln z) := hq24
    have hle24 : cnt ≤ cnt := Nat.le_refl _
    have hg24 : ∀ z, z < cnt → la24_1 z = la z := fun z hz => (ag24 z (Nat.lt_of_lt_of_le hz hle24)).trans (rfl)
    have hF24_G : FRM cnt [60, 183, 203] (fun z => (la z < 70 ∨ 70 + 2 < la z) ∧ (la z < 90 ∨ 90 + 8 < la z)) G c24_G := FRM_trans FRM_refl qG24 hle24 (by decide) (fun z h0 hz => (show (la z < la a12 ∨ la a12 + 2 < la z) ∧ (la z < la a21 ∨ la a21 + 8 < la z) from by have q2 := hB.2 z h0; omega))
    have hF24_P : FRM cnt [66, 181, 182] (fun z => (la z < 70 ∨ 70 + 2 < la z) ∧ (la z < 90 ∨ 90 + 8 < la z)) P c24_P := FRM_trans FRM_refl qP24 hle24 (by decide) (fun z h0 hz => (show (la z < la a12 ∨ la a12 + 2 < la z) ∧ (la z < la a21 ∨ la a21 + 8 < la z) from by have q2 := hB.2 z h0; omega))
    have hF24_U : FRM cnt [184] (fun z => (la z < 70 ∨ 70 + 2 < la z) ∧ (la z < 90 ∨ 90 + 8 < la z)) U c24_U := FRM_trans FRM_refl qU24 hle24 (by decide) (fun z h0 hz => (show (la z < la a12 ∨ la a12 + 2 < la z) ∧ (la z < la a21 ∨ la a21 + 8 < la z) from by have q2 := hB.2 z h0; omega))
    have hF24_V : FRM cnt [0, 1, 2, 3, 12] (fun z => (la z < 70 ∨ 70 + 2 < la z) ∧ (la z < 90 ∨ 90 + 8 < la z)) V c24_V := FRM_trans FRM_refl qV24 hle24 (by decide) (fun z h0 hz => (show (la z < la a12 ∨ la a12 + 2 < la z) ∧ (la z < la a21 ∨ la a21 + 8 < la z) from by have q2 := hB.2 z h0; omega))
    have hF24_X : FRM cnt [1] (fun z => (la z < 70 ∨ 70 + 2 < la z) ∧ (la z < 90 ∨ 90 + 8 < la z)) X c24_X := FRM_trans FRM_refl qX24 hle24 (by decide) (fun z h0 hz => (show (la z < la a12 ∨ la a12 + 2 < la z) ∧ (la z < la a21 ∨ la a21 + 8 < la z) from by have q2 := hB.2 z h0; omega))
    have hF24_O : FRM cnt [1] (fun z => (la z < 70 ∨ 70 + 2 < la z) ∧ (la z < 90 ∨ 90 + 8 < la z)) O c24_O := FRM_trans FRM_refl qO24 hle24 (by decide) (fun z h0 hz => (show (la z < la a12 ∨ la a12 + 2 < la z) ∧ (la z < la a21 ∨ la a21 + 8 < la z) from by have q2 := hB.2 z h0; omega))
    have hln24 : ∀ z, z < cnt → c24_ln z = ln z := fun z hz => (ql24 z (Nat.lt_of_lt_of_le hz hle24)).trans (rfl)
    have g2 := ag24 this hlt_this
    have lt3 : this < c24_cnt := by omega
    have lp31 : ∀ (n31 : Nat) (y31_2 : Int32) (y31_3 : Int32), pw (L_X11_rhymes_31 this p0 c24_G c24_P c24_U c24_V c24_X c24_O c24_kd c24_ln c24_cnt n31 y31_2 y31_3) (sp1 (RW_X11_rhymes G P U V X O kd ln cnt this p0 tn nw nx ah bh)) := by
      intro n31
      induction n31 with
      | zero => intros; exact pw_none
      | succ n31 ih31 =>
        intro y31_2 y31_3
        show pw (B_X11_rhymes_31 this p0 c24_G c24_P c24_U c24_V c24_X c24_O c24_kd c24_ln c24_cnt (L_X11_rhymes_31 this p0 c24_G c24_P c24_U c24_V c24_X c24_O c24_kd c24_ln c24_cnt n31) y31_2 y31_3) _
        unfold B_X11_rhymes_31
        refine pw_nn (fun a33 hn_a33 => ?_)
        have lt_a33 := ((hB24.1 229 fl_229) this a33 hn_a33).2.1
        have lb_a33 : la24_1 a33 = 70 := lk_229.mp ((hB24.1 229 fl_229) this a33 hn_a33).2.2
        refine pw_nn (fun a36 hn_a36 => ?_)
        have lt_a36 := ((hB24.1 0 fl_0) a33 a36 hn_a36).2.1
        have lb_a36 : la24_1 a36 = 20 := lk_0.mp ((hB24.1 0 fl_0) a33 a36 hn_a36).2.2
        refine pw_ite (fun _ => ?_) (fun _ => ?_)
        · skip
          exact pw_some (hsw4)
        · skip
          refine pw_vl (fun x48 _ => ?_)
          refine pw_jn (fun k111 => ∀ (x111_2 : Int32), pw (k111 x111_2) (sp1 (RW_X11_rhymes G P U V X O kd ln cnt this p0 tn nw nx ah bh))) ?_ ?_
          · intro x111_2
            show pw _ _
            exact ih31 x111_2 (y31_3 + 1)
          intro k111 Jk111
          have lp50 : ∀ (n50 : Nat) (y50_2 : Int32) (y50_4 : Int32), pw (L_X11_rhymes_50 this p0 c24_G c24_P c24_U c24_V c24_X c24_O c24_kd c24_ln c24_cnt y31_3 k111 n50 y50_2 y50_4) (sp1 (RW_X11_rhymes G P U V X O kd ln cnt this p0 tn nw nx ah bh)) := by
            intro n50
            induction n50 with
            | zero => intros; exact pw_none
            | succ n50 ih50 =>
              intro y50_2 y50_4
              show pw (B_X11_rhymes_50 this p0 c24_G c24_P c24_U c24_V c24_X c24_O c24_kd c24_ln c24_cnt y31_3 k111 (L_X11_rhymes_50 this p0 c24_G c24_P c24_U c24_V c24_X c24_O c24_kd c24_ln c24_cnt y31_3 k111 n50) y50_2 y50_4) _
              unfold B_X11_rhymes_50
              refine pw_nn (fun a53 hn_a53 => ?_)
              have lt_a53 := ((hB24.1 229 fl_229) this a53 hn_a53).2.1
              have lb_a53 : la24_1 a53 = 70 := lk_229.mp ((hB24.1 229 fl_229) this a53 hn_a53).2.2
              refine pw_nn (fun a56 hn_a56 => ?_)
              have lt_a56 := ((hB24.1 0 fl_0) a53 a56 hn_a56).2.1
              have lb_a56 : la24_1 a56 = 20 := lk_0.mp ((hB24.1 0 fl_0) a53 a56 hn_a56).2.2
              refine pw_ite (fun _ => ?_) (fun _ => ?_)
              · skip
                exact Jk111 y50_2
              · skip
                refine pw_nn (fun a66 hn_a66 => ?_)
                have lt_a66 := ((hB24.1 229 fl_229) this a66 hn_a66).2.1
                have lb_a66 : la24_1 a66 = 70 := lk_229.mp ((hB24.1 229 fl_229) this a66 hn_a66).2.2
                refine pw_nn (fun a69 hn_a69 => ?_)
                have lt_a69 := ((hB24.1 0 fl_0) a66 a69 hn_a69).2.1
                have lb_a69 : la24_1 a69 = 20 := lk_0.mp ((hB24.1 0 fl_0) a66 a69 hn_a69).2.2
                refine pw_nn (fun a74 hn_a74 => ?_)
                have lt_a74 := ((hB24.1 229 fl_229) this a74 hn_a74).2.1
                have lb_a74 : la24_1 a74 = 70 := lk_229.mp ((hB24.1 229 fl_229) this a74 hn_a74).2.2
                refine pw_nn (fun a77 hn_a77 => ?_)
                have lt_a77 := ((hB24.1 0 fl_0) a74 a77 hn_a77).2.1
                have lb_a77 : la24_1 a77 = 20 := lk_0.mp ((hB24.1 0 fl_0) a74 a77 hn_a77).2.2
                refine pw_b1 (fun r82 hc82 => ?_)
                clear hc82
                refine pw_jn (fun j105 => ∀ (x105_2 : Int32), pw (j105 x105_2) (sp1 (RW_X11_rhymes G P U V X O kd ln cnt this p0 tn nw nx ah bh))) ?_ ?_
                · intro x105_2
                  show pw _ _
                  exact ih50 x105_2 (y50_4 + 1)
                intro j105 Jj105
                refine pw_ite (fun _ => ?_) (fun _ => ?_)
                · skip
                  exact Jj105 y50_2
                · skip
                  refine pw_nn (fun a89 hn_a89 => ?_)
                  have lt_a89 := ((hB24.1 229 fl_229) this a89 hn_a89).2.1
                  have lb_a89 : la24_1 a89 = 70 := lk_229.mp ((hB24.1 229 fl_229) this a89 hn_a89).2.2
                  refine pw_b1 (fun r96 hc96 => ?_)
                  clear hc96
                  refine pw_ite (fun _ => ?_) (fun _ => ?_)
                  · skip
                    exact Jj105 (y50_2 + 1)
                  · skip
                    exact Jj105 y50_2
          exact lp50 NN y31_2 x48
    exact lp31 NN 0 0
abbrev RW_X11_tell (G : Nat → Nat → Int32) (P : Nat → Nat → Option Nat) (U : Nat → Nat → Int64) (V : Nat → Nat → Nat → Int32) (X : Nat → Nat → Nat → Int64) (O : Nat → Nat → Nat → Option Nat) (kd : Nat → Nat) (ln : Nat → Nat) (cnt : Nat) (this : Nat) (p0 : Int32) (p1 : Int32) (tn nw nx ah bh : Nat) : (Int32 × (Nat → Nat → Int32) × (Nat → Nat → Option Nat) × (Nat → Nat → Int64) × (Nat → Nat → Nat → Int32) × (Nat → Nat → Nat → Int64) × (Nat → Nat → Nat → Option Nat) × (Nat → Nat) × (Nat → Nat) × Nat) → Prop := fun t => SWT ((t.2.2.1) 181) ((t.2.2.1) 182) ((t.2.2.1) 186) ((t.2.2.1) 187) tn nw nx ah bh
set_option maxHeartbeats 4000000 in
set_option maxRecDepth 100000 in
theorem sw_X11_tell (la : Nat → Nat) (G : Nat → Nat → Int32) (P : Nat → Nat → Option Nat) (U : Nat → Nat → Int64) (V : Nat → Nat → Nat → Int32) (X : Nat → Nat → Nat → Int64) (O : Nat → Nat → Nat → Option Nat) (kd : Nat → Nat) (ln : Nat → Nat) (cnt : Nat) (this : Nat) (p0 : Int32) (p1 : Int32) (hB : LB la cnt P) (hlt_this : this < cnt) (hp0 : la this = 200) (tn nw nx ah bh : Nat) (htn : tn < cnt) (hs : SWT (P 181) (P 182) (P 186) (P 187) tn nw nx ah bh) : pw (f_X11_tell G P U V X O kd ln cnt this p0 p1) (sp1 (RW_X11_tell G P U V X O kd ln cnt this p0 p1 tn nw nx ah bh)) := by
  unfold f_X11_tell
  refine pw_b1 (fun r2 hc2 => ?_)
  clear hc2
  refine pw_jn (fun j17 => pw (j17 ()) (sp1 (RW_X11_tell G P U V X O kd ln cnt this p0 p1 tn nw nx ah bh))) ?_ ?_
  · show pw _ _
    exact pw_some (hs)
  intro j17 Jj17
  refine pw_ite (fun _ => ?_) (fun _ => ?_)
  · skip
    exact Jj17
  · skip
    refine pw_ite (fun _ => ?_) (fun _ => ?_)
    · skip
      exact Jj17
    · skip
      refine pw_ite (fun _ => ?_) (fun _ => ?_)
      · skip
        refine pw_nn (fun a21 hn_a21 => ?_)
        have lt_a21 := ((hB.1 229 fl_229) this a21 hn_a21).2.1
        have lb_a21 : la a21 = 70 := lk_229.mp ((hB.1 229 fl_229) this a21 hn_a21).2.2
        refine pw_nn (fun a26 hn_a26 => ?_)
        have lt_a26 := ((hB.1 221 fl_221) this a26 hn_a26).2.1
        have lb_a26 : la a26 = la this + 3 := lk_221.mp ((hB.1 221 fl_221) this a26 hn_a26).2.2
        refine pw_nn (fun a30 hn_a30 => ?_)
        have lt_a30 := ((hB.1 226 fl_226) this a30 hn_a30).2.1
        have lb_a30 : la a30 = 90 := lk_226.mp ((hB.1 226 fl_226) this a30 hn_a30).2.2
        refine pw_bA9 (fun c33_G c33_P c33_U c33_V c33_X c33_O c33_kd c33_ln c33_cnt v1_33 v2_33 hc33 => ?_)
        have hq33 := fr_X0_fill la G P U V X O kd ln cnt a21 p0 a26 a30 hB lt_a21 lt_a26 lt_a30 _ hc33
        have hsw4 : SWT (c33_P 181) (c33_P 182) (c33_P 186) (c33_P 187) tn nw nx ah bh := sw_X0_fill la G P U V X O kd ln cnt a21 p0 a26 a30 hB lt_a21 lt_a26 lt_a30 tn nw nx ah bh (show tn < cnt from by omega) hs _ hc33
        obtain ⟨la33_1, ag33, hB33, cc33, qG33, qP33, qU33, qV33, qX33, qO33, ql33⟩ : ∃ la9 : Nat → Nat, (∀ z, z < cnt → la9 z = la z) ∧ LB la9 c33_cnt c33_P ∧ cnt ≤ c33_cnt ∧ FRM cnt [60, 183, 203] (fun z => (la z < la a21 ∨ la a21 + 2 < la z) ∧ (la z < la a30 ∨ la a30 + 8 < la z)) G c33_G ∧ FRM cnt [66, 181, 182] (fun z => (la z < la a21 ∨ la a21 + 2 < la z) ∧ (la z < la a30 ∨ la a30 + 8 < la z)) P c33_P ∧ FRM cnt [184] (fun z => (la z < la a21 ∨ la a21 + 2 < la z) ∧ (la z < la a30 ∨ la a30 + 8 < la z)) U c33_U ∧ FRM cnt [0, 1, 2, 3, 12] (fun z => (la z < la a21 ∨ la a21 + 2 < la z) ∧ (la z < la a30 ∨ la a30 + 8 < la z)) V c33_V ∧ FRM cnt [1] (fun z => (la z < la a21 ∨ la a21 + 2 < la z) ∧ (la z < la a30 ∨ la a30 + 8 < la z)) X c33_X ∧ FRM cnt [1] (fun z => (la z < la a21 ∨ la a21 + 2 < la z) ∧ (la z < la a30 ∨ la a30 + 8 < la z)) O c33_O ∧ (∀ z, z < cnt → c33_ln z = ln z) := hq33
        have hle33 : cnt ≤ cnt := Nat.le_refl _
        have hg33 : ∀ z, z < cnt → la33_1 z = la z := fun z hz => (ag33 z (Nat.lt_of_lt_of_le hz hle33)).trans (rfl)
        have hF33_G : FRM cnt [60, 183, 203] (fun z => (la z < 70 ∨ 70 + 2 < la z) ∧ (la z < 90 ∨ 90 + 8 < la z)) G c33_G := FRM_trans FRM_refl qG33 hle33 (by decide) (fun z h0 hz => (show (la z < la a21 ∨ la a21 + 2 < la z) ∧ (la z < la a30 ∨ la a30 + 8 < la z) from by have q2 := hB.2 z h0; omega))
        have hF33_P : FRM cnt [66, 181, 182] (fun z => (la z < 70 ∨ 70 + 2 < la z) ∧ (la z < 90 ∨ 90 + 8 < la z)) P c33_P := FRM_trans FRM_refl qP33 hle33 (by decide) (fun z h0 hz => (show (la z < la a21 ∨ la a21 + 2 < la z) ∧ (la z < la a30 ∨ la a30 + 8 < la z) from by have q2 := hB.2 z h0; omega))
        have hF33_U : FRM cnt [184] (fun z => (la z < 70 ∨ 70 + 2 < la z) ∧ (la z < 90 ∨ 90 + 8 < la z)) U c33_U := FRM_trans FRM_refl qU33 hle33 (by decide) (fun z h0 hz => (show (la z < la a21 ∨ la a21 + 2 < la z) ∧ (la z < la a30 ∨ la a30 + 8 < la z) from by have q2 := hB.2 z h0; omega))
        have hF33_V : FRM cnt [0, 1, 2, 3, 12] (fun z => (la z < 70 ∨ 70 + 2 < la z) ∧ (la z < 90 ∨ 90 + 8 < la z)) V c33_V := FRM_trans FRM_refl qV33 hle33 (by decide) (fun z h0 hz => (show (la z < la a21 ∨ la a21 + 2 < la z) ∧ (la z < la a30 ∨ la a30 + 8 < la z) from by have q2 := hB.2 z h0; omega))
        have hF33_X : FRM cnt [1] (fun z => (la z < 70 ∨ 70 + 2 < la z) ∧ (la z < 90 ∨ 90 + 8 < la z)) X c33_X := FRM_trans FRM_refl qX33 hle33 (by decide) (fun z h0 hz => (show (la z < la a21 ∨ la a21 + 2 < la z) ∧ (la z < la a30 ∨ la a30 + 8 < la z) from by have q2 := hB.2 z h0; omega))
        have hF33_O : FRM cnt [1] (fun z => (la z < 70 ∨ 70 + 2 < la z) ∧ (la z < 90 ∨ 90 + 8 < la z)) O c33_O := FRM_trans FRM_refl qO33 hle33 (by decide) (fun z h0 hz => (show (la z < la a21 ∨ la a21 + 2 < la z) ∧ (la z < la a30 ∨ la a30 + 8 < la z) from by have q2 := hB.2 z h0; omega))
        have hln33 : ∀ z, z < cnt → c33_ln z = ln z := fun z hz => (ql33 z (Nat.lt_of_lt_of_le hz hle33)).trans (rfl)
        have g2 := ag33 this hlt_this
        have lt3 : this < c33_cnt := by omega
        have lp41 : ∀ (n41 : Nat) (y41_3 : Int32) (y41_4 : Int32), pw (L_X11_tell_41 this p0 p1 c33_G c33_P c33_U c33_V c33_X c33_O c33_kd c33_ln c33_cnt n41 y41_3 y41_4) (sp1 (RW_X11_tell G P U V X O kd ln cnt this p0 p1 tn nw nx ah bh)) := by
          intro n41
          induction n41 with
          | zero => intros; exact pw_none
          | succ n41 ih41 =>
            intro y41_3 y41_4
            show pw (B_X11_tell_41 this p0 p1 c33_G c33_P c33_U c33_V c33_X c33_O c33_kd c33_ln c33_cnt (L_X11_tell_41 this p0 p1 c33_G c33_P c33_U c33_V c33_X c33_O c33_kd c33_ln c33_cnt n41) y41_3 y41_4) _
            unfold B_X11_tell_41
            refine pw_nn (fun a44 hn_a44 => ?_)
            have lt_a44 := ((hB33.1 229 fl_229) this a44 hn_a44).2.1
            have lb_a44 : la33_1 a44 = 70 := lk_229.mp ((hB33.1 229 fl_229) this a44 hn_a44).2.2
            refine pw_nn (fun a47 hn_a47 => ?_)
            have lt_a47 := ((hB33.1 0 fl_0) a44 a47 hn_a47).2.1
            have lb_a47 : la33_1 a47 = 20 := lk_0.mp ((hB33.1 0 fl_0) a44 a47 hn_a47).2.2
            refine pw_ite (fun _ => ?_) (fun _ => ?_)
            · skip
              exact pw_some (hsw4)
            · skip
              refine pw_nn (fun a57 hn_a57 => ?_)
              have lt_a57 := ((hB33.1 229 fl_229) this a57 hn_a57).2.1
              have lb_a57 : la33_1 a57 = 70 := lk_229.mp ((hB33.1 229 fl_229) this a57 hn_a57).2.2
              refine pw_b1 (fun r64 hc64 => ?_)
              clear hc64
              refine pw_jn (fun j73 => ∀ (x73_3 : Int32), pw (j73 x73_3) (sp1 (RW_X11_tell G P U V X O kd ln cnt this p0 p1 tn nw nx ah bh))) ?_ ?_
              · intro x73_3
                show pw _ _
                exact ih41 x73_3 (y41_4 + 1)
              intro j73 Jj73
              refine pw_ite (fun _ => ?_) (fun _ => ?_)
              · skip
                exact Jj73 y41_3
              · skip
                exact Jj73 (y41_3 + 1)
        exact lp41 NN 0 0
      · skip
        exact Jj17
abbrev RW_X11_uses (G : Nat → Nat → Int32) (P : Nat → Nat → Option Nat) (U : Nat → Nat → Int64) (V : Nat → Nat → Nat → Int32) (X : Nat → Nat → Nat → Int64) (O : Nat → Nat → Nat → Option Nat) (kd : Nat → Nat) (ln : Nat → Nat) (cnt : Nat) (this : Nat) (p0 : Int32) (p1 : Int32) (tn nw nx ah bh : Nat) : (Int32 × (Nat → Nat → Int32) × (Nat → Nat → Option Nat) × (Nat → Nat → Int64) × (Nat → Nat → Nat → Int32) × (Nat → Nat → Nat → Int64) × (Nat → Nat → Nat → Option Nat) × (Nat → Nat) × (Nat → Nat) × Nat) → Prop := fun t => SWT ((t.2.2.1) 181) ((t.2.2.1) 182) ((t.2.2.1) 186) ((t.2.2.1) 187) tn nw nx ah bh
set_option maxHeartbeats 4000000 in
set_option maxRecDepth 100000 in
theorem sw_X11_uses (la : Nat → Nat) (G : Nat → Nat → Int32) (P : Nat → Nat → Option Nat) (U : Nat → Nat → Int64) (V : Nat → Nat → Nat → Int32) (X : Nat → Nat → Nat → Int64) (O : Nat → Nat → Nat → Option Nat) (kd : Nat → Nat) (ln : Nat → Nat) (cnt : Nat) (this : Nat) (p0 : Int32) (p1 : Int32) (hB : LB la cnt P) (hlt_this : this < cnt) (hp0 : la this = 200) (tn nw nx ah bh : Nat) (htn : tn < cnt) (hs : SWT (P 181) (P 182) (P 186) (P 187) tn nw nx ah bh) : pw (f_X11_uses G P U V X O kd ln cnt this p0 p1) (sp1 (RW_X11_uses G P U V X O kd ln cnt this p0 p1 tn nw nx ah bh)) := by
  unfold f_X11_uses
  refine pw_b1 (fun r2 hc2 => ?_)
  clear hc2
  refine pw_jn (fun j22 => pw (j22 ()) (sp1 (RW_X11_uses G P U V X O kd ln cnt this p0 p1 tn nw nx ah bh))) ?_ ?_
  · show pw _ _
    exact pw_some (hs)
  intro j22 Jj22
  refine pw_oc (fun _ => ?_) (fun b7 _ => ?_)
  · skip
    exact Jj22
  · skip
    refine pw_ite (fun _ => ?_) (fun _ => ?_)
    · skip
      exact Jj22
    · skip
      refine pw_ite (fun _ => ?_) (fun _ => ?_)
      · skip
        refine pw_nn (fun a26 hn_a26 => ?_)
        have lt_a26 := ((hB.1 229 fl_229) this a26 hn_a26).2.1
        have lb_a26 : la a26 = 70 := lk_229.mp ((hB.1 229 fl_229) this a26 hn_a26).2.2
        refine pw_nn (fun a33 hn_a33 => ?_)
        have lt_a33 := ((hB.1 221 fl_221) this a33 hn_a33).2.1
        have lb_a33 : la a33 = la this + 3 := lk_221.mp ((hB.1 221 fl_221) this a33 hn_a33).2.2
        refine pw_nn (fun a37 hn_a37 => ?_)
        have lt_a37 := ((hB.1 226 fl_226) this a37 hn_a37).2.1
        have lb_a37 : la a37 = 90 := lk_226.mp ((hB.1 226 fl_226) this a37 hn_a37).2.2
        refine pw_bA9 (fun c40_G c40_P c40_U c40_V c40_X c40_O c40_kd c40_ln c40_cnt v1_40 v2_40 hc40 => ?_)
        have hq40 := fr_X0_fill la G P U V X O kd ln cnt a26 (p0 + 1) a33 a37 hB lt_a26 lt_a33 lt_a37 _ hc40
        have hsw4 : SWT (c40_P 181) (c40_P 182) (c40_P 186) (c40_P 187) tn nw nx ah bh := sw_X0_fill la G P U V X O kd ln cnt a26 (p0 + 1) a33 a37 hB lt_a26 lt_a33 lt_a37 tn nw nx ah bh (show tn < cnt from by omega) hs _ hc40
        obtain ⟨la40_1, ag40, hB40, cc40, qG40, qP40, qU40, qV40, qX40, qO40, ql40⟩ : ∃ la9 : Nat → Nat, (∀ z, z < cnt → la9 z = la z) ∧ LB la9 c40_cnt c40_P ∧ cnt ≤ c40_cnt ∧ FRM cnt [60, 183, 203] (fun z => (la z < la a26 ∨ la a26 + 2 < la z) ∧ (la z < la a37 ∨ la a37 + 8 < la z)) G c40_G ∧ FRM cnt [66, 181, 182] (fun z => (la z < la a26 ∨ la a26 + 2 < la z) ∧ (la z < la a37 ∨ la a37 + 8 < la z)) P c40_P ∧ FRM cnt [184] (fun z => (la z < la a26 ∨ la a26 + 2 < la z) ∧ (la z < la a37 ∨ la a37 + 8 < la z)) U c40_U ∧ FRM cnt [0, 1, 2, 3, 12] (fun z => (la z < la a26 ∨ la a26 + 2 < la z) ∧ (la z < la a37 ∨ la a37 + 8 < la z)) V c40_V ∧ FRM cnt [1] (fun z => (la z < la a26 ∨ la a26 + 2 < la z) ∧ (la z < la a37 ∨ la a37 + 8 < la z)) X c40_X ∧ FRM cnt [1] (fun z => (la z < la a26 ∨ la a26 + 2 < la z) ∧ (la z < la a37 ∨ la a37 + 8 < la z)) O c40_O ∧ (∀ z, z < cnt → c40_ln z = ln z) := hq40
        have hle40 : cnt ≤ cnt := Nat.le_refl _
        have hg40 : ∀ z, z < cnt → la40_1 z = la z := fun z hz => (ag40 z (Nat.lt_of_lt_of_le hz hle40)).trans (rfl)
        have hF40_G : FRM cnt [60, 183, 203] (fun z => (la z < 70 ∨ 70 + 2 < la z) ∧ (la z < 90 ∨ 90 + 8 < la z)) G c40_G := FRM_trans FRM_refl qG40 hle40 (by decide) (fun z h0 hz => (show (la z < la a26 ∨ la a26 + 2 < la z) ∧ (la z < la a37 ∨ la a37 + 8 < la z) from by have q2 := hB.2 z h0; omega))
        have hF40_P : FRM cnt [66, 181, 182] (fun z => (la z < 70 ∨ 70 + 2 < la z) ∧ (la z < 90 ∨ 90 + 8 < la z)) P c40_P := FRM_trans FRM_refl qP40 hle40 (by decide) (fun z h0 hz => (show (la z < la a26 ∨ la a26 + 2 < la z) ∧ (la z < la a37 ∨ la a37 + 8 < la z) from by have q2 := hB.2 z h0; omega))
        have hF40_U : FRM cnt [184] (fun z => (la z < 70 ∨ 70 + 2 < la z) ∧ (la z < 90 ∨ 90 + 8 < la z)) U c40_U := FRM_trans FRM_refl qU40 hle40 (by decide) (fun z h0 hz => (show (la z < la a26 ∨ la a26 + 2 < la z) ∧ (la z < la a37 ∨ la a37 + 8 < la z) from by have q2 := hB.2 z h0; omega))
        have hF40_V : FRM cnt [0, 1, 2, 3, 12] (fun z => (la z < 70 ∨ 70 + 2 < la z) ∧ (la z < 90 ∨ 90 + 8 < la z)) V c40_V := FRM_trans FRM_refl qV40 hle40 (by decide) (fun z h0 hz => (show (la z < la a26 ∨ la a26 + 2 < la z) ∧ (la z < la a37 ∨ la a37 + 8 < la z) from by have q2 := hB.2 z h0; omega))
        have hF40_X : FRM cnt [1] (fun z => (la z < 70 ∨ 70 + 2 < la z) ∧ (la z < 90 ∨ 90 + 8 < la z)) X c40_X := FRM_trans FRM_refl qX40 hle40 (by decide) (fun z h0 hz => (show (la z < la a26 ∨ la a26 + 2 < la z) ∧ (la z < la a37 ∨ la a37 + 8 < la z) from by have q2 := hB.2 z h0; omega))
        have hF40_O : FRM cnt [1] (fun z => (la z < 70 ∨ 70 + 2 < la z) ∧ (la z < 90 ∨ 90 + 8 < la z)) O c40_O := FRM_trans FRM_refl qO40 hle40 (by decide) (fun z h0 hz => (show (la z < la a26 ∨ la a26 + 2 < la z) ∧ (la z < la a37 ∨ la a37 + 8 < la z) from by have q2 := hB.2 z h0; omega))
        have hln40 : ∀ z, z < cnt → c40_ln z = ln z := fun z hz => (ql40 z (Nat.lt_of_lt_of_le hz hle40)).trans (rfl)
        have g2 := ag40 this hlt_this
        have lt3 : this < c40_cnt := by omega
        have lp49 : ∀ (n49 : Nat) (y49_4 : Int32) (y49_5 : Int32), pw (L_X11_uses_49 this p0 p1 c40_G c40_P c40_U c40_V c40_X c40_O c40_kd c40_ln c40_cnt n49 y49_4 y49_5) (sp1 (RW_X11_uses G P U V X O kd ln cnt this p0 p1 tn nw nx ah bh)) := by
          intro n49
          induction n49 with
          | zero => intros; exact pw_none
          | succ n49 ih49 =>
            intro y49_4 y49_5
            show pw (B_X11_uses_49 this p0 p1 c40_G c40_P c40_U c40_V c40_X c40_O c40_kd c40_ln c40_cnt (L_X11_uses_49 this p0 p1 c40_G c40_P c40_U c40_V c40_X c40_O c40_kd c40_ln c40_cnt n49) y49_4 y49_5) _
            unfold B_X11_uses_49
            refine pw_nn (fun a52 hn_a52 => ?_)
            have lt_a52 := ((hB40.1 229 fl_229) this a52 hn_a52).2.1
            have lb_a52 : la40_1 a52 = 70 := lk_229.mp ((hB40.1 229 fl_229) this a52 hn_a52).2.2
            refine pw_nn (fun a55 hn_a55 => ?_)
            have lt_a55 := ((hB40.1 0 fl_0) a52 a55 hn_a55).2.1
            have lb_a55 : la40_1 a55 = 20 := lk_0.mp ((hB40.1 0 fl_0) a52 a55 hn_a55).2.2
            refine pw_ite (fun _ => ?_) (fun _ => ?_)
            · skip
              exact pw_some (hsw4)
            · skip
              refine pw_nn (fun a65 hn_a65 => ?_)
              have lt_a65 := ((hB40.1 229 fl_229) this a65 hn_a65).2.1
              have lb_a65 : la40_1 a65 = 70 := lk_229.mp ((hB40.1 229 fl_229) this a65 hn_a65).2.2
              refine pw_b1 (fun r72 hc72 => ?_)
              clear hc72
              refine pw_jn (fun j81 => ∀ (x81_4 : Int32), pw (j81 x81_4) (sp1 (RW_X11_uses G P U V X O kd ln cnt this p0 p1 tn nw nx ah bh))) ?_ ?_
              · intro x81_4
                show pw _ _
                exact ih49 x81_4 (y49_5 + 1)
              intro j81 Jj81
              refine pw_ite (fun _ => ?_) (fun _ => ?_)
              · skip
                exact Jj81 y49_4
              · skip
                exact Jj81 (y49_4 + 1)
        exact lp49 NN 0 0
      · skip
        exact Jj22
abbrev RW_X11_mixed (G : Nat → Nat → Int32) (P : Nat → Nat → Option Nat) (U : Nat → Nat → Int64) (V : Nat → Nat → Nat → Int32) (X : Nat → Nat → Nat → Int64) (O : Nat → Nat → Nat → Option Nat) (kd : Nat → Nat) (ln : Nat → Nat) (cnt : Nat) (this : Nat) (p0 : Int32) (tn nw nx ah bh : Nat) : (Int32 × (Nat → Nat → Int32) × (Nat → Nat → Option Nat) × (Nat → Nat → Int64) × (Nat → Nat → Nat → Int32) × (Nat → Nat → Nat → Int64) × (Nat → Nat → Nat → Option Nat) × (Nat → Nat) × (Nat → Nat) × Nat) → Prop := fun t => SWT ((t.2.2.1) 181) ((t.2.2.1) 182) ((t.2.2.1) 186) ((t.2.2.1) 187) tn nw nx ah bh
set_option maxHeartbeats 4000000 in
set_option maxRecDepth 100000 in
theorem sw_X11_mixed (la : Nat → Nat) (G : Nat → Nat → Int32) (P : Nat → Nat → Option Nat) (U : Nat → Nat → Int64) (V : Nat → Nat → Nat → Int32) (X : Nat → Nat → Nat → Int64) (O : Nat → Nat → Nat → Option Nat) (kd : Nat → Nat) (ln : Nat → Nat) (cnt : Nat) (this : Nat) (p0 : Int32) (hB : LB la cnt P) (hlt_this : this < cnt) (hp0 : la this = 200) (tn nw nx ah bh : Nat) (htn : tn < cnt) (hs : SWT (P 181) (P 182) (P 186) (P 187) tn nw nx ah bh) : pw (f_X11_mixed G P U V X O kd ln cnt this p0) (sp1 (RW_X11_mixed G P U V X O kd ln cnt this p0 tn nw nx ah bh)) := by
  unfold f_X11_mixed
  refine pw_nn (fun a1 hn_a1 => ?_)
  have lt_a1 := ((hB.1 220 fl_220) this a1 hn_a1).2.1
  have lb_a1 : la a1 = 10 := lk_220.mp ((hB.1 220 fl_220) this a1 hn_a1).2.2
  refine pw_b2 (fun r4 c4_G141 hc4 => ?_)
  have hq4 := fr_X7_take la G P U V X O kd ln cnt a1 hB _ hc4
  have q4_G141 : (∀ z, (la z < la a1 ∨ la a1 < la z) → c4_G141 z = (G 141) z) := hq4
  have tz4 : ∀ z, (z < cnt ∧ (la z < 10 ∨ 10 < la z) ∧ (la z < 70 ∨ 70 + 2 < la z) ∧ (la z < 90 ∨ 90 + 8 < la z) ∧ (la z < 310 ∨ 310 < la z) ∧ (la z < 330 ∨ 330 < la z)) → ((la z < la a1 ∨ la a1 < la z)) := fun z hz => by omega
  have hf1 : ∀ z, (z < cnt ∧ (la z < 10 ∨ 10 < la z) ∧ (la z < 70 ∨ 70 + 2 < la z) ∧ (la z < 90 ∨ 90 + 8 < la z) ∧ (la z < 310 ∨ 310 < la z) ∧ (la z < 330 ∨ 330 < la z)) → c4_G141 z = (G 141) z := fun z hz => (q4_G141 z (tz4 z hz)).trans (rfl)
  clear hc4 hq4
  refine pw_jn (fun j18 => pw (j18 ()) (sp1 (RW_X11_mixed G P U V X O kd ln cnt this p0 tn nw nx ah bh))) ?_ ?_
  · show pw _ _
    exact pw_some (hs)
  intro j18 Jj18
  refine pw_ite (fun _ => ?_) (fun _ => ?_)
  · skip
    exact Jj18
  · skip
    refine pw_ite (fun _ => ?_) (fun _ => ?_)
    · skip
      refine pw_nn (fun a22 hn_a22 => ?_)
      have lt_a22 := ((hB.1 220 fl_220) this a22 hn_a22).2.1
      have lb_a22 : la a22 = 10 := lk_220.mp ((hB.1 220 fl_220) this a22 hn_a22).2.2
      refine pw_b1 (fun r26 hc26 => ?_)
      clear hc26
      refine pw_nn (fun a31 hn_a31 => ?_)
      have lt_a31 := ((hB.1 220 fl_220) this a31 hn_a31).2.1
      have lb_a31 : la a31 = 10 := lk_220.mp ((hB.1 220 fl_220) this a31 hn_a31).2.2
      refine pw_b1 (fun r35 hc35 => ?_)
      clear hc35
      refine pw_jn (fun j47 => pw (j47 ()) (sp1 (RW_X11_mixed G P U V X O kd ln cnt this p0 tn nw nx ah bh))) ?_ ?_
      · show pw _ _
        exact pw_some (hs)
      intro j47 Jj47
      refine pw_ite (fun _ => ?_) (fun _ => ?_)
      · skip
        refine pw_ite (fun _ => ?_) (fun _ => ?_)
        · skip
          refine pw_nn (fun a50 hn_a50 => ?_)
          have lt_a50 := ((hB.1 229 fl_229) this a50 hn_a50).2.1
          have lb_a50 : la a50 = 70 := lk_229.mp ((hB.1 229 fl_229) this a50 hn_a50).2.2
          refine pw_nn (fun a58 hn_a58 => ?_)
          have lt_a58 := ((hB.1 221 fl_221) this a58 hn_a58).2.1
          have lb_a58 : la a58 = la this + 3 := lk_221.mp ((hB.1 221 fl_221) this a58 hn_a58).2.2
          refine pw_nn (fun a62 hn_a62 => ?_)
          have lt_a62 := ((hB.1 226 fl_226) this a62 hn_a62).2.1
          have lb_a62 : la a62 = 90 := lk_226.mp ((hB.1 226 fl_226) this a62 hn_a62).2.2
          refine pw_bA9 (fun c65_G c65_P c65_U c65_V c65_X c65_O c65_kd c65_ln c65_cnt v1_65 v2_65 hc65 => ?_)
          have hq65 := fr_X0_fill la (va_up G 141 c4_G141) P U V X O kd ln cnt a50 ((G 222) this) a58 a62 hB lt_a50 lt_a58 lt_a62 _ hc65
          have hsw5 : SWT (c65_P 181) (c65_P 182) (c65_P 186) (c65_P 187) tn nw nx ah bh := sw_X0_fill la (va_up G 141 c4_G141) P U V X O kd ln cnt a50 ((G 222) this) a58 a62 hB lt_a50 lt_a58 lt_a62 tn nw nx ah bh (show tn < cnt from by omega) hs _ hc65
          obtain ⟨la65_2, ag65, hB65, cc65, qG65, qP65, qU65, qV65, qX65, qO65, ql65⟩ : ∃ la9 : Nat → Nat, (∀ z, z < cnt → la9 z = la z) ∧ LB la9 c65_cnt c65_P ∧ cnt ≤ c65_cnt ∧ FRM cnt [60, 183, 203] (fun z => (la z < la a50 ∨ la a50 + 2 < la z) ∧ (la z < la a62 ∨ la a62 + 8 < la z)) (va_up G 141 c4_G141) c65_G ∧ FRM cnt [66, 181, 182] (fun z => (la z < la a50 ∨ la a50 + 2 < la z) ∧ (la z < la a62 ∨ la a62 + 8 < la z)) P c65_P ∧ FRM cnt [184] (fun z => (la z < la a50 ∨ la a50 + 2 < la z) ∧ (la z < la a62 ∨ la a62 + 8 < la z)) U c65_U ∧ FRM cnt [0, 1, 2, 3, 12] (fun z => (la z < la a50 ∨ la a50 + 2 < la z) ∧ (la z < la a62 ∨ la a62 + 8 < la z)) V c65_V ∧ FRM cnt [1] (fun z => (la z < la a50 ∨ la a50 + 2 < la z) ∧ (la z < la a62 ∨ la a62 + 8 < la z)) X c65_X ∧ FRM cnt [1] (fun z => (la z < la a50 ∨ la a50 + 2 < la z) ∧ (la z < la a62 ∨ la a62 + 8 < la z)) O c65_O ∧ (∀ z, z < cnt → c65_ln z = ln z) := hq65
          have hle65 : cnt ≤ cnt := Nat.le_refl _
          have hg65 : ∀ z, z < cnt → la65_2 z = la z := fun z hz => (ag65 z (Nat.lt_of_lt_of_le hz hle65)).trans (rfl)
          have hF65_G : FRM cnt [43, 44, 45, 60, 141, 160, 161, 162, 163, 165, 166, 167, 183, 203] (fun z => (la z < 10 ∨ 10 < la z) ∧ (la z < 70 ∨ 70 + 2 < la z) ∧ (la z < 90 ∨ 90 + 8 < la z) ∧ (la z < 310 ∨ 310 < la z) ∧ (la z < 330 ∨ 330 < la z)) G c65_G := FRM_trans (FRM_set FRM_refl (by decide) (fun z h1 h2 => hf1 z ⟨h1, h2⟩)) qG65 hle65 (by decide) (fun z h0 hz => (show (la z < la a50 ∨ la a50 + 2 < la z) ∧ (la z < la a62 ∨ la a62 + 8 < la z) from by have q2 := hB.2 z h0; omega))
          have hF65_P : FRM cnt [66, 164, 181, 182] (fun z => (la z < 10 ∨ 10 < la z) ∧ (la z < 70 ∨ 70 + 2 < la z) ∧ (la z < 90 ∨ 90 + 8 < la z) ∧ (la z < 310 ∨ 310 < la z) ∧ (la z < 330 ∨ 330 < la z)) P c65_P := FRM_trans FRM_refl qP65 hle65 (by decide) (fun z h0 hz => (show (la z < la a50 ∨ la a50 + 2 < la z) ∧ (la z < la a62 ∨ la a62 + 8 < la z) from by have q2 := hB.2 z h0; omega))
          have hF65_U : FRM cnt [184] (fun z => (la z < 10 ∨ 10 < la z) ∧ (la z < 70 ∨ 70 + 2 < la z) ∧ (la z < 90 ∨ 90 + 8 < la z) ∧ (la z < 310 ∨ 310 < la z) ∧ (la z < 330 ∨ 330 < la z)) U c65_U := FRM_trans FRM_refl qU65 hle65 (by decide) (fun z h0 hz => (show (la z < la a50 ∨ la a50 + 2 < la z) ∧ (la z < la a62 ∨ la a62 + 8 < la z) from by have q2 := hB.2 z h0; omega))
          have hF65_V : FRM cnt [0, 1, 2, 3, 7, 8, 9, 12] (fun z => (la z < 10 ∨ 10 < la z) ∧ (la z < 70 ∨ 70 + 2 < la z) ∧ (la z < 90 ∨ 90 + 8 < la z) ∧ (la z < 310 ∨ 310 < la z) ∧ (la z < 330 ∨ 330 < la z)) V c65_V := FRM_trans FRM_refl qV65 hle65 (by decide) (fun z h0 hz => (show (la z < la a50 ∨ la a50 + 2 < la z) ∧ (la z < la a62 ∨ la a62 + 8 < la z) from by have q2 := hB.2 z h0; omega))
          have hF65_X : FRM cnt [1] (fun z => (la z < 10 ∨ 10 < la z) ∧ (la z < 70 ∨ 70 + 2 < la z) ∧ (la z < 90 ∨ 90 + 8 < la z) ∧ (la z < 310 ∨ 310 < la z) ∧ (la z < 330 ∨ 330 < la z)) X c65_X := FRM_trans FRM_refl qX65 hle65 (by decide) (fun z h0 hz => (show (la z < la a50 ∨ la a50 + 2 < la z) ∧ (la z < la a62 ∨ la a62 + 8 < la z) from by have q2 := hB.2 z h0; omega))
          have hF65_O : FRM cnt [1] (fun z => (la z < 10 ∨ 10 < la z) ∧ (la z < 70 ∨ 70 + 2 < la z) ∧ (la z < 90 ∨ 90 + 8 < la z) ∧ (la z < 310 ∨ 310 < la z) ∧ (la z < 330 ∨ 330 < la z)) O c65_O := FRM_trans FRM_refl qO65 hle65 (by decide) (fun z h0 hz => (show (la z < la a50 ∨ la a50 + 2 < la z) ∧ (la z < la a62 ∨ la a62 + 8 < la z) from by have q2 := hB.2 z h0; omega))
          have hln65 : ∀ z, z < cnt → c65_ln z = ln z := fun z hz => (ql65 z (Nat.lt_of_lt_of_le hz hle65)).trans (rfl)
          have g3 := ag65 this hlt_this
          have lt4 : this < c65_cnt := by omega
          refine pw_nn (fun a69 hn_a69 => ?_)
          have lt_a69 := ((hB65.1 236 fl_236) this a69 hn_a69).2.1
          have lb_a69 : la65_2 a69 = 330 := lk_236.mp ((hB65.1 236 fl_236) this a69 hn_a69).2.2
          refine pw_b3 (fun c79_G44 c79_G45 c79_V7 hc79 => ?_)
          have hq79 := fr_X2_begin la65_2 c65_G c65_P c65_U c65_V c65_X c65_O c65_kd c65_ln c65_cnt a69 r26 (((c65_G 222) this) + 1) hB65 _ hc79
          obtain ⟨q79_G44, q79_G45, q79_V7⟩ : (∀ z, (la65_2 z < la65_2 a69 ∨ la65_2 a69 < la65_2 z) → c79_G44 z = (c65_G 44) z) ∧ (∀ z, (la65_2 z < la65_2 a69 ∨ la65_2 a69 < la65_2 z) → c79_G45 z = (c65_G 45) z) ∧ (∀ z, (la65_2 z < la65_2 a69 ∨ la65_2 a69 < la65_2 z) → c79_V7 z = (c65_V 7) z) := hq79
          have tz79 : ∀ z, (z < cnt ∧ (la z < 10 ∨ 10 < la z) ∧ (la z < 70 ∨ 70 + 2 < la z) ∧ (la z < 90 ∨ 90 + 8 < la z) ∧ (la z < 310 ∨ 310 < la z) ∧ (la z < 330 ∨ 330 < la z)) → ((la65_2 z < la65_2 a69 ∨ la65_2 a69 < la65_2 z)) := fun z hz => by have q1 := hg65 z hz.1; have q2 := hB.2 z hz.1; omega
          have hf6 : ∀ z, (z < cnt ∧ (la z < 10 ∨ 10 < la z) ∧ (la z < 70 ∨ 70 + 2 < la z) ∧ (la z < 90 ∨ 90 + 8 < la z) ∧ (la z < 310 ∨ 310 < la z) ∧ (la z < 330 ∨ 330 < la z)) → c79_G44 z = (G 44) z := fun z hz => (q79_G44 z (tz79 z hz)).trans (hF65_G 44 z hz.1 (fun _ => hz.2))
          have hf7 : ∀ z, (z < cnt ∧ (la z < 10 ∨ 10 < la z) ∧ (la z < 70 ∨ 70 + 2 < la z) ∧ (la z < 90 ∨ 90 + 8 < la z) ∧ (la z < 310 ∨ 310 < la z) ∧ (la z < 330 ∨ 330 < la z)) → c79_G45 z = (G 45) z := fun z hz => (q79_G45 z (tz79 z hz)).trans (hF65_G 45 z hz.1 (fun _ => hz.2))
          have hf8 : ∀ z, (z < cnt ∧ (la z < 10 ∨ 10 < la z) ∧ (la z < 70 ∨ 70 + 2 < la z) ∧ (la z < 90 ∨ 90 + 8 < la z) ∧ (la z < 310 ∨ 310 < la z) ∧ (la z < 330 ∨ 330 < la z)) → c79_V7 z = (V 7) z := fun z hz => (q79_V7 z (tz79 z hz)).trans (hF65_V 7 z hz.1 (fun _ => hz.2))
          clear hc79
          refine pw_nn (fun a83 hn_a83 => ?_)
          have lt_a83 := ((hB65.1 234 fl_234) this a83 hn_a83).2.1
          have lb_a83 : la65_2 a83 = 310 := lk_234.mp ((hB65.1 234 fl_234) this a83 hn_a83).2.2
          refine pw_nn (fun a87 hn_a87 => ?_)
          have lt_a87 := ((hB65.1 220 fl_220) this a87 hn_a87).2.1
          have lb_a87 : la65_2 a87 = 10 := lk_220.mp ((hB65.1 220 fl_220) this a87 hn_a87).2.2
          refine pw_nn (fun a90 hn_a90 => ?_)
          have lt_a90 := ((hB65.1 140 fl_140) a87 a90 hn_a90).2.1
          have lb_a90 : la65_2 a90 = la65_2 a87 + 1 := lk_140.mp ((hB65.1 140 fl_140) a87 a90 hn_a90).2.2
          refine pw_b5 (fun c94_G162 c94_G165 c94_G166 c94_G167 c94_P164 hc94 => ?_)
          have hq94 := fr_X8_begin la65_2 (va_up (va_up c65_G 44 c79_G44) 45 c79_G45) c65_P c65_U (va_up c65_V 7 c79_V7) c65_X c65_O c65_kd c65_ln c65_cnt a83 a90 r4 hB65 lt_a83 lt_a90 _ hc94
          obtain ⟨q94_G162, q94_G165, q94_G166, q94_G167, q94_P164, ql94_164⟩ : (∀ z, (la65_2 z < la65_2 a83 ∨ la65_2 a83 < la65_2 z) → c94_G162 z = (c65_G 162) z) ∧ (∀ z, (la65_2 z < la65_2 a83 ∨ la65_2 a83 < la65_2 z) → c94_G165 z = (c65_G 165) z) ∧ (∀ z, (la65_2 z < la65_2 a83 ∨ la65_2 a83 < la65_2 z) → c94_G166 z = (c65_G 166) z) ∧ (∀ z, (la65_2 z < la65_2 a83 ∨ la65_2 a83 < la65_2 z) → c94_G167 z = (c65_G 167) z) ∧ (∀ z, (la65_2 z < la65_2 a83 ∨ la65_2 a83 < la65_2 z) → c94_P164 z = (c65_P 164) z) ∧ LC 164 la65_2 c65_cnt c94_P164 := hq94
          have tz94 : ∀ z, (z < cnt ∧ (la z < 10 ∨ 10 < la z) ∧ (la z < 70 ∨ 70 + 2 < la z) ∧ (la z < 90 ∨ 90 + 8 < la z) ∧ (la z < 310 ∨ 310 < la z) ∧ (la z < 330 ∨ 330 < la z)) → ((la65_2 z < la65_2 a83 ∨ la65_2 a83 < la65_2 z)) := fun z hz => by have q1 := hg65 z hz.1; have q2 := hB.2 z hz.1; omega
          have hf9 : ∀ z, (z < cnt ∧ (la z < 10 ∨ 10 < la z) ∧ (la z < 70 ∨ 70 + 2 < la z) ∧ (la z < 90 ∨ 90 + 8 < la z) ∧ (la z < 310 ∨ 310 < la z) ∧ (la z < 330 ∨ 330 < la z)) → c94_G162 z = (G 162) z := fun z hz => (q94_G162 z (tz94 z hz)).trans (hF65_G 162 z hz.1 (fun _ => hz.2))
          have hf10 : ∀ z, (z < cnt ∧ (la z < 10 ∨ 10 < la z) ∧ (la z < 70 ∨ 70 + 2 < la z) ∧ (la z < 90 ∨ 90 + 8 < la z) ∧ (la z < 310 ∨ 310 < la z) ∧ (la z < 330 ∨ 330 < la z)) → c94_G165 z = (G 165) z := fun z hz => (q94_G165 z (tz94 z hz)).trans (hF65_G 165 z hz.1 (fun _ => hz.2))
          have hf11 : ∀ z, (z < cnt ∧ (la z < 10 ∨ 10 < la z) ∧ (la z < 70 ∨ 70 + 2 < la z) ∧ (la z < 90 ∨ 90 + 8 < la z) ∧ (la z < 310 ∨ 310 < la z) ∧ (la z < 330 ∨ 330 < la z)) → c94_G166 z = (G 166) z := fun z hz => (q94_G166 z (tz94 z hz)).trans (hF65_G 166 z hz.1 (fun _ => hz.2))
          have hf12 : ∀ z, (z < cnt ∧ (la z < 10 ∨ 10 < la z) ∧ (la z < 70 ∨ 70 + 2 < la z) ∧ (la z < 90 ∨ 90 + 8 < la z) ∧ (la z < 310 ∨ 310 < la z) ∧ (la z < 330 ∨ 330 < la z)) → c94_G167 z = (G 167) z := fun z hz => (q94_G167 z (tz94 z hz)).trans (hF65_G 167 z hz.1 (fun _ => hz.2))
          have hf13 : ∀ z, (z < cnt ∧ (la z < 10 ∨ 10 < la z) ∧ (la z < 70 ∨ 70 + 2 < la z) ∧ (la z < 90 ∨ 90 + 8 < la z) ∧ (la z < 310 ∨ 310 < la z) ∧ (la z < 330 ∨ 330 < la z)) → c94_P164 z = (P 164) z := fun z hz => (q94_P164 z (tz94 z hz)).trans (hF65_P 164 z hz.1 (fun _ => hz.2))
          clear hc94
          refine pw_jn (fun k136 => ∀ (c136_G160 : Nat → Int32) (c136_G161 : Nat → Int32) (c136_G162 : Nat → Int32) (c136_G163 : Nat → Int32) (c136_G166 : Nat → Int32) (c136_G167 : Nat → Int32) (c136_V7 : Nat → Nat → Int32), (∀ z, (z < cnt ∧ (la z < 10 ∨ 10 < la z) ∧ (la z < 70 ∨ 70 + 2 < la z) ∧ (la z < 90 ∨ 90 + 8 < la z) ∧ (la z < 310 ∨ 310 < la z) ∧ (la z < 330 ∨ 330 < la z)) → c136_G160 z = (G 160) z) → (∀ z, (z < cnt ∧ (la z < 10 ∨ 10 < la z) ∧ (la z < 70 ∨ 70 + 2 < la z) ∧ (la z < 90 ∨ 90 + 8 < la z) ∧ (la z < 310 ∨ 310 < la z) ∧ (la z < 330 ∨ 330 < la z)) → c136_G161 z = (G 161) z) → (∀ z, (z < cnt ∧ (la z < 10 ∨ 10 < la z) ∧ (la z < 70 ∨ 70 + 2 < la z) ∧ (la z < 90 ∨ 90 + 8 < la z) ∧ (la z < 310 ∨ 310 < la z) ∧ (la z < 330 ∨ 330 < la z)) → c136_G162 z = (G 162) z) → (∀ z, (z < cnt ∧ (la z < 10 ∨ 10 < la z) ∧ (la z < 70 ∨ 70 + 2 < la z) ∧ (la z < 90 ∨ 90 + 8 < la z) ∧ (la z < 310 ∨ 310 < la z) ∧ (la z < 330 ∨ 330 < la z)) → c136_G163 z = (G 163) z) → (∀ z, (z < cnt ∧ (la z < 10 ∨ 10 < la z) ∧ (la z < 70 ∨ 70 + 2 < la z) ∧ (la z < 90 ∨ 90 + 8 < la z) ∧ (la z < 310 ∨ 310 < la z) ∧ (la z < 330 ∨ 330 < la z)) → c136_G166 z = (G 166) z) → (∀ z, (z < cnt ∧ (la z < 10 ∨ 10 < la z) ∧ (la z < 70 ∨ 70 + 2 < la z) ∧ (la z < 90 ∨ 90 + 8 < la z) ∧ (la z < 310 ∨ 310 < la z) ∧ (la z < 330 ∨ 330 < la z)) → c136_G167 z = (G 167) z) → (∀ z, (z < cnt ∧ (la z < 10 ∨ 10 < la z) ∧ (la z < 70 ∨ 70 + 2 < la z) ∧ (la z < 90 ∨ 90 + 8 < la z) ∧ (la z < 310 ∨ 310 < la z) ∧ (la z < 330 ∨ 330 < la z)) → c136_V7 z = (V 7) z) → pw (k136 c136_G160 c136_G161 c136_G162 c136_G163 c136_G166 c136_G167 c136_V7) (sp1 (RW_X11_mixed G P U V X O kd ln cnt this p0 tn nw nx ah bh))) ?_ ?_
          · intro c136_G160 c136_G161 c136_G162 c136_G163 c136_G166 c136_G167 c136_V7 hf14 hf15 hf16 hf17 hf18 hf19 hf20
            show pw _ _
            refine pw_nn (fun a137 hn_a137 => ?_)
            have lt_a137 := ((hB65.1 236 fl_236) this a137 hn_a137).2.1
            have lb_a137 : la65_2 a137 = 330 := lk_236.mp ((hB65.1 236 fl_236) this a137 hn_a137).2.2
            refine pw_b4 (fun r141 c141_G43 c141_V8 c141_V9 hc141 => ?_)
            have hq141 := fr_X2_settle la65_2 (va_up (va_up (va_up (va_up (va_up (va_up (va_up (va_up (va_up c65_G 44 c79_G44) 45 c79_G45) 160 c136_G160) 161 c136_G161) 162 c136_G162) 163 c136_G163) 165 c94_G165) 166 c136_G166) 167 c136_G167) (va_up c65_P 164 c94_P164) c65_U (va_up c65_V 7 c136_V7) c65_X c65_O c65_kd c65_ln c65_cnt a137 p0 (LB_set hB65 ql94_164) _ hc141
            obtain ⟨q141_G43, q141_V8, q141_V9⟩ : (∀ z, (la65_2 z < la65_2 a137 ∨ la65_2 a137 < la65_2 z) → c141_G43 z = (c65_G 43) z) ∧ (∀ z, (la65_2 z < la65_2 a137 ∨ la65_2 a137 < la65_2 z) → c141_V8 z = (c65_V 8) z) ∧ (∀ z, (la65_2 z < la65_2 a137 ∨ la65_2 a137 < la65_2 z) → c141_V9 z = (c65_V 9) z) := hq141
            have tz141 : ∀ z, (z < cnt ∧ (la z < 10 ∨ 10 < la z) ∧ (la z < 70 ∨ 70 + 2 < la z) ∧ (la z < 90 ∨ 90 + 8 < la z) ∧ (la z < 310 ∨ 310 < la z) ∧ (la z < 330 ∨ 330 < la z)) → ((la65_2 z < la65_2 a137 ∨ la65_2 a137 < la65_2 z)) := fun z hz => by have q1 := hg65 z hz.1; have q2 := hB.2 z hz.1; omega
            have hf21 : ∀ z, (z < cnt ∧ (la z < 10 ∨ 10 < la z) ∧ (la z < 70 ∨ 70 + 2 < la z) ∧ (la z < 90 ∨ 90 + 8 < la z) ∧ (la z < 310 ∨ 310 < la z) ∧ (la z < 330 ∨ 330 < la z)) → c141_G43 z = (G 43) z := fun z hz => (q141_G43 z (tz141 z hz)).trans (hF65_G 43 z hz.1 (fun _ => hz.2))
            have hf22 : ∀ z, (z < cnt ∧ (la z < 10 ∨ 10 < la z) ∧ (la z < 70 ∨ 70 + 2 < la z) ∧ (la z < 90 ∨ 90 + 8 < la z) ∧ (la z < 310 ∨ 310 < la z) ∧ (la z < 330 ∨ 330 < la z)) → c141_V8 z = (V 8) z := fun z hz => (q141_V8 z (tz141 z hz)).trans (hF65_V 8 z hz.1 (fun _ => hz.2))
            have hf23 : ∀ z, (z < cnt ∧ (la z < 10 ∨ 10 < la z) ∧ (la z < 70 ∨ 70 + 2 < la z) ∧ (la z < 90 ∨ 90 + 8 < la z) ∧ (la z < 310 ∨ 310 < la z) ∧ (la z < 330 ∨ 330 < la z)) → c141_V9 z = (V 9) z := fun z hz => (q141_V9 z (tz141 z hz)).trans (hF65_V 9 z hz.1 (fun _ => hz.2))
            clear hc141
            exact pw_some (hsw5)
          intro k136 Jk136
          have lp100 : ∀ (n100 : Nat) (y100_4 : Int32) (d100_G160 : Nat → Int32) (d100_G161 : Nat → Int32) (d100_G162 : Nat → Int32) (d100_G163 : Nat → Int32) (d100_G166 : Nat → Int32) (d100_G167 : Nat → Int32) (d100_V7 : Nat → Nat → Int32), (∀ z, (z < cnt ∧ (la z < 10 ∨ 10 < la z) ∧ (la z < 70 ∨ 70 + 2 < la z) ∧ (la z < 90 ∨ 90 + 8 < la z) ∧ (la z < 310 ∨ 310 < la z) ∧ (la z < 330 ∨ 330 < la z)) → d100_G160 z = (G 160) z) → (∀ z, (z < cnt ∧ (la z < 10 ∨ 10 < la z) ∧ (la z < 70 ∨ 70 + 2 < la z) ∧ (la z < 90 ∨ 90 + 8 < la z) ∧ (la z < 310 ∨ 310 < la z) ∧ (la z < 330 ∨ 330 < la z)) → d100_G161 z = (G 161) z) → (∀ z, (z < cnt ∧ (la z < 10 ∨ 10 < la z) ∧ (la z < 70 ∨ 70 + 2 < la z) ∧ (la z < 90 ∨ 90 + 8 < la z) ∧ (la z < 310 ∨ 310 < la z) ∧ (la z < 330 ∨ 330 < la z)) → d100_G162 z = (G 162) z) → (∀ z, (z < cnt ∧ (la z < 10 ∨ 10 < la z) ∧ (la z < 70 ∨ 70 + 2 < la z) ∧ (la z < 90 ∨ 90 + 8 < la z) ∧ (la z < 310 ∨ 310 < la z) ∧ (la z < 330 ∨ 330 < la z)) → d100_G163 z = (G 163) z) → (∀ z, (z < cnt ∧ (la z < 10 ∨ 10 < la z) ∧ (la z < 70 ∨ 70 + 2 < la z) ∧ (la z < 90 ∨ 90 + 8 < la z) ∧ (la z < 310 ∨ 310 < la z) ∧ (la z < 330 ∨ 330 < la z)) → d100_G166 z = (G 166) z) → (∀ z, (z < cnt ∧ (la z < 10 ∨ 10 < la z) ∧ (la z < 70 ∨ 70 + 2 < la z) ∧ (la z < 90 ∨ 90 + 8 < la z) ∧ (la z < 310 ∨ 310 < la z) ∧ (la z < 330 ∨ 330 < la z)) → d100_G167 z = (G 167) z) → (∀ z, (z < cnt ∧ (la z < 10 ∨ 10 < la z) ∧ (la z < 70 ∨ 70 + 2 < la z) ∧ (la z < 90 ∨ 90 + 8 < la z) ∧ (la z < 310 ∨ 310 < la z) ∧ (la z < 330 ∨ 330 < la z)) → d100_V7 z = (V 7) z) → pw (L_X11_mixed_100 this r4 c65_G c65_P c65_U c65_V c65_X c65_O c65_kd c65_ln c65_cnt c79_G44 c79_G45 c94_G165 c94_P164 k136 n100 y100_4 d100_G160 d100_G161 d100_G162 d100_G163 d100_G166 d100_G167 d100_V7) (sp1 (RW_X11_mixed G P U V X O kd ln cnt this p0 tn nw nx ah bh)) := by
            intro n100
            induction n100 with
            | zero => intros; exact pw_none
            | succ n100 ih100 =>
              intro y100_4 d100_G160 d100_G161 d100_G162 d100_G163 d100_G166 d100_G167 d100_V7 hf24 hf25 hf26 hf27 hf28 hf29 hf30
              show pw (B_X11_mixed_100 this r4 c65_G c65_P c65_U c65_V c65_X c65_O c65_kd c65_ln c65_cnt c79_G44 c79_G45 c94_G165 c94_P164 k136 (L_X11_mixed_100 this r4 c65_G c65_P c65_U c65_V c65_X c65_O c65_kd c65_ln c65_cnt c79_G44 c79_G45 c94_G165 c94_P164 k136 n100) y100_4 d100_G160 d100_G161 d100_G162 d100_G163 d100_G166 d100_G167 d100_V7) _
              unfold B_X11_mixed_100
              refine pw_ite (fun _ => ?_) (fun _ => ?_)
              · skip
                exact Jk136 d100_G160 d100_G161 d100_G162 d100_G163 d100_G166 d100_G167 d100_V7 hf24 hf25 hf26 hf27 hf28 hf29 hf30
              · skip
                refine pw_nn (fun a107 hn_a107 => ?_)
                have lt_a107 := ((hB65.1 234 fl_234) this a107 hn_a107).2.1
                have lb_a107 : la65_2 a107 = 310 := lk_234.mp ((hB65.1 234 fl_234) this a107 hn_a107).2.2
                refine pw_b7 (fun r110 c110_G160 c110_G161 c110_G162 c110_G163 c110_G166 c110_G167 hc110 => ?_)
                have hq110 := fr_X8_next la65_2 (va_up (va_up (va_up (va_up (va_up (va_up (va_up (va_up (va_up c65_G 44 c79_G44) 45 c79_G45) 160 d100_G160) 161 d100_G161) 162 d100_G162) 163 d100_G163) 165 c94_G165) 166 d100_G166) 167 d100_G167) (va_up c65_P 164 c94_P164) c65_U (va_up c65_V 7 d100_V7) c65_X c65_O c65_kd c65_ln c65_cnt a107 (LB_set hB65 ql94_164) _ hc110
                obtain ⟨q110_G160, q110_G161, q110_G162, q110_G163, q110_G166, q110_G167⟩ : (∀ z, (la65_2 z < la65_2 a107 ∨ la65_2 a107 < la65_2 z) → c110_G160 z = d100_G160 z) ∧ (∀ z, (la65_2 z < la65_2 a107 ∨ la65_2 a107 < la65_2 z) → c110_G161 z = d100_G161 z) ∧ (∀ z, (la65_2 z < la65_2 a107 ∨ la65_2 a107 < la65_2 z) → c110_G162 z = d100_G162 z) ∧ (∀ z, (la65_2 z < la65_2 a107 ∨ la65_2 a107 < la65_2 z) → c110_G163 z = d100_G163 z) ∧ (∀ z, (la65_2 z < la65_2 a107 ∨ la65_2 a107 < la65_2 z) → c110_G166 z = d100_G166 z) ∧ (∀ z, (la65_2 z < la65_2 a107 ∨ la65_2 a107 < la65_2 z) → c110_G167 z = d100_G167 z) := hq110
                have tz110 : ∀ z, (z < cnt ∧ (la z < 10 ∨ 10 < la z) ∧ (la z < 70 ∨ 70 + 2 < la z) ∧ (la z < 90 ∨ 90 + 8 < la z) ∧ (la z < 310 ∨ 310 < la z) ∧ (la z < 330 ∨ 330 < la z)) → ((la65_2 z < la65_2 a107 ∨ la65_2 a107 < la65_2 z)) := fun z hz => by have q1 := hg65 z hz.1; have q2 := hB.2 z hz.1; omega
                have hf31 : ∀ z, (z < cnt ∧ (la z < 10 ∨ 10 < la z) ∧ (la z < 70 ∨ 70 + 2 < la z) ∧ (la z < 90 ∨ 90 + 8 < la z) ∧ (la z < 310 ∨ 310 < la z) ∧ (la z < 330 ∨ 330 < la z)) → c110_G160 z = (G 160) z := fun z hz => (q110_G160 z (tz110 z hz)).trans (hf24 z hz)
                have hf32 : ∀ z, (z < cnt ∧ (la z < 10 ∨ 10 < la z) ∧ (la z < 70 ∨ 70 + 2 < la z) ∧ (la z < 90 ∨ 90 + 8 < la z) ∧ (la z < 310 ∨ 310 < la z) ∧ (la z < 330 ∨ 330 < la z)) → c110_G161 z = (G 161) z := fun z hz => (q110_G161 z (tz110 z hz)).trans (hf25 z hz)
                have hf33 : ∀ z, (z < cnt ∧ (la z < 10 ∨ 10 < la z) ∧ (la z < 70 ∨ 70 + 2 < la z) ∧ (la z < 90 ∨ 90 + 8 < la z) ∧ (la z < 310 ∨ 310 < la z) ∧ (la z < 330 ∨ 330 < la z)) → c110_G162 z = (G 162) z := fun z hz => (q110_G162 z (tz110 z hz)).trans (hf26 z hz)
                have hf34 : ∀ z, (z < cnt ∧ (la z < 10 ∨ 10 < la z) ∧ (la z < 70 ∨ 70 + 2 < la z) ∧ (la z < 90 ∨ 90 + 8 < la z) ∧ (la z < 310 ∨ 310 < la z) ∧ (la z < 330 ∨ 330 < la z)) → c110_G163 z = (G 163) z := fun z hz => (q110_G163 z (tz110 z hz)).trans (hf27 z hz)
                have hf35 : ∀ z, (z < cnt ∧ (la z < 10 ∨ 10 < la z) ∧ (la z < 70 ∨ 70 + 2 < la z) ∧ (la z < 90 ∨ 90 + 8 < la z) ∧ (la z < 310 ∨ 310 < la z) ∧ (la z < 330 ∨ 330 < la z)) → c110_G166 z = (G 166) z := fun z hz => (q110_G166 z (tz110 z hz)).trans (hf28 z hz)
                have hf36 : ∀ z, (z < cnt ∧ (la z < 10 ∨ 10 < la z) ∧ (la z < 70 ∨ 70 + 2 < la z) ∧ (la z < 90 ∨ 90 + 8 < la z) ∧ (la z < 310 ∨ 310 < la z) ∧ (la z < 330 ∨ 330 < la z)) → c110_G167 z = (G 167) z := fun z hz => (q110_G167 z (tz110 z hz)).trans (hf29 z hz)
                clear hc110
                refine pw_ite (fun _ => ?_) (fun _ => ?_)
                · skip
                  exact Jk136 c110_G160 c110_G161 c110_G162 c110_G163 c110_G166 c110_G167 d100_V7 hf31 hf32 hf33 hf34 hf35 hf36 hf30
                · skip
                  refine pw_nn (fun a117 hn_a117 => ?_)
                  have lt_a117 := ((hB65.1 234 fl_234) this a117 hn_a117).2.1
                  have lb_a117 : la65_2 a117 = 310 := lk_234.mp ((hB65.1 234 fl_234) this a117 hn_a117).2.2
                  refine pw_jn (fun j130 => ∀ (c130_V7 : Nat → Nat → Int32), (∀ z, (z < cnt ∧ (la z < 10 ∨ 10 < la z) ∧ (la z < 70 ∨ 70 + 2 < la z) ∧ (la z < 90 ∨ 90 + 8 < la z) ∧ (la z < 310 ∨ 310 < la z) ∧ (la z < 330 ∨ 330 < la z)) → c130_V7 z = (V 7) z) → pw (j130 c130_V7) (sp1 (RW_X11_mixed G P U V X O kd ln cnt this p0 tn nw nx ah bh))) ?_ ?_
                  · intro c130_V7 hf37
                    show pw _ _
                    exact ih100 (y100_4 + 1) c110_G160 c110_G161 c110_G162 c110_G163 c110_G166 c110_G167 c130_V7 hf31 hf32 hf33 hf34 hf35 hf36 hf37
                  intro j130 Jj130
                  refine pw_ite (fun _ => ?_) (fun _ => ?_)
                  · skip
                    refine pw_b1 (fun c127_V7 hc127 => ?_)
                    have hq127 := fr_X11_chargeWord la65_2 (va_up (va_up (va_up (va_up (va_up (va_up (va_up (va_up (va_up (va_up (va_up (va_up (va_up (va_up (va_up c65_G 44 c79_G44) 45 c79_G45) 160 d100_G160) 161 d100_G161) 162 d100_G162) 163 d100_G163) 165 c94_G165) 166 d100_G166) 167 d100_G167) 160 c110_G160) 161 c110_G161) 162 c110_G162) 163 c110_G163) 166 c110_G166) 167 c110_G167) (va_up c65_P 164 c94_P164) c65_U (va_up c65_V 7 d100_V7) c65_X c65_O c65_kd c65_ln c65_cnt this (LB_set hB65 ql94_164) (show la65_2 this = 200 from by omega) _ hc127
                    have q127_V7 : (∀ z, (la65_2 z < 330 ∨ 330 < la65_2 z) → c127_V7 z = d100_V7 z) := hq127
                    have tz127 : ∀ z, (z < cnt ∧ (la z < 10 ∨ 10 < la z) ∧ (la z < 70 ∨ 70 + 2 < la z) ∧ (la z < 90 ∨ 90 + 8 < la z) ∧ (la z < 310 ∨ 310 < la z) ∧ (la z < 330 ∨ 330 < la z)) → ((la65_2 z < 330 ∨ 330 < la65_2 z)) := fun z hz => by have q1 := hg65 z hz.1; have q2 := hB.2 z hz.1; omega
                    have hf38 : ∀ z, (z < cnt ∧ (la z < 10 ∨ 10 < la z) ∧ (la z < 70 ∨ 70 + 2 < la z) ∧ (la z < 90 ∨ 90 + 8 < la z) ∧ (la z < 310 ∨ 310 < la z) ∧ (la z < 330 ∨ 330 < la z)) → c127_V7 z = (V 7) z := fun z hz => (q127_V7 z (tz127 z hz)).trans (hf30 z hz)
                    clear hc127 hq127
                    exact Jj130 c127_V7 hf38
                  · skip
                    exact Jj130 d100_V7 hf30
          exact lp100 NN 0 (c65_G 160) (c65_G 161) c94_G162 (c65_G 163) c94_G166 c94_G167 c79_V7 (fun z hz => hF65_G 160 z hz.1 (fun _ => hz.2)) (fun z hz => hF65_G 161 z hz.1 (fun _ => hz.2)) hf9 (fun z hz => hF65_G 163 z hz.1 (fun _ => hz.2)) hf11 hf12 hf8
        · skip
          exact Jj47
      · skip
        exact Jj47
    · skip
      exact Jj18
