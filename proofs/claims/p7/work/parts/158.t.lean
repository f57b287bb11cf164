abbrev QF_X11_stage (κ : Nat → Nat) (wd : Nat) (la : Nat → Nat) (G : Nat → Nat → Int32) (P : Nat → Nat → Option Nat) (U : Nat → Nat → Int64) (V : Nat → Nat → Nat → Int32) (X : Nat → Nat → Nat → Int64) (O : Nat → Nat → Nat → Option Nat) (kd : Nat → Nat) (ln : Nat → Nat) (cnt : Nat) (this : Nat) (p0 : Int32) (ra : Nat) (dys : Nat → Int32) : (Int32) → Prop := (fun t => ((p0.toInt < 0 ∨ 100000 < p0.toInt → t.toInt = -2)) ∧ ((0 ≤ p0.toInt → p0.toInt ≤ 100000 → t.toInt = ((cntD dys p0.toInt (Int32.toNatClampNeg ((G 222) this)) : Nat) : Int))))
set_option maxHeartbeats 4000000 in
set_option maxRecDepth 100000 in
theorem fn_X11_stage (κ : Nat → Nat) (wd : Nat) (la : Nat → Nat) (G : Nat → Nat → Int32) (P : Nat → Nat → Option Nat) (U : Nat → Nat → Int64) (V : Nat → Nat → Nat → Int32) (X : Nat → Nat → Nat → Int64) (O : Nat → Nat → Nat → Option Nat) (kd : Nat → Nat) (ln : Nat → Nat) (cnt : Nat) (this : Nat) (p0 : Int32) (ra : Nat) (dys : Nat → Int32) (hzG222 : rng (0) 6 (G 222)) (hzP221 : PB κ ln wd 12 302 6 6 0 (P 221)) (hzO2 : OB κ 6 (O 2)) (hzLN : LN κ ln) (hk_this : κ this = 12) (hB : LB la cnt P) (hlt_this : this < cnt) (h221 : (P 221) this = some ra) (hdy : ∀ k, k < Int32.toNatClampNeg ((G 222) this) → ∃ rf, (O 2) ra k = some rf ∧ (G 100) rf = dys k) : pw (f_X11_stage G P U V X O kd ln cnt this p0) (QF_X11_stage κ wd la G P U V X O kd ln cnt this p0 ra dys) := by
  unfold f_X11_stage
  have zkm2 : (-2 : Int32).toInt = -2 := by decide +kernel
  have zk0 : (0 : Int32).toInt = 0 := by decide +kernel
  have zk100000 : (100000 : Int32).toInt = 100000 := by decide +kernel
  have r_p0 := i32r p0
  have hn1 : (P 221) this = some ra := h221
  obtain ⟨_, lt_ra2, lb_ra2⟩ := (hB.1 221 fl_221) this ra hn1
  have lb_ra2 : la ra = la this + 3 := lk_221.mp lb_ra2
  obtain ⟨hk_ra, hl1_ra, hl2_ra, hw_ra⟩ := (hzP221 this).2 ra hn1
  have hz_ra : (Int32.ofNat (ln ra)).toInt = ((ln ra : Nat) : Int) := ofN_eq (by omega)
  refine pw_jE (fun j10 ej10 => ?_)
  refine pw_ite (fun c1 => ?_) (fun c1 => ?_)
  · have c1 := (z_lt _ _).mp c1
    refine pw_j0 ej10 ?_
    have qq0 : (p0.toInt < 0 ∨ 100000 < p0.toInt → (-2 : Int32).toInt = -2) := by intro _; omega
    have qq1 : (0 ≤ p0.toInt → p0.toInt ≤ 100000 → (-2 : Int32).toInt = ((cntD dys p0.toInt (Int32.toNatClampNeg ((G 222) this)) : Nat) : Int)) := by intro h1 h2; exfalso; omega
    exact pw_some ⟨qq0, qq1⟩
  · have c1 := z_nlt c1
    refine pw_ite (fun c7 => ?_) (fun c7 => ?_)
    · have c7 := (z_le _ _).mp c7
      have hb22 := hzG222 this
      have lp17 : ∀ (n17 : Nat) (y17_2 : Int32) (y17_3 : Int32), (0 ≤ y17_3.toInt ∧ y17_3.toInt ≤ 6) → (0 ≤ y17_2.toInt ∧ y17_2.toInt ≤ y17_3.toInt) → y17_3.toInt ≤ ((G 222) this).toInt → (y17_2.toInt = ((cntD dys p0.toInt (Int32.toNatClampNeg y17_3) : Nat) : Int)) → pw (L_X11_stage_17 G P O ln this p0 n17 y17_2 y17_3) (QF_X11_stage κ wd la G P U V X O kd ln cnt this p0 ra dys) := by
        intro n17
        induction n17 with
        | zero => intros; exact pw_none
        | succ n17 ih17 =>
          intro y17_2 y17_3 f3 f4 f5 sc17
          show pw (B_X11_stage_17 G P O ln this p0 (L_X11_stage_17 G P O ln this p0 n17) y17_2 y17_3) _
          unfold B_X11_stage_17
          have c3 := clampI (x := y17_3) (by omega)
          have c22 := clampI (x := (G 222) this) (by omega)
          have b6 := hzG222 this
          refine pw_ite (fun c22 => ?_) (fun c22 => ?_)
          · have c22 := (z_le _ _).mp c22
            have qq0 : (p0.toInt < 0 ∨ 100000 < p0.toInt → y17_2.toInt = -2) := by intro h; exfalso; omega
            have qq1 : (0 ≤ p0.toInt → p0.toInt ≤ 100000 → y17_2.toInt = ((cntD dys p0.toInt (Int32.toNatClampNeg ((G 222) this)) : Nat) : Int)) := by intro _ _; have h0 := sc17; rw [show Int32.toNatClampNeg y17_3 = Int32.toNatClampNeg ((G 222) this) by omega] at h0; exact h0
            exact pw_some ⟨qq0, qq1⟩
          · have c22 := z_nle c22
            refine pw_nne hn1 ?_
            refine pw_if (fun hb30 => ?_)
            obtain ⟨hbl30, hbr30⟩ := hb30
            refine pw_vl (fun o30 eo30 => ?_)
            have hk_o30 : ∀ b, o30 = some b → κ b = 6 := fun b hq => hzO2 _ _ b (eo30.symm.trans hq)
            refine pw_jE (fun j50 ej50 => ?_)
            refine pw_oc (fun c35 => ?_) (fun b35 c35 => ?_)
            · skip
              refine pw_j1 ej50 (fun x50_2 ex50_2 => ?_)
              have ex50_2 := ex50_2.symm
              have f_x50_2 : x50_2.toInt = y17_2.toInt := by rw [ex50_2]
              have f7 : (y17_3 + 1).toInt = y17_3.toInt + (1) := z_addc (by decide +kernel) (by omega) (by omega)
              have iv17_0 : (0 ≤ (y17_3 + 1).toInt ∧ (y17_3 + 1).toInt ≤ 6) := by omega
              have iv17_1 : (0 ≤ x50_2.toInt ∧ x50_2.toInt ≤ (y17_3 + 1).toInt) := by omega
              have iv17_2 : (y17_3 + 1).toInt ≤ ((G 222) this).toInt := by omega
              have iv17_3 : (x50_2.toInt = ((cntD dys p0.toInt (Int32.toNatClampNeg (y17_3 + 1)) : Nat) : Int)) := by exfalso; obtain ⟨rf, h1, h2⟩ := hdy (Int32.toNatClampNeg y17_3) (by omega); rw [← eo30, c35] at h1; cases h1
              exact ih17 x50_2 (y17_3 + 1) iv17_0 iv17_1 iv17_2 iv17_3
            · skip
              have hk_b35 := hk_o30 b35 c35
              refine pw_ite (fun c44 => ?_) (fun c44 => ?_)
              · have c44 := (z_lt _ _).mp c44
                refine pw_j1 ej50 (fun x50_2 ex50_2 => ?_)
                have ex50_2 := ex50_2.symm
                have f_x50_2 : x50_2.toInt = y17_2.toInt := by rw [ex50_2]
                have f8 : (y17_3 + 1).toInt = y17_3.toInt + (1) := z_addc (by decide +kernel) (by omega) (by omega)
                have iv17_0 : (0 ≤ (y17_3 + 1).toInt ∧ (y17_3 + 1).toInt ≤ 6) := by omega
                have iv17_1 : (0 ≤ x50_2.toInt ∧ x50_2.toInt ≤ (y17_3 + 1).toInt) := by omega
                have iv17_2 : (y17_3 + 1).toInt ≤ ((G 222) this).toInt := by omega
                have iv17_3 : (x50_2.toInt = ((cntD dys p0.toInt (Int32.toNatClampNeg (y17_3 + 1)) : Nat) : Int)) := by obtain ⟨rf, h1, h2⟩ := hdy (Int32.toNatClampNeg y17_3) (by omega); rw [← eo30, c35] at h1; cases h1; have h3 := congrArg Int32.toInt h2; have c4 := clampI (x := y17_3 + 1) (by omega); rw [show Int32.toNatClampNeg (y17_3 + 1) = Int32.toNatClampNeg y17_3 + 1 by omega]; show _ = ((cntD dys p0.toInt (Int32.toNatClampNeg y17_3) + _ : Nat) : Int); have h0 := sc17; rw [if_neg (by omega)]; omega
                exact ih17 x50_2 (y17_3 + 1) iv17_0 iv17_1 iv17_2 iv17_3
              · have c44 := z_nlt c44
                have f9 : (y17_2 + 1).toInt = y17_2.toInt + (1) := z_addc (by decide +kernel) (by omega) (by omega)
                refine pw_j1 ej50 (fun x50_2 ex50_2 => ?_)
                have ex50_2 := ex50_2.symm
                have f_x50_2 : x50_2.toInt = (y17_2 + 1).toInt := by rw [ex50_2]
                have f10 : (y17_3 + 1).toInt = y17_3.toInt + (1) := z_addc (by decide +kernel) (by omega) (by omega)
                have iv17_0 : (0 ≤ (y17_3 + 1).toInt ∧ (y17_3 + 1).toInt ≤ 6) := by omega
                have iv17_1 : (0 ≤ x50_2.toInt ∧ x50_2.toInt ≤ (y17_3 + 1).toInt) := by omega
                have iv17_2 : (y17_3 + 1).toInt ≤ ((G 222) this).toInt := by omega
                have iv17_3 : (x50_2.toInt = ((cntD dys p0.toInt (Int32.toNatClampNeg (y17_3 + 1)) : Nat) : Int)) := by obtain ⟨rf, h1, h2⟩ := hdy (Int32.toNatClampNeg y17_3) (by omega); rw [← eo30, c35] at h1; cases h1; have h3 := congrArg Int32.toInt h2; have c4 := clampI (x := y17_3 + 1) (by omega); rw [show Int32.toNatClampNeg (y17_3 + 1) = Int32.toNatClampNeg y17_3 + 1 by omega]; show _ = ((cntD dys p0.toInt (Int32.toNatClampNeg y17_3) + _ : Nat) : Int); have h0 := sc17; rw [if_pos (by omega)]; omega
                exact ih17 x50_2 (y17_3 + 1) iv17_0 iv17_1 iv17_2 iv17_3
      exact lp17 NN (0 : Int32) (0 : Int32) (show (0 ≤ (0 : Int32).toInt ∧ (0 : Int32).toInt ≤ 6) from by omega) (show (0 ≤ (0 : Int32).toInt ∧ (0 : Int32).toInt ≤ (0 : Int32).toInt) from by omega) (show (0 : Int32).toInt ≤ ((G 222) this).toInt from by omega) (show ((0 : Int32).toInt = ((cntD dys p0.toInt (Int32.toNatClampNeg (0 : Int32)) : Nat) : Int)) from by rw [zk0, show Int32.toNatClampNeg (0 : Int32) = 0 from rfl]; rfl)
    · have c7 := z_nle c7
      refine pw_j0 ej10 ?_
      have qq0 : (p0.toInt < 0 ∨ 100000 < p0.toInt → (-2 : Int32).toInt = -2) := by intro _; omega
      have qq1 : (0 ≤ p0.toInt → p0.toInt ≤ 100000 → (-2 : Int32).toInt = ((cntD dys p0.toInt (Int32.toNatClampNeg ((G 222) this)) : Nat) : Int)) := by intro h1 h2; exfalso; omega
      exact pw_some ⟨qq0, qq1⟩
abbrev QF_X11_reformAt (κ : Nat → Nat) (wd : Nat) (la : Nat → Nat) (G : Nat → Nat → Int32) (P : Nat → Nat → Option Nat) (U : Nat → Nat → Int64) (V : Nat → Nat → Nat → Int32) (X : Nat → Nat → Nat → Int64) (O : Nat → Nat → Nat → Option Nat) (kd : Nat → Nat) (ln : Nat → Nat) (cnt : Nat) (this : Nat) (p0 : Int32) (ra : Nat) : (Option Nat) → Prop := (fun t => ((p0.toInt < 0 ∨ ((G 222) this).toInt ≤ p0.toInt → (t : Option Nat) = none)) ∧ ((0 ≤ p0.toInt → p0.toInt < ((G 222) this).toInt → t = (O 2) ra (Int32.toNatClampNeg p0))))
set_option maxHeartbeats 4000000 in
set_option maxRecDepth 100000 in
theorem fn_X11_reformAt (κ : Nat → Nat) (wd : Nat) (la : Nat → Nat) (G : Nat → Nat → Int32) (P : Nat → Nat → Option Nat) (U : Nat → Nat → Int64) (V : Nat → Nat → Nat → Int32) (X : Nat → Nat → Nat → Int64) (O : Nat → Nat → Nat → Option Nat) (kd : Nat → Nat) (ln : Nat → Nat) (cnt : Nat) (this : Nat) (p0 : Int32) (ra : Nat) (hzG222 : rng (0) 6 (G 222)) (hzP221 : PB κ ln wd 12 302 6 6 0 (P 221)) (hzO2 : OB κ 6 (O 2)) (hzLN : LN κ ln) (hk_this : κ this = 12) (hB : LB la cnt P) (hlt_this : this < cnt) (h221 : (P 221) this = some ra) : pw (f_X11_reformAt G P U V X O kd ln cnt this p0) (QF_X11_reformAt κ wd la G P U V X O kd ln cnt this p0 ra) := by
  unfold f_X11_reformAt
  have zk0 : (0 : Int32).toInt = 0 := by decide +kernel
  have r_p0 := i32r p0
  have hn1 : (P 221) this = some ra := h221
  obtain ⟨_, lt_ra2, lb_ra2⟩ := (hB.1 221 fl_221) this ra hn1
  have lb_ra2 : la ra = la this + 3 := lk_221.mp lb_ra2
  obtain ⟨hk_ra, hl1_ra, hl2_ra, hw_ra⟩ := (hzP221 this).2 ra hn1
  have hz_ra : (Int32.ofNat (ln ra)).toInt = ((ln ra : Nat) : Int) := ofN_eq (by omega)
  refine pw_jE (fun j22 ej22 => ?_)
  refine pw_jE (fun j12 ej12 => ?_)
  refine pw_ite (fun c1 => ?_) (fun c1 => ?_)
  · have c1 := (z_lt _ _).mp c1
    refine pw_j0 ej12 ?_
    refine pw_j1 ej22 (fun z22_0 ez22_0 => ?_)
    subst ez22_0
    have qq0 : (p0.toInt < 0 ∨ ((G 222) this).toInt ≤ p0.toInt → (none : Option Nat) = none) := by intro _; rfl
    have qq1 : (0 ≤ p0.toInt → p0.toInt < ((G 222) this).toInt → none = (O 2) ra (Int32.toNatClampNeg p0)) := by intro h1 h2; exfalso; omega
    exact pw_some ⟨qq0, qq1⟩
  · have c1 := z_nlt c1
    have b3 := hzG222 this
    refine pw_ite (fun c9 => ?_) (fun c9 => ?_)
    · have c9 := (z_lt _ _).mp c9
      refine pw_nne hn1 ?_
      refine pw_if (fun hb21 => ?_)
      obtain ⟨hbl21, hbr21⟩ := hb21
      refine pw_vl (fun o21 eo21 => ?_)
      have hk_o21 : ∀ b, o21 = some b → κ b = 6 := fun b hq => hzO2 _ _ b (eo21.symm.trans hq)
      refine pw_j1 ej22 (fun z22_0 ez22_0 => ?_)
      subst ez22_0
      have qq0 : (p0.toInt < 0 ∨ ((G 222) this).toInt ≤ p0.toInt → (o21 : Option Nat) = none) := by intro h; exfalso; omega
      have qq1 : (0 ≤ p0.toInt → p0.toInt < ((G 222) this).toInt → o21 = (O 2) ra (Int32.toNatClampNeg p0)) := by intro _ _; exact eo21
      exact pw_some ⟨qq0, qq1⟩
    · have c9 := z_nlt c9
      refine pw_j0 ej12 ?_
      refine pw_j1 ej22 (fun z22_0 ez22_0 => ?_)
      subst ez22_0
      have qq0 : (p0.toInt < 0 ∨ ((G 222) this).toInt ≤ p0.toInt → (none : Option Nat) = none) := by intro _; rfl
      have qq1 : (0 ≤ p0.toInt → p0.toInt < ((G 222) this).toInt → none = (O 2) ra (Int32.toNatClampNeg p0)) := by intro h1 h2; exfalso; omega
      exact pw_some ⟨qq0, qq1⟩