abbrev QF_X11_fault (κ : Nat → Nat) (wd : Nat) (la : Nat → Nat) (G : Nat → Nat → Int32) (P : Nat → Nat → Option Nat) (U : Nat → Nat → Int64) (V : Nat → Nat → Nat → Int32) (X : Nat → Nat → Nat → Int64) (O : Nat → Nat → Nat → Option Nat) (kd : Nat → Nat) (ln : Nat → Nat) (cnt : Nat) (this : Nat) (p0 : Int32) (rd : Nat) : (Int32) → Prop := (fun t => ((p0.toInt = 0 → t = (G 80) rd)) ∧ ((p0.toInt = 1 → t = (G 81) rd)) ∧ ((p0.toInt ≠ 0 → p0.toInt ≠ 1 → t.toInt = -1)))
set_option maxHeartbeats 4000000 in
set_option maxRecDepth 100000 in
theorem fn_X11_fault (κ : Nat → Nat) (wd : Nat) (la : Nat → Nat) (G : Nat → Nat → Int32) (P : Nat → Nat → Option Nat) (U : Nat → Nat → Int64) (V : Nat → Nat → Nat → Int32) (X : Nat → Nat → Nat → Int64) (O : Nat → Nat → Nat → Option Nat) (kd : Nat → Nat) (ln : Nat → Nat) (cnt : Nat) (this : Nat) (p0 : Int32) (rd : Nat) (hzP225 : PB κ ln wd 12 5 0 2500 0 (P 225)) (hzLN : LN κ ln) (hk_this : κ this = 12) (hB : LB la cnt P) (hlt_this : this < cnt) (h225 : (P 225) this = some rd) : pw (f_X11_fault G P U V X O kd ln cnt this p0) (QF_X11_fault κ wd la G P U V X O kd ln cnt this p0 rd) := by
  unfold f_X11_fault
  have zkm1 : (-1 : Int32).toInt = -1 := by decide +kernel
  have zk0 : (0 : Int32).toInt = 0 := by decide +kernel
  have zk1 : (1 : Int32).toInt = 1 := by decide +kernel
  have r_p0 := i32r p0
  have hn1 : (P 225) this = some rd := h225
  obtain ⟨_, lt_rd2, lb_rd2⟩ := (hB.1 225 fl_225) this rd hn1
  have lb_rd2 : la rd = 300 := lk_225.mp lb_rd2
  obtain ⟨hk_rd, hl1_rd, hl2_rd, hw_rd⟩ := (hzP225 this).2 rd hn1
  refine pw_ite (fun c1_0 => ?_) (fun c1_0 => ?_)
  · have c1_0 := congrArg Int32.toInt c1_0
    refine pw_nne hn1 ?_
    have qq0 : (p0.toInt = 0 → ((G 80) rd) = (G 80) rd) := by intro _; rfl
    have qq1 : (p0.toInt = 1 → ((G 80) rd) = (G 81) rd) := by intro h; omega
    have qq2 : (p0.toInt ≠ 0 → p0.toInt ≠ 1 → ((G 80) rd).toInt = -1) := by intro h; omega
    exact pw_some ⟨qq0, qq1, qq2⟩
  · have c1_0 := z_ne c1_0
    refine pw_ite (fun c1_1 => ?_) (fun c1_1 => ?_)
    · have c1_1 := congrArg Int32.toInt c1_1
      refine pw_nne hn1 ?_
      have qq0 : (p0.toInt = 0 → ((G 81) rd) = (G 80) rd) := by intro h; omega
      have qq1 : (p0.toInt = 1 → ((G 81) rd) = (G 81) rd) := by intro _; rfl
      have qq2 : (p0.toInt ≠ 0 → p0.toInt ≠ 1 → ((G 81) rd).toInt = -1) := by intro _ h; omega
      exact pw_some ⟨qq0, qq1, qq2⟩
    · have c1_1 := z_ne c1_1
      have qq0 : (p0.toInt = 0 → (-1 : Int32) = (G 80) rd) := by intro h; omega
      have qq1 : (p0.toInt = 1 → (-1 : Int32) = (G 81) rd) := by intro h; omega
      have qq2 : (p0.toInt ≠ 0 → p0.toInt ≠ 1 → (-1 : Int32).toInt = -1) := by intro _ _; omega
      exact pw_some ⟨qq0, qq1, qq2⟩
abbrev QF_X11_count (κ : Nat → Nat) (wd : Nat) (la : Nat → Nat) (G : Nat → Nat → Int32) (P : Nat → Nat → Option Nat) (U : Nat → Nat → Int64) (V : Nat → Nat → Nat → Int32) (X : Nat → Nat → Nat → Int64) (O : Nat → Nat → Nat → Option Nat) (kd : Nat → Nat) (ln : Nat → Nat) (cnt : Nat) (this : Nat) (p0 : Int32) (tp : Nat) : (Int32) → Prop := (fun t => ((p0.toInt = 0 → t = (G 222) this)) ∧ ((p0.toInt = 1 → t = (G 203) wd)) ∧ ((p0.toInt = 2 → t = (G 141) tp)) ∧ ((p0.toInt < 0 ∨ 2 < p0.toInt → t.toInt = -1)))
set_option maxHeartbeats 4000000 in
set_option maxRecDepth 100000 in
theorem fn_X11_count (κ : Nat → Nat) (wd : Nat) (la : Nat → Nat) (G : Nat → Nat → Int32) (P : Nat → Nat → Option Nat) (U : Nat → Nat → Int64) (V : Nat → Nat → Nat → Int32) (X : Nat → Nat → Nat → Int64) (O : Nat → Nat → Nat → Option Nat) (kd : Nat → Nat) (ln : Nat → Nat) (cnt : Nat) (this : Nat) (p0 : Int32) (tp : Nat) (hzG141 : rng (0) 2000 (G 141)) (hzG200 : rng (0) 24 (G 200)) (hzG203 : rng (0) 100 (G 203)) (hzG222 : rng (0) 6 (G 222)) (hzP0 : PB κ ln wd 1 11 0 2500 0 (P 0)) (hzP201 : PB κ ln wd 11 100 0 2400 0 (P 201)) (hzP202 : PB κ ln wd 11 101 0 100 0 (P 202)) (hzP220 : PB κ ln wd 12 8 0 2500 0 (P 220)) (hzP229 : PB κ ln wd 12 1 0 2500 0 (P 229)) (hzV1 : rng2 (0) 24 (V 1)) (hzRA : RA κ ln (G 200) (P 201) (P 202)) (hzRB : RB κ ln (G 200) (G 203) (P 202) (V 1)) (hzRI : RI (P 202)) (hzLN : LN κ ln) (hzW0 : W0 wd (P 0)) (hk_this : κ this = 12) (hB : LB la cnt P) (hlt_this : this < cnt) (h220 : (P 220) this = some tp) : pw (f_X11_count G P U V X O kd ln cnt this p0) (QF_X11_count κ wd la G P U V X O kd ln cnt this p0 tp) := by
  unfold f_X11_count
  have zkm1 : (-1 : Int32).toInt = -1 := by decide +kernel
  have zk0 : (0 : Int32).toInt = 0 := by decide +kernel
  have zk1 : (1 : Int32).toInt = 1 := by decide +kernel
  have zk2 : (2 : Int32).toInt = 2 := by decide +kernel
  have r_p0 := i32r p0
  have hn1 : (P 220) this = some tp := h220
  obtain ⟨_, lt_tp2, lb_tp2⟩ := (hB.1 220 fl_220) this tp hn1
  have lb_tp2 : la tp = 10 := lk_220.mp lb_tp2
  obtain ⟨hk_tp, hl1_tp, hl2_tp, hw_tp⟩ := (hzP220 this).2 tp hn1
  refine pw_ite (fun c1_0 => ?_) (fun c1_0 => ?_)
  · have c1_0 := congrArg Int32.toInt c1_0
    have b3 := hzG222 this
    have qq0 : (p0.toInt = 0 → ((G 222) this) = (G 222) this) := by intro _; rfl
    have qq1 : (p0.toInt = 1 → ((G 222) this) = (G 203) wd) := by intro h; omega
    have qq2 : (p0.toInt = 2 → ((G 222) this) = (G 141) tp) := by intro h; omega
    have qq3 : (p0.toInt < 0 ∨ 2 < p0.toInt → ((G 222) this).toInt = -1) := by intro h; omega
    exact pw_some ⟨qq0, qq1, qq2, qq3⟩
  · have c1_0 := z_ne c1_0
    refine pw_ite (fun c1_1 => ?_) (fun c1_1 => ?_)
    · have c1_1 := congrArg Int32.toInt c1_1
      refine pw_nn (fun a34 hn_a34 => ?_)
      obtain ⟨_, lt_a344, lb_a344⟩ := (hB.1 229 fl_229) this a34 hn_a34
      have lb_a344 : la a34 = 70 := lk_229.mp lb_a344
      obtain ⟨hk_a34, hl1_a34, hl2_a34, hw_a34⟩ := (hzP229 this).2 a34 hn_a34
      refine pw_nn (fun a37 hn_a37 => ?_)
      obtain rfl : wd = a37 := (hzW0 _ _ hn_a37).symm
      obtain ⟨_, lt_wd5, lb_wd5⟩ := (hB.1 0 fl_0) a34 wd hn_a37
      have lb_wd5 : la wd = 20 := lk_0.mp lb_wd5
      obtain ⟨hk_wd, hl1_wd, hl2_wd, hw_wd⟩ := (hzP0 a34).2 wd hn_a37
      have b6 := hzG203 wd
      have qq0 : (p0.toInt = 0 → ((G 203) wd) = (G 222) this) := by intro h; omega
      have qq1 : (p0.toInt = 1 → ((G 203) wd) = (G 203) wd) := by intro _; rfl
      have qq2 : (p0.toInt = 2 → ((G 203) wd) = (G 141) tp) := by intro h; omega
      have qq3 : (p0.toInt < 0 ∨ 2 < p0.toInt → ((G 203) wd).toInt = -1) := by intro h; omega
      exact pw_some ⟨qq0, qq1, qq2, qq3⟩
    · have c1_1 := z_ne c1_1
      refine pw_ite (fun c1_2 => ?_) (fun c1_2 => ?_)
      · have c1_2 := congrArg Int32.toInt c1_2
        refine pw_nne hn1 ?_
        have b7 := hzG141 tp
        have qq0 : (p0.toInt = 0 → ((G 141) tp) = (G 222) this) := by intro h; omega
        have qq1 : (p0.toInt = 1 → ((G 141) tp) = (G 203) wd) := by intro h; omega
        have qq2 : (p0.toInt = 2 → ((G 141) tp) = (G 141) tp) := by intro _; rfl
        have qq3 : (p0.toInt < 0 ∨ 2 < p0.toInt → ((G 141) tp).toInt = -1) := by intro h; omega
        exact pw_some ⟨qq0, qq1, qq2, qq3⟩
      · have c1_2 := z_ne c1_2
        have qq0 : (p0.toInt = 0 → (-1 : Int32) = (G 222) this) := by intro h; omega
        have qq1 : (p0.toInt = 1 → (-1 : Int32) = (G 203) wd) := by intro h; omega
        have qq2 : (p0.toInt = 2 → (-1 : Int32) = (G 141) tp) := by intro h; omega
        have qq3 : (p0.toInt < 0 ∨ 2 < p0.toInt → (-1 : Int32).toInt = -1) := by intro _; omega
        exact pw_some ⟨qq0, qq1, qq2, qq3⟩
abbrev QF_X11_stage (κ : Nat → Nat) (wd : Nat) (la : Nat → Nat) (G : Nat → Nat → Int32) (P : Nat → Nat → Option Nat) (U : Nat → Nat → Int64) (V : Nat → Nat → Nat → Int32) (X : Nat → Nat → Nat → Int64) (O : Nat → Nat → Nat → Option Nat) (kd : Nat → Nat) (ln : Nat → Nat) (cnt : Nat) (this : Nat) (p0 : Int32) (ra : Nat) (dys : Nat → Int32) : (Int32) → Prop := (fun t => ((p0.toInt < 0 ∨ 100000 < p0.toInt → t.toInt = -2)) ∧ ((0 ≤ p0.toInt → p0.toInt ≤ 100000 → t.toInt = ((cntD dys p0.toInt (Int32.toNatClampNeg ((G 222) this)) : Nat) : Int))))
set_option maxHeartbeats 4000000 in
set_option maxRecDepth 100000 in
theorem fn_X11_stage (κ : Nat → Nat) (wd : Nat) (la : Nat → Nat) (G : Nat → Nat → Int32) (P : Nat → Nat → Option Nat) (U : Nat → Nat → Int64) (V : Nat → Nat → Nat → Int32) (X : Nat → Nat → Nat → Int64) (O : Nat → Nat → Nat → Option Nat) (kd : Nat → Nat) (ln : Nat → Nat) (cnt : Nat) (this : Nat) (p0 : Int32) (ra : Nat) (dys : Nat → Int32) (hzG222 : rng (0) 6 (G 222)) (hzP221 : PB κ ln wd 12 302 6 6 0 (P 221)) (hzO2 : OB κ 6 (O 2)) (hzLN : LN κ ln) (hk_this : κ this = 12) (hB : LB la cnt P) (hlt_this : this < cnt) (h221 : (P 221) this = some ra) (hdy : ∀ k, k < Int32.toNatClampNeg ((G 222) this) → ∃ rf, (O 2) ra k = some rf ∧ (G 100) rf = dys k) : pw (f_X11_stage G P U V X O kd ln cnt this p0) (QF_X11_stage κ wd la G P U V X O kd ln cnt this p0 ra dys) := by
  unfold f_X11_stage
  have zkm2 : (-2 : Int32).toInt = -2 := by decide +kernel
  have zk0 : (0 : Int32).toInt = 0 := by decide +kernel
  have zk100000 : (100000 : Int32).toInt = 100000 := by decide +kernel
  have r_p0 := i32r p0
  have hn1 : (P 221) this = some ra := h221
  obtain ⟨_, lt_ra2, lb_ra2⟩ := (hB.1 221 fl_221) this ra hn1
  have lb_ra2 : la ra = la this + 3 := lk_221.mp lb_ra2
  obtain ⟨hk_ra, hl1_ra, hl2_ra, hw_ra⟩ := (hzP221 this).2 ra hn1
  have hz_ra : (Int32.ofNat (ln ra)).toInt = ((ln ra : Nat) : Int) := ofN_eq (by omega)
  refine pw_jE (fun j10 ej10 => ?_)
  refine pw_ite (fun c1 => ?_) (fun c1 => ?_)
  · have c1 := (z_lt _ _).mp c1
    refine pw_j0 ej10 ?_
    have qq0 : (p0.toInt < 0 ∨ 100000 < p0.toInt → (-2 : Int32).toInt = -2) := by intro _; omega
    have qq1 : (0 ≤ p0.toInt → p0.toInt ≤ 100000 → (-2 : Int32).toInt = ((cntD dys p0.toInt (Int32.toNatClampNeg ((G 222) this)) : Nat) : Int)) := by intro h1 h2; exfalso; omega
    exact pw_some ⟨qq0, qq1⟩
  · have c1 := z_nlt c1
    refine pw_ite (fun c7 => ?_) (fun c7 => ?_)
    · have c7 := (z_le _ _).mp c7
      have hb22 := hzG222 this
      have lp17 : ∀ (n17 : Nat) (y17_2 : Int32) (y17_3 : Int32), (0 ≤ y17_3.toInt ∧ y17_3.toInt ≤ 6) → (0 ≤ y17_2.toInt ∧ y17_2.toInt ≤ y17_3.toInt) → y17_3.toInt ≤ ((G 222) this).toInt → (y17_2.toInt = ((cntD dys p0.toInt (Int32.toNatClampNeg y17_3) : Nat) : Int)) → pw (L_X11_stage_17 G P O ln this p0 n17 y17_2 y17_3) (QF_X11_stage κ wd la G P U V X O kd ln cnt this p0 ra dys) := by
        intro n17
        induction n17 with
        | zero => intros; exact pw_none
        | succ n17 ih17 =>
          intro y17_2 y17_3 f3 f4 f5 sc17
          show pw (B_X11_stage_17 G P O ln this p0 (L_X11_stage_17 G P O ln this p0 n17) y17_2 y17_3) _
          unfold B_X11_stage_17
          have c3 := clampI (x := y17_3) (by omega)
          have c22 := clampI (x := (G 222) this) (by omega)
          have b6 := hzG222 this
          refine pw_ite (fun c22 => ?_) (fun c22 => ?_)
          · have c22 := (z_le _ _).mp c22
            have qq0 : (p0.toInt < 0 ∨ 100000 < p0.toInt → y17_2.toInt = -2) := by intro h; exfalso; omega
            have qq1 : (0 ≤ p0.toInt → p0.toInt ≤ 100000 → y17_2.toInt = ((cntD dys p0.toInt (Int32.toNatClampNeg ((G 222) this)) : Nat) : Int)) := by intro _ _; have h0 := sc17; rw [show Int32.toNatClampNeg y17_3 = Int32.toNatClampNeg ((G 222) this) by omega] at h0; exact h0
            exact pw_some ⟨qq0, qq1⟩
          · have c22 := z_nle c22
            refine pw_nne hn1 ?_
            refine pw_if (fun hb30 => ?_)
            obtain ⟨hbl30, hbr30⟩ := hb30
            refine pw_vl (fun o30 eo30 => ?_)
            have hk_o30 : ∀ b, o30 = some b → κ b = 6 := fun b hq => hzO2 _ _ b (eo30.symm.trans hq)
            refine pw_jE (fun j50 ej50 => ?_)
            refine pw_oc (fun c35 => ?_) (fun b35 c35 => ?_)
            · skip
              refine pw_j1 ej50 (fun x50_2 ex50_2 => ?_)
              have ex50_2 := ex50_2.symm
              have f_x50_2 : x50_2.toInt = y17_2.toInt := by rw [ex50_2]
              have f7 : (y17_3 + 1).toInt = y17_3.toInt + (1) := z_addc (by decide +kernel) (by omega) (by omega)
              have iv17_0 : (0 ≤ (y17_3 + 1).toInt ∧ (y17_3 + 1).toInt ≤ 6) := by omega
              have iv17_1 : (0 ≤ x50_2.toInt ∧ x50_2.toInt ≤ (y17_3 + 1).toInt) := by omega
              have iv17_2 : (y17_3 + 1).toInt ≤ ((G 222) this).toInt := by omega
              have iv17_3 : (x50_2.toInt = ((cntD dys p0.toInt (Int32.toNatClampNeg (y17_3 + 1)) : Nat) : Int)) := by exfalso; obtain ⟨rf, h1, h2⟩ := hdy (Int32.toNatClampNeg y17_3) (by omega); rw [← eo30, c35] at h1; cases h1
              exact ih17 x50_2 (y17_3 + 1) iv17_0 iv17_1 iv17_2 iv17_3
            · skip
              have hk_b35 := hk_o30 b35 c35
              refine pw_ite (fun c44 => ?_) (fun c44 => ?_)
              · have c44 := (z_lt _ _).mp c44
                refine pw_j1 ej50 (fun x50_2 ex50_2 => ?_)
                have ex50_2 := ex50_2.symm
                have f_x50_2 : x50_2.toInt = y17_2.toInt := by rw [ex50_2]
                have f8 : (y17_3 + 1).toInt = y17_3.toInt + (1) := z_addc (by decide +kernel) (by omega) (by omega)
                have iv17_0 : (0 ≤ (y17_3 + 1).toInt ∧ (y17_3 + 1).toInt ≤ 6) := by omega
                have iv17_1 : (0 ≤ x50_2.toInt ∧ x50_2.toInt ≤ (y17_3 + 1).toInt) := by omega
                have iv17_2 : (y17_3 + 1).toInt ≤ ((G 222) this).toInt := by omega
                have iv17_3 : (x50_2.toInt = ((cntD dys p0.toInt (Int32.toNatClampNeg (y17_3 + 1)) : Nat) : Int)) := by obtain ⟨rf, h1, h2⟩ := hdy (Int32.toNatClampNeg y17_3) (by omega); rw [← eo30, c35] at h1; cases h1; have h3 := congrArg Int32.toInt h2; have c4 := clampI (x := y17_3 + 1) (by omega); rw [show Int32.toNatClampNeg (y17_3 + 1) = Int32.toNatClampNeg y17_3 + 1 by omega]; show _ = ((cntD dys p0.toInt (Int32.toNatClampNeg y17_3) + _ : Nat) : Int); have h0 := sc17; rw [if_neg (by omega)]; omega
                exact ih17 x50_2 (y17_3 + 1) iv17_0 iv17_1 iv17_2 iv17_3
              · have c44 := z_nlt c44
                have f9 : (y17_2 + 1).toInt = y17_2.toInt + (1) := z_addc (by decide +kernel) (by omega) (by omega)
                refine pw_j1 ej50 (fun x50_2 ex50_2 => ?_)
                have ex50_2 := ex50_2.symm
                have f_x50_2 : x50_2.toInt = (y17_2 + 1).toInt := by rw [ex50_2]
                have f10 : (y17_3 + 1).toInt = y17_3.toInt + (1) := z_addc (by decide +kernel) (by omega) (by omega)
                have iv17_0 : (0 ≤ (y17_3 + 1).toInt ∧ (y17_3 + 1).toInt ≤ 6) := by omega
                have iv17_1 : (0 ≤ x50_2.toInt ∧ x50_2.toInt ≤ (y17_3 + 1).toInt) := by omega
                have iv17_2 : (y17_3 + 1).toInt ≤ ((G 222) this).toInt := by omega
                have iv17_3 : (x50_2.toInt = ((cntD dys p0.toInt (Int32.toNatClampNeg (y17_3 + 1)) : Nat) : Int)) := by obtain ⟨rf, h1, h2⟩ := hdy (Int32.toNatClampNeg y17_3) (by omega); rw [← eo30, c35] at h1; cases h1; have h3 := congrArg Int32.toInt h2; have c4 := clampI (x := y17_3 + 1) (by omega); rw [show Int32.toNatClampNeg (y17_3 + 1) = Int32.toNatClampNeg y17_3 + 1 by omega]; show _ = ((cntD dys p0.toInt (Int32.toNatClampNeg y17_3) + _ : Nat) : Int); have h0 := sc17; rw [if_pos (by omega)]; omega
                exact ih17 x50_2 (y17_3 + 1) iv17_0 iv17_1 iv17_2 iv17_3
      exact lp17 NN (0 : Int32) (0 : Int32) (show (0 ≤ (0 : Int32).toInt ∧ (0 : Int32).toInt ≤ 6) from by omega) (show (0 ≤ (0 : Int32).toInt ∧ (0 : Int32).toInt ≤ (0 : Int32).toInt) from by omega) (show (0 : Int32).toInt ≤ ((G 222) this).toInt from by omega) (show ((0 : Int32).toInt = ((cntD dys p0.toInt (Int32.toNatClampNeg (0 : Int32)) : Nat) : Int)) from by rw [zk0, show Int32.toNatClampNeg (0 : Int32) = 0 from rfl]; rfl)
    · have c7 := z_nle c7
      refine pw_j0 ej10 ?_
      have qq0 : (p0.toInt < 0 ∨ 100000 < p0.toInt → (-2 : Int32).toInt = -2) := by intro _; omega
      have qq1 : (0 ≤ p0.toInt → p0.toInt ≤ 100000 → (-2 : Int32).toInt = ((cntD dys p0.toInt (Int32.toNatClampNeg ((G 222) this)) : Nat) : Int)) := by intro h1 h2; exfalso; omega
      exact pw_some ⟨qq0, qq1⟩
abbrev QF_X11_reformAt (κ : Nat → Nat) (wd : Nat) (la : Nat → Nat) (G : Nat → Nat → Int32) (P : Nat → Nat → Option Nat) (U : Nat → Nat → Int64) (V : Nat → Nat → Nat → Int32) (X : Nat → Nat → Nat → Int64) (O : Nat → Nat → Nat → Option Nat) (kd : Nat → Nat) (ln : Nat → Nat) (cnt : Nat) (this : Nat) (p0 : Int32) (ra : Nat) : (Option Nat) → Prop := (fun t => ((p0.toInt < 0 ∨ ((G 222) this).toInt ≤ p0.toInt → (t : Option Nat) = none)) ∧ ((0 ≤ p0.toInt → p0.toInt < ((G 222) this).toInt → t = (O 2) ra (Int32.toNatClampNeg p0))))
set_option maxHeartbeats 4000000 in
set_option maxRecDepth 100000 in
theorem fn_X11_reformAt (κ : Nat → Nat) (wd : Nat) (la : Nat → Nat) (G : Nat → Nat → Int32) (P : Nat → Nat → Option Nat) (U : Nat → Nat → Int64) (V : Nat → Nat → Nat → Int32) (X : Nat → Nat → Nat → Int64) (O : Nat → Nat → Nat → Option Nat) (kd : Nat → Nat) (ln : Nat → Nat) (cnt : Nat) (this : Nat) (p0 : Int32) (ra : Nat) (hzG222 : rng (0) 6 (G 222)) (hzP221 : PB κ ln wd 12 302 6 6 0 (P 221)) (hzO2 : OB κ 6 (O 2)) (hzLN : LN κ ln) (hk_this : κ this = 12) (hB : LB la cnt P) (hlt_this : this < cnt) (h221 : (P 221) this = some ra) : pw (f_X11_reformAt G P U V X O kd ln cnt this p0) (QF_X11_reformAt κ wd la G P U V X O kd ln cnt this p0 ra) := by
  unfold f_X11_reformAt
  have zk0 : (0 : Int32).toInt = 0 := by decide +kernel
  have r_p0 := i32r p0
  have hn1 : (P 221) this = some ra := h221
  obtain ⟨_, lt_ra2, lb_ra2⟩ := (hB.1 221 fl_221) this ra hn1
  have lb_ra2 : la ra = la this + 3 := lk_221.mp lb_ra2
  obtain ⟨hk_ra, hl1_ra, hl2_ra, hw_ra⟩ := (hzP221 this).2 ra hn1
  have hz_ra : (Int32.ofNat (ln ra)).toInt = ((ln ra : Nat) : Int) := ofN_eq (by omega)
  refine pw_jE (fun j22 ej22 => ?_)
  refine pw_jE (fun j12 ej12 => ?_)
  refine pw_ite (fun c1 => ?_) (fun c1 => ?_)
  · have c1 := (z_lt _ _).mp c1
    refine pw_j0 ej12 ?_
    refine pw_j1 ej22 (fun z22_0 ez22_0 => ?_)
    subst ez22_0
    have qq0 : (p0.toInt < 0 ∨ ((G 222) this).toInt ≤ p0.toInt → (none : Option Nat) = none) := by intro _; rfl
    have qq1 : (0 ≤ p0.toInt → p0.toInt < ((G 222) this).toInt → none = (O 2) ra (Int32.toNatClampNeg p0)) := by intro h1 h2; exfalso; omega
    exact pw_some ⟨qq0, qq1⟩
  · have c1 := z_nlt c1
    have b3 := hzG222 this
    refine pw_ite (fun c9 => ?_) (fun c9 => ?_)
    · have c9 := (z_lt _ _).mp c9
      refine pw_nne hn1 ?_
      refine pw_if (fun hb21 => ?_)
      obtain ⟨hbl21, hbr21⟩ := hb21
      refine pw_vl (fun o21 eo21 => ?_)
      have hk_o21 : ∀ b, o21 = some b → κ b = 6 := fun b hq => hzO2 _ _ b (eo21.symm.trans hq)
      refine pw_j1 ej22 (fun z22_0 ez22_0 => ?_)
      subst ez22_0
      have qq0 : (p0.toInt < 0 ∨ ((G 222) this).toInt ≤ p0.toInt → (o21 : Option Nat) = none) := by intro h; exfalso; omega
      have qq1 : (0 ≤ p0.toInt → p0.toInt < ((G 222) this).toInt → o21 = (O 2) ra (Int32.toNatClampNeg p0)) := by intro _ _; exact eo21
      exact pw_some ⟨qq0, qq1⟩
    · have c9 := z_nlt c9
      refine pw_j0 ej12 ?_
      refine pw_j1 ej22 (fun z22_0 ez22_0 => ?_)
      subst ez22_0
      have qq0 : (p0.toInt < 0 ∨ ((G 222) this).toInt ≤ p0.toInt → (none : Option Nat) = none) := by intro _; rfl
      have qq1 : (0 ≤ p0.toInt → p0.toInt < ((G 222) this).toInt → none = (O 2) ra (Int32.toNatClampNeg p0)) := by intro h1 h2; exfalso; omega
      exact pw_some ⟨qq0, qq1⟩
abbrev QF_X11_about (κ : Nat → Nat) (wd : Nat) (la : Nat → Nat) (G : Nat → Nat → Int32) (P : Nat → Nat → Option Nat) (U : Nat → Nat → Int64) (V : Nat → Nat → Nat → Int32) (X : Nat → Nat → Nat → Int64) (O : Nat → Nat → Nat → Option Nat) (kd : Nat → Nat) (ln : Nat → Nat) (cnt : Nat) (this : Nat) (p0 : Int32) (p1 : Int32) (ra : Nat) : (Int32) → Prop := (fun t => ((p0.toInt < 0 ∨ ((G 222) this).toInt ≤ p0.toInt → t.toInt = -1)) ∧ ((0 ≤ p0.toInt → p0.toInt < ((G 222) this).toInt → ∀ rf pr er, (O 2) ra (Int32.toNatClampNeg p0) = some rf → (P 103) rf = some pr → (P 104) rf = some er → 0 ≤ ((G 107) rf).toInt → ((G 107) rf).toInt ≤ 100 → ABT p1.toInt t.toInt ((G 100) rf).toInt ((G 102) rf).toInt ((G 203) pr).toInt ((G 107) rf).toInt ((G 203) er).toInt)))
set_option maxHeartbeats 4000000 in
set_option maxRecDepth 100000 in
theorem fn_X11_about (κ : Nat → Nat) (wd : Nat) (la : Nat → Nat) (G : Nat → Nat → Int32) (P : Nat → Nat → Option Nat) (U : Nat → Nat → Int64) (V : Nat → Nat → Nat → Int32) (X : Nat → Nat → Nat → Int64) (O : Nat → Nat → Nat → Option Nat) (kd : Nat → Nat) (ln : Nat → Nat) (cnt : Nat) (this : Nat) (p0 : Int32) (p1 : Int32) (ra : Nat) (hzG102 : rng (0) 40 (G 102)) (hzG200 : rng (0) 24 (G 200)) (hzG203 : rng (0) 100 (G 203)) (hzG222 : rng (0) 6 (G 222)) (hzP103 : PB κ ln wd 6 11 0 2500 1 (P 103)) (hzP104 : PB κ ln wd 6 11 0 2500 1 (P 104)) (hzP201 : PB κ ln wd 11 100 0 2400 0 (P 201)) (hzP202 : PB κ ln wd 11 101 0 100 0 (P 202)) (hzP221 : PB κ ln wd 12 302 6 6 0 (P 221)) (hzV1 : rng2 (0) 24 (V 1)) (hzO2 : OB κ 6 (O 2)) (hzRA : RA κ ln (G 200) (P 201) (P 202)) (hzRB : RB κ ln (G 200) (G 203) (P 202) (V 1)) (hzRI : RI (P 202)) (hzRM103 : RM ln 40 (P 103) (P 202)) (hzRM104 : RM ln 40 (P 104) (P 202)) (hzLN : LN κ ln) (hk_this : κ this = 12) (hB : LB la cnt P) (hlt_this : this < cnt) (h221 : (P 221) this = some ra) : pw (f_X11_about G P U V X O kd ln cnt this p0 p1) (QF_X11_about κ wd la G P U V X O kd ln cnt this p0 p1 ra) := by
  unfold f_X11_about
  have zkm1 : (-1 : Int32).toInt = -1 := by decide +kernel
  have zk0 : (0 : Int32).toInt = 0 := by decide +kernel
  have zk1 : (1 : Int32).toInt = 1 := by decide +kernel
  have zk2 : (2 : Int32).toInt = 2 := by decide +kernel
  have zk3 : (3 : Int32).toInt = 3 := by decide +kernel
  have zk4 : (4 : Int32).toInt = 4 := by decide +kernel
  have r_p0 := i32r p0
  have r_p1 := i32r p1
  refine pw_b1 (fun r2 hc2 => ?_)
  have hq2 := wp_at (ok_X11_reformAt κ wd G P U V X O kd ln cnt this p0 hzG222 hzP221 hzO2 hzLN hk_this) hc2
  obtain ⟨hk1, f2⟩ : ((∀ b, r2 = some b → κ b = 6)) ∧ ((∀ b, r2 = some b → 0 ≤ p0.toInt ∧ p0.toInt < ((G 222) this).toInt)) := hq2
  have h82_h221 : (P 221) this = some ra := by exact h221
  have hx2 := pwq (fn_X11_reformAt κ wd la G P U V X O kd ln cnt this p0 (ra) hzG222 hzP221 hzO2 hzLN hk_this hB hlt_this h82_h221) hc2
  obtain ⟨p2_0, p2_1⟩ : ((p0.toInt < 0 ∨ ((G 222) this).toInt ≤ p0.toInt → (r2 : Option Nat) = none)) ∧ ((0 ≤ p0.toInt → p0.toInt < ((G 222) this).toInt → r2 = (O 2) ra (Int32.toNatClampNeg p0))) := hx2
  refine pw_oc (fun c7 => ?_) (fun b7 c7 => ?_)
  · skip
    have qq0 : (p0.toInt < 0 ∨ ((G 222) this).toInt ≤ p0.toInt → (-1 : Int32).toInt = -1) := by intro _; omega
    have qq1 : (0 ≤ p0.toInt → p0.toInt < ((G 222) this).toInt → ∀ rf pr er, (O 2) ra (Int32.toNatClampNeg p0) = some rf → (P 103) rf = some pr → (P 104) rf = some er → 0 ≤ ((G 107) rf).toInt → ((G 107) rf).toInt ≤ 100 → ABT p1.toInt (-1 : Int32).toInt ((G 100) rf).toInt ((G 102) rf).toInt ((G 203) pr).toInt ((G 107) rf).toInt ((G 203) er).toInt) := by intro h1 h2 rf pr er h3; exfalso; rw [p2_1 h1 h2, h3] at c7; cases c7
    exact pw_some ⟨qq0, qq1⟩
  · skip
    have hk_b7 := hk1 b7 c7
    refine pw_ite (fun c13_0 => ?_) (fun c13_0 => ?_)
    · have c13_0 := congrArg Int32.toInt c13_0
      have qq0 : (p0.toInt < 0 ∨ ((G 222) this).toInt ≤ p0.toInt → ((G 100) b7).toInt = -1) := by intro h; exfalso; rw [p2_0 h] at c7; cases c7
      have qq1 : (0 ≤ p0.toInt → p0.toInt < ((G 222) this).toInt → ∀ rf pr er, (O 2) ra (Int32.toNatClampNeg p0) = some rf → (P 103) rf = some pr → (P 104) rf = some er → 0 ≤ ((G 107) rf).toInt → ((G 107) rf).toInt ≤ 100 → ABT p1.toInt ((G 100) b7).toInt ((G 100) rf).toInt ((G 102) rf).toInt ((G 203) pr).toInt ((G 107) rf).toInt ((G 203) er).toInt) := by intro h1 h2 rf pr er h3 h4 h5 h6 h7; rw [p2_1 h1 h2, h3] at c7; cases c7; exact ⟨fun h => by omega, fun h => by omega, fun h => by omega, fun h => by omega, fun h => by omega, fun h => by omega⟩
      exact pw_some ⟨qq0, qq1⟩
    · have c13_0 := z_ne c13_0
      refine pw_ite (fun c13_1 => ?_) (fun c13_1 => ?_)
      · have c13_1 := congrArg Int32.toInt c13_1
        have bx3 := hzG102 b7
        have qq0 : (p0.toInt < 0 ∨ ((G 222) this).toInt ≤ p0.toInt → ((G 102) b7).toInt = -1) := by intro h; exfalso; rw [p2_0 h] at c7; cases c7
        have qq1 : (0 ≤ p0.toInt → p0.toInt < ((G 222) this).toInt → ∀ rf pr er, (O 2) ra (Int32.toNatClampNeg p0) = some rf → (P 103) rf = some pr → (P 104) rf = some er → 0 ≤ ((G 107) rf).toInt → ((G 107) rf).toInt ≤ 100 → ABT p1.toInt ((G 102) b7).toInt ((G 100) rf).toInt ((G 102) rf).toInt ((G 203) pr).toInt ((G 107) rf).toInt ((G 203) er).toInt) := by intro h1 h2 rf pr er h3 h4 h5 h6 h7; rw [p2_1 h1 h2, h3] at c7; cases c7; exact ⟨fun h => by omega, fun h => by omega, fun h => by omega, fun h => by omega, fun h => by omega, fun h => by omega⟩
        exact pw_some ⟨qq0, qq1⟩
      · have c13_1 := z_ne c13_1
        refine pw_ite (fun c13_2 => ?_) (fun c13_2 => ?_)
        · have c13_2 := congrArg Int32.toInt c13_2
          refine pw_nn (fun a59 hn_a59 => ?_)
          obtain ⟨_, lt_a594, lb_a594⟩ := (hB.1 103 fl_103) b7 a59 hn_a59
          have lb_a594 : la a59 = la b7 + 1 := lk_103.mp lb_a594
          obtain ⟨hk_a59, hl1_a59, hl2_a59, hw_a59⟩ := (hzP103 b7).2 a59 hn_a59
          have bx5 := hzG203 a59
          have qq0 : (p0.toInt < 0 ∨ ((G 222) this).toInt ≤ p0.toInt → ((G 203) a59).toInt = -1) := by intro h; exfalso; rw [p2_0 h] at c7; cases c7
          have qq1 : (0 ≤ p0.toInt → p0.toInt < ((G 222) this).toInt → ∀ rf pr er, (O 2) ra (Int32.toNatClampNeg p0) = some rf → (P 103) rf = some pr → (P 104) rf = some er → 0 ≤ ((G 107) rf).toInt → ((G 107) rf).toInt ≤ 100 → ABT p1.toInt ((G 203) a59).toInt ((G 100) rf).toInt ((G 102) rf).toInt ((G 203) pr).toInt ((G 107) rf).toInt ((G 203) er).toInt) := by intro h1 h2 rf pr er h3 h4 h5 h6 h7; rw [p2_1 h1 h2, h3] at c7; cases c7; obtain rfl : a59 = pr := Option.some.inj (hn_a59.symm.trans h4); exact ⟨fun h => by omega, fun h => by omega, fun h => by omega, fun h => by omega, fun h => by omega, fun h => by omega⟩
          exact pw_some ⟨qq0, qq1⟩
        · have c13_2 := z_ne c13_2
          refine pw_ite (fun c13_3 => ?_) (fun c13_3 => ?_)
          · have c13_3 := congrArg Int32.toInt c13_3
            have qq0 : (p0.toInt < 0 ∨ ((G 222) this).toInt ≤ p0.toInt → ((G 107) b7).toInt = -1) := by intro h; exfalso; rw [p2_0 h] at c7; cases c7
            have qq1 : (0 ≤ p0.toInt → p0.toInt < ((G 222) this).toInt → ∀ rf pr er, (O 2) ra (Int32.toNatClampNeg p0) = some rf → (P 103) rf = some pr → (P 104) rf = some er → 0 ≤ ((G 107) rf).toInt → ((G 107) rf).toInt ≤ 100 → ABT p1.toInt ((G 107) b7).toInt ((G 100) rf).toInt ((G 102) rf).toInt ((G 203) pr).toInt ((G 107) rf).toInt ((G 203) er).toInt) := by intro h1 h2 rf pr er h3 h4 h5 h6 h7; rw [p2_1 h1 h2, h3] at c7; cases c7; exact ⟨fun h => by omega, fun h => by omega, fun h => by omega, fun h => by omega, fun h => by omega, fun h => by omega⟩
            exact pw_some ⟨qq0, qq1⟩
          · have c13_3 := z_ne c13_3
            refine pw_ite (fun c13_4 => ?_) (fun c13_4 => ?_)
            · have c13_4 := congrArg Int32.toInt c13_4
              refine pw_nn (fun a72 hn_a72 => ?_)
              obtain ⟨_, lt_a726, lb_a726⟩ := (hB.1 104 fl_104) b7 a72 hn_a72
              have lb_a726 : la a72 = la b7 + 2 := lk_104.mp lb_a726
              obtain ⟨hk_a72, hl1_a72, hl2_a72, hw_a72⟩ := (hzP104 b7).2 a72 hn_a72
              have bx7 := hzG203 a72
              have qq0 : (p0.toInt < 0 ∨ ((G 222) this).toInt ≤ p0.toInt → (((G 203) a72) - ((G 107) b7)).toInt = -1) := by intro h; exfalso; rw [p2_0 h] at c7; cases c7
              have qq1 : (0 ≤ p0.toInt → p0.toInt < ((G 222) this).toInt → ∀ rf pr er, (O 2) ra (Int32.toNatClampNeg p0) = some rf → (P 103) rf = some pr → (P 104) rf = some er → 0 ≤ ((G 107) rf).toInt → ((G 107) rf).toInt ≤ 100 → ABT p1.toInt (((G 203) a72) - ((G 107) b7)).toInt ((G 100) rf).toInt ((G 102) rf).toInt ((G 203) pr).toInt ((G 107) rf).toInt ((G 203) er).toInt) := by intro h1 h2 rf pr er h3 h4 h5 h6 h7; rw [p2_1 h1 h2, h3] at c7; cases c7; obtain rfl : a72 = er := Option.some.inj (hn_a72.symm.trans h5); have hz := z_sub (a := (G 203) a72) (b := (G 107) b7) (by omega) (by omega); exact ⟨fun h => by omega, fun h => by omega, fun h => by omega, fun h => by omega, fun h => by omega, fun h => by omega⟩
              exact pw_some ⟨qq0, qq1⟩
            · have c13_4 := z_ne c13_4
              have qq0 : (p0.toInt < 0 ∨ ((G 222) this).toInt ≤ p0.toInt → (-1 : Int32).toInt = -1) := by intro h; exfalso; rw [p2_0 h] at c7; cases c7
              have qq1 : (0 ≤ p0.toInt → p0.toInt < ((G 222) this).toInt → ∀ rf pr er, (O 2) ra (Int32.toNatClampNeg p0) = some rf → (P 103) rf = some pr → (P 104) rf = some er → 0 ≤ ((G 107) rf).toInt → ((G 107) rf).toInt ≤ 100 → ABT p1.toInt (-1 : Int32).toInt ((G 100) rf).toInt ((G 102) rf).toInt ((G 203) pr).toInt ((G 107) rf).toInt ((G 203) er).toInt) := by intro h1 h2 rf pr er h3 h4 h5 h6 h7; rw [p2_1 h1 h2, h3] at c7; cases c7; exact ⟨fun h => by omega, fun h => by omega, fun h => by omega, fun h => by omega, fun h => by omega, fun h => by omega⟩
              exact pw_some ⟨qq0, qq1⟩
