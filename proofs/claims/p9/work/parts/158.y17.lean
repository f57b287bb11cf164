abbrev QF_X11_isStage (κ : Nat → Nat) (wd : Nat) (la : Nat → Nat) (G : Nat → Nat → Int32) (P : Nat → Nat → Option Nat) (U : Nat → Nat → Int64) (V : Nat → Nat → Nat → Int32) (X : Nat → Nat → Nat → Int64) (O : Nat → Nat → Nat → Option Nat) (kd : Nat → Nat) (ln : Nat → Nat) (cnt : Nat) (this : Nat) (p0 : Int32) : (Int32) → Prop := (fun t => ((t.toInt ≠ 0 → 0 ≤ p0.toInt ∧ p0.toInt ≤ ((G 222) this).toInt)) ∧ ((t.toInt = 0 → ¬ (0 ≤ p0.toInt ∧ p0.toInt ≤ ((G 222) this).toInt))))
set_option maxHeartbeats 4000000 in
set_option maxRecDepth 100000 in
theorem fn_X11_isStage (κ : Nat → Nat) (wd : Nat) (la : Nat → Nat) (G : Nat → Nat → Int32) (P : Nat → Nat → Option Nat) (U : Nat → Nat → Int64) (V : Nat → Nat → Nat → Int32) (X : Nat → Nat → Nat → Int64) (O : Nat → Nat → Nat → Option Nat) (kd : Nat → Nat) (ln : Nat → Nat) (cnt : Nat) (this : Nat) (p0 : Int32) (hzG222 : rng (0) 6 (G 222)) (hzLN : LN κ ln) (hk_this : κ this = 12) (hB : LB la cnt P) (hlt_this : this < cnt) : pw (f_X11_isStage G P U V X O kd ln cnt this p0) (QF_X11_isStage κ wd la G P U V X O kd ln cnt this p0) := by
  unfold f_X11_isStage
  have zk0 : (0 : Int32).toInt = 0 := by decide +kernel
  have zk1 : (1 : Int32).toInt = 1 := by decide +kernel
  have r_p0 := i32r p0
  refine pw_jE (fun j17 ej17 => ?_)
  refine pw_jE (fun j16 ej16 => ?_)
  refine pw_ite (fun c1 => ?_) (fun c1 => ?_)
  · have c1 := (z_lt _ _).mp c1
    refine pw_j0 ej16 ?_
    refine pw_j1 ej17 (fun t17_0 et17_0 => ?_)
    have et17_0 := et17_0.symm
    have f_t17_0 : t17_0.toInt = 0 := by rw [et17_0]; decide +kernel
    refine pw_if (fun hb17 => ?_)
    obtain ⟨hbl17, hbr17⟩ := hb17
    have qq0 : (t17_0.toInt ≠ 0 → 0 ≤ p0.toInt ∧ p0.toInt ≤ ((G 222) this).toInt) := by intro h; omega
    have qq1 : (t17_0.toInt = 0 → ¬ (0 ≤ p0.toInt ∧ p0.toInt ≤ ((G 222) this).toInt)) := by intro h; omega
    exact pw_some ⟨qq0, qq1⟩
  · have c1 := z_nlt c1
    have b1 := hzG222 this
    refine pw_ite (fun c9 => ?_) (fun c9 => ?_)
    · have c9 := (z_lt _ _).mp c9
      refine pw_j0 ej16 ?_
      refine pw_j1 ej17 (fun t17_0 et17_0 => ?_)
      have et17_0 := et17_0.symm
      have f_t17_0 : t17_0.toInt = 0 := by rw [et17_0]; decide +kernel
      refine pw_if (fun hb17 => ?_)
      obtain ⟨hbl17, hbr17⟩ := hb17
      have qq0 : (t17_0.toInt ≠ 0 → 0 ≤ p0.toInt ∧ p0.toInt ≤ ((G 222) this).toInt) := by intro h; omega
      have qq1 : (t17_0.toInt = 0 → ¬ (0 ≤ p0.toInt ∧ p0.toInt ≤ ((G 222) this).toInt)) := by intro h; omega
      exact pw_some ⟨qq0, qq1⟩
    · have c9 := z_nlt c9
      refine pw_j1 ej17 (fun t17_0 et17_0 => ?_)
      have et17_0 := et17_0.symm
      have f_t17_0 : t17_0.toInt = 1 := by rw [et17_0]; decide +kernel
      refine pw_if (fun hb17 => ?_)
      obtain ⟨hbl17, hbr17⟩ := hb17
      have qq0 : (t17_0.toInt ≠ 0 → 0 ≤ p0.toInt ∧ p0.toInt ≤ ((G 222) this).toInt) := by intro h; omega
      have qq1 : (t17_0.toInt = 0 → ¬ (0 ≤ p0.toInt ∧ p0.toInt ≤ ((G 222) this).toInt)) := by intro h; omega
      exact pw_some ⟨qq0, qq1⟩
abbrev QF_X11_areStages (κ : Nat → Nat) (wd : Nat) (la : Nat → Nat) (G : Nat → Nat → Int32) (P : Nat → Nat → Option Nat) (U : Nat → Nat → Int64) (V : Nat → Nat → Nat → Int32) (X : Nat → Nat → Nat → Int64) (O : Nat → Nat → Nat → Option Nat) (kd : Nat → Nat) (ln : Nat → Nat) (cnt : Nat) (this : Nat) (p0 : Int32) (p1 : Int32) : (Int32) → Prop := (fun t => ((t.toInt ≠ 0 → 0 ≤ p0.toInt ∧ p0.toInt ≤ p1.toInt ∧ p1.toInt ≤ ((G 222) this).toInt)) ∧ ((t.toInt = 0 → ¬ (0 ≤ p0.toInt ∧ p0.toInt ≤ p1.toInt ∧ p1.toInt ≤ ((G 222) this).toInt))))
set_option maxHeartbeats 4000000 in
set_option maxRecDepth 100000 in
theorem fn_X11_areStages (κ : Nat → Nat) (wd : Nat) (la : Nat → Nat) (G : Nat → Nat → Int32) (P : Nat → Nat → Option Nat) (U : Nat → Nat → Int64) (V : Nat → Nat → Nat → Int32) (X : Nat → Nat → Nat → Int64) (O : Nat → Nat → Nat → Option Nat) (kd : Nat → Nat) (ln : Nat → Nat) (cnt : Nat) (this : Nat) (p0 : Int32) (p1 : Int32) (hzG222 : rng (0) 6 (G 222)) (hzLN : LN κ ln) (hk_this : κ this = 12) (hB : LB la cnt P) (hlt_this : this < cnt) : pw (f_X11_areStages G P U V X O kd ln cnt this p0 p1) (QF_X11_areStages κ wd la G P U V X O kd ln cnt this p0 p1) := by
  unfold f_X11_areStages
  have zk0 : (0 : Int32).toInt = 0 := by decide +kernel
  have zk1 : (1 : Int32).toInt = 1 := by decide +kernel
  have r_p0 := i32r p0
  have r_p1 := i32r p1
  refine pw_b1 (fun r2 hc2 => ?_)
  have hq2 := wp_at (ok_X11_isStage κ wd G P U V X O kd ln cnt this p0 hzG222 hzLN hk_this) hc2
  obtain ⟨f1, f2⟩ : ((0 ≤ r2.toInt ∧ r2.toInt ≤ 1)) ∧ ((r2.toInt = 1 → 0 ≤ p0.toInt ∧ p0.toInt ≤ ((G 222) this).toInt)) := hq2
  have hx2 := pwq (fn_X11_isStage κ wd la G P U V X O kd ln cnt this p0 hzG222 hzLN hk_this hB hlt_this) hc2
  obtain ⟨p2_0, p2_1⟩ : ((r2.toInt ≠ 0 → 0 ≤ p0.toInt ∧ p0.toInt ≤ ((G 222) this).toInt)) ∧ ((r2.toInt = 0 → ¬ (0 ≤ p0.toInt ∧ p0.toInt ≤ ((G 222) this).toInt))) := hx2
  refine pw_jE (fun j26 ej26 => ?_)
  refine pw_jE (fun j25 ej25 => ?_)
  refine pw_ite (fun c5 => ?_) (fun c5 => ?_)
  · have c5 := congrArg Int32.toInt c5
    refine pw_j0 ej25 ?_
    refine pw_j1 ej26 (fun t26_0 et26_0 => ?_)
    have et26_0 := et26_0.symm
    have f_t26_0 : t26_0.toInt = 0 := by rw [et26_0]; decide +kernel
    refine pw_if (fun hb26 => ?_)
    obtain ⟨hbl26, hbr26⟩ := hb26
    have qq0 : (t26_0.toInt ≠ 0 → 0 ≤ p0.toInt ∧ p0.toInt ≤ p1.toInt ∧ p1.toInt ≤ ((G 222) this).toInt) := by intro h; exfalso; omega
    have qq1 : (t26_0.toInt = 0 → ¬ (0 ≤ p0.toInt ∧ p0.toInt ≤ p1.toInt ∧ p1.toInt ≤ ((G 222) this).toInt)) := by intro _ h; exact p2_1 (by omega) ⟨by omega, by omega⟩
    exact pw_some ⟨qq0, qq1⟩
  · have c5 := z_ne c5
    refine pw_b1 (fun r10 hc10 => ?_)
    have hq10 := wp_at (ok_X11_isStage κ wd G P U V X O kd ln cnt this p1 hzG222 hzLN hk_this) hc10
    obtain ⟨f3, f4⟩ : ((0 ≤ r10.toInt ∧ r10.toInt ≤ 1)) ∧ ((r10.toInt = 1 → 0 ≤ p1.toInt ∧ p1.toInt ≤ ((G 222) this).toInt)) := hq10
    have hx10 := pwq (fn_X11_isStage κ wd la G P U V X O kd ln cnt this p1 hzG222 hzLN hk_this hB hlt_this) hc10
    obtain ⟨p10_0, p10_1⟩ : ((r10.toInt ≠ 0 → 0 ≤ p1.toInt ∧ p1.toInt ≤ ((G 222) this).toInt)) ∧ ((r10.toInt = 0 → ¬ (0 ≤ p1.toInt ∧ p1.toInt ≤ ((G 222) this).toInt))) := hx10
    refine pw_ite (fun c13 => ?_) (fun c13 => ?_)
    · have c13 := congrArg Int32.toInt c13
      refine pw_j0 ej25 ?_
      refine pw_j1 ej26 (fun t26_0 et26_0 => ?_)
      have et26_0 := et26_0.symm
      have f_t26_0 : t26_0.toInt = 0 := by rw [et26_0]; decide +kernel
      refine pw_if (fun hb26 => ?_)
      obtain ⟨hbl26, hbr26⟩ := hb26
      have qq0 : (t26_0.toInt ≠ 0 → 0 ≤ p0.toInt ∧ p0.toInt ≤ p1.toInt ∧ p1.toInt ≤ ((G 222) this).toInt) := by intro h; exfalso; omega
      have qq1 : (t26_0.toInt = 0 → ¬ (0 ≤ p0.toInt ∧ p0.toInt ≤ p1.toInt ∧ p1.toInt ≤ ((G 222) this).toInt)) := by intro _ h; exact p10_1 (by omega) ⟨by omega, by omega⟩
      exact pw_some ⟨qq0, qq1⟩
    · have c13 := z_ne c13
      refine pw_ite (fun c18 => ?_) (fun c18 => ?_)
      · have c18 := (z_lt _ _).mp c18
        refine pw_j0 ej25 ?_
        refine pw_j1 ej26 (fun t26_0 et26_0 => ?_)
        have et26_0 := et26_0.symm
        have f_t26_0 : t26_0.toInt = 0 := by rw [et26_0]; decide +kernel
        refine pw_if (fun hb26 => ?_)
        obtain ⟨hbl26, hbr26⟩ := hb26
        have qq0 : (t26_0.toInt ≠ 0 → 0 ≤ p0.toInt ∧ p0.toInt ≤ p1.toInt ∧ p1.toInt ≤ ((G 222) this).toInt) := by intro h; exfalso; omega
        have qq1 : (t26_0.toInt = 0 → ¬ (0 ≤ p0.toInt ∧ p0.toInt ≤ p1.toInt ∧ p1.toInt ≤ ((G 222) this).toInt)) := by intro _ h; omega
        exact pw_some ⟨qq0, qq1⟩
      · have c18 := z_nlt c18
        refine pw_j1 ej26 (fun t26_0 et26_0 => ?_)
        have et26_0 := et26_0.symm
        have f_t26_0 : t26_0.toInt = 1 := by rw [et26_0]; decide +kernel
        refine pw_if (fun hb26 => ?_)
        obtain ⟨hbl26, hbr26⟩ := hb26
        have qq0 : (t26_0.toInt ≠ 0 → 0 ≤ p0.toInt ∧ p0.toInt ≤ p1.toInt ∧ p1.toInt ≤ ((G 222) this).toInt) := by intro _; have h1 := p2_0 (by omega); have h2 := p10_0 (by omega); omega
        have qq1 : (t26_0.toInt = 0 → ¬ (0 ≤ p0.toInt ∧ p0.toInt ≤ p1.toInt ∧ p1.toInt ≤ ((G 222) this).toInt)) := by intro h; exfalso; omega
        exact pw_some ⟨qq0, qq1⟩
abbrev QF_X10_letterAt (κ : Nat → Nat) (wd : Nat) (la : Nat → Nat) (G : Nat → Nat → Int32) (P : Nat → Nat → Option Nat) (U : Nat → Nat → Int64) (V : Nat → Nat → Nat → Int32) (X : Nat → Nat → Nat → Int64) (O : Nat → Nat → Nat → Option Nat) (kd : Nat → Nat) (ln : Nat → Nat) (cnt : Nat) (this : Nat) (p0 : Int32) (p1 : Int32) (l : Nat) (s : Nat) : (Int32) → Prop := (fun t => (WRD ((V 0) l) ((V 1) s) ((G 203) this).toInt p0.toInt p1.toInt t))
set_option maxHeartbeats 4000000 in
set_option maxRecDepth 100000 in
theorem fn_X10_letterAt (κ : Nat → Nat) (wd : Nat) (la : Nat → Nat) (G : Nat → Nat → Int32) (P : Nat → Nat → Option Nat) (U : Nat → Nat → Int64) (V : Nat → Nat → Nat → Int32) (X : Nat → Nat → Nat → Int64) (O : Nat → Nat → Nat → Option Nat) (kd : Nat → Nat) (ln : Nat → Nat) (cnt : Nat) (this : Nat) (p0 : Int32) (p1 : Int32) (l : Nat) (s : Nat) (hzG200 : rng (0) 24 (G 200)) (hzG203 : rng (0) 100 (G 203)) (hzP201 : PB κ ln wd 11 100 0 2400 0 (P 201)) (hzP202 : PB κ ln wd 11 101 0 100 0 (P 202)) (hzV1 : rng2 (0) 24 (V 1)) (hzRA : RA κ ln (G 200) (P 201) (P 202)) (hzRB : RB κ ln (G 200) (G 203) (P 202) (V 1)) (hzRI : RI (P 202)) (hzLN : LN κ ln) (hk_this : κ this = 11) (hB : LB la cnt P) (hlt_this : this < cnt) (hl : (P 201) this = some l) (hs : (P 202) this = some s) (hw : ((G 200) this).toInt = 24) : pw (f_X10_letterAt G P U V X O kd ln cnt this p0 p1) (QF_X10_letterAt κ wd la G P U V X O kd ln cnt this p0 p1 l s) := by
  intro x hx
  have hq := wp_at (fx_X10_letterAt κ wd G P U V X O kd ln cnt this p0 p1 hzG200 hzG203 hzP201 hzP202 hzV1 hzRA hzRB hzRI hzLN hk_this) hx
  exact hq l s hl hs hw
abbrev QF_X11_form (κ : Nat → Nat) (wd : Nat) (la : Nat → Nat) (G : Nat → Nat → Int32) (P : Nat → Nat → Option Nat) (U : Nat → Nat → Int64) (V : Nat → Nat → Nat → Int32) (X : Nat → Nat → Nat → Int64) (O : Nat → Nat → Nat → Option Nat) (kd : Nat → Nat) (ln : Nat → Nat) (cnt : Nat) (this : Nat) (p0 : Int32) (p1 : Int32) (lf : Nat) (l : Nat) (s : Nat) : (Int32) → Prop := (fun t => (WRD ((V 0) l) ((V 1) s) ((G 203) lf).toInt p0.toInt p1.toInt t))
set_option maxHeartbeats 4000000 in
set_option maxRecDepth 100000 in
theorem fn_X11_form (κ : Nat → Nat) (wd : Nat) (la : Nat → Nat) (G : Nat → Nat → Int32) (P : Nat → Nat → Option Nat) (U : Nat → Nat → Int64) (V : Nat → Nat → Nat → Int32) (X : Nat → Nat → Nat → Int64) (O : Nat → Nat → Nat → Option Nat) (kd : Nat → Nat) (ln : Nat → Nat) (cnt : Nat) (this : Nat) (p0 : Int32) (p1 : Int32) (lf : Nat) (l : Nat) (s : Nat) (hzG200 : rng (0) 24 (G 200)) (hzG203 : rng (0) 100 (G 203)) (hzP201 : PB κ ln wd 11 100 0 2400 0 (P 201)) (hzP202 : PB κ ln wd 11 101 0 100 0 (P 202)) (hzP227 : PB κ ln wd 12 11 0 2500 1 (P 227)) (hzV1 : rng2 (0) 24 (V 1)) (hzRA : RA κ ln (G 200) (P 201) (P 202)) (hzRB : RB κ ln (G 200) (G 203) (P 202) (V 1)) (hzRI : RI (P 202)) (hzLN : LN κ ln) (hk_this : κ this = 12) (hB : LB la cnt P) (hlt_this : this < cnt) (h227 : (P 227) this = some lf) (hl : (P 201) lf = some l) (hs : (P 202) lf = some s) (hw : ((G 200) lf).toInt = 24) : pw (f_X11_form G P U V X O kd ln cnt this p0 p1) (QF_X11_form κ wd la G P U V X O kd ln cnt this p0 p1 lf l s) := by
  unfold f_X11_form
  have r_p0 := i32r p0
  have r_p1 := i32r p1
  have hn1 : (P 227) this = some lf := h227
  obtain ⟨_, lt_lf2, lb_lf2⟩ := (hB.1 227 fl_227) this lf hn1
  have lb_lf2 : la lf = 50 := lk_227.mp lb_lf2
  obtain ⟨hk_lf, hl1_lf, hl2_lf, hw_lf⟩ := (hzP227 this).2 lf hn1
  have hn3 : (P 201) lf = some l := hl
  obtain ⟨_, lt_l4, lb_l4⟩ := (hB.1 201 fl_201) lf l hn3
  have lb_l4 : la l = la lf + 0 := lk_201.mp lb_l4
  obtain ⟨hk_l, hl1_l, hl2_l, hw_l⟩ := (hzP201 lf).2 l hn3
  have hz_l : (Int32.ofNat (ln l)).toInt = ((ln l : Nat) : Int) := ofN_eq (by first | exact Nat.le_trans hl2_l (by decide) | omega)
  have hn5 : (P 202) lf = some s := hs
  obtain ⟨_, lt_s6, lb_s6⟩ := (hB.1 202 fl_202) lf s hn5
  have lb_s6 : la s = la lf + 0 := lk_202.mp lb_s6
  obtain ⟨hk_s, hl1_s, hl2_s, hw_s⟩ := (hzP202 lf).2 s hn5
  have hz_s : (Int32.ofNat (ln s)).toInt = ((ln s : Nat) : Int) := ofN_eq (by first | exact Nat.le_trans hl2_s (by decide) | omega)
  have rb7 := (hzRB lf s hk_lf hn5).1
  have ra8 := hzRA lf l s hk_lf hn3 hn5
  have bw9 := hzG200 lf
  refine pw_nne hn1 ?_
  refine pw_b1 (fun r6 hc6 => ?_)
  have h86_hl : (P 201) lf = some l := by exact hl
  have h86_hs : (P 202) lf = some s := by exact hs
  have h86_hw : ((G 200) lf).toInt = 24 := by exact hw
  have hx6 := pwq (fn_X10_letterAt κ wd la G P U V X O kd ln cnt lf p0 p1 (l) (s) hzG200 hzG203 hzP201 hzP202 hzV1 hzRA hzRB hzRI hzLN hk_lf hB lt_lf2 h86_hl h86_hs h86_hw) hc6
  have p6_0 : WRD ((V 0) l) ((V 1) s) ((G 203) lf).toInt p0.toInt p1.toInt r6 := hx6
  clear hx6
  have qq0 : WRD ((V 0) l) ((V 1) s) ((G 203) lf).toInt p0.toInt p1.toInt r6 := by exact p6_0
  exact pw_some qq0
