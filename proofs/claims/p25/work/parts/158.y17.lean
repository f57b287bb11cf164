abbrev QF_X11_isStage (κ : Nat → Nat) (wd : Nat) (la : Nat → Nat) (G : Nat → Nat → Int32) (P : Nat → Nat → Option Nat) (U : Nat → Nat → Int64) (V : Nat → Nat → Nat → Int32) (X : Nat → Nat → Nat → Int64) (O : Nat → Nat → Nat → Option Nat) (kd : Nat → Nat) (ln : Nat → Nat) (cnt : Nat) (this : Nat) (p0 : Int32) : (Int32) → Prop := (fun t => ((t.toInt ≠ 0 → 0 ≤ p0.toInt ∧ p0.toInt ≤ ((G 222) this).toInt)) ∧ ((t.toInt = 0 → ¬ (0 ≤ p0.toInt ∧ p0.toInt ≤ ((G 222) this).toInt))))
set_option maxHeartbeats 4000000 in
set_option maxRecDepth 100000 in
theorem fn_X11_isStage (κ : Nat → Nat) (wd : Nat) (la : Nat → Nat) (G : Nat → Nat → Int32) (P : Nat → Nat → Option Nat) (U : Nat → Nat → Int64) (V : Nat → Nat → Nat → Int32) (X : Nat → Nat → Nat → Int64) (O : Nat → Nat → Nat → Option Nat) (kd : Nat → Nat) (ln : Nat → Nat) (cnt : Nat) (this : Nat) (p0 : Int32) (hzG222 : rng (0) 6 (G 222)) (hzLN : LN κ ln) (hk_this : κ this = 12) (hB : LB la cnt P) (hlt_this : this < cnt) : pw (f_X11_isStage G P U V X O kd ln cnt this p0) (QF_X11_isStage κ wd la G P U V X O kd ln cnt this p0) := by
  unfold f_X11_isStage
  have zk0 : (0 : Int32).toInt = 0 := by decide +kernel
  have zk1 : (1 : Int32).toInt = 1 := by decide +kernel
  have r_p0 := i32r p0
  refine pw_jE (fun j17 ej17 => ?_)
  refine pw_jE (fun j16 ej16 => ?_)
  refine pw_ite (fun c1 => ?_) (fun c1 => ?_)
  · have c1 := (z_lt _ _).mp c1
    refine pw_j0 ej16 ?_
    refine pw_j1 ej17 (fun t17_0 et17_0 => ?_)
    have et17_0 := et17_0.symm
    have f_t17_0 : t17_0.toInt = 0 := by rw [et17_0]; decide +kernel
    refine pw_if (fun hb17 => ?_)
    obtain ⟨hbl17, hbr17⟩ := hb17
    have qq0 : (t17_0.toInt ≠ 0 → 0 ≤ p0.toInt ∧ p0.toInt ≤ ((G 222) this).toInt) := by intro h; omega
    have qq1 : (t17_0.toInt = 0 → ¬ (0 ≤ p0.toInt ∧ p0.toInt ≤ ((G 222) this).toInt)) := by intro h; omega
    exact pw_some ⟨qq0, qq1⟩
  · have c1 := z_nlt c1
    have b1 := hzG222 this
    refine pw_ite (fun c9 => ?_) (fun c9 => ?_)
    · have c9 := (z_lt _ _).mp c9
      refine pw_j0 ej16 ?_
      refine pw_j1 ej17 (fun t17_0 et17_0 => ?_)
      have et17_0 := et17_0.symm
      have f_t17_0 : t17_0.toInt = 0 := by rw [et17_0]; decide +kernel
      refine pw_if (fun hb17 => ?_)
      obtain ⟨hbl17, hbr17⟩ := hb17
      have qq0 : (t17_0.toInt ≠ 0 → 0 ≤ p0.toInt ∧ p0.toInt ≤ ((G 222) this).toInt) := by intro h; omega
      have qq1 : (t17_0.toInt = 0 → ¬ (0 ≤ p0.toInt ∧ p0.toInt ≤ ((G 222) this).toInt)) := by intro h; omega
      exact pw_some ⟨qq0, qq1⟩
    · have c9 := z_nlt c9
      refine pw_j1 ej17 (fun t17_0 et17_0 => ?_)
      have et17_0 := et17_0.symm
      have f_t17_0 : t17_0.toInt = 1 := by rw [et17_0]; decide +kernel
      refine pw_if (fun hb17 => ?_)
      obtain ⟨hbl17, hbr17⟩ := hb17
      have qq0 : (t17_0.toInt ≠ 0 → 0 ≤ p0.toInt ∧ p0.toInt ≤ ((G 222) this).toInt) := by intro h; omega
      have qq1 : (t17_0.toInt = 0 → ¬ (0 ≤ p0.toInt ∧ p0.toInt ≤ ((G 222) this).toInt)) := by intro h; omega
      exact pw_some ⟨qq0, qq1⟩
abbrev QF_X11_areStages (κ : Nat → Nat) (wd : Nat) (la : Nat → Nat) (G : Nat → Nat → Int32) (P : Nat → Nat → Option Nat) (U : Nat → Nat → Int64) (V : Nat → Nat → Nat → Int32) (X : Nat → Nat → Nat → Int64) (O : Nat → Nat → Nat → Option Nat) (kd : Nat → Nat) (ln : Nat → Nat) (cnt : Nat) (this : Nat) (p0 : Int32) (p1 : Int32) : (Int32) → Prop := (fun t => ((t.toInt ≠ 0 → 0 ≤ p0.toInt ∧ p0.toInt ≤ p1.toInt ∧ p1.toInt ≤ ((G 222) this).toInt)) ∧ ((t.toInt = 0 → ¬ (0 ≤ p0.toInt ∧ p0.toInt ≤ p1.toInt ∧ p1.toInt ≤ ((G 222) this).toInt))))
set_option maxHeartbeats 4000000 in
set_option maxRecDepth 100000 in
theorem fn_X11_areStages (κ : Nat → Nat) (wd : Nat) (la : Nat → Nat) (G : Nat → Nat → Int32) (P : Nat → Nat → Option Nat) (U : Nat → Nat → Int64) (V : Nat → Nat → Nat → Int32) (X : Nat → Nat → Nat → Int64) (O : Nat → Nat → Nat → Option Nat) (kd : Nat → Nat) (ln : Nat → Nat) (cnt : Nat) (this : Nat) (p0 : Int32) (p1 : Int32) (hzG222 : rng (0) 6 (G 222)) (hzLN : LN κ ln) (hk_this : κ this = 12) (hB : LB la cnt P) (hlt_this : this < cnt) : pw (f_X11_areStages G P U V X O kd ln cnt this p0 p1) (QF_X11_areStages κ wd la G P U V X O kd ln cnt this p0 p1) := by
  unfold f_X11_areStages
  have zk0 : (0 : Int32).toInt = 0 := by decide +kernel
  have zk1 : (1 : Int32).toInt = 1 := by decide +kernel
  have r_p0 := i32r p0
  have r_p1 := i32r p1
  refine pw_b1 (fun r2 hc2 => ?_)
  have hq2 := wp_at (ok_X11_isStage κ wd G P U V X O kd ln cnt this p0 hzG222 hzLN hk_this) hc2
  obtain ⟨f1, f2⟩ : ((0 ≤ r2.toInt ∧ r2.toInt ≤ 1)) ∧ ((r2.toInt = 1 → 0 ≤ p0.toInt ∧ p0.toInt ≤ ((G 222) this).toInt)) := hq2
  have hx2 := pwq (fn_X11_isStage κ wd la G P U V X O kd ln cnt this p0 hzG222 hzLN hk_this hB hlt_this) hc2
  obtain ⟨p2_0, p2_1⟩ : ((r2.toInt ≠ 0 → 0 ≤ p0.toInt ∧ p0.toInt ≤ ((G 222) this).toInt)) ∧ ((r2.toInt = 0 → ¬ (0 ≤ p0.toInt ∧ p0.toInt ≤ ((G 222) this).toInt))) := hx2
  refine pw_jE (fun j26 ej26 => ?_)
  refine pw_jE (fun j25 ej25 => ?_)
  refine pw_ite (fun c5 => ?_) (fun c5 => ?_)
  · have c5 := congrArg Int32.toInt c5
    refine pw_j0 ej25 ?_
    refine pw_j1 ej26 (fun t26_0 et26_0 => ?_)
    have et26_0 := et26_0.symm
    have f_t26_0 : t26_0.toInt = 0 := by rw [et26_0]; decide +kernel
    refine pw_if (fun hb26 => ?_)
    obtain ⟨hbl26, hbr26⟩ := hb26
    have qq0 : (t26_0.toInt ≠ 0 → 0 ≤ p0.toInt ∧ p0.toInt ≤ p1.toInt ∧ p1.toInt ≤ ((G 222) this).toInt) := by intro h; exfalso; omega
    have qq1 : (t26_0.toInt = 0 → ¬ (0 ≤ p0.toInt ∧ p0.toInt ≤ p1.toInt ∧ p1.toInt ≤ ((G 222) this).toInt)) := by intro _ h; exact p2_1 (by omega) ⟨by omega, by omega⟩
    exact pw_some ⟨qq0, qq1⟩
  · have c5 := z_ne c5
    refine pw_b1 (fun r10 hc10 => ?_)
    have hq10 := wp_at (ok_X11_isStage κ wd G P U V X O kd ln cnt this p1 hzG222 hzLN hk_this) hc10
    obtain ⟨f3, f4⟩ : ((0 ≤ r10.toInt ∧ r10.toInt ≤ 1)) ∧ ((r10.toInt = 1 → 0 ≤ p1.toInt ∧ p1.toInt ≤ ((G 222) this).toInt)) := hq10
    have hx10 := pwq (fn_X11_isStage κ wd la G P U V X O kd ln cnt this p1 hzG222 hzLN hk_this hB hlt_this) hc10
    obtain ⟨p10_0, p10_1⟩ : ((r10.toInt ≠ 0 → 0 ≤ p1.toInt ∧ p1.toInt ≤ ((G 222) this).toInt)) ∧ ((r10.toInt = 0 → ¬ (0 ≤ p1.toInt ∧ p1.toInt ≤ ((G 222) this).toInt))) := hx10
    refine pw_ite (fun c13 => ?_) (fun c13 => ?_)
    · have c13 := congrArg Int32.toInt c13
      refine pw_j0 ej25 ?_
      refine pw_j1 ej26 (fun t26_0 et26_0 => ?_)
      have et26_0 := et26_0.symm
      have f_t26_0 : t26_0.toInt = 0 := by rw [et26_0]; decide +kernel
      refine pw_if (fun hb26 => ?_)
      obtain ⟨hbl26, hbr26⟩ := hb26
      have qq0 : (t26_0.toInt ≠ 0 → 0 ≤ p0.toInt ∧ p0.toInt ≤ p1.toInt ∧ p1.toInt ≤ ((G 222) this).toInt) := by intro h; exfalso; omega
      have qq1 : (t26_0.toInt = 0 → ¬ (0 ≤ p0.toInt ∧ p0.toInt ≤ p1.toInt ∧ p1.toInt ≤ ((G 222) this).toInt)) := by intro _ h; exact p10_1 (by omega) ⟨by omega, by omega⟩
      exact pw_some ⟨qq0, qq1⟩
    · have c13 := z_ne c13
      refine pw_ite (fun c18 => ?_) (fun c18 => ?_)
      · have c18 := (z_lt _ _).mp c18
        refine pw_j0 ej25 ?_
        refine pw_j1 ej26 (fun t26_0 et26_0 => ?_)
        have et26_0 := et26_0.symm
        have f_t26_0 : t26_0.toInt = 0 := by rw [et26_0]; decide +kernel
        refine pw_if (fun hb26 => ?_)
        obtain ⟨hbl26, hbr26⟩ := hb26
        have qq0 : (t26_0.toInt ≠ 0 → 0 ≤ p0.toInt ∧ p0.toInt ≤ p1.toInt ∧ p1.toInt ≤ ((G 222) this).toInt) := by intro h; exfalso; omega
        have qq1 : (t26_0.toInt = 0 → ¬ (0 ≤ p0.toInt ∧ p0.toInt ≤ p1.toInt ∧ p1.toInt ≤ ((G 222) this).toInt)) := by intro _ h; omega
        exact pw_some ⟨qq0, qq1⟩
      · have c18 := z_nlt c18
        refine pw_j1 ej26 (fun t26_0 et26_0 => ?_)
        have et26_0 := et26_0.symm
        have f_t26_0 : t26_0.toInt = 1 := by rw [et26_0]; decide +kernel
        refine pw_if (fun hb26 => ?_)
        obtain ⟨hbl26, hbr26⟩ := hb26
        have qq0 : (t26_0.toInt ≠ 0 → 0 ≤ p0.toInt ∧ p0.toInt ≤ p1.toInt ∧ p1.toInt ≤ ((G 222) this).toInt) := by intro _; have h1 := p2_0 (by omega); have h2 := p10_0 (by omega); omega
        have qq1 : (t26_0.toInt = 0 → ¬ (0 ≤ p0.toInt ∧ p0.toInt ≤ p1.toInt ∧ p1.toInt ≤ ((G 222) this).toInt)) := by intro h; exfalso; omega
        exact pw_some ⟨qq0, qq1⟩