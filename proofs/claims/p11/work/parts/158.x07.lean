abbrev QF_X3_pick (κ : Nat → Nat) (wd : Nat) (la : Nat → Nat) (G : Nat → Nat → Int32) (P : Nat → Nat → Option Nat) (U : Nat → Nat → Int64) (V : Nat → Nat → Nat → Int32) (X : Nat → Nat → Nat → Int64) (O : Nat → Nat → Nat → Option Nat) (kd : Nat → Nat) (ln : Nat → Nat) (cnt : Nat) (this : Nat) (p0 : Int32) (p1 : Int32) (pk : Nat) (sz : Nat) (Pd : Wd → Int32 → Prop) (R : List (List Wd)) : (Int32) → Prop := (fun t => ((∀ w x, 0 ≤ p0.toInt → R[Int32.toNatClampNeg p0]? = some w → 0 ≤ p1.toInt → w[Int32.toNatClampNeg p1]? = some x → Pd x t)) ∧ ((∀ w, 0 ≤ p0.toInt → R[Int32.toNatClampNeg p0]? = some w → (p1.toInt < 0 ∨ ((w.length : Nat) : Int) ≤ p1.toInt) → t.toInt = -1)))
set_option maxHeartbeats 4000000 in
set_option maxRecDepth 100000 in
theorem fn_X3_pick (κ : Nat → Nat) (wd : Nat) (la : Nat → Nat) (G : Nat → Nat → Int32) (P : Nat → Nat → Option Nat) (U : Nat → Nat → Int64) (V : Nat → Nat → Nat → Int32) (X : Nat → Nat → Nat → Int64) (O : Nat → Nat → Nat → Option Nat) (kd : Nat → Nat) (ln : Nat → Nat) (cnt : Nat) (this : Nat) (p0 : Int32) (p1 : Int32) (pk : Nat) (sz : Nat) (Pd : Wd → Int32 → Prop) (R : List (List Wd)) (hzG60 : rng (0) 30 (G 60)) (hzP61 : PB κ ln wd 4 102 30 30 0 (P 61)) (hzP62 : PB κ ln wd 4 100 720 720 0 (P 62)) (hzV2 : rng2 (0) 24 (V 2)) (hzLN : LN κ ln) (hk_this : κ this = 4) (hB : LB la cnt P) (hlt_this : this < cnt) (hpk : (P 62) this = some pk) (hsz : (P 61) this = some sz) (hR : RWS Pd ((G 60) this).toInt ((V 2) sz) ((V 0) pk) R) : pw (f_X3_pick G P U V X O kd ln cnt this p0 p1) (QF_X3_pick κ wd la G P U V X O kd ln cnt this p0 p1 pk sz Pd R) := by
  unfold f_X3_pick
  have zkm1 : (-1 : Int32).toInt = -1 := by decide +kernel
  have zk0 : (0 : Int32).toInt = 0 := by decide +kernel
  have zk24 : (24 : Int32).toInt = 24 := by decide +kernel
  have r_p0 := i32r p0
  have r_p1 := i32r p1
  have hn1 : (P 62) this = some pk := hpk
  obtain ⟨_, lt_pk2, lb_pk2⟩ := (hB.1 62 fl_62) this pk hn1
  have lb_pk2 : la pk = la this + 0 := lk_62.mp lb_pk2
  obtain ⟨hk_pk, hl1_pk, hl2_pk, hw_pk⟩ := (hzP62 this).2 pk hn1
  have hz_pk : (Int32.ofNat (ln pk)).toInt = ((ln pk : Nat) : Int) := ofN_eq (by omega)
  have hn3 : (P 61) this = some sz := hsz
  obtain ⟨_, lt_sz4, lb_sz4⟩ := (hB.1 61 fl_61) this sz hn3
  have lb_sz4 : la sz = la this + 0 := lk_61.mp lb_sz4
  obtain ⟨hk_sz, hl1_sz, hl2_sz, hw_sz⟩ := (hzP61 this).2 sz hn3
  have hz_sz : (Int32.ofNat (ln sz)).toInt = ((ln sz : Nat) : Int) := ofN_eq (by omega)
  obtain ⟨hr1, hr2⟩ := hR.1
  refine pw_jE (fun j26 ej26 => ?_)
  refine pw_ite (fun c1 => ?_) (fun c1 => ?_)
  · have c1 := (z_lt _ _).mp c1
    refine pw_j0 ej26 ?_
    have qq0 : (∀ w x, 0 ≤ p0.toInt → R[Int32.toNatClampNeg p0]? = some w → 0 ≤ p1.toInt → w[Int32.toNatClampNeg p1]? = some x → Pd x (-1 : Int32)) := by intro w x h0; omega
    have qq1 : (∀ w, 0 ≤ p0.toInt → R[Int32.toNatClampNeg p0]? = some w → (p1.toInt < 0 ∨ ((w.length : Nat) : Int) ≤ p1.toInt) → (-1 : Int32).toInt = -1) := by intro w _ _ _; omega
    exact pw_some ⟨qq0, qq1⟩
  · have c1 := z_nlt c1
    have b5 := hzG60 this
    refine pw_ite (fun c9 => ?_) (fun c9 => ?_)
    · have c9 := (z_le _ _).mp c9
      refine pw_j0 ej26 ?_
      have qq0 : (∀ w x, 0 ≤ p0.toInt → R[Int32.toNatClampNeg p0]? = some w → 0 ≤ p1.toInt → w[Int32.toNatClampNeg p1]? = some x → Pd x (-1 : Int32)) := by intro w x h0 hw; have cp0 := clampI (x := p0) (by omega); have hk := get_lt hw; obtain ⟨s1, s2, s3⟩ := hR.2 _ _ hw; omega
      have qq1 : (∀ w, 0 ≤ p0.toInt → R[Int32.toNatClampNeg p0]? = some w → (p1.toInt < 0 ∨ ((w.length : Nat) : Int) ≤ p1.toInt) → (-1 : Int32).toInt = -1) := by intro w _ _ _; omega
      exact pw_some ⟨qq0, qq1⟩
    · have c9 := z_nle c9
      refine pw_ite (fun c13 => ?_) (fun c13 => ?_)
      · have c13 := (z_lt _ _).mp c13
        refine pw_j0 ej26 ?_
        have qq0 : (∀ w x, 0 ≤ p0.toInt → R[Int32.toNatClampNeg p0]? = some w → 0 ≤ p1.toInt → w[Int32.toNatClampNeg p1]? = some x → Pd x (-1 : Int32)) := by intro w x h0 hw h1; omega
        have qq1 : (∀ w, 0 ≤ p0.toInt → R[Int32.toNatClampNeg p0]? = some w → (p1.toInt < 0 ∨ ((w.length : Nat) : Int) ≤ p1.toInt) → (-1 : Int32).toInt = -1) := by intro w _ _ _; omega
        exact pw_some ⟨qq0, qq1⟩
      · have c13 := z_nlt c13
        refine pw_nne hn3 ?_
        refine pw_if (fun hb22 => ?_)
        obtain ⟨hbl22, hbr22⟩ := hb22
        have b6 := hzV2 sz (Int32.toNatClampNeg p0)
        refine pw_ite (fun c23 => ?_) (fun c23 => ?_)
        · have c23 := (z_lt _ _).mp c23
          refine pw_nne hn1 ?_
          have f7 : (p0 * 24).toInt = p0.toInt * 24 := z_mulc (by decide +kernel) (by omega) (by omega)
          have f8 : ((p0 * 24) + p1).toInt = (p0 * 24).toInt + p1.toInt := z_add (by omega) (by omega)
          refine pw_if (fun hb38 => ?_)
          obtain ⟨hbl38, hbr38⟩ := hb38
          have qq0 : (∀ w x, 0 ≤ p0.toInt → R[Int32.toNatClampNeg p0]? = some w → 0 ≤ p1.toInt → w[Int32.toNatClampNeg p1]? = some x → Pd x (((V 0) pk) (Int32.toNatClampNeg ((p0 * 24) + p1)))) := by intro w x h0 hw h1 hx; have cp0 := clampI (x := p0) (by omega); have hk := get_lt hw; obtain ⟨s1, s2, s3⟩ := hR.2 _ _ hw; have cp1 := clampI (x := p1) h1; have ci := clampI (x := (p0 * 24) + p1) (by omega); rw [show Int32.toNatClampNeg ((p0 * 24) + p1) = 24 * Int32.toNatClampNeg p0 + Int32.toNatClampNeg p1 by omega]; exact s3 _ _ hx
          have qq1 : (∀ w, 0 ≤ p0.toInt → R[Int32.toNatClampNeg p0]? = some w → (p1.toInt < 0 ∨ ((w.length : Nat) : Int) ≤ p1.toInt) → (((V 0) pk) (Int32.toNatClampNeg ((p0 * 24) + p1))).toInt = -1) := by intro w h0 hw h1; have cp0 := clampI (x := p0) (by omega); have hk := get_lt hw; obtain ⟨s1, s2, s3⟩ := hR.2 _ _ hw; exfalso; omega
          exact pw_some ⟨qq0, qq1⟩
        · have c23 := z_nlt c23
          refine pw_j0 ej26 ?_
          have qq0 : (∀ w x, 0 ≤ p0.toInt → R[Int32.toNatClampNeg p0]? = some w → 0 ≤ p1.toInt → w[Int32.toNatClampNeg p1]? = some x → Pd x (-1 : Int32)) := by intro w x h0 hw h1 hx; have cp0 := clampI (x := p0) (by omega); have hk := get_lt hw; obtain ⟨s1, s2, s3⟩ := hR.2 _ _ hw; have cp1 := clampI (x := p1) h1; have hk2 := get_lt hx; exfalso; omega
          have qq1 : (∀ w, 0 ≤ p0.toInt → R[Int32.toNatClampNeg p0]? = some w → (p1.toInt < 0 ∨ ((w.length : Nat) : Int) ≤ p1.toInt) → (-1 : Int32).toInt = -1) := by intro w _ _ _; omega
          exact pw_some ⟨qq0, qq1⟩
abbrev QF_X3_lengthOf (κ : Nat → Nat) (wd : Nat) (la : Nat → Nat) (G : Nat → Nat → Int32) (P : Nat → Nat → Option Nat) (U : Nat → Nat → Int64) (V : Nat → Nat → Nat → Int32) (X : Nat → Nat → Nat → Int64) (O : Nat → Nat → Nat → Option Nat) (kd : Nat → Nat) (ln : Nat → Nat) (cnt : Nat) (this : Nat) (p0 : Int32) (p1 : Int32) (pk : Nat) (sz : Nat) (pt : Nat) (l : Nat) (s : Nat) (ps : List Wd) (R : List (List Wd)) : (Int32) → Prop := (fun t => ((∀ w x, 0 ≤ p0.toInt → R[Int32.toNatClampNeg p0]? = some w → 0 ≤ p1.toInt → w[Int32.toNatClampNeg p1]? = some x → t.toInt = ((x.length : Nat) : Int))) ∧ ((∀ w, 0 ≤ p0.toInt → R[Int32.toNatClampNeg p0]? = some w → (p1.toInt < 0 ∨ ((w.length : Nat) : Int) ≤ p1.toInt) → t.toInt = -1)))
set_option maxHeartbeats 4000000 in
set_option maxRecDepth 100000 in
theorem fn_X3_lengthOf (κ : Nat → Nat) (wd : Nat) (la : Nat → Nat) (G : Nat → Nat → Int32) (P : Nat → Nat → Option Nat) (U : Nat → Nat → Int64) (V : Nat → Nat → Nat → Int32) (X : Nat → Nat → Nat → Int64) (O : Nat → Nat → Nat → Option Nat) (kd : Nat → Nat) (ln : Nat → Nat) (cnt : Nat) (this : Nat) (p0 : Int32) (p1 : Int32) (pk : Nat) (sz : Nat) (pt : Nat) (l : Nat) (s : Nat) (ps : List Wd) (R : List (List Wd)) (hzG60 : rng (0) 30 (G 60)) (hzG200 : rng (0) 24 (G 200)) (hzG203 : rng (0) 100 (G 203)) (hzP61 : PB κ ln wd 4 102 30 30 0 (P 61)) (hzP62 : PB κ ln wd 4 100 720 720 0 (P 62)) (hzP66 : PB κ ln wd 4 11 0 2500 0 (P 66)) (hzP201 : PB κ ln wd 11 100 0 2400 0 (P 201)) (hzP202 : PB κ ln wd 11 101 0 100 0 (P 202)) (hzV1 : rng2 (0) 24 (V 1)) (hzV2 : rng2 (0) 24 (V 2)) (hzRA : RA κ ln (G 200) (P 201) (P 202)) (hzRB : RB κ ln (G 200) (G 203) (P 202) (V 1)) (hzRI : RI (P 202)) (hzLN : LN κ ln) (hk_this : κ this = 4) (hB : LB la cnt P) (hlt_this : this < cnt) (hpk : (P 62) this = some pk) (hsz : (P 61) this = some sz) (hR : RWS (idxP ps) ((G 60) this).toInt ((V 2) sz) ((V 0) pk) R) (hpt : (P 66) this = some pt) (hl : (P 201) pt = some l) (hs : (P 202) pt = some s) (hps : rwW ((G 203) pt) ((V 0) l) ((V 1) s) 16 = ps) : pw (f_X3_lengthOf G P U V X O kd ln cnt this p0 p1) (QF_X3_lengthOf κ wd la G P U V X O kd ln cnt this p0 p1 pk sz pt l s ps R) := by
  unfold f_X3_lengthOf
  have zkm1 : (-1 : Int32).toInt = -1 := by decide +kernel
  have zk0 : (0 : Int32).toInt = 0 := by decide +kernel
  have r_p0 := i32r p0
  have r_p1 := i32r p1
  have hn1 : (P 62) this = some pk := hpk
  obtain ⟨_, lt_pk2, lb_pk2⟩ := (hB.1 62 fl_62) this pk hn1
  have lb_pk2 : la pk = la this + 0 := lk_62.mp lb_pk2
  obtain ⟨hk_pk, hl1_pk, hl2_pk, hw_pk⟩ := (hzP62 this).2 pk hn1
  have hz_pk : (Int32.ofNat (ln pk)).toInt = ((ln pk : Nat) : Int) := ofN_eq (by omega)
  have hn3 : (P 61) this = some sz := hsz
  obtain ⟨_, lt_sz4, lb_sz4⟩ := (hB.1 61 fl_61) this sz hn3
  have lb_sz4 : la sz = la this + 0 := lk_61.mp lb_sz4
  obtain ⟨hk_sz, hl1_sz, hl2_sz, hw_sz⟩ := (hzP61 this).2 sz hn3
  have hz_sz : (Int32.ofNat (ln sz)).toInt = ((ln sz : Nat) : Int) := ofN_eq (by omega)
  have hn5 : (P 66) this = some pt := hpt
  obtain ⟨_, lt_pt6, lb_pt6⟩ := (hB.1 66 fl_66) this pt hn5
  clear lb_pt6
  obtain ⟨hk_pt, hl1_pt, hl2_pt, hw_pt⟩ := (hzP66 this).2 pt hn5
  have hn7 : (P 201) pt = some l := hl
  obtain ⟨_, lt_l8, lb_l8⟩ := (hB.1 201 fl_201) pt l hn7
  have lb_l8 : la l = la pt + 0 := lk_201.mp lb_l8
  obtain ⟨hk_l, hl1_l, hl2_l, hw_l⟩ := (hzP201 pt).2 l hn7
  have hz_l : (Int32.ofNat (ln l)).toInt = ((ln l : Nat) : Int) := ofN_eq (by omega)
  have hn9 : (P 202) pt = some s := hs
  obtain ⟨_, lt_s10, lb_s10⟩ := (hB.1 202 fl_202) pt s hn9
  have lb_s10 : la s = la pt + 0 := lk_202.mp lb_s10
  obtain ⟨hk_s, hl1_s, hl2_s, hw_s⟩ := (hzP202 pt).2 s hn9
  have hz_s : (Int32.ofNat (ln s)).toInt = ((ln s : Nat) : Int) := ofN_eq (by omega)
  have rb11 := (hzRB pt s hk_pt hn9).1
  have ra12 := hzRA pt l s hk_pt hn7 hn9
  have bw13 := hzG200 pt
  have hb3 := hzG203 pt
  have cpt := clampI (x := (G 203) pt) (by omega)
  have hpl : ps.length = Int32.toNatClampNeg ((G 203) pt) := by rw [← hps]; exact rw_len
  refine pw_b1 (fun r3 hc3 => ?_)
  have h83_hpk : (P 62) this = some pk := by first | assumption | omega
  have h83_hsz : (P 61) this = some sz := by first | assumption | omega
  have h83_hR : RWS (idxP ps) ((G 60) this).toInt ((V 2) sz) ((V 0) pk) R := by first | assumption | omega
  have hx3 := pwq (fn_X3_pick κ wd la G P U V X O kd ln cnt this p0 p1 (pk) (sz) (idxP ps) (R) hzG60 hzP61 hzP62 hzV2 hzLN hk_this hB hlt_this h83_hpk h83_hsz h83_hR) hc3
  obtain ⟨p3_0, p3_1⟩ : ((∀ w x, 0 ≤ p0.toInt → R[Int32.toNatClampNeg p0]? = some w → 0 ≤ p1.toInt → w[Int32.toNatClampNeg p1]? = some x → (idxP ps) x r3)) ∧ ((∀ w, 0 ≤ p0.toInt → R[Int32.toNatClampNeg p0]? = some w → (p1.toInt < 0 ∨ ((w.length : Nat) : Int) ≤ p1.toInt) → r3.toInt = -1)) := hx3
  refine pw_jE (fun j35 ej35 => ?_)
  refine pw_jE (fun j22 ej22 => ?_)
  refine pw_ite (fun c8 => ?_) (fun c8 => ?_)
  · have c8 := (z_lt _ _).mp c8
    refine pw_j0 ej22 ?_
    refine pw_j1 ej35 (fun t35_0 et35_0 => ?_)
    have et35_0 := et35_0.symm
    have f_t35_0 : t35_0.toInt = (-1) := by rw [et35_0]; decide +kernel
    have qq0 : (∀ w x, 0 ≤ p0.toInt → R[Int32.toNatClampNeg p0]? = some w → 0 ≤ p1.toInt → w[Int32.toNatClampNeg p1]? = some x → t35_0.toInt = ((x.length : Nat) : Int)) := by intro w x h0 hw h1 hx; obtain ⟨j, j1, j2⟩ := p3_0 w x h0 hw h1 hx; have jl := get_lt j2; exfalso; omega
    have qq1 : (∀ w, 0 ≤ p0.toInt → R[Int32.toNatClampNeg p0]? = some w → (p1.toInt < 0 ∨ ((w.length : Nat) : Int) ≤ p1.toInt) → t35_0.toInt = -1) := by intro w _ _ _; omega
    exact pw_some ⟨qq0, qq1⟩
  · have c8 := z_nlt c8
    refine pw_nne hn5 ?_
    have b14 := hzG203 pt
    refine pw_ite (fun c19 => ?_) (fun c19 => ?_)
    · have c19 := (z_lt _ _).mp c19
      refine pw_nne hn5 ?_
      refine pw_nne hn9 ?_
      refine pw_if (fun hb34 => ?_)
      obtain ⟨hbl34, hbr34⟩ := hb34
      have b18 := hzV1 s (Int32.toNatClampNeg r3)
      have rl19 := (hzRB pt s hk_pt hn9).2 (Int32.toNatClampNeg r3)
      refine pw_j1 ej35 (fun t35_0 et35_0 => ?_)
      have et35_0 := et35_0.symm
      have f_t35_0 : t35_0.toInt = (((V 1) s) (Int32.toNatClampNeg r3)).toInt := by rw [et35_0]
      have qq0 : (∀ w x, 0 ≤ p0.toInt → R[Int32.toNatClampNeg p0]? = some w → 0 ≤ p1.toInt → w[Int32.toNatClampNeg p1]? = some x → t35_0.toInt = ((x.length : Nat) : Int)) := by intro w x h0 hw h1 hx; obtain ⟨j, j1, j2⟩ := p3_0 w x h0 hw h1 hx; have jl := get_lt j2; have cr := clampI (x := r3) (by omega); rw [← hps] at j2; unfold rwW at j2; rw [tab_get (by omega)] at j2; cases j2; rw [wdl_len]; have hlv := hzV1 s j; have cl9 := clampI (x := (V 1) s j) (by omega); rw [cl9, show j = Int32.toNatClampNeg r3 by omega]; omega
      have qq1 : (∀ w, 0 ≤ p0.toInt → R[Int32.toNatClampNeg p0]? = some w → (p1.toInt < 0 ∨ ((w.length : Nat) : Int) ≤ p1.toInt) → t35_0.toInt = -1) := by intro w h0 hw h1; have h9 := p3_1 w h0 hw h1; exfalso; omega
      exact pw_some ⟨qq0, qq1⟩
    · have c19 := z_nlt c19
      refine pw_j0 ej22 ?_
      refine pw_j1 ej35 (fun t35_0 et35_0 => ?_)
      have et35_0 := et35_0.symm
      have f_t35_0 : t35_0.toInt = (-1) := by rw [et35_0]; decide +kernel
      have qq0 : (∀ w x, 0 ≤ p0.toInt → R[Int32.toNatClampNeg p0]? = some w → 0 ≤ p1.toInt → w[Int32.toNatClampNeg p1]? = some x → t35_0.toInt = ((x.length : Nat) : Int)) := by intro w x h0 hw h1 hx; obtain ⟨j, j1, j2⟩ := p3_0 w x h0 hw h1 hx; have jl := get_lt j2; exfalso; omega
      have qq1 : (∀ w, 0 ≤ p0.toInt → R[Int32.toNatClampNeg p0]? = some w → (p1.toInt < 0 ∨ ((w.length : Nat) : Int) ≤ p1.toInt) → t35_0.toInt = -1) := by intro w h0 hw h1; omega
      exact pw_some ⟨qq0, qq1⟩
abbrev QF_X5_isKept (κ : Nat → Nat) (wd : Nat) (la : Nat → Nat) (G : Nat → Nat → Int32) (P : Nat → Nat → Option Nat) (U : Nat → Nat → Int64) (V : Nat → Nat → Nat → Int32) (X : Nat → Nat → Nat → Int64) (O : Nat → Nat → Nat → Option Nat) (kd : Nat → Nat) (ln : Nat → Nat) (cnt : Nat) (this : Nat) (p0 : Int32) (kp : Nat) : (Int32) → Prop := (fun t => ((t.toInt ≠ 0 → 0 ≤ p0.toInt ∧ p0.toInt < 40 ∧ (((V 10) kp) (Int32.toNatClampNeg p0)).toInt ≠ 0)) ∧ ((t.toInt = 0 → 0 ≤ p0.toInt → p0.toInt < 40 → (((V 10) kp) (Int32.toNatClampNeg p0)).toInt = 0)))
set_option maxHeartbeats 4000000 in
set_option maxRecDepth 100000 in
theorem fn_X5_isKept (κ : Nat → Nat) (wd : Nat) (la : Nat → Nat) (G : Nat → Nat → Int32) (P : Nat → Nat → Option Nat) (U : Nat → Nat → Int64) (V : Nat → Nat → Nat → Int32) (X : Nat → Nat → Nat → Int64) (O : Nat → Nat → Nat → Option Nat) (kd : Nat → Nat) (ln : Nat → Nat) (cnt : Nat) (this : Nat) (p0 : Int32) (kp : Nat) (hzP106 : PB κ ln wd 6 110 40 40 0 (P 106)) (hzLN : LN κ ln) (hk_this : κ this = 6) (hB : LB la cnt P) (hlt_this : this < cnt) (hkp : (P 106) this = some kp) : pw (f_X5_isKept G P U V X O kd ln cnt this p0) (QF_X5_isKept κ wd la G P U V X O kd ln cnt this p0 kp) := by
  unfold f_X5_isKept
  have zk0 : (0 : Int32).toInt = 0 := by decide +kernel
  have zk1 : (1 : Int32).toInt = 1 := by decide +kernel
  have zk40 : (40 : Int32).toInt = 40 := by decide +kernel
  have r_p0 := i32r p0
  have hn1 : (P 106) this = some kp := hkp
  obtain ⟨_, lt_kp2, lb_kp2⟩ := (hB.1 106 fl_106) this kp hn1
  have lb_kp2 : la kp = la this + 0 := lk_106.mp lb_kp2
  obtain ⟨hk_kp, hl1_kp, hl2_kp, hw_kp⟩ := (hzP106 this).2 kp hn1
  have hz_kp : (Int32.ofNat (ln kp)).toInt = ((ln kp : Nat) : Int) := ofN_eq (by omega)
  refine pw_jE (fun j24 ej24 => ?_)
  refine pw_jE (fun j23 ej23 => ?_)
  refine pw_ite (fun c1 => ?_) (fun c1 => ?_)
  · have c1 := (z_lt _ _).mp c1
    refine pw_j0 ej23 ?_
    refine pw_j1 ej24 (fun t24_0 et24_0 => ?_)
    have et24_0 := et24_0.symm
    have f_t24_0 : t24_0.toInt = 0 := by rw [et24_0]; decide +kernel
    refine pw_if (fun hb24 => ?_)
    obtain ⟨hbl24, hbr24⟩ := hb24
    have qq0 : (t24_0.toInt ≠ 0 → 0 ≤ p0.toInt ∧ p0.toInt < 40 ∧ (((V 10) kp) (Int32.toNatClampNeg p0)).toInt ≠ 0) := by intro h; omega
    have qq1 : (t24_0.toInt = 0 → 0 ≤ p0.toInt → p0.toInt < 40 → (((V 10) kp) (Int32.toNatClampNeg p0)).toInt = 0) := by intro _ h1 h2; exfalso; omega
    exact pw_some ⟨qq0, qq1⟩
  · have c1 := z_nlt c1
    refine pw_ite (fun c7 => ?_) (fun c7 => ?_)
    · have c7 := (z_le _ _).mp c7
      refine pw_j0 ej23 ?_
      refine pw_j1 ej24 (fun t24_0 et24_0 => ?_)
      have et24_0 := et24_0.symm
      have f_t24_0 : t24_0.toInt = 0 := by rw [et24_0]; decide +kernel
      refine pw_if (fun hb24 => ?_)
      obtain ⟨hbl24, hbr24⟩ := hb24
      have qq0 : (t24_0.toInt ≠ 0 → 0 ≤ p0.toInt ∧ p0.toInt < 40 ∧ (((V 10) kp) (Int32.toNatClampNeg p0)).toInt ≠ 0) := by intro h; omega
      have qq1 : (t24_0.toInt = 0 → 0 ≤ p0.toInt → p0.toInt < 40 → (((V 10) kp) (Int32.toNatClampNeg p0)).toInt = 0) := by intro _ h1 h2; exfalso; omega
      exact pw_some ⟨qq0, qq1⟩
    · have c7 := z_nle c7
      refine pw_nne hn1 ?_
      refine pw_if (fun hb15 => ?_)
      obtain ⟨hbl15, hbr15⟩ := hb15
      refine pw_ite (fun c16 => ?_) (fun c16 => ?_)
      · have c16 := congrArg Int32.toInt c16
        refine pw_j0 ej23 ?_
        refine pw_j1 ej24 (fun t24_0 et24_0 => ?_)
        have et24_0 := et24_0.symm
        have f_t24_0 : t24_0.toInt = 0 := by rw [et24_0]; decide +kernel
        refine pw_if (fun hb24 => ?_)
        obtain ⟨hbl24, hbr24⟩ := hb24
        have qq0 : (t24_0.toInt ≠ 0 → 0 ≤ p0.toInt ∧ p0.toInt < 40 ∧ (((V 10) kp) (Int32.toNatClampNeg p0)).toInt ≠ 0) := by intro h; omega
        have qq1 : (t24_0.toInt = 0 → 0 ≤ p0.toInt → p0.toInt < 40 → (((V 10) kp) (Int32.toNatClampNeg p0)).toInt = 0) := by intro _ _ _; omega
        exact pw_some ⟨qq0, qq1⟩
      · have c16 := z_ne c16
        refine pw_j1 ej24 (fun t24_0 et24_0 => ?_)
        have et24_0 := et24_0.symm
        have f_t24_0 : t24_0.toInt = 1 := by rw [et24_0]; decide +kernel
        refine pw_if (fun hb24 => ?_)
        obtain ⟨hbl24, hbr24⟩ := hb24
        have qq0 : (t24_0.toInt ≠ 0 → 0 ≤ p0.toInt ∧ p0.toInt < 40 ∧ (((V 10) kp) (Int32.toNatClampNeg p0)).toInt ≠ 0) := by intro _; exact ⟨by omega, by omega, by omega⟩
        have qq1 : (t24_0.toInt = 0 → 0 ≤ p0.toInt → p0.toInt < 40 → (((V 10) kp) (Int32.toNatClampNeg p0)).toInt = 0) := by intro h; omega
        exact pw_some ⟨qq0, qq1⟩
