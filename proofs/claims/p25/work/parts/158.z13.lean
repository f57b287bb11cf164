abbrev QF_X10_endsAlike (κ : Nat → Nat) (wd : Nat) (la : Nat → Nat) (G : Nat → Nat → Int32) (P : Nat → Nat → Option Nat) (U : Nat → Nat → Int64) (V : Nat → Nat → Nat → Int32) (X : Nat → Nat → Nat → Int64) (O : Nat → Nat → Nat → Option Nat) (kd : Nat → Nat) (ln : Nat → Nat) (cnt : Nat) (this : Nat) (p0 : Int32) (p1 : Nat) (p2 : Int32) (l : Nat) (s : Nat) (lo : Nat) (so : Nat) : (Int32) → Prop := (fun t => ((t.toInt ≠ 0 → rh3 (wdl ((V 0) l) (24 * Int32.toNatClampNeg p0) (Int32.toNatClampNeg ((V 1) s (Int32.toNatClampNeg p0)))) (wdl ((V 0) lo) (24 * Int32.toNatClampNeg p2) (Int32.toNatClampNeg ((V 1) so (Int32.toNatClampNeg p2)))))) ∧ ((t.toInt = 0 → ¬ rh3 (wdl ((V 0) l) (24 * Int32.toNatClampNeg p0) (Int32.toNatClampNeg ((V 1) s (Int32.toNatClampNeg p0)))) (wdl ((V 0) lo) (24 * Int32.toNatClampNeg p2) (Int32.toNatClampNeg ((V 1) so (Int32.toNatClampNeg p2)))))))
set_option maxHeartbeats 4000000 in
set_option maxRecDepth 100000 in
theorem fn_X10_endsAlike (κ : Nat → Nat) (wd : Nat) (la : Nat → Nat) (G : Nat → Nat → Int32) (P : Nat → Nat → Option Nat) (U : Nat → Nat → Int64) (V : Nat → Nat → Nat → Int32) (X : Nat → Nat → Nat → Int64) (O : Nat → Nat → Nat → Option Nat) (kd : Nat → Nat) (ln : Nat → Nat) (cnt : Nat) (this : Nat) (p0 : Int32) (p1 : Nat) (p2 : Int32) (l : Nat) (s : Nat) (lo : Nat) (so : Nat) (hzG200 : rng (0) 24 (G 200)) (hzG203 : rng (0) 100 (G 203)) (hzP201 : PB κ ln wd 11 100 0 2400 0 (P 201)) (hzP202 : PB κ ln wd 11 101 0 100 0 (P 202)) (hzV1 : rng2 (0) 24 (V 1)) (hzRA : RA κ ln (G 200) (P 201) (P 202)) (hzRB : RB κ ln (G 200) (G 203) (P 202) (V 1)) (hzRI : RI (P 202)) (hzLN : LN κ ln) (hk_this : κ this = 11) (hk_p1 : κ p1 = 11) (hp0 : (0 ≤ p0.toInt ∧ p0.toInt < ((G 203) this).toInt)) (hp1 : (0 ≤ p2.toInt ∧ p2.toInt < ((G 203) p1).toInt)) (hB : LB la cnt P) (hlt_this : this < cnt) (hlt_p1 : p1 < cnt) (hl : (P 201) this = some l) (hs : (P 202) this = some s) (hw : ((G 200) this).toInt = ((24 : Nat) : Int)) (hlo : (P 201) p1 = some lo) (hso : (P 202) p1 = some so) (hwo : ((G 200) p1).toInt = ((24 : Nat) : Int)) : pw (f_X10_endsAlike G P U V X O kd ln cnt this p0 p1 p2) (QF_X10_endsAlike κ wd la G P U V X O kd ln cnt this p0 p1 p2 l s lo so) := by
  unfold f_X10_endsAlike
  have zk0 : (0 : Int32).toInt = 0 := by decide +kernel
  have zk3 : (3 : Int32).toInt = 3 := by decide +kernel
  have r_p0 := i32r p0
  have r_p2 := i32r p2
  have hn1 : (P 201) this = some l := hl
  have lt_l2 := ((hB.1 201 fl_201) this l hn1).2.1
  have lb_l2 : la l = la this + 0 := lk_201.mp ((hB.1 201 fl_201) this l hn1).2.2
  have hk_l := ((hzP201 this).2 l hn1).1
  have hl1_l := ((hzP201 this).2 l hn1).2.1
  have hl2_l := ((hzP201 this).2 l hn1).2.2.1
  have hw_l := ((hzP201 this).2 l hn1).2.2.2
  have hz_l : (Int32.ofNat (ln l)).toInt = ((ln l : Nat) : Int) := ofN_eq (by first | exact Nat.le_trans hl2_l (by decide) | omega)
  have hn3 : (P 202) this = some s := hs
  have lt_s4 := ((hB.1 202 fl_202) this s hn3).2.1
  have lb_s4 : la s = la this + 0 := lk_202.mp ((hB.1 202 fl_202) this s hn3).2.2
  have hk_s := ((hzP202 this).2 s hn3).1
  have hl1_s := ((hzP202 this).2 s hn3).2.1
  have hl2_s := ((hzP202 this).2 s hn3).2.2.1
  have hw_s := ((hzP202 this).2 s hn3).2.2.2
  have hz_s : (Int32.ofNat (ln s)).toInt = ((ln s : Nat) : Int) := ofN_eq (by first | exact Nat.le_trans hl2_s (by decide) | omega)
  have rb5 := (hzRB this s hk_this hn3).1
  have ra6 := hzRA this l s hk_this hn1 hn3
  have bw7 := hzG200 this
  have hn8 : (P 201) p1 = some lo := hlo
  have lt_lo9 := ((hB.1 201 fl_201) p1 lo hn8).2.1
  have lb_lo9 : la lo = la p1 + 0 := lk_201.mp ((hB.1 201 fl_201) p1 lo hn8).2.2
  have hk_lo := ((hzP201 p1).2 lo hn8).1
  have hl1_lo := ((hzP201 p1).2 lo hn8).2.1
  have hl2_lo := ((hzP201 p1).2 lo hn8).2.2.1
  have hw_lo := ((hzP201 p1).2 lo hn8).2.2.2
  have hz_lo : (Int32.ofNat (ln lo)).toInt = ((ln lo : Nat) : Int) := ofN_eq (by first | exact Nat.le_trans hl2_lo (by decide) | omega)
  have hn10 : (P 202) p1 = some so := hso
  have lt_so11 := ((hB.1 202 fl_202) p1 so hn10).2.1
  have lb_so11 : la so = la p1 + 0 := lk_202.mp ((hB.1 202 fl_202) p1 so hn10).2.2
  have hk_so := ((hzP202 p1).2 so hn10).1
  have hl1_so := ((hzP202 p1).2 so hn10).2.1
  have hl2_so := ((hzP202 p1).2 so hn10).2.2.1
  have hw_so := ((hzP202 p1).2 so hn10).2.2.2
  have hz_so : (Int32.ofNat (ln so)).toInt = ((ln so : Nat) : Int) := ofN_eq (by first | exact Nat.le_trans hl2_so (by decide) | omega)
  have rb12 := (hzRB p1 so hk_p1 hn10).1
  have ra13 := hzRA p1 lo so hk_p1 hn8 hn10
  have bw14 := hzG200 p1
  have hb0 := hzG203 this
  have hb1 := hzG203 p1
  have hraa := hzRA this l s hk_this hl hs
  have hrba := hzRB this s hk_this hs
  have hrb1a := hrba.1
  have cpa := clampI (x := p0) (by omega)
  obtain ⟨hm1a, hm2a, hm3a⟩ := mulW (x := p0) (g := (G 200) this) (w := 24) (by omega) hw (by decide)
  have hria := rowix (x := p0) (w := (G 200) this) hraa (by omega) (by omega)
  have hlka := hrba.2 (Int32.toNatClampNeg p0)
  have hlva := hzV1 s (Int32.toNatClampNeg p0)
  have cza := clampI (x := (V 1) s (Int32.toNatClampNeg p0)) (by omega)
  have hrab := hzRA p1 lo so hk_p1 hlo hso
  have hrbb := hzRB p1 so hk_p1 hso
  have hrb1b := hrbb.1
  have cpb := clampI (x := p2) (by omega)
  obtain ⟨hm1b, hm2b, hm3b⟩ := mulW (x := p2) (g := (G 200) p1) (w := 24) (by omega) hwo (by decide)
  have hrib := rowix (x := p2) (w := (G 200) p1) hrab (by omega) (by omega)
  have hlkb := hrbb.2 (Int32.toNatClampNeg p2)
  have hlvb := hzV1 so (Int32.toNatClampNeg p2)
  have czb := clampI (x := (V 1) so (Int32.toNatClampNeg p2)) (by omega)
  refine pw_nne hn3 ?_
  refine pw_if (fun hb5 => ?_)
  obtain ⟨hbl5, hbr5⟩ := hb5
  have b15 := hzV1 s (Int32.toNatClampNeg p0)
  have rl16 := (hzRB this s hk_this hn3).2 (Int32.toNatClampNeg p0)
  refine pw_vl (fun x6 ex6 => ?_)
  have f17 : x6.toInt = (((V 1) s) (Int32.toNatClampNeg p0)).toInt := congrArg Int32.toInt ex6
  refine pw_nne hn10 ?_
  refine pw_if (fun hb13 => ?_)
  obtain ⟨hbl13, hbr13⟩ := hb13
  have b18 := hzV1 so (Int32.toNatClampNeg p2)
  have rl19 := (hzRB p1 so hk_p1 hn10).2 (Int32.toNatClampNeg p2)
  refine pw_vl (fun x14 ex14 => ?_)
  have f20 : x14.toInt = (((V 1) so) (Int32.toNatClampNeg p2)).toInt := congrArg Int32.toInt ex14
  refine pw_jE (fun j28 ej28 => ?_)
  refine pw_ite (fun c19 => ?_) (fun c19 => ?_)
  · have c19 := (z_lt _ _).mp c19
    refine pw_j0 ej28 ?_
    have qq0 : ((0 : Int32).toInt ≠ 0 → rh3 (wdl ((V 0) l) (24 * Int32.toNatClampNeg p0) (Int32.toNatClampNeg ((V 1) s (Int32.toNatClampNeg p0)))) (wdl ((V 0) lo) (24 * Int32.toNatClampNeg p2) (Int32.toNatClampNeg ((V 1) so (Int32.toNatClampNeg p2))))) := by intro h; exfalso; omega
    have qq1 : ((0 : Int32).toInt = 0 → ¬ rh3 (wdl ((V 0) l) (24 * Int32.toNatClampNeg p0) (Int32.toNatClampNeg ((V 1) s (Int32.toNatClampNeg p0)))) (wdl ((V 0) lo) (24 * Int32.toNatClampNeg p2) (Int32.toNatClampNeg ((V 1) so (Int32.toNatClampNeg p2))))) := by intro _ h; have h1 := h.1; have h2 := h.2.1; rw [wdl_len] at h1 h2; omega
    exact pw_some ⟨qq0, qq1⟩
  · have c19 := z_nlt c19
    refine pw_ite (fun c25 => ?_) (fun c25 => ?_)
    · have c25 := (z_le _ _).mp c25
      refine pw_nne hn1 ?_
      have b21 := hzG200 this
      have f22 := zmw (x := p0) (y := ((G 200) this)) (by omega) (by omega) (by omega) (by omega)
      have ix23 := rowix (x := p0) (hzRA this l s hk_this hn1 hn3) (hzG200 this).1
      have f24 : ((p0 * ((G 200) this)) + x6).toInt = (p0 * ((G 200) this)).toInt + x6.toInt := z_add (by omega) (by omega)
      have f25 : (((p0 * ((G 200) this)) + x6) - 3).toInt = ((p0 * ((G 200) this)) + x6).toInt - 3 := z_subc (by decide +kernel) (by omega) (by omega)
      refine pw_nne hn8 ?_
      have b26 := hzG200 p1
      have f27 := zmw (x := p2) (y := ((G 200) p1)) (by omega) (by omega) (by omega) (by omega)
      have ix28 := rowix (x := p2) (hzRA p1 lo so hk_p1 hn8 hn10) (hzG200 p1).1
      have f29 : ((p2 * ((G 200) p1)) + x14).toInt = (p2 * ((G 200) p1)).toInt + x14.toInt := z_add (by omega) (by omega)
      have f30 : (((p2 * ((G 200) p1)) + x14) - 3).toInt = ((p2 * ((G 200) p1)) + x14).toInt - 3 := z_subc (by decide +kernel) (by omega) (by omega)
      refine pw_b1 (fun r61 hc61 => ?_)
      have hq61 := wp_at (ok_X10_same κ wd G P U V X O kd ln cnt l (((p0 * ((G 200) this)) + x6) - 3) lo (((p2 * ((G 200) p1)) + x14) - 3) (3 : Int32) hzLN hk_l hk_lo) hc61
      have f31 : (0 ≤ r61.toInt ∧ r61.toInt ≤ 1) := hq61
      clear hq61
      have hx61 := pwq (fn_X10_same κ wd la G P U V X O kd ln cnt l (((p0 * ((G 200) this)) + x6) - 3) lo (((p2 * ((G 200) p1)) + x14) - 3) (3 : Int32) hzLN hk_l hk_lo hB lt_l2 lt_lo9) hc61
      obtain ⟨p61_0, p61_1⟩ : ((r61.toInt ≠ 0 → 0 ≤ (((p0 * ((G 200) this)) + x6) - 3).toInt ∧ 0 ≤ (((p2 * ((G 200) p1)) + x14) - 3).toInt ∧ wdl ((V 0) l) (Int32.toNatClampNeg (((p0 * ((G 200) this)) + x6) - 3)) (Int32.toNatClampNeg (3 : Int32)) = wdl ((V 0) lo) (Int32.toNatClampNeg (((p2 * ((G 200) p1)) + x14) - 3)) (Int32.toNatClampNeg (3 : Int32)))) ∧ ((r61.toInt = 0 → 0 ≤ (((p0 * ((G 200) this)) + x6) - 3).toInt → 0 ≤ (((p2 * ((G 200) p1)) + x14) - 3).toInt → 0 ≤ (3 : Int32).toInt → (((p0 * ((G 200) this)) + x6) - 3).toInt + (3 : Int32).toInt ≤ ((ln l : Nat) : Int) → (((p2 * ((G 200) p1)) + x14) - 3).toInt + (3 : Int32).toInt ≤ ((ln lo : Nat) : Int) → wdl ((V 0) l) (Int32.toNatClampNeg (((p0 * ((G 200) this)) + x6) - 3)) (Int32.toNatClampNeg (3 : Int32)) ≠ wdl ((V 0) lo) (Int32.toNatClampNeg (((p2 * ((G 200) p1)) + x14) - 3)) (Int32.toNatClampNeg (3 : Int32)))) := hx61
      have kpa := clampI (x := p0 * (G 200) this) (by omega)
      have kpb := clampI (x := p2 * (G 200) p1) (by omega)
      have hrx := rh_iff (f := (V 0) l) (g := (V 0) lo) (a := 24 * Int32.toNatClampNeg p0) (n := Int32.toNatClampNeg ((V 1) s (Int32.toNatClampNeg p0))) (b := 24 * Int32.toNatClampNeg p2) (m := Int32.toNatClampNeg ((V 1) so (Int32.toNatClampNeg p2))) (by omega) (by omega)
      have ka := clampI (x := ((p0 * (G 200) this) + x6) - 3) (by omega)
      have kb := clampI (x := ((p2 * (G 200) p1) + x14) - 3) (by omega)
      rw [show Int32.toNatClampNeg (((p0 * (G 200) this) + x6) - 3) = 24 * Int32.toNatClampNeg p0 + Int32.toNatClampNeg ((V 1) s (Int32.toNatClampNeg p0)) - 3 by omega, show Int32.toNatClampNeg (((p2 * (G 200) p1) + x14) - 3) = 24 * Int32.toNatClampNeg p2 + Int32.toNatClampNeg ((V 1) so (Int32.toNatClampNeg p2)) - 3 by omega, show Int32.toNatClampNeg (3 : Int32) = 3 from rfl] at p61_0 p61_1
      refine pw_if (fun hb64 => ?_)
      obtain ⟨hbl64, hbr64⟩ := hb64
      have qq0 : (r61.toInt ≠ 0 → rh3 (wdl ((V 0) l) (24 * Int32.toNatClampNeg p0) (Int32.toNatClampNeg ((V 1) s (Int32.toNatClampNeg p0)))) (wdl ((V 0) lo) (24 * Int32.toNatClampNeg p2) (Int32.toNatClampNeg ((V 1) so (Int32.toNatClampNeg p2))))) := by intro h; exact hrx.mpr (p61_0 h).2.2
      have qq1 : (r61.toInt = 0 → ¬ rh3 (wdl ((V 0) l) (24 * Int32.toNatClampNeg p0) (Int32.toNatClampNeg ((V 1) s (Int32.toNatClampNeg p0)))) (wdl ((V 0) lo) (24 * Int32.toNatClampNeg p2) (Int32.toNatClampNeg ((V 1) so (Int32.toNatClampNeg p2))))) := by intro h h2; exact p61_1 h (by omega) (by omega) (by omega) (by omega) (by omega) (hrx.mp h2)
      exact pw_some ⟨qq0, qq1⟩
    · have c25 := z_nle c25
      refine pw_j0 ej28 ?_
      have qq0 : ((0 : Int32).toInt ≠ 0 → rh3 (wdl ((V 0) l) (24 * Int32.toNatClampNeg p0) (Int32.toNatClampNeg ((V 1) s (Int32.toNatClampNeg p0)))) (wdl ((V 0) lo) (24 * Int32.toNatClampNeg p2) (Int32.toNatClampNeg ((V 1) so (Int32.toNatClampNeg p2))))) := by intro h; exfalso; omega
      have qq1 : ((0 : Int32).toInt = 0 → ¬ rh3 (wdl ((V 0) l) (24 * Int32.toNatClampNeg p0) (Int32.toNatClampNeg ((V 1) s (Int32.toNatClampNeg p0)))) (wdl ((V 0) lo) (24 * Int32.toNatClampNeg p2) (Int32.toNatClampNeg ((V 1) so (Int32.toNatClampNeg p2))))) := by intro _ h; have h1 := h.1; have h2 := h.2.1; rw [wdl_len] at h1 h2; omega
      exact pw_some ⟨qq0, qq1⟩
abbrev QF_X0_collide (κ : Nat → Nat) (wd : Nat) (la : Nat → Nat) (G : Nat → Nat → Int32) (P : Nat → Nat → Option Nat) (U : Nat → Nat → Int64) (V : Nat → Nat → Nat → Int32) (X : Nat → Nat → Nat → Int64) (O : Nat → Nat → Nat → Option Nat) (kd : Nat → Nat) (ln : Nat → Nat) (cnt : Nat) (this : Nat) (p0 : Int32) (p1 : Int32) (p2 : Int32) (fa : Nat) (D : Nat) (T1 : List Wd) (T2 : List Wd) : (Int32) → Prop := (fun t => ((t.toInt ≠ 0 → clB T1 T2 = true)) ∧ ((t.toInt = 0 → clB T1 T2 = false)))
set_option maxHeartbeats 4000000 in
set_option maxRecDepth 100000 in
theorem fn_X0_collide (κ : Nat → Nat) (wd : Nat) (la : Nat → Nat) (G : Nat → Nat → Int32) (P : Nat → Nat → Option Nat) (U : Nat → Nat → Int64) (V : Nat → Nat → Nat → Int32) (X : Nat → Nat → Nat → Int64) (O : Nat → Nat → Nat → Option Nat) (kd : Nat → Nat) (ln : Nat → Nat) (cnt : Nat) (this : Nat) (p0 : Int32) (p1 : Int32) (p2 : Int32) (fa : Nat) (D : Nat) (T1 : List Wd) (T2 : List Wd) (hzG200 : rng (0) 24 (G 200)) (hzG203 : rng (0) 100 (G 203)) (hzP1 : PB κ ln wd 1 301 700 700 0 (P 1)) (hzP5 : PB κ ln wd 1 11 0 2500 0 (P 5)) (hzP201 : PB κ ln wd 11 100 0 2400 0 (P 201)) (hzP202 : PB κ ln wd 11 101 0 100 0 (P 202)) (hzV1 : rng2 (0) 24 (V 1)) (hzO1 : OB κ 11 (O 1)) (hzRA : RA κ ln (G 200) (P 201) (P 202)) (hzRB : RB κ ln (G 200) (G 203) (P 202) (V 1)) (hzRI : RI (P 202)) (hzLN : LN κ ln) (hk_this : κ this = 1) (hp0 : (0 ≤ p0.toInt ∧ p0.toInt ≤ 6)) (hp1 : (0 ≤ p1.toInt ∧ p1.toInt < 100)) (hp2 : (0 ≤ p2.toInt ∧ p2.toInt < 100)) (hB : LB la cnt P) (hlt_this : this < cnt) (h1 : (P 1) this = some fa) (hr1 : ROWF G P V la cnt D ((O 1) fa (100 * Int32.toNatClampNeg p0 + Int32.toNatClampNeg p1)) T1) (hr2 : ROWF G P V la cnt D ((O 1) fa (100 * Int32.toNatClampNeg p0 + Int32.toNatClampNeg p2)) T2) : pw (f_X0_collide G P U V X O kd ln cnt this p0 p1 p2) (QF_X0_collide κ wd la G P U V X O kd ln cnt this p0 p1 p2 fa D T1 T2) := by
  unfold f_X0_collide
  have zkm1 : (-1 : Int32).toInt = -1 := by decide +kernel
  have zk0 : (0 : Int32).toInt = 0 := by decide +kernel
  have zk1 : (1 : Int32).toInt = 1 := by decide +kernel
  have r_p0 := i32r p0
  have r_p1 := i32r p1
  have r_p2 := i32r p2
  have hn1 : (P 1) this = some fa := h1
  have lt_fa2 := ((hB.1 1 fl_1) this fa hn1).2.1
  have lb_fa2 : la fa = la this + 0 := lk_1.mp ((hB.1 1 fl_1) this fa hn1).2.2
  have hk_fa := ((hzP1 this).2 fa hn1).1
  have hl1_fa := ((hzP1 this).2 fa hn1).2.1
  have hl2_fa := ((hzP1 this).2 fa hn1).2.2.1
  have hw_fa := ((hzP1 this).2 fa hn1).2.2.2
  have hz_fa : (Int32.ofNat (ln fa)).toInt = ((ln fa : Nat) : Int) := ofN_eq (by first | exact Nat.le_trans hl2_fa (by decide) | omega)
  have cp0 := clampI (x := p0) (by omega)
  have cp1 := clampI (x := p1) (by omega)
  have cp2 := clampI (x := p2) (by omega)
  have hpr3_0 : (0 ≤ p0.toInt ∧ p0.toInt ≤ 6) := by first | assumption | omega
  have hpr3_1 : (0 ≤ p1.toInt ∧ p1.toInt < 100) := by first | assumption | omega
  refine pw_b1 (fun r3 hc3 => ?_)
  have hq3 := wp_at (ok_X0_formsAt κ wd G P U V X O kd ln cnt this p0 p1 hzP1 hzP5 hzO1 hzLN hk_this hpr3_0 hpr3_1) hc3
  have hk3 : κ r3 = 11 := hq3
  clear hq3
  have h83_h1 : (P 1) this = some fa := by exact h1
  have hx3 := pwq (fn_X0_formsAt κ wd la G P U V X O kd ln cnt this p0 p1 (fa) hzP1 hzP5 hzO1 hzLN hk_this hpr3_0 hpr3_1 hB hlt_this h83_h1) hc3
  have p3_0 : (∀ b, (O 1) fa (Int32.toNatClampNeg (p0 * 100 + p1)) = some b → r3 = b) := hx3
  clear hx3
  have f100_1 : (p0 * 100).toInt = p0.toInt * 100 := z_mulc (by decide +kernel) (by omega) (by omega)
  have f101_1 : ((p0 * 100) + p1).toInt = (p0 * 100).toInt + p1.toInt := z_add (by omega) (by omega)
  have kq1 := clampI (x := (p0 * 100) + p1) (by omega)
  obtain ⟨row1, l1, s1, e11, ⟨e12, _, _⟩, ⟨e15, e16, e17⟩, e18⟩ := hr1
  have er1 : r3 = row1 := p3_0 row1 (by rw [← e11]; exact congrArg ((O 1) fa) (by omega))
  have g15 : (P 201) r3 = some l1 := by rw [er1]; exact e15
  have g16 : (P 202) r3 = some s1 := by rw [er1]; exact e16
  have g17 : ((G 200) r3).toInt = ((24 : Nat) : Int) := by rw [er1]; exact e17
  have g18 : rwW ((G 203) r3) ((V 0) l1) ((V 1) s1) 24 = T1 := by rw [er1]; exact e18
  have hb1 := hzG203 r3
  have cb1 := clampI (x := (G 203) r3) (by omega)
  have hTl1 : T1.length = Int32.toNatClampNeg ((G 203) r3) := by rw [← g18]; exact rw_len
  have hn4 : (P 201) r3 = some l1 := g15
  have lt_l15 := ((hB.1 201 fl_201) r3 l1 hn4).2.1
  have lb_l15 : la l1 = la r3 + 0 := lk_201.mp ((hB.1 201 fl_201) r3 l1 hn4).2.2
  have hk_l1 := ((hzP201 r3).2 l1 hn4).1
  have hl1_l1 := ((hzP201 r3).2 l1 hn4).2.1
  have hl2_l1 := ((hzP201 r3).2 l1 hn4).2.2.1
  have hw_l1 := ((hzP201 r3).2 l1 hn4).2.2.2
  have hz_l1 : (Int32.ofNat (ln l1)).toInt = ((ln l1 : Nat) : Int) := ofN_eq (by first | exact Nat.le_trans hl2_l1 (by decide) | omega)
  have hn6 : (P 202) r3 = some s1 := g16
  have lt_s17 := ((hB.1 202 fl_202) r3 s1 hn6).2.1
  have lb_s17 : la s1 = la r3 + 0 := lk_202.mp ((hB.1 202 fl_202) r3 s1 hn6).2.2
  have hk_s1 := ((hzP202 r3).2 s1 hn6).1
  have hl1_s1 := ((hzP202 r3).2 s1 hn6).2.1
  have hl2_s1 := ((hzP202 r3).2 s1 hn6).2.2.1
  have hw_s1 := ((hzP202 r3).2 s1 hn6).2.2.2
  have hz_s1 : (Int32.ofNat (ln s1)).toInt = ((ln s1 : Nat) : Int) := ofN_eq (by first | exact Nat.le_trans hl2_s1 (by decide) | omega)
  have rb8 := (hzRB r3 s1 hk3 hn6).1
  have ra9 := hzRA r3 l1 s1 hk3 hn4 hn6
  have bw10 := hzG200 r3
  have hpr11_0 : (0 ≤ p0.toInt ∧ p0.toInt ≤ 6) := by first | assumption | omega
  have hpr11_1 : (0 ≤ p2.toInt ∧ p2.toInt < 100) := by first | assumption | omega
  refine pw_b1 (fun r11 hc11 => ?_)
  have hq11 := wp_at (ok_X0_formsAt κ wd G P U V X O kd ln cnt this p0 p2 hzP1 hzP5 hzO1 hzLN hk_this hpr11_0 hpr11_1) hc11
  have hk11 : κ r11 = 11 := hq11
  clear hq11
  have h811_h1 : (P 1) this = some fa := by exact h1
  have hx11 := pwq (fn_X0_formsAt κ wd la G P U V X O kd ln cnt this p0 p2 (fa) hzP1 hzP5 hzO1 hzLN hk_this hpr11_0 hpr11_1 hB hlt_this h811_h1) hc11
  have p11_0 : (∀ b, (O 1) fa (Int32.toNatClampNeg (p0 * 100 + p2)) = some b → r11 = b) := hx11
  clear hx11
  have f100_2 : (p0 * 100).toInt = p0.toInt * 100 := z_mulc (by decide +kernel) (by omega) (by omega)
  have f101_2 : ((p0 * 100) + p2).toInt = (p0 * 100).toInt + p2.toInt := z_add (by omega) (by omega)
  have kq2 := clampI (x := (p0 * 100) + p2) (by omega)
  obtain ⟨row2, l2, s2, e21, ⟨e22, _, _⟩, ⟨e25, e26, e27⟩, e28⟩ := hr2
  have er2 : r11 = row2 := p11_0 row2 (by rw [← e21]; exact congrArg ((O 1) fa) (by omega))
  have g25 : (P 201) r11 = some l2 := by rw [er2]; exact e25
  have g26 : (P 202) r11 = some s2 := by rw [er2]; exact e26
  have g27 : ((G 200) r11).toInt = ((24 : Nat) : Int) := by rw [er2]; exact e27
  have g28 : rwW ((G 203) r11) ((V 0) l2) ((V 1) s2) 24 = T2 := by rw [er2]; exact e28
  have hb2 := hzG203 r11
  have cb2 := clampI (x := (G 203) r11) (by omega)
  have hTl2 : T2.length = Int32.toNatClampNeg ((G 203) r11) := by rw [← g28]; exact rw_len
  have hn12 : (P 201) r11 = some l2 := g25
  have lt_l213 := ((hB.1 201 fl_201) r11 l2 hn12).2.1
  have lb_l213 : la l2 = la r11 + 0 := lk_201.mp ((hB.1 201 fl_201) r11 l2 hn12).2.2
  have hk_l2 := ((hzP201 r11).2 l2 hn12).1
  have hl1_l2 := ((hzP201 r11).2 l2 hn12).2.1
  have hl2_l2 := ((hzP201 r11).2 l2 hn12).2.2.1
  have hw_l2 := ((hzP201 r11).2 l2 hn12).2.2.2
  have hz_l2 : (Int32.ofNat (ln l2)).toInt = ((ln l2 : Nat) : Int) := ofN_eq (by first | exact Nat.le_trans hl2_l2 (by decide) | omega)
  have hn14 : (P 202) r11 = some s2 := g26
  have lt_s215 := ((hB.1 202 fl_202) r11 s2 hn14).2.1
  have lb_s215 : la s2 = la r11 + 0 := lk_202.mp ((hB.1 202 fl_202) r11 s2 hn14).2.2
  have hk_s2 := ((hzP202 r11).2 s2 hn14).1
  have hl1_s2 := ((hzP202 r11).2 s2 hn14).2.1
  have hl2_s2 := ((hzP202 r11).2 s2 hn14).2.2.1
  have hw_s2 := ((hzP202 r11).2 s2 hn14).2.2.2
  have hz_s2 : (Int32.ofNat (ln s2)).toInt = ((ln s2 : Nat) : Int) := ofN_eq (by first | exact Nat.le_trans hl2_s2 (by decide) | omega)
  have rb16 := (hzRB r11 s2 hk11 hn14).1
  have ra17 := hzRA r11 l2 s2 hk11 hn12 hn14
  have bw18 := hzG200 r11
  have lp19 : ∀ (n19 : Nat) (y19_6 : Int32), (0 ≤ y19_6.toInt ∧ y19_6.toInt ≤ 100) → y19_6.toInt ≤ ((G 203) r3).toInt → (∀ j y, j < Int32.toNatClampNeg y19_6 → T1[j]? = some y → y ∉ T2) → pw (L_X0_collide_19 G P U V X O kd ln cnt r3 r11 n19 y19_6) (QF_X0_collide κ wd la G P U V X O kd ln cnt this p0 p1 p2 fa D T1 T2) := by
    intro n19
    induction n19 with
    | zero => intros; exact pw_none
    | succ n19 ih19 =>
      intro y19_6 f19 f20 in19
      show pw (B_X0_collide_19 G P U V X O kd ln cnt r3 r11 (L_X0_collide_19 G P U V X O kd ln cnt r3 r11 n19) y19_6) _
      unfold B_X0_collide_19
      have b21 := hzG203 r3
      refine pw_ite (fun c26 => ?_) (fun c26 => ?_)
      · have c26 := (z_le _ _).mp c26
        have qq0 : ((0 : Int32).toInt ≠ 0 → clB T1 T2 = true) := by intro h; exfalso; omega
        have qq1 : ((0 : Int32).toInt = 0 → clB T1 T2 = false) := by intro _; have k6 := clampI (x := y19_6) (by omega); refine clB_f (fun x hx => ?_); obtain ⟨j, hj⟩ := List.getElem?_of_mem hx; have hl := get_lt hj; exact in19 j x (by omega) hj
        exact pw_some ⟨qq0, qq1⟩
      · have c26 := z_nle c26
        have k6 := clampI (x := y19_6) (by omega)
        have hxk : T1[Int32.toNatClampNeg y19_6]? = some (wdl ((V 0) l1) (24 * Int32.toNatClampNeg y19_6) (Int32.toNatClampNeg ((V 1) s1 (Int32.toNatClampNeg y19_6)))) := by rw [← g18]; exact rw_at (by omega)
        have z26 : True := trivial
        obtain ⟨hm1, hm2, hm3⟩ := mulW (x := y19_6) (g := (G 200) r3) (w := 24) (by omega) g17 (by decide)
        refine pw_nne hn4 ?_
        have b25 := hzG200 r3
        have f26 := zmw (x := y19_6) (y := ((G 200) r3)) (by omega) (by omega) (by omega) (by omega)
        have ix27 := rowix (x := y19_6) (hzRA r3 l1 s1 hk3 hn4 hn6) (hzG200 r3).1
        refine pw_nne hn6 ?_
        refine pw_if (fun hb51 => ?_)
        obtain ⟨hbl51, hbr51⟩ := hb51
        have b28 := hzV1 s1 (Int32.toNatClampNeg y19_6)
        have rl29 := (hzRB r3 s1 hk3 hn6).2 (Int32.toNatClampNeg y19_6)
        refine pw_b1 (fun r52 hc52 => ?_)
        have hq52 := wp_at (ok_X10_find κ wd G P U V X O kd ln cnt r11 l1 (y19_6 * ((G 200) r3)) (((V 1) s1) (Int32.toNatClampNeg y19_6)) hzG200 hzG203 hzP201 hzP202 hzV1 hzRA hzRB hzRI hzLN hk11 hk_l1) hc52
        obtain ⟨f30, f31⟩ : (((-1) ≤ r52.toInt ∧ r52.toInt < 100)) ∧ ((r52.toInt = -1 ∨ r52.toInt < ((G 203) r11).toInt)) := hq52
        have h852_hl : (P 201) r11 = some (l2) := by exact g25
        have h852_hs : (P 202) r11 = some (s2) := by exact g26
        have h852_hw : ((G 200) r11).toInt = ((24) : Int) := by exact g27
        have h852_hws : rwW ((G 203) r11) ((V 0) (l2)) ((V 1) (s2)) (24) = (T2) := by exact g28
        have h852_hst : 0 ≤ (y19_6 * ((G 200) r3)).toInt := by omega
        have h852_hm : 0 ≤ (((V 1) s1) (Int32.toNatClampNeg y19_6)).toInt := by omega
        have h852_hlf : (y19_6 * ((G 200) r3)).toInt + (((V 1) s1) (Int32.toNatClampNeg y19_6)).toInt ≤ ((ln l1 : Nat) : Int) := by omega
        have hx52 := pwq (fn_X10_find κ wd la G P U V X O kd ln cnt r11 l1 (y19_6 * ((G 200) r3)) (((V 1) s1) (Int32.toNatClampNeg y19_6)) (l2) (s2) (24) (T2) hzG200 hzG203 hzP201 hzP202 hzV1 hzRA hzRB hzRI hzLN hk11 hk_l1 hB (by omega) lt_l15 h852_hl h852_hs h852_hw h852_hws h852_hst h852_hm h852_hlf) hc52
        have p52_0 : FIX (T2) (wdl ((V 0) l1) (Int32.toNatClampNeg (y19_6 * ((G 200) r3))) (Int32.toNatClampNeg (((V 1) s1) (Int32.toNatClampNeg y19_6)))) r52.toInt := hx52
        clear hx52
        rw [hm1] at p52_0
        refine pw_ite (fun c56 => ?_) (fun c56 => ?_)
        · have c56 := congrArg Int32.toInt c56
          have f32 : (y19_6 + 1).toInt = y19_6.toInt + (1) := z_addc (by decide +kernel) (by omega) (by omega)
          have iv19_0 : (0 ≤ (y19_6 + 1).toInt ∧ (y19_6 + 1).toInt ≤ 100) := by omega
          have iv19_1 : (y19_6 + 1).toInt ≤ ((G 203) r3).toInt := by omega
          have iv19_2 : (∀ j y, j < Int32.toNatClampNeg (y19_6 + 1) → T1[j]? = some y → y ∉ T2) := by have k7 := clampI (x := y19_6 + 1) (by omega); intro j y hj hy; by_cases q9 : j = Int32.toNatClampNeg y19_6; (subst q9; rw [hxk] at hy; cases hy; exact p52_0.1 (by omega)); (exact in19 j y (by omega) hy)
          exact ih19 (y19_6 + 1) iv19_0 iv19_1 iv19_2
        · have c56 := z_ne c56
          have qq0 : ((1 : Int32).toInt ≠ 0 → clB T1 T2 = true) := by intro _; exact clB_t (List.mem_of_getElem? hxk) (List.mem_of_getElem? (p52_0.2 (by omega)).2.1)
          have qq1 : ((1 : Int32).toInt = 0 → clB T1 T2 = false) := by intro h; exfalso; omega
          exact pw_some ⟨qq0, qq1⟩
  exact lp19 NN (0 : Int32) (show (0 ≤ (0 : Int32).toInt ∧ (0 : Int32).toInt ≤ 100) from by omega) (show (0 : Int32).toInt ≤ ((G 203) r3).toInt from by omega) (show (∀ j y, j < Int32.toNatClampNeg (0 : Int32) → T1[j]? = some y → y ∉ T2) from by intro j y hj; exact absurd hj (Nat.not_lt_zero _))
abbrev QF_X0_formsRhyme (κ : Nat → Nat) (wd : Nat) (la : Nat → Nat) (G : Nat → Nat → Int32) (P : Nat → Nat → Option Nat) (U : Nat → Nat → Int64) (V : Nat → Nat → Nat → Int32) (X : Nat → Nat → Nat → Int64) (O : Nat → Nat → Nat → Option Nat) (kd : Nat → Nat) (ln : Nat → Nat) (cnt : Nat) (this : Nat) (p0 : Int32) (p1 : Int32) (p2 : Int32) (fa : Nat) (D : Nat) (T1 : List Wd) (T2 : List Wd) : (Int32) → Prop := (fun t => ((t.toInt ≠ 0 → rhB T1 T2 = true)) ∧ ((t.toInt = 0 → rhB T1 T2 = false)))
set_option maxHeartbeats 4000000 in
set_option maxRecDepth 100000 in
theorem fn_X0_formsRhyme (κ : Nat → Nat) (wd : Nat) (la : Nat → Nat) (G : Nat → Nat → Int32) (P : Nat → Nat → Option Nat) (U : Nat → Nat → Int64) (V : Nat → Nat → Nat → Int32) (X : Nat → Nat → Nat → Int64) (O : Nat → Nat → Nat → Option Nat) (kd : Nat → Nat) (ln : Nat → Nat) (cnt : Nat) (this : Nat) (p0 : Int32) (p1 : Int32) (p2 : Int32) (fa : Nat) (D : Nat) (T1 : List Wd) (T2 : List Wd) (hzG200 : rng (0) 24 (G 200)) (hzG203 : rng (0) 100 (G 203)) (hzP1 : PB κ ln wd 1 301 700 700 0 (P 1)) (hzP5 : PB κ ln wd 1 11 0 2500 0 (P 5)) (hzP201 : PB κ ln wd 11 100 0 2400 0 (P 201)) (hzP202 : PB κ ln wd 11 101 0 100 0 (P 202)) (hzV1 : rng2 (0) 24 (V 1)) (hzO1 : OB κ 11 (O 1)) (hzRA : RA κ ln (G 200) (P 201) (P 202)) (hzRB : RB κ ln (G 200) (G 203) (P 202) (V 1)) (hzRI : RI (P 202)) (hzLN : LN κ ln) (hk_this : κ this = 1) (hp0 : (0 ≤ p0.toInt ∧ p0.toInt ≤ 6)) (hp1 : (0 ≤ p1.toInt ∧ p1.toInt < 100)) (hp2 : (0 ≤ p2.toInt ∧ p2.toInt < 100)) (hB : LB la cnt P) (hlt_this : this < cnt) (h1 : (P 1) this = some fa) (hr1 : ROWF G P V la cnt D ((O 1) fa (100 * Int32.toNatClampNeg p0 + Int32.toNatClampNeg p1)) T1) (hr2 : ROWF G P V la cnt D ((O 1) fa (100 * Int32.toNatClampNeg p0 + Int32.toNatClampNeg p2)) T2) : pw (f_X0_formsRhyme G P U V X O kd ln cnt this p0 p1 p2) (QF_X0_formsRhyme κ wd la G P U V X O kd ln cnt this p0 p1 p2 fa D T1 T2) := by
  unfold f_X0_formsRhyme
  have zk0 : (0 : Int32).toInt = 0 := by decide +kernel
  have zk1 : (1 : Int32).toInt = 1 := by decide +kernel
  have r_p0 := i32r p0
  have r_p1 := i32r p1
  have r_p2 := i32r p2
  have hn1 : (P 1) this = some fa := h1
  have lt_fa2 := ((hB.1 1 fl_1) this fa hn1).2.1
  have lb_fa2 : la fa = la this + 0 := lk_1.mp ((hB.1 1 fl_1) this fa hn1).2.2
  have hk_fa := ((hzP1 this).2 fa hn1).1
  have hl1_fa := ((hzP1 this).2 fa hn1).2.1
  have hl2_fa := ((hzP1 this).2 fa hn1).2.2.1
  have hw_fa := ((hzP1 this).2 fa hn1).2.2.2
  have hz_fa : (Int32.ofNat (ln fa)).toInt = ((ln fa : Nat) : Int) := ofN_eq (by first | exact Nat.le_trans hl2_fa (by decide) | omega)
  have cp0 := clampI (x := p0) (by omega)
  have cp1 := clampI (x := p1) (by omega)
  have cp2 := clampI (x := p2) (by omega)
  have hpr3_0 : (0 ≤ p0.toInt ∧ p0.toInt ≤ 6) := by first | assumption | omega
  have hpr3_1 : (0 ≤ p1.toInt ∧ p1.toInt < 100) := by first | assumption | omega
  refine pw_b1 (fun r3 hc3 => ?_)
  have hq3 := wp_at (ok_X0_formsAt κ wd G P U V X O kd ln cnt this p0 p1 hzP1 hzP5 hzO1 hzLN hk_this hpr3_0 hpr3_1) hc3
  have hk3 : κ r3 = 11 := hq3
  clear hq3
  have h83_h1 : (P 1) this = some fa := by exact h1
  have hx3 := pwq (fn_X0_formsAt κ wd la G P U V X O kd ln cnt this p0 p1 (fa) hzP1 hzP5 hzO1 hzLN hk_this hpr3_0 hpr3_1 hB hlt_this h83_h1) hc3
  have p3_0 : (∀ b, (O 1) fa (Int32.toNatClampNeg (p0 * 100 + p1)) = some b → r3 = b) := hx3
  clear hx3
  have f100_1 : (p0 * 100).toInt = p0.toInt * 100 := z_mulc (by decide +kernel) (by omega) (by omega)
  have f101_1 : ((p0 * 100) + p1).toInt = (p0 * 100).toInt + p1.toInt := z_add (by omega) (by omega)
  have kq1 := clampI (x := (p0 * 100) + p1) (by omega)
  obtain ⟨row1, l1, s1, e11, ⟨e12, _, _⟩, ⟨e15, e16, e17⟩, e18⟩ := hr1
  have er1 : r3 = row1 := p3_0 row1 (by rw [← e11]; exact congrArg ((O 1) fa) (by omega))
  have g15 : (P 201) r3 = some l1 := by rw [er1]; exact e15
  have g16 : (P 202) r3 = some s1 := by rw [er1]; exact e16
  have g17 : ((G 200) r3).toInt = ((24 : Nat) : Int) := by rw [er1]; exact e17
  have g18 : rwW ((G 203) r3) ((V 0) l1) ((V 1) s1) 24 = T1 := by rw [er1]; exact e18
  have hb1 := hzG203 r3
  have cb1 := clampI (x := (G 203) r3) (by omega)
  have hTl1 : T1.length = Int32.toNatClampNeg ((G 203) r3) := by rw [← g18]; exact rw_len
  have hn4 : (P 201) r3 = some l1 := g15
  have lt_l15 := ((hB.1 201 fl_201) r3 l1 hn4).2.1
  have lb_l15 : la l1 = la r3 + 0 := lk_201.mp ((hB.1 201 fl_201) r3 l1 hn4).2.2
  have hk_l1 := ((hzP201 r3).2 l1 hn4).1
  have hl1_l1 := ((hzP201 r3).2 l1 hn4).2.1
  have hl2_l1 := ((hzP201 r3).2 l1 hn4).2.2.1
  have hw_l1 := ((hzP201 r3).2 l1 hn4).2.2.2
  have hz_l1 : (Int32.ofNat (ln l1)).toInt = ((ln l1 : Nat) : Int) := ofN_eq (by first | exact Nat.le_trans hl2_l1 (by decide) | omega)
  have hn6 : (P 202) r3 = some s1 := g16
  have lt_s17 := ((hB.1 202 fl_202) r3 s1 hn6).2.1
  have lb_s17 : la s1 = la r3 + 0 := lk_202.mp ((hB.1 202 fl_202) r3 s1 hn6).2.2
  have hk_s1 := ((hzP202 r3).2 s1 hn6).1
  have hl1_s1 := ((hzP202 r3).2 s1 hn6).2.1
  have hl2_s1 := ((hzP202 r3).2 s1 hn6).2.2.1
  have hw_s1 := ((hzP202 r3).2 s1 hn6).2.2.2
  have hz_s1 : (Int32.ofNat (ln s1)).toInt = ((ln s1 : Nat) : Int) := ofN_eq (by first | exact Nat.le_trans hl2_s1 (by decide) | omega)
  have rb8 := (hzRB r3 s1 hk3 hn6).1
  have ra9 := hzRA r3 l1 s1 hk3 hn4 hn6
  have bw10 := hzG200 r3
  have hpr11_0 : (0 ≤ p0.toInt ∧ p0.toInt ≤ 6) := by first | assumption | omega
  have hpr11_1 : (0 ≤ p2.toInt ∧ p2.toInt < 100) := by first | assumption | omega
  refine pw_b1 (fun r11 hc11 => ?_)
  have hq11 := wp_at (ok_X0_formsAt κ wd G P U V X O kd ln cnt this p0 p2 hzP1 hzP5 hzO1 hzLN hk_this hpr11_0 hpr11_1) hc11
  have hk11 : κ r11 = 11 := hq11
  clear hq11
  have h811_h1 : (P 1) this = some fa := by exact h1
  have hx11 := pwq (fn_X0_formsAt κ wd la G P U V X O kd ln cnt this p0 p2 (fa) hzP1 hzP5 hzO1 hzLN hk_this hpr11_0 hpr11_1 hB hlt_this h811_h1) hc11
  have p11_0 : (∀ b, (O 1) fa (Int32.toNatClampNeg (p0 * 100 + p2)) = some b → r11 = b) := hx11
  clear hx11
  have f100_2 : (p0 * 100).toInt = p0.toInt * 100 := z_mulc (by decide +kernel) (by omega) (by omega)
  have f101_2 : ((p0 * 100) + p2).toInt = (p0 * 100).toInt + p2.toInt := z_add (by omega) (by omega)
  have kq2 := clampI (x := (p0 * 100) + p2) (by omega)
  obtain ⟨row2, l2, s2, e21, ⟨e22, _, _⟩, ⟨e25, e26, e27⟩, e28⟩ := hr2
  have er2 : r11 = row2 := p11_0 row2 (by rw [← e21]; exact congrArg ((O 1) fa) (by omega))
  have g25 : (P 201) r11 = some l2 := by rw [er2]; exact e25
  have g26 : (P 202) r11 = some s2 := by rw [er2]; exact e26
  have g27 : ((G 200) r11).toInt = ((24 : Nat) : Int) := by rw [er2]; exact e27
  have g28 : rwW ((G 203) r11) ((V 0) l2) ((V 1) s2) 24 = T2 := by rw [er2]; exact e28
  have hb2 := hzG203 r11
  have cb2 := clampI (x := (G 203) r11) (by omega)
  have hTl2 : T2.length = Int32.toNatClampNeg ((G 203) r11) := by rw [← g28]; exact rw_len
  have hn12 : (P 201) r11 = some l2 := g25
  have lt_l213 := ((hB.1 201 fl_201) r11 l2 hn12).2.1
  have lb_l213 : la l2 = la r11 + 0 := lk_201.mp ((hB.1 201 fl_201) r11 l2 hn12).2.2
  have hk_l2 := ((hzP201 r11).2 l2 hn12).1
  have hl1_l2 := ((hzP201 r11).2 l2 hn12).2.1
  have hl2_l2 := ((hzP201 r11).2 l2 hn12).2.2.1
  have hw_l2 := ((hzP201 r11).2 l2 hn12).2.2.2
  have hz_l2 : (Int32.ofNat (ln l2)).toInt = ((ln l2 : Nat) : Int) := ofN_eq (by first | exact Nat.le_trans hl2_l2 (by decide) | omega)
  have hn14 : (P 202) r11 = some s2 := g26
  have lt_s215 := ((hB.1 202 fl_202) r11 s2 hn14).2.1
  have lb_s215 : la s2 = la r11 + 0 := lk_202.mp ((hB.1 202 fl_202) r11 s2 hn14).2.2
  have hk_s2 := ((hzP202 r11).2 s2 hn14).1
  have hl1_s2 := ((hzP202 r11).2 s2 hn14).2.1
  have hl2_s2 := ((hzP202 r11).2 s2 hn14).2.2.1
  have hw_s2 := ((hzP202 r11).2 s2 hn14).2.2.2
  have hz_s2 : (Int32.ofNat (ln s2)).toInt = ((ln s2 : Nat) : Int) := ofN_eq (by first | exact Nat.le_trans hl2_s2 (by decide) | omega)
  have rb16 := (hzRB r11 s2 hk11 hn14).1
  have ra17 := hzRA r11 l2 s2 hk11 hn12 hn14
  have bw18 := hzG200 r11
  have lp19 : ∀ (n19 : Nat) (y19_6 : Int32), (0 ≤ y19_6.toInt ∧ y19_6.toInt ≤ 100) → y19_6.toInt ≤ ((G 203) r3).toInt → (∀ j y, j < Int32.toNatClampNeg y19_6 → T1[j]? = some y → ∀ z, z ∈ T2 → ¬ rh3 y z) → pw (L_X0_formsRhyme_19 G P U V X O kd ln cnt r3 r11 n19 y19_6) (QF_X0_formsRhyme κ wd la G P U V X O kd ln cnt this p0 p1 p2 fa D T1 T2) := by
    intro n19
    induction n19 with
    | zero => intros; exact pw_none
    | succ n19 ih19 =>
      intro y19_6 f19 f20 in19
      show pw (B_X0_formsRhyme_19 G P U V X O kd ln cnt r3 r11 (L_X0_formsRhyme_19 G P U V X O kd ln cnt r3 r11 n19) y19_6) _
      unfold B_X0_formsRhyme_19
      have b21 := hzG203 r3
      refine pw_ite (fun c26 => ?_) (fun c26 => ?_)
      · have c26 := (z_le _ _).mp c26
        have qq0 : ((0 : Int32).toInt ≠ 0 → rhB T1 T2 = true) := by intro h; exfalso; omega
        have qq1 : ((0 : Int32).toInt = 0 → rhB T1 T2 = false) := by intro _; have k6 := clampI (x := y19_6) (by omega); refine rhB_f (fun x y hx hy => ?_); obtain ⟨j, hj⟩ := List.getElem?_of_mem hx; have hl := get_lt hj; exact in19 j x (by omega) hj y hy
        exact pw_some ⟨qq0, qq1⟩
      · have c26 := z_nle c26
        have k6 := clampI (x := y19_6) (by omega)
        have hxk1 : T1[Int32.toNatClampNeg y19_6]? = some (wdl ((V 0) l1) (24 * Int32.toNatClampNeg y19_6) (Int32.toNatClampNeg ((V 1) s1 (Int32.toNatClampNeg y19_6)))) := by rw [← g18]; exact rw_at (by omega)
        refine pw_jE (fun k64 ek64 => ?_)
        have lp32 : ∀ (n32 : Nat) (y32_7 : Int32), (0 ≤ y32_7.toInt ∧ y32_7.toInt ≤ 100) → y32_7.toInt ≤ ((G 203) r11).toInt → (∀ i z, i < Int32.toNatClampNeg y32_7 → T2[i]? = some z → ¬ rh3 (wdl ((V 0) l1) (24 * Int32.toNatClampNeg y19_6) (Int32.toNatClampNeg ((V 1) s1 (Int32.toNatClampNeg y19_6)))) z) → pw (L_X0_formsRhyme_32 G P U V X O kd ln cnt r3 r11 y19_6 k64 n32 y32_7) (QF_X0_formsRhyme κ wd la G P U V X O kd ln cnt this p0 p1 p2 fa D T1 T2) := by
          intro n32
          induction n32 with
          | zero => intros; exact pw_none
          | succ n32 ih32 =>
            intro y32_7 f25 f26 jn32
            show pw (B_X0_formsRhyme_32 G P U V X O kd ln cnt r3 r11 y19_6 k64 (L_X0_formsRhyme_32 G P U V X O kd ln cnt r3 r11 y19_6 k64 n32) y32_7) _
            unfold B_X0_formsRhyme_32
            have b27 := hzG203 r11
            refine pw_ite (fun c39 => ?_) (fun c39 => ?_)
            · have c39 := (z_le _ _).mp c39
              refine pw_j0 ek64 ?_
              have f31 : (y19_6 + 1).toInt = y19_6.toInt + (1) := z_addc (by decide +kernel) (by omega) (by omega)
              have iv19_0 : (0 ≤ (y19_6 + 1).toInt ∧ (y19_6 + 1).toInt ≤ 100) := by omega
              have iv19_1 : (y19_6 + 1).toInt ≤ ((G 203) r3).toInt := by omega
              have iv19_2 : (∀ j y, j < Int32.toNatClampNeg (y19_6 + 1) → T1[j]? = some y → ∀ z, z ∈ T2 → ¬ rh3 y z) := by have k7 := clampI (x := y19_6 + 1) (by omega); intro j y hj hy z hz; by_cases q9 : j = Int32.toNatClampNeg y19_6; (subst q9; rw [hxk1] at hy; cases hy; obtain ⟨i, hi⟩ := List.getElem?_of_mem hz; have hl := get_lt hi; exact jn32 i z (by have k8 := clampI (x := y32_7) (by omega); omega) hi); (exact in19 j y (by omega) hy z hz)
              exact ih19 (y19_6 + 1) iv19_0 iv19_1 iv19_2
            · have c39 := z_nle c39
              have k7 := clampI (x := y32_7) (by omega)
              have hxk2 : T2[Int32.toNatClampNeg y32_7]? = some (wdl ((V 0) l2) (24 * Int32.toNatClampNeg y32_7) (Int32.toNatClampNeg ((V 1) s2 (Int32.toNatClampNeg y32_7)))) := by rw [← g28]; exact rw_at (by omega)
              have hpr50_0 : (0 ≤ y19_6.toInt ∧ y19_6.toInt < ((G 203) r3).toInt) := by first | assumption | omega
              have hpr50_1 : (0 ≤ y32_7.toInt ∧ y32_7.toInt < ((G 203) r11).toInt) := by first | assumption | omega
              refine pw_b1 (fun r50 hc50 => ?_)
              have hq50 := wp_at (ok_X10_endsAlike κ wd G P U V X O kd ln cnt r3 y19_6 r11 y32_7 hzG200 hzG203 hzP201 hzP202 hzV1 hzRA hzRB hzRI hzLN hk3 hk11 hpr50_0 hpr50_1) hc50
              have f32 : (0 ≤ r50.toInt ∧ r50.toInt ≤ 1) := hq50
              clear hq50
              have h850_hl : (P 201) r3 = some (l1) := by exact g15
              have h850_hs : (P 202) r3 = some (s1) := by exact g16
              have h850_hw : ((G 200) r3).toInt = ((24 : Nat) : Int) := by exact g17
              have h850_hlo : (P 201) r11 = some (l2) := by exact g25
              have h850_hso : (P 202) r11 = some (s2) := by exact g26
              have h850_hwo : ((G 200) r11).toInt = ((24 : Nat) : Int) := by exact g27
              have hx50 := pwq (fn_X10_endsAlike κ wd la G P U V X O kd ln cnt r3 y19_6 r11 y32_7 (l1) (s1) (l2) (s2) hzG200 hzG203 hzP201 hzP202 hzV1 hzRA hzRB hzRI hzLN hk3 hk11 hpr50_0 hpr50_1 hB (by omega) (by omega) h850_hl h850_hs h850_hw h850_hlo h850_hso h850_hwo) hc50
              obtain ⟨p50_0, p50_1⟩ : ((r50.toInt ≠ 0 → rh3 (wdl ((V 0) (l1)) (24 * Int32.toNatClampNeg y19_6) (Int32.toNatClampNeg ((V 1) (s1) (Int32.toNatClampNeg y19_6)))) (wdl ((V 0) (l2)) (24 * Int32.toNatClampNeg y32_7) (Int32.toNatClampNeg ((V 1) (s2) (Int32.toNatClampNeg y32_7)))))) ∧ ((r50.toInt = 0 → ¬ rh3 (wdl ((V 0) (l1)) (24 * Int32.toNatClampNeg y19_6) (Int32.toNatClampNeg ((V 1) (s1) (Int32.toNatClampNeg y19_6)))) (wdl ((V 0) (l2)) (24 * Int32.toNatClampNeg y32_7) (Int32.toNatClampNeg ((V 1) (s2) (Int32.toNatClampNeg y32_7)))))) := hx50
              refine pw_ite (fun c53 => ?_) (fun c53 => ?_)
              · have c53 := congrArg Int32.toInt c53
                have f33 : (y32_7 + 1).toInt = y32_7.toInt + (1) := z_addc (by decide +kernel) (by omega) (by omega)
                have iv32_0 : (0 ≤ (y32_7 + 1).toInt ∧ (y32_7 + 1).toInt ≤ 100) := by omega
                have iv32_1 : (y32_7 + 1).toInt ≤ ((G 203) r11).toInt := by omega
                have iv32_2 : (∀ i z, i < Int32.toNatClampNeg (y32_7 + 1) → T2[i]? = some z → ¬ rh3 (wdl ((V 0) l1) (24 * Int32.toNatClampNeg y19_6) (Int32.toNatClampNeg ((V 1) s1 (Int32.toNatClampNeg y19_6)))) z) := by have k7 := clampI (x := y32_7 + 1) (by omega); intro i z hi hz; by_cases q9 : i = Int32.toNatClampNeg y32_7; (subst q9; rw [hxk2] at hz; cases hz; exact p50_1 (by omega)); (exact jn32 i z (by omega) hz)
                exact ih32 (y32_7 + 1) iv32_0 iv32_1 iv32_2
              · have c53 := z_ne c53
                have qq0 : ((1 : Int32).toInt ≠ 0 → rhB T1 T2 = true) := by intro _; exact rhB_t (List.mem_of_getElem? hxk1) (List.mem_of_getElem? hxk2) (p50_0 (by omega))
                have qq1 : ((1 : Int32).toInt = 0 → rhB T1 T2 = false) := by intro h; exfalso; omega
                exact pw_some ⟨qq0, qq1⟩
        exact lp32 NN (0 : Int32) (show (0 ≤ (0 : Int32).toInt ∧ (0 : Int32).toInt ≤ 100) from by omega) (show (0 : Int32).toInt ≤ ((G 203) r11).toInt from by omega) (show (∀ i z, i < Int32.toNatClampNeg (0 : Int32) → T2[i]? = some z → ¬ rh3 (wdl ((V 0) l1) (24 * Int32.toNatClampNeg y19_6) (Int32.toNatClampNeg ((V 1) s1 (Int32.toNatClampNeg y19_6)))) z) from by intro i z hi; exact absurd hi (Nat.not_lt_zero _))
  exact lp19 NN (0 : Int32) (show (0 ≤ (0 : Int32).toInt ∧ (0 : Int32).toInt ≤ 100) from by omega) (show (0 : Int32).toInt ≤ ((G 203) r3).toInt from by omega) (show (∀ j y, j < Int32.toNatClampNeg (0 : Int32) → T1[j]? = some y → ∀ z, z ∈ T2 → ¬ rh3 y z) from by intro j y hj; exact absurd hj (Nat.not_lt_zero _))
abbrev QF_X0_isSuch (κ : Nat → Nat) (wd : Nat) (la : Nat → Nat) (G : Nat → Nat → Int32) (P : Nat → Nat → Option Nat) (U : Nat → Nat → Int64) (V : Nat → Nat → Nat → Int32) (X : Nat → Nat → Nat → Int64) (O : Nat → Nat → Nat → Option Nat) (kd : Nat → Nat) (ln : Nat → Nat) (cnt : Nat) (this : Nat) (p0 : Int32) (p1 : Int32) (p2 : Int32) (fa : Nat) (D : Nat) (wl : Nat) (wz : Nat) (T1 : List Wd) (x : Wd) : (Int32) → Prop := (fun t => ((t.toInt ≠ 0 → tlB T1 x p2.toInt = true)) ∧ ((t.toInt = 0 → tlB T1 x p2.toInt = false)))
set_option maxHeartbeats 4000000 in
set_option maxRecDepth 100000 in
theorem fn_X0_isSuch (κ : Nat → Nat) (wd : Nat) (la : Nat → Nat) (G : Nat → Nat → Int32) (P : Nat → Nat → Option Nat) (U : Nat → Nat → Int64) (V : Nat → Nat → Nat → Int32) (X : Nat → Nat → Nat → Int64) (O : Nat → Nat → Nat → Option Nat) (kd : Nat → Nat) (ln : Nat → Nat) (cnt : Nat) (this : Nat) (p0 : Int32) (p1 : Int32) (p2 : Int32) (fa : Nat) (D : Nat) (wl : Nat) (wz : Nat) (T1 : List Wd) (x : Wd) (hzG200 : rng (0) 24 (G 200)) (hzG203 : rng (0) 100 (G 203)) (hzP0 : PB κ ln wd 1 11 0 2500 0 (P 0)) (hzP1 : PB κ ln wd 1 301 700 700 0 (P 1)) (hzP5 : PB κ ln wd 1 11 0 2500 0 (P 5)) (hzP201 : PB κ ln wd 11 100 0 2400 0 (P 201)) (hzP202 : PB κ ln wd 11 101 0 100 0 (P 202)) (hzV1 : rng2 (0) 24 (V 1)) (hzO1 : OB κ 11 (O 1)) (hzRA : RA κ ln (G 200) (P 201) (P 202)) (hzRB : RB κ ln (G 200) (G 203) (P 202) (V 1)) (hzRI : RI (P 202)) (hzLN : LN κ ln) (hzW0 : W0 wd (P 0)) (hk_this : κ this = 1) (hp0 : (0 ≤ p0.toInt ∧ p0.toInt ≤ 6)) (hp1 : (0 ≤ p1.toInt ∧ p1.toInt < ((G 203) wd).toInt)) (hB : LB la cnt P) (hlt_this : this < cnt) (h1 : (P 1) this = some fa) (h0 : (P 0) this = some wd) (hwl : (P 201) wd = some wl) (hwz : (P 202) wd = some wz) (hww : ((G 200) wd).toInt = ((24 : Nat) : Int)) (hr1 : ROWF G P V la cnt D ((O 1) fa (100 * Int32.toNatClampNeg p0 + Int32.toNatClampNeg p1)) T1) (hx : wdl ((V 0) wl) (24 * Int32.toNatClampNeg p1) (Int32.toNatClampNeg ((V 1) wz (Int32.toNatClampNeg p1))) = x) (hp2 : 0 ≤ p2.toInt ∧ p2.toInt ≤ 2) : pw (f_X0_isSuch G P U V X O kd ln cnt this p0 p1 p2) (QF_X0_isSuch κ wd la G P U V X O kd ln cnt this p0 p1 p2 fa D wl wz T1 x) := by
  unfold f_X0_isSuch
  have zkm1 : (-1 : Int32).toInt = -1 := by decide +kernel
  have zk0 : (0 : Int32).toInt = 0 := by decide +kernel
  have zk1 : (1 : Int32).toInt = 1 := by decide +kernel
  have r_p0 := i32r p0
  have r_p1 := i32r p1
  have r_p2 := i32r p2
  have hn1 : (P 1) this = some fa := h1
  have lt_fa2 := ((hB.1 1 fl_1) this fa hn1).2.1
  have lb_fa2 : la fa = la this + 0 := lk_1.mp ((hB.1 1 fl_1) this fa hn1).2.2
  have hk_fa := ((hzP1 this).2 fa hn1).1
  have hl1_fa := ((hzP1 this).2 fa hn1).2.1
  have hl2_fa := ((hzP1 this).2 fa hn1).2.2.1
  have hw_fa := ((hzP1 this).2 fa hn1).2.2.2
  have hz_fa : (Int32.ofNat (ln fa)).toInt = ((ln fa : Nat) : Int) := ofN_eq (by first | exact Nat.le_trans hl2_fa (by decide) | omega)
  have hn3 : (P 0) this = some wd := h0
  have lt_wd4 := ((hB.1 0 fl_0) this wd hn3).2.1
  have lb_wd4 : la wd = 20 := lk_0.mp ((hB.1 0 fl_0) this wd hn3).2.2
  have hk_wd := ((hzP0 this).2 wd hn3).1
  have hl1_wd := ((hzP0 this).2 wd hn3).2.1
  have hl2_wd := ((hzP0 this).2 wd hn3).2.2.1
  have hw_wd := ((hzP0 this).2 wd hn3).2.2.2
  have hn5 : (P 201) wd = some wl := hwl
  have lt_wl6 := ((hB.1 201 fl_201) wd wl hn5).2.1
  have lb_wl6 : la wl = la wd + 0 := lk_201.mp ((hB.1 201 fl_201) wd wl hn5).2.2
  have hk_wl := ((hzP201 wd).2 wl hn5).1
  have hl1_wl := ((hzP201 wd).2 wl hn5).2.1
  have hl2_wl := ((hzP201 wd).2 wl hn5).2.2.1
  have hw_wl := ((hzP201 wd).2 wl hn5).2.2.2
  have hz_wl : (Int32.ofNat (ln wl)).toInt = ((ln wl : Nat) : Int) := ofN_eq (by first | exact Nat.le_trans hl2_wl (by decide) | omega)
  have hn7 : (P 202) wd = some wz := hwz
  have lt_wz8 := ((hB.1 202 fl_202) wd wz hn7).2.1
  have lb_wz8 : la wz = la wd + 0 := lk_202.mp ((hB.1 202 fl_202) wd wz hn7).2.2
  have hk_wz := ((hzP202 wd).2 wz hn7).1
  have hl1_wz := ((hzP202 wd).2 wz hn7).2.1
  have hl2_wz := ((hzP202 wd).2 wz hn7).2.2.1
  have hw_wz := ((hzP202 wd).2 wz hn7).2.2.2
  have hz_wz : (Int32.ofNat (ln wz)).toInt = ((ln wz : Nat) : Int) := ofN_eq (by first | exact Nat.le_trans hl2_wz (by decide) | omega)
  have rb9 := (hzRB wd wz hk_wd hn7).1
  have ra10 := hzRA wd wl wz hk_wd hn5 hn7
  have bw11 := hzG200 wd
  have hbw := hzG203 wd
  have cp0 := clampI (x := p0) (by omega)
  have cp1 := clampI (x := p1) (by omega)
  obtain ⟨hm1, hm2, hm3⟩ := mulW (x := p1) (g := (G 200) wd) (w := 24) (by omega) hww (by decide)
  have hpr3_0 : (0 ≤ p0.toInt ∧ p0.toInt ≤ 6) := by first | assumption | omega
  have hpr3_1 : (0 ≤ p1.toInt ∧ p1.toInt < 100) := by first | assumption | omega
  refine pw_b1 (fun r3 hc3 => ?_)
  have hq3 := wp_at (ok_X0_formsAt κ wd G P U V X O kd ln cnt this p0 p1 hzP1 hzP5 hzO1 hzLN hk_this hpr3_0 hpr3_1) hc3
  have hk12 : κ r3 = 11 := hq3
  clear hq3
  have h83_h1 : (P 1) this = some fa := by exact h1
  have hx3 := pwq (fn_X0_formsAt κ wd la G P U V X O kd ln cnt this p0 p1 (fa) hzP1 hzP5 hzO1 hzLN hk_this hpr3_0 hpr3_1 hB hlt_this h83_h1) hc3
  have p3_0 : (∀ b, (O 1) fa (Int32.toNatClampNeg (p0 * 100 + p1)) = some b → r3 = b) := hx3
  clear hx3
  have f100_1 : (p0 * 100).toInt = p0.toInt * 100 := z_mulc (by decide +kernel) (by omega) (by omega)
  have f101_1 : ((p0 * 100) + p1).toInt = (p0 * 100).toInt + p1.toInt := z_add (by omega) (by omega)
  have kq1 := clampI (x := (p0 * 100) + p1) (by omega)
  obtain ⟨row1, l1, s1, e11, ⟨e12, _, _⟩, ⟨e15, e16, e17⟩, e18⟩ := hr1
  have er1 : r3 = row1 := p3_0 row1 (by rw [← e11]; exact congrArg ((O 1) fa) (by omega))
  have g15 : (P 201) r3 = some l1 := by rw [er1]; exact e15
  have g16 : (P 202) r3 = some s1 := by rw [er1]; exact e16
  have g17 : ((G 200) r3).toInt = ((24 : Nat) : Int) := by rw [er1]; exact e17
  have g18 : rwW ((G 203) r3) ((V 0) l1) ((V 1) s1) 24 = T1 := by rw [er1]; exact e18
  have hb1 := hzG203 r3
  have cb1 := clampI (x := (G 203) r3) (by omega)
  have hTl1 : T1.length = Int32.toNatClampNeg ((G 203) r3) := by rw [← g18]; exact rw_len
  have hn13 : (P 201) r3 = some l1 := g15
  have lt_l114 := ((hB.1 201 fl_201) r3 l1 hn13).2.1
  have lb_l114 : la l1 = la r3 + 0 := lk_201.mp ((hB.1 201 fl_201) r3 l1 hn13).2.2
  have hk_l1 := ((hzP201 r3).2 l1 hn13).1
  have hl1_l1 := ((hzP201 r3).2 l1 hn13).2.1
  have hl2_l1 := ((hzP201 r3).2 l1 hn13).2.2.1
  have hw_l1 := ((hzP201 r3).2 l1 hn13).2.2.2
  have hz_l1 : (Int32.ofNat (ln l1)).toInt = ((ln l1 : Nat) : Int) := ofN_eq (by first | exact Nat.le_trans hl2_l1 (by decide) | omega)
  have hn15 : (P 202) r3 = some s1 := g16
  have lt_s116 := ((hB.1 202 fl_202) r3 s1 hn15).2.1
  have lb_s116 : la s1 = la r3 + 0 := lk_202.mp ((hB.1 202 fl_202) r3 s1 hn15).2.2
  have hk_s1 := ((hzP202 r3).2 s1 hn15).1
  have hl1_s1 := ((hzP202 r3).2 s1 hn15).2.1
  have hl2_s1 := ((hzP202 r3).2 s1 hn15).2.2.1
  have hw_s1 := ((hzP202 r3).2 s1 hn15).2.2.2
  have hz_s1 : (Int32.ofNat (ln s1)).toInt = ((ln s1 : Nat) : Int) := ofN_eq (by first | exact Nat.le_trans hl2_s1 (by decide) | omega)
  have rb17 := (hzRB r3 s1 hk12 hn15).1
  have ra18 := hzRA r3 l1 s1 hk12 hn13 hn15
  have bw19 := hzG200 r3
  refine pw_ite (fun c9_0 => ?_) (fun c9_0 => ?_)
  · have c9_0 := congrArg Int32.toInt c9_0
    have b20 := hzG203 r3
    refine pw_jE (fun j50 ej50 => ?_)
    refine pw_ite (fun c42 => ?_) (fun c42 => ?_)
    · have c42 := (z_le _ _).mp c42
      refine pw_j1 ej50 (fun t50_0 et50_0 => ?_)
      have et50_0 := et50_0.symm
      have f_t50_0 : t50_0.toInt = 0 := by rw [et50_0]; decide +kernel
      refine pw_if (fun hb50 => ?_)
      obtain ⟨hbl50, hbr50⟩ := hb50
      have qq0 : (t50_0.toInt ≠ 0 → tlB T1 x p2.toInt = true) := by intro h; exfalso; omega
      have qq1 : (t50_0.toInt = 0 → tlB T1 x p2.toInt = false) := by intro _; unfold tlB; rw [if_pos (by omega)]; exact decide_eq_false (by omega)
      exact pw_some ⟨qq0, qq1⟩
    · have c42 := z_nle c42
      refine pw_j1 ej50 (fun t50_0 et50_0 => ?_)
      have et50_0 := et50_0.symm
      have f_t50_0 : t50_0.toInt = 1 := by rw [et50_0]; decide +kernel
      refine pw_if (fun hb50 => ?_)
      obtain ⟨hbl50, hbr50⟩ := hb50
      have qq0 : (t50_0.toInt ≠ 0 → tlB T1 x p2.toInt = true) := by intro _; unfold tlB; rw [if_pos (by omega)]; exact decide_eq_true (by omega)
      have qq1 : (t50_0.toInt = 0 → tlB T1 x p2.toInt = false) := by intro h; exfalso; omega
      exact pw_some ⟨qq0, qq1⟩
  · have c9_0 := z_ne c9_0
    refine pw_ite (fun c9_1 => ?_) (fun c9_1 => ?_)
    · have c9_1 := congrArg Int32.toInt c9_1
      have b24 := hzG203 r3
      refine pw_jE (fun j64 ej64 => ?_)
      refine pw_ite (fun c56 => ?_) (fun c56 => ?_)
      · have c56 := congrArg Int32.toInt c56
        refine pw_j1 ej64 (fun t64_0 et64_0 => ?_)
        have et64_0 := et64_0.symm
        have f_t64_0 : t64_0.toInt = 1 := by rw [et64_0]; decide +kernel
        refine pw_if (fun hb64 => ?_)
        obtain ⟨hbl64, hbr64⟩ := hb64
        have qq0 : (t64_0.toInt ≠ 0 → tlB T1 x p2.toInt = true) := by intro _; unfold tlB; rw [if_neg (by omega), if_pos (by omega)]; exact decide_eq_true (by omega)
        have qq1 : (t64_0.toInt = 0 → tlB T1 x p2.toInt = false) := by intro h; exfalso; omega
        exact pw_some ⟨qq0, qq1⟩
      · have c56 := z_ne c56
        refine pw_j1 ej64 (fun t64_0 et64_0 => ?_)
        have et64_0 := et64_0.symm
        have f_t64_0 : t64_0.toInt = 0 := by rw [et64_0]; decide +kernel
        refine pw_if (fun hb64 => ?_)
        obtain ⟨hbl64, hbr64⟩ := hb64
        have qq0 : (t64_0.toInt ≠ 0 → tlB T1 x p2.toInt = true) := by intro h; exfalso; omega
        have qq1 : (t64_0.toInt = 0 → tlB T1 x p2.toInt = false) := by intro _; unfold tlB; rw [if_neg (by omega), if_pos (by omega)]; exact decide_eq_false (by omega)
        exact pw_some ⟨qq0, qq1⟩
    · have c9_1 := z_ne c9_1
      have b28 := hzG203 r3
      refine pw_jE (fun j113 ej113 => ?_)
      refine pw_jE (fun j112 ej112 => ?_)
      refine pw_ite (fun c71 => ?_) (fun c71 => ?_)
      · have c71 := congrArg Int32.toInt c71
        refine pw_nne hn3 ?_
        refine pw_nne hn5 ?_
        refine pw_nne hn3 ?_
        have b32 := hzG200 wd
        have f33 := zmw (x := p1) (y := ((G 200) wd)) (by omega) (by omega) (by omega) (by omega)
        have ix34 := rowix (x := p1) (hzRA wd wl wz hk_wd hn5 hn7) (hzG200 wd).1
        refine pw_nne hn3 ?_
        refine pw_nne hn7 ?_
        refine pw_if (fun hb100 => ?_)
        obtain ⟨hbl100, hbr100⟩ := hb100
        have b35 := hzV1 wz (Int32.toNatClampNeg p1)
        have rl36 := (hzRB wd wz hk_wd hn7).2 (Int32.toNatClampNeg p1)
        refine pw_b1 (fun r101 hc101 => ?_)
        have hq101 := wp_at (ok_X10_find κ wd G P U V X O kd ln cnt r3 wl (p1 * ((G 200) wd)) (((V 1) wz) (Int32.toNatClampNeg p1)) hzG200 hzG203 hzP201 hzP202 hzV1 hzRA hzRB hzRI hzLN hk12 hk_wl) hc101
        obtain ⟨f37, f38⟩ : (((-1) ≤ r101.toInt ∧ r101.toInt < 100)) ∧ ((r101.toInt = -1 ∨ r101.toInt < ((G 203) r3).toInt)) := hq101
        have h8101_hl : (P 201) r3 = some (l1) := by exact g15
        have h8101_hs : (P 202) r3 = some (s1) := by exact g16
        have h8101_hw : ((G 200) r3).toInt = ((24) : Int) := by exact g17
        have h8101_hws : rwW ((G 203) r3) ((V 0) (l1)) ((V 1) (s1)) (24) = (T1) := by exact g18
        have h8101_hst : 0 ≤ (p1 * ((G 200) wd)).toInt := by omega
        have h8101_hm : 0 ≤ (((V 1) wz) (Int32.toNatClampNeg p1)).toInt := by omega
        have h8101_hlf : (p1 * ((G 200) wd)).toInt + (((V 1) wz) (Int32.toNatClampNeg p1)).toInt ≤ ((ln wl : Nat) : Int) := by omega
        have hx101 := pwq (fn_X10_find κ wd la G P U V X O kd ln cnt r3 wl (p1 * ((G 200) wd)) (((V 1) wz) (Int32.toNatClampNeg p1)) (l1) (s1) (24) (T1) hzG200 hzG203 hzP201 hzP202 hzV1 hzRA hzRB hzRI hzLN hk12 hk_wl hB (by omega) lt_wl6 h8101_hl h8101_hs h8101_hw h8101_hws h8101_hst h8101_hm h8101_hlf) hc101
        have p101_0 : FIX (T1) (wdl ((V 0) wl) (Int32.toNatClampNeg (p1 * ((G 200) wd))) (Int32.toNatClampNeg (((V 1) wz) (Int32.toNatClampNeg p1)))) r101.toInt := hx101
        clear hx101
        rw [hm1, hx] at p101_0
        refine pw_ite (fun c105 => ?_) (fun c105 => ?_)
        · have c105 := congrArg Int32.toInt c105
          refine pw_j0 ej112 ?_
          refine pw_j1 ej113 (fun t113_0 et113_0 => ?_)
          have et113_0 := et113_0.symm
          have f_t113_0 : t113_0.toInt = 0 := by rw [et113_0]; decide +kernel
          refine pw_if (fun hb113 => ?_)
          obtain ⟨hbl113, hbr113⟩ := hb113
          have qq0 : (t113_0.toInt ≠ 0 → tlB T1 x p2.toInt = true) := by intro h; exfalso; omega
          have qq1 : (t113_0.toInt = 0 → tlB T1 x p2.toInt = false) := by intro _; unfold tlB; rw [if_neg (by omega), if_neg (by omega)]; exact decide_eq_false (fun q => p101_0.1 (by omega) q.2)
          exact pw_some ⟨qq0, qq1⟩
        · have c105 := z_ne c105
          refine pw_j1 ej113 (fun t113_0 et113_0 => ?_)
          have et113_0 := et113_0.symm
          have f_t113_0 : t113_0.toInt = 1 := by rw [et113_0]; decide +kernel
          refine pw_if (fun hb113 => ?_)
          obtain ⟨hbl113, hbr113⟩ := hb113
          have qq0 : (t113_0.toInt ≠ 0 → tlB T1 x p2.toInt = true) := by intro _; unfold tlB; rw [if_neg (by omega), if_neg (by omega)]; exact decide_eq_true (⟨by omega, List.mem_of_getElem? (p101_0.2 (by omega)).2.1⟩)
          have qq1 : (t113_0.toInt = 0 → tlB T1 x p2.toInt = false) := by intro h; exfalso; omega
          exact pw_some ⟨qq0, qq1⟩
      · have c71 := z_ne c71
        refine pw_j0 ej112 ?_
        refine pw_j1 ej113 (fun t113_0 et113_0 => ?_)
        have et113_0 := et113_0.symm
        have f_t113_0 : t113_0.toInt = 0 := by rw [et113_0]; decide +kernel
        refine pw_if (fun hb113 => ?_)
        obtain ⟨hbl113, hbr113⟩ := hb113
        have qq0 : (t113_0.toInt ≠ 0 → tlB T1 x p2.toInt = true) := by intro h; exfalso; omega
        have qq1 : (t113_0.toInt = 0 → tlB T1 x p2.toInt = false) := by intro _; unfold tlB; rw [if_neg (by omega), if_neg (by omega)]; exact decide_eq_false (fun q => by have q9 := q.1; omega)
        exact pw_some ⟨qq0, qq1⟩
