abbrev QF_J7_fill_eb02e (κ : Nat → Nat) (wd : Nat) (la : Nat → Nat) (G : Nat → Nat → Int32) (P : Nat → Nat → Option Nat) (U : Nat → Nat → Int64) (V : Nat → Nat → Nat → Int32) (X : Nat → Nat → Nat → Int64) (O : Nat → Nat → Nat → Option Nat) (kd : Nat → Nat) (ln : Nat → Nat) (cnt : Nat) (p0 : Nat) (p1 : Int32) (p2 : Int32) (p3 : Int32) : ((Nat → Nat → Int32)) → Prop := (fun t => ((∀ q : Nat, ((q : Int) < p1.toInt ∨ p2.toInt ≤ (q : Int)) → t p0 q = (V 0) p0 q)) ∧ ((∀ q : Nat, p1.toInt ≤ (q : Int) → (q : Int) < p2.toInt → t p0 q = vp_nar .byte p3)) ∧ ((∀ z, z ≠ p0 → t z = (V 0) z)))
set_option maxHeartbeats 4000000 in
set_option maxRecDepth 100000 in
theorem fn_J7_fill_eb02e (κ : Nat → Nat) (wd : Nat) (la : Nat → Nat) (G : Nat → Nat → Int32) (P : Nat → Nat → Option Nat) (U : Nat → Nat → Int64) (V : Nat → Nat → Nat → Int32) (X : Nat → Nat → Nat → Int64) (O : Nat → Nat → Nat → Option Nat) (kd : Nat → Nat) (ln : Nat → Nat) (cnt : Nat) (p0 : Nat) (p1 : Int32) (p2 : Int32) (p3 : Int32) (hzLN : LN κ ln) (hk_p0 : κ p0 = 100) (hp0 : (0 ≤ p1.toInt ∧ p1.toInt ≤ p2.toInt ∧ p2.toInt ≤ ((ln p0 : Nat) : Int))) (hB : LB la cnt P) (hlt_p0 : p0 < cnt) : pw (f_J7_fill_eb02e G P U V X O kd ln cnt p0 p1 p2 p3) (QF_J7_fill_eb02e κ wd la G P U V X O kd ln cnt p0 p1 p2 p3) := by
  unfold f_J7_fill_eb02e
  have r_p1 := i32r p1
  have r_p2 := i32r p2
  have r_p3 := i32r p3
  have hz_p0 : (Int32.ofNat (ln p0)).toInt = ((ln p0 : Nat) : Int) := ofN_eq (hzLN p0 (by rw [hk_p0]; decide))
  have hzb_p0 := hzLN p0 (by rw [hk_p0]; decide)
  have hpr4_0 : (0 ≤ p1.toInt ∧ p1.toInt ≤ p2.toInt ∧ p2.toInt ≤ (Int32.ofNat (ln p0)).toInt) := by first | assumption | omega
  refine pw_b0 (fun u4 hc4 => ?_)
  have lp10 : ∀ (n10 : Nat) (y10_4 : Int32) (d10_V0 : Nat → Nat → Int32), (∀ z, ((la z < la p0 ∨ la p0 < la z)) → d10_V0 z = (V 0) z) → (p1.toInt ≤ y10_4.toInt ∧ y10_4.toInt ≤ p2.toInt) → (∀ q : Nat, ((q : Int) < p1.toInt ∨ p2.toInt ≤ (q : Int)) → d10_V0 p0 q = (V 0) p0 q) → (∀ q : Nat, p1.toInt ≤ (q : Int) → (q : Int) < y10_4.toInt → d10_V0 p0 q = vp_nar .byte p3) → (∀ z, z ≠ p0 → d10_V0 z = (V 0) z) → pw (L_J7_fill_eb02e_10 ln p0 p2 p3 n10 y10_4 d10_V0) (QF_J7_fill_eb02e κ wd la G P U V X O kd ln cnt p0 p1 p2 p3) := by
    intro n10
    induction n10 with
    | zero => intros; exact pw_none
    | succ n10 ih10 =>
      intro y10_4 d10_V0 hfr1 f2 io10 ii10 iz10
      show pw (B_J7_fill_eb02e_10 ln p0 p2 p3 (L_J7_fill_eb02e_10 ln p0 p2 p3 n10) y10_4 d10_V0) _
      unfold B_J7_fill_eb02e_10
      refine pw_ite (fun c13 => ?_) (fun c13 => ?_)
      · have c13 := (z_le _ _).mp c13
        have qq0 : (∀ q : Nat, ((q : Int) < p1.toInt ∨ p2.toInt ≤ (q : Int)) → d10_V0 p0 q = (V 0) p0 q) := by exact io10
        have qq1 : (∀ q : Nat, p1.toInt ≤ (q : Int) → (q : Int) < p2.toInt → d10_V0 p0 q = vp_nar .byte p3) := by intro q h1 h2; exact ii10 q h1 (by omega)
        have qq2 : (∀ z, z ≠ p0 → d10_V0 z = (V 0) z) := by exact iz10
        exact pw_some ⟨qq0, qq1, qq2⟩
      · have c13 := z_nle c13
        refine pw_if (fun hb20 => ?_)
        obtain ⟨hbl20, hbr20⟩ := hb20
        refine pw_vl (fun m20 em20 => ?_)
        have hfr3 : ∀ z, ((la z < la p0 ∨ la p0 < la z)) → m20 z = (V 0) z := fr_up (e0 := (V 0)) hfr1 em20 (show ¬ ((la p0 < la p0 ∨ la p0 < la p0)) from by omega)
        have f4 : (y10_4 + 1).toInt = y10_4.toInt + (1) := z_addc (by decide +kernel) (by omega) (by omega)
        have iv10_0 : (p1.toInt ≤ (y10_4 + 1).toInt ∧ (y10_4 + 1).toInt ≤ p2.toInt) := by omega
        have iv10_1 : (∀ q : Nat, ((q : Int) < p1.toInt ∨ p2.toInt ≤ (q : Int)) → m20 p0 q = (V 0) p0 q) := by have c4 := clampI (x := y10_4) (by omega); intro q hq; rw [em20, va_up_self, pk_un (by omega)]; exact io10 q hq
        have iv10_2 : (∀ q : Nat, p1.toInt ≤ (q : Int) → (q : Int) < (y10_4 + 1).toInt → m20 p0 q = vp_nar .byte p3) := by have c4 := clampI (x := y10_4) (by omega); intro q h1 h2; by_cases h3 : q = Int32.toNatClampNeg y10_4; (rw [em20, va_up_self, h3, pk_us]); (rw [em20, va_up_self, pk_un h3]; exact ii10 q h1 (by omega))
        have iv10_3 : (∀ z, z ≠ p0 → m20 z = (V 0) z) := by intro z hz; rw [em20, va_up_ne _ _ hz]; exact iz10 z hz
        exact ih10 (y10_4 + 1) m20 hfr3 iv10_0 iv10_1 iv10_2 iv10_3
  exact lp10 NN p1 (V 0) (fun _ _ => rfl) (show (p1.toInt ≤ p1.toInt ∧ p1.toInt ≤ p2.toInt) from by omega) (show (∀ q : Nat, ((q : Int) < p1.toInt ∨ p2.toInt ≤ (q : Int)) → (V 0) p0 q = (V 0) p0 q) from by intro _ _; rfl) (show (∀ q : Nat, p1.toInt ≤ (q : Int) → (q : Int) < p1.toInt → (V 0) p0 q = vp_nar .byte p3) from by intro q h1 h2; omega) (show (∀ z, z ≠ p0 → (V 0) z = (V 0) z) from by intro _ _; rfl)
abbrev QF_X10_standsIn (κ : Nat → Nat) (wd : Nat) (la : Nat → Nat) (G : Nat → Nat → Int32) (P : Nat → Nat → Option Nat) (U : Nat → Nat → Int64) (V : Nat → Nat → Nat → Int32) (X : Nat → Nat → Nat → Int64) (O : Nat → Nat → Nat → Option Nat) (kd : Nat → Nat) (ln : Nat → Nat) (cnt : Nat) (this : Nat) (p0 : Int32) (p1 : Nat) (p2 : Int32) (l : Nat) (s : Nat) (w : Nat) : (Int32) → Prop := (fun t => ((t.toInt ≠ 0 → 0 ≤ p2.toInt ∧ wdl ((V 0) p1) (Int32.toNatClampNeg p2) (Int32.toNatClampNeg (((V 1) s) (Int32.toNatClampNeg p0))) = wdl ((V 0) l) (w * Int32.toNatClampNeg p0) (Int32.toNatClampNeg (((V 1) s) (Int32.toNatClampNeg p0))))) ∧ ((t.toInt = 0 → 0 ≤ p2.toInt → p2.toInt + (((V 1) s) (Int32.toNatClampNeg p0)).toInt ≤ ((ln p1 : Nat) : Int) → wdl ((V 0) p1) (Int32.toNatClampNeg p2) (Int32.toNatClampNeg (((V 1) s) (Int32.toNatClampNeg p0))) ≠ wdl ((V 0) l) (w * Int32.toNatClampNeg p0) (Int32.toNatClampNeg (((V 1) s) (Int32.toNatClampNeg p0))))))
set_option maxHeartbeats 4000000 in
set_option maxRecDepth 100000 in
theorem fn_X10_standsIn (κ : Nat → Nat) (wd : Nat) (la : Nat → Nat) (G : Nat → Nat → Int32) (P : Nat → Nat → Option Nat) (U : Nat → Nat → Int64) (V : Nat → Nat → Nat → Int32) (X : Nat → Nat → Nat → Int64) (O : Nat → Nat → Nat → Option Nat) (kd : Nat → Nat) (ln : Nat → Nat) (cnt : Nat) (this : Nat) (p0 : Int32) (p1 : Nat) (p2 : Int32) (l : Nat) (s : Nat) (w : Nat) (hzG200 : rng (0) 24 (G 200)) (hzG203 : rng (0) 100 (G 203)) (hzP201 : PB κ ln wd 11 100 0 2400 0 (P 201)) (hzP202 : PB κ ln wd 11 101 0 100 0 (P 202)) (hzV1 : rng2 (0) 24 (V 1)) (hzRA : RA κ ln (G 200) (P 201) (P 202)) (hzRB : RB κ ln (G 200) (G 203) (P 202) (V 1)) (hzRI : RI (P 202)) (hzLN : LN κ ln) (hk_this : κ this = 11) (hk_p1 : κ p1 = 100) (hp0 : (0 ≤ p0.toInt ∧ p0.toInt < ((G 203) this).toInt)) (hB : LB la cnt P) (hlt_this : this < cnt) (hlt_p1 : p1 < cnt) (hl : (P 201) this = some l) (hs : (P 202) this = some s) (hw : ((G 200) this).toInt = (w : Int)) (hw24 : w ≤ 24) : pw (f_X10_standsIn G P U V X O kd ln cnt this p0 p1 p2) (QF_X10_standsIn κ wd la G P U V X O kd ln cnt this p0 p1 p2 l s w) := by
  unfold f_X10_standsIn
  have r_p0 := i32r p0
  have r_p2 := i32r p2
  have hn1 : (P 201) this = some l := hl
  have lt_l2 := ((hB.1 201 fl_201) this l hn1).2.1
  have lb_l2 : la l = la this + 0 := lk_201.mp ((hB.1 201 fl_201) this l hn1).2.2
  have hk_l := ((hzP201 this).2 l hn1).1
  have hl1_l := ((hzP201 this).2 l hn1).2.1
  have hl2_l := ((hzP201 this).2 l hn1).2.2.1
  have hw_l := ((hzP201 this).2 l hn1).2.2.2
  have hz_l : (Int32.ofNat (ln l)).toInt = ((ln l : Nat) : Int) := ofN_eq (by first | exact Nat.le_trans hl2_l (by decide) | omega)
  have hn3 : (P 202) this = some s := hs
  have lt_s4 := ((hB.1 202 fl_202) this s hn3).2.1
  have lb_s4 : la s = la this + 0 := lk_202.mp ((hB.1 202 fl_202) this s hn3).2.2
  have hk_s := ((hzP202 this).2 s hn3).1
  have hl1_s := ((hzP202 this).2 s hn3).2.1
  have hl2_s := ((hzP202 this).2 s hn3).2.2.1
  have hw_s := ((hzP202 this).2 s hn3).2.2.2
  have hz_s : (Int32.ofNat (ln s)).toInt = ((ln s : Nat) : Int) := ofN_eq (by first | exact Nat.le_trans hl2_s (by decide) | omega)
  have rb5 := (hzRB this s hk_this hn3).1
  have ra6 := hzRA this l s hk_this hn1 hn3
  have bw7 := hzG200 this
  have hb0 := hzG203 this
  have hra := hzRA this l s hk_this hl hs
  have hrb := hzRB this s hk_this hs
  have hrb1 := hrb.1
  have cp0 := clampI (x := p0) (by omega)
  have hlk := hrb.2 (Int32.toNatClampNeg p0)
  have hlv := hzV1 s (Int32.toNatClampNeg p0)
  obtain ⟨hm1, hm2, hm3⟩ := mulW (x := p0) (g := (G 200) this) (w := w) (by omega) hw hw24
  have hri := rowix (x := p0) (w := (G 200) this) hra (by omega) (by omega)
  refine pw_nne hn1 ?_
  have b8 := hzG200 this
  have f9 := zmw (x := p0) (y := ((G 200) this)) (by omega) (by omega) (by omega) (by omega)
  have ix10 := rowix (x := p0) (hzRA this l s hk_this hn1 hn3) (hzG200 this).1
  refine pw_nne hn3 ?_
  refine pw_if (fun hb17 => ?_)
  obtain ⟨hbl17, hbr17⟩ := hb17
  have b11 := hzV1 s (Int32.toNatClampNeg p0)
  have rl12 := (hzRB this s hk_this hn3).2 (Int32.toNatClampNeg p0)
  refine pw_b1 (fun r18 hc18 => ?_)
  have hq18 := wp_at (ok_X10_same κ wd G P U V X O kd ln cnt l (p0 * ((G 200) this)) p1 p2 (((V 1) s) (Int32.toNatClampNeg p0)) hzLN hk_l hk_p1) hc18
  have f13 : (0 ≤ r18.toInt ∧ r18.toInt ≤ 1) := hq18
  clear hq18
  have hx18 := pwq (fn_X10_same κ wd la G P U V X O kd ln cnt l (p0 * ((G 200) this)) p1 p2 (((V 1) s) (Int32.toNatClampNeg p0)) hzLN hk_l hk_p1 hB lt_l2 hlt_p1) hc18
  obtain ⟨p18_0, p18_1⟩ : ((r18.toInt ≠ 0 → 0 ≤ (p0 * ((G 200) this)).toInt ∧ 0 ≤ p2.toInt ∧ wdl ((V 0) l) (Int32.toNatClampNeg (p0 * ((G 200) this))) (Int32.toNatClampNeg (((V 1) s) (Int32.toNatClampNeg p0))) = wdl ((V 0) p1) (Int32.toNatClampNeg p2) (Int32.toNatClampNeg (((V 1) s) (Int32.toNatClampNeg p0))))) ∧ ((r18.toInt = 0 → 0 ≤ (p0 * ((G 200) this)).toInt → 0 ≤ p2.toInt → 0 ≤ (((V 1) s) (Int32.toNatClampNeg p0)).toInt → (p0 * ((G 200) this)).toInt + (((V 1) s) (Int32.toNatClampNeg p0)).toInt ≤ ((ln l : Nat) : Int) → p2.toInt + (((V 1) s) (Int32.toNatClampNeg p0)).toInt ≤ ((ln p1 : Nat) : Int) → wdl ((V 0) l) (Int32.toNatClampNeg (p0 * ((G 200) this))) (Int32.toNatClampNeg (((V 1) s) (Int32.toNatClampNeg p0))) ≠ wdl ((V 0) p1) (Int32.toNatClampNeg p2) (Int32.toNatClampNeg (((V 1) s) (Int32.toNatClampNeg p0))))) := hx18
  refine pw_if (fun hb21 => ?_)
  obtain ⟨hbl21, hbr21⟩ := hb21
  have qq0 : (r18.toInt ≠ 0 → 0 ≤ p2.toInt ∧ wdl ((V 0) p1) (Int32.toNatClampNeg p2) (Int32.toNatClampNeg (((V 1) s) (Int32.toNatClampNeg p0))) = wdl ((V 0) l) (w * Int32.toNatClampNeg p0) (Int32.toNatClampNeg (((V 1) s) (Int32.toNatClampNeg p0)))) := by intro h; obtain ⟨a1, a2, a3⟩ := p18_0 h; rw [hm1] at a3; exact ⟨a2, a3.symm⟩
  have qq1 : (r18.toInt = 0 → 0 ≤ p2.toInt → p2.toInt + (((V 1) s) (Int32.toNatClampNeg p0)).toInt ≤ ((ln p1 : Nat) : Int) → wdl ((V 0) p1) (Int32.toNatClampNeg p2) (Int32.toNatClampNeg (((V 1) s) (Int32.toNatClampNeg p0))) ≠ wdl ((V 0) l) (w * Int32.toNatClampNeg p0) (Int32.toNatClampNeg (((V 1) s) (Int32.toNatClampNeg p0)))) := by intro h h1 h2 h3; refine p18_1 h (by omega) h1 (by omega) (by omega) h2 ?_; rw [hm1]; exact h3.symm
  exact pw_some ⟨qq0, qq1⟩
abbrev QF_X3_markFitting (κ : Nat → Nat) (wd : Nat) (la : Nat → Nat) (G : Nat → Nat → Int32) (P : Nat → Nat → Option Nat) (U : Nat → Nat → Int64) (V : Nat → Nat → Nat → Int32) (X : Nat → Nat → Nat → Int64) (O : Nat → Nat → Nat → Option Nat) (kd : Nat → Nat) (ln : Nat → Nat) (cnt : Nat) (this : Nat) (p0 : Nat) (p1 : Int32) (p2 : Int32) (p3 : Int32) (cl : Nat) (fi : Nat) (pt : Nat) (l : Nat) (s : Nat) (ps : List Wd) (W : Wd) : ((Nat → Nat → Int32) × (Nat → Nat → Int32)) → Prop := (fun t => (CLO ps W (Int32.toNatClampNeg p2) ((t.2) cl)) ∧ (FIT ps W (Int32.toNatClampNeg p2) ((t.1) fi)) ∧ ((∀ q, (q < 17 * Int32.toNatClampNeg p2 ∨ 17 * Int32.toNatClampNeg p2 + 17 ≤ q) → (t.1) fi q = (V 0) fi q)))
set_option maxHeartbeats 4000000 in
set_option maxRecDepth 100000 in
theorem fn_X3_markFitting (κ : Nat → Nat) (wd : Nat) (la : Nat → Nat) (G : Nat → Nat → Int32) (P : Nat → Nat → Option Nat) (U : Nat → Nat → Int64) (V : Nat → Nat → Nat → Int32) (X : Nat → Nat → Nat → Int64) (O : Nat → Nat → Nat → Option Nat) (kd : Nat → Nat) (ln : Nat → Nat) (cnt : Nat) (this : Nat) (p0 : Nat) (p1 : Int32) (p2 : Int32) (p3 : Int32) (cl : Nat) (fi : Nat) (pt : Nat) (l : Nat) (s : Nat) (ps : List Wd) (W : Wd) (hzG200 : rng (0) 24 (G 200)) (hzG203 : rng (0) 100 (G 203)) (hzP63 : PB κ ln wd 4 100 408 408 0 (P 63)) (hzP64 : PB κ ln wd 4 112 25 25 0 (P 64)) (hzP66 : PB κ ln wd 4 11 0 2500 0 (P 66)) (hzP201 : PB κ ln wd 11 100 0 2400 0 (P 201)) (hzP202 : PB κ ln wd 11 101 0 100 0 (P 202)) (hzV1 : rng2 (0) 24 (V 1)) (hzRA : RA κ ln (G 200) (P 201) (P 202)) (hzRB : RB κ ln (G 200) (G 203) (P 202) (V 1)) (hzRI : RI (P 202)) (hzLN : LN κ ln) (hk_this : κ this = 4) (hk_p0 : κ p0 = 100) (hp0 : (0 ≤ p2.toInt ∧ p2.toInt < p3.toInt ∧ p3.toInt ≤ 24)) (hp1 : (0 ≤ p1.toInt ∧ p1.toInt ≤ 2500)) (hB : LB la cnt P) (hlt_this : this < cnt) (hlt_p0 : p0 < cnt) (hcl : (P 64) this = some cl) (hfi : (P 63) this = some fi) (hpt : (P 66) this = some pt) (hl : (P 201) pt = some l) (hs : (P 202) pt = some s) (hw : ((G 200) pt).toInt = ((16 : Nat) : Int)) (hps : rwW ((G 203) pt) ((V 0) l) ((V 1) s) 16 = ps) (hW : wdl ((V 0) p0) (Int32.toNatClampNeg p1) (Int32.toNatClampNeg p3) = W) (hlx : p1.toInt + p3.toInt ≤ ((ln p0 : Nat) : Int)) (hne : ∀ x, x ∈ ps → x ≠ [] ∧ x.length ≤ 16) (hdl : (la l < la this ∨ la this + 2 < la l)) (hdp : (la p0 < la this ∨ la this + 2 < la p0)) (hcv : CLO ps W (Int32.toNatClampNeg p2 + 1) ((V 12) cl)) : pw (f_X3_markFitting G P U V X O kd ln cnt this p0 p1 p2 p3) (QF_X3_markFitting κ wd la G P U V X O kd ln cnt this p0 p1 p2 p3 cl fi pt l s ps W) := by
  unfold f_X3_markFitting
  have zkm1 : (-1 : Int32).toInt = -1 := by decide +kernel
  have zk0 : (0 : Int32).toInt = 0 := by decide +kernel
  have zk1 : (1 : Int32).toInt = 1 := by decide +kernel
  have zk17 : (17 : Int32).toInt = 17 := by decide +kernel
  have r_p1 := i32r p1
  have r_p2 := i32r p2
  have r_p3 := i32r p3
  have hn1 : (P 64) this = some cl := hcl
  have lt_cl2 := ((hB.1 64 fl_64) this cl hn1).2.1
  have lb_cl2 : la cl = la this + 0 := lk_64.mp ((hB.1 64 fl_64) this cl hn1).2.2
  have hk_cl := ((hzP64 this).2 cl hn1).1
  have hl1_cl := ((hzP64 this).2 cl hn1).2.1
  have hl2_cl := ((hzP64 this).2 cl hn1).2.2.1
  have hw_cl := ((hzP64 this).2 cl hn1).2.2.2
  have hz_cl : (Int32.ofNat (ln cl)).toInt = ((ln cl : Nat) : Int) := ofN_eq (by first | exact Nat.le_trans hl2_cl (by decide) | omega)
  have hn3 : (P 63) this = some fi := hfi
  have lt_fi4 := ((hB.1 63 fl_63) this fi hn3).2.1
  have lb_fi4 : la fi = la this + 1 := lk_63.mp ((hB.1 63 fl_63) this fi hn3).2.2
  have hk_fi := ((hzP63 this).2 fi hn3).1
  have hl1_fi := ((hzP63 this).2 fi hn3).2.1
  have hl2_fi := ((hzP63 this).2 fi hn3).2.2.1
  have hw_fi := ((hzP63 this).2 fi hn3).2.2.2
  have hz_fi : (Int32.ofNat (ln fi)).toInt = ((ln fi : Nat) : Int) := ofN_eq (by first | exact Nat.le_trans hl2_fi (by decide) | omega)
  have hn5 : (P 66) this = some pt := hpt
  have lt_pt6 := ((hB.1 66 fl_66) this pt hn5).2.1
  have hk_pt := ((hzP66 this).2 pt hn5).1
  have hl1_pt := ((hzP66 this).2 pt hn5).2.1
  have hl2_pt := ((hzP66 this).2 pt hn5).2.2.1
  have hw_pt := ((hzP66 this).2 pt hn5).2.2.2
  have hn7 : (P 201) pt = some l := hl
  have lt_l8 := ((hB.1 201 fl_201) pt l hn7).2.1
  have lb_l8 : la l = la pt + 0 := lk_201.mp ((hB.1 201 fl_201) pt l hn7).2.2
  have hk_l := ((hzP201 pt).2 l hn7).1
  have hl1_l := ((hzP201 pt).2 l hn7).2.1
  have hl2_l := ((hzP201 pt).2 l hn7).2.2.1
  have hw_l := ((hzP201 pt).2 l hn7).2.2.2
  have hz_l : (Int32.ofNat (ln l)).toInt = ((ln l : Nat) : Int) := ofN_eq (by first | exact Nat.le_trans hl2_l (by decide) | omega)
  have hn9 : (P 202) pt = some s := hs
  have lt_s10 := ((hB.1 202 fl_202) pt s hn9).2.1
  have lb_s10 : la s = la pt + 0 := lk_202.mp ((hB.1 202 fl_202) pt s hn9).2.2
  have hk_s := ((hzP202 pt).2 s hn9).1
  have hl1_s := ((hzP202 pt).2 s hn9).2.1
  have hl2_s := ((hzP202 pt).2 s hn9).2.2.1
  have hw_s := ((hzP202 pt).2 s hn9).2.2.2
  have hz_s : (Int32.ofNat (ln s)).toInt = ((ln s : Nat) : Int) := ofN_eq (by first | exact Nat.le_trans hl2_s (by decide) | omega)
  have rb11 := (hzRB pt s hk_pt hn9).1
  have ra12 := hzRA pt l s hk_pt hn7 hn9
  have bw13 := hzG200 pt
  have a2 := clampI (x := p2) (by omega)
  have a3 := clampI (x := p3) (by omega)
  have a1 := clampI (x := p1) (by omega)
  have hpl : ps.length = Int32.toNatClampNeg ((G 203) pt) := by rw [← hps]; exact rw_len
  have hb3 := hzG203 pt
  have cpt := clampI (x := (G 203) pt) (by omega)
  have hWl : W.length = Int32.toNatClampNeg p3 := by rw [← hW]; exact wdl_len
  have nl : l ≠ fi := fun q => by rw [q] at hdl; omega
  have np : p0 ≠ fi := fun q => by rw [q] at hdp; omega
  refine pw_nne hn1 ?_
  refine pw_if (fun hb6 => ?_)
  obtain ⟨hbl6, hbr6⟩ := hb6
  refine pw_vl (fun m6 em6 => ?_)
  have hfr14 : ∀ z, ((la z < la this ∨ la this + 2 < la z)) → m6 z = (V 12) z := fr_up (e0 := (V 12)) (fun _ _ => rfl) em6 (show ¬ ((la cl < la this ∨ la this + 2 < la cl)) from by omega)
  refine pw_nne hn3 ?_
  have f15 : (p2 * 17).toInt = p2.toInt * 17 := z_mulc (by decide +kernel) (by omega) (by omega)
  have f17 : ((p2 * 17) + 17).toInt = (p2 * 17).toInt + 17 := z_addc (by decide +kernel) (by omega) (by omega)
  have hpr23_0 : (0 ≤ (p2 * 17).toInt ∧ (p2 * 17).toInt ≤ ((p2 * 17) + 17).toInt ∧ ((p2 * 17) + 17).toInt ≤ ((ln fi : Nat) : Int)) := by first | assumption | omega
  refine pw_b1 (fun c23_V0 hc23 => ?_)
  have hq23 := pwq (fr_J7_fill_eb02e la G P U (va_up V 12 m6) X O kd ln cnt fi (p2 * 17) ((p2 * 17) + 17) (-1 : Int32) hB) hc23
  have q23_V0 : (∀ z, (la z < la fi ∨ la fi < la z) → c23_V0 z = (V 0) z) := hq23
  clear hq23
  have tz23 : ∀ z, ((la z < la this ∨ la this + 2 < la z)) → ((la z < la fi ∨ la fi < la z)) := fun z hz => by omega
  have hfr18 : ∀ z, ((la z < la this ∨ la this + 2 < la z)) → c23_V0 z = (V 0) z := fun z hz => (q23_V0 z (tz23 z hz)).trans ((fun _ _ => rfl) z hz)
  have hx23 := pwq (fn_J7_fill_eb02e κ wd la G P U (va_up V 12 m6) X O kd ln cnt fi (p2 * 17) ((p2 * 17) + 17) (-1 : Int32) hzLN hk_fi hpr23_0 hB lt_fi4) hc23
  obtain ⟨p23_0, p23_1, p23_2⟩ : ((∀ q : Nat, ((q : Int) < (p2 * 17).toInt ∨ ((p2 * 17) + 17).toInt ≤ (q : Int)) → c23_V0 fi q = (V 0) fi q)) ∧ ((∀ q : Nat, (p2 * 17).toInt ≤ (q : Int) → (q : Int) < ((p2 * 17) + 17).toInt → c23_V0 fi q = vp_nar .byte (-1 : Int32))) ∧ ((∀ z, z ≠ fi → c23_V0 z = (V 0) z)) := hx23
  have lp29 : ∀ (n29 : Nat) (y29_5 : Int32) (d29_V0 : Nat → Nat → Int32) (d29_V12 : Nat → Nat → Int32), (∀ z, ((la z < la this ∨ la this + 2 < la z)) → d29_V0 z = (V 0) z) → (∀ z, ((la z < la this ∨ la this + 2 < la z)) → d29_V12 z = (V 12) z) → (0 ≤ y29_5.toInt ∧ y29_5.toInt ≤ 100) → y29_5.toInt ≤ ((G 203) pt).toInt → (∀ z, z ≠ fi → d29_V0 z = (V 0) z) → (∀ j, j ≠ Int32.toNatClampNeg p2 → d29_V12 cl j = (V 12) cl j) → (∀ q, (q < 17 * Int32.toNatClampNeg p2 ∨ 17 * Int32.toNatClampNeg p2 + 17 ≤ q) → d29_V0 fi q = (V 0) fi q) → (FTI ps W (Int32.toNatClampNeg p2) (Int32.toNatClampNeg y29_5) (d29_V0 fi)) → (CLI ps W (Int32.toNatClampNeg p2) (Int32.toNatClampNeg y29_5) (d29_V12 cl (Int32.toNatClampNeg p2))) → pw (L_X3_markFitting_29 G P U V X O kd ln cnt this p0 p1 p2 p3 n29 y29_5 d29_V0 d29_V12) (QF_X3_markFitting κ wd la G P U V X O kd ln cnt this p0 p1 p2 p3 cl fi pt l s ps W) := by
    intro n29
    induction n29 with
    | zero => intros; exact pw_none
    | succ n29 ih29 =>
      intro y29_5 d29_V0 d29_V12 hfr19 hfr20 f21 f22 vz29 co29 vo29 fz29 cz29
      show pw (B_X3_markFitting_29 G P U V X O kd ln cnt this p0 p1 p2 p3 (L_X3_markFitting_29 G P U V X O kd ln cnt this p0 p1 p2 p3 n29) y29_5 d29_V0 d29_V12) _
      unfold B_X3_markFitting_29
      refine pw_nne hn5 ?_
      have b23 := hzG203 pt
      refine pw_ite (fun c38 => ?_) (fun c38 => ?_)
      · have c38 := (z_le _ _).mp c38
        have qq0 : CLO ps W (Int32.toNatClampNeg p2) (d29_V12 cl) := by exact CLO_step hcv rfl (CLI_end cz29 (by have k5 := clampI (x := y29_5) (by omega); omega) (by omega) hne) co29
        have qq1 : FIT ps W (Int32.toNatClampNeg p2) (d29_V0 fi) := by exact FTI_end fz29 (by have k5 := clampI (x := y29_5) (by omega); omega)
        have qq2 : (∀ q, (q < 17 * Int32.toNatClampNeg p2 ∨ 17 * Int32.toNatClampNeg p2 + 17 ≤ q) → d29_V0 fi q = (V 0) fi q) := by exact vo29
        exact pw_some ⟨qq0, qq1, qq2⟩
      · have c38 := z_nle c38
        have k5 := clampI (x := y29_5) (by omega)
        have hx : ps[Int32.toNatClampNeg y29_5]? = some (wdl ((V 0) l) (16 * Int32.toNatClampNeg y29_5) (Int32.toNatClampNeg ((V 1) s (Int32.toNatClampNeg y29_5)))) := by rw [← hps]; unfold rwW; rw [tab_get (by omega)]
        have hxm := hne _ (List.mem_of_getElem? hx)
        have hxn : Int32.toNatClampNeg ((V 1) s (Int32.toNatClampNeg y29_5)) ≠ 0 := fun q => hxm.1 (wdl_nil.mpr q)
        have hx16 : Int32.toNatClampNeg ((V 1) s (Int32.toNatClampNeg y29_5)) ≤ 16 := by have h := hxm.2; rwa [wdl_len] at h
        have hlv := hzV1 s (Int32.toNatClampNeg y29_5)
        have clv := clampI (x := (V 1) s (Int32.toNatClampNeg y29_5)) (by omega)
        refine pw_nne hn5 ?_
        refine pw_nne hn9 ?_
        refine pw_if (fun hb51 => ?_)
        obtain ⟨hbl51, hbr51⟩ := hb51
        have b27 := hzV1 s (Int32.toNatClampNeg y29_5)
        have rl28 := (hzRB pt s hk_pt hn9).2 (Int32.toNatClampNeg y29_5)
        have f29 : (p2 + (((V 1) s) (Int32.toNatClampNeg y29_5))).toInt = p2.toInt + (((V 1) s) (Int32.toNatClampNeg y29_5)).toInt := z_add (by omega) (by omega)
        refine pw_vl (fun x53 ex53 => ?_)
        have f30 : x53.toInt = (p2 + (((V 1) s) (Int32.toNatClampNeg y29_5))).toInt := congrArg Int32.toInt ex53
        refine pw_jE (fun j118 ej118 => ?_)
        refine pw_ite (fun c59 => ?_) (fun c59 => ?_)
        · have c59 := (z_lt _ _).mp c59
          refine pw_j2 ej118 (fun z118_0 ez118_0 z118_1 ez118_1 => ?_)
          subst ez118_0 ez118_1
          have f31 : (y29_5 + 1).toInt = y29_5.toInt + (1) := z_addc (by decide +kernel) (by omega) (by omega)
          have iv29_0 : (0 ≤ (y29_5 + 1).toInt ∧ (y29_5 + 1).toInt ≤ 100) := by omega
          have iv29_1 : (y29_5 + 1).toInt ≤ ((G 203) pt).toInt := by omega
          have iv29_2 : (∀ z, z ≠ fi → d29_V0 z = (V 0) z) := by exact vz29
          have iv29_3 : (∀ j, j ≠ Int32.toNatClampNeg p2 → d29_V12 cl j = (V 12) cl j) := by exact co29
          have iv29_4 : (∀ q, (q < 17 * Int32.toNatClampNeg p2 ∨ 17 * Int32.toNatClampNeg p2 + 17 ≤ q) → d29_V0 fi q = (V 0) fi q) := by exact vo29
          have iv29_5 : (FTI ps W (Int32.toNatClampNeg p2) (Int32.toNatClampNeg (y29_5 + 1)) (d29_V0 fi)) := by have hnf : ¬ ftk ps W (Int32.toNatClampNeg p2) (Int32.toNatClampNeg y29_5) := (fun ⟨x9, q1, q2, q3, q4⟩ => by rw [hx] at q1; cases q1; rw [wdl_len] at q2 q3 q4; omega); have k6 := clampI (x := y29_5 + 1) (by omega); rw [show Int32.toNatClampNeg (y29_5 + 1) = Int32.toNatClampNeg y29_5 + 1 by omega]; exact FTI_no fz29 hnf
          have iv29_6 : (CLI ps W (Int32.toNatClampNeg p2) (Int32.toNatClampNeg (y29_5 + 1)) (d29_V12 cl (Int32.toNatClampNeg p2))) := by have hnf : ¬ ftk ps W (Int32.toNatClampNeg p2) (Int32.toNatClampNeg y29_5) := (fun ⟨x9, q1, q2, q3, q4⟩ => by rw [hx] at q1; cases q1; rw [wdl_len] at q2 q3 q4; omega); have k6 := clampI (x := y29_5 + 1) (by omega); rw [show Int32.toNatClampNeg (y29_5 + 1) = Int32.toNatClampNeg y29_5 + 1 by omega]; exact CLI_no cz29 hnf
          exact ih29 (y29_5 + 1) d29_V0 d29_V12 hfr19 hfr20 iv29_0 iv29_1 iv29_2 iv29_3 iv29_4 iv29_5 iv29_6
        · have c59 := z_nlt c59
          refine pw_nne hn1 ?_
          refine pw_if (fun hb68 => ?_)
          obtain ⟨hbl68, hbr68⟩ := hb68
          refine pw_ite (fun c69 => ?_) (fun c69 => ?_)
          · have c69 := congrArg Int32.toInt c69
            refine pw_j2 ej118 (fun z118_0 ez118_0 z118_1 ez118_1 => ?_)
            subst ez118_0 ez118_1
            have f32 : (y29_5 + 1).toInt = y29_5.toInt + (1) := z_addc (by decide +kernel) (by omega) (by omega)
            have iv29_0 : (0 ≤ (y29_5 + 1).toInt ∧ (y29_5 + 1).toInt ≤ 100) := by omega
            have iv29_1 : (y29_5 + 1).toInt ≤ ((G 203) pt).toInt := by omega
            have iv29_2 : (∀ z, z ≠ fi → d29_V0 z = (V 0) z) := by exact vz29
            have iv29_3 : (∀ j, j ≠ Int32.toNatClampNeg p2 → d29_V12 cl j = (V 12) cl j) := by exact co29
            have iv29_4 : (∀ q, (q < 17 * Int32.toNatClampNeg p2 ∨ 17 * Int32.toNatClampNeg p2 + 17 ≤ q) → d29_V0 fi q = (V 0) fi q) := by exact vo29
            have iv29_5 : (FTI ps W (Int32.toNatClampNeg p2) (Int32.toNatClampNeg (y29_5 + 1)) (d29_V0 fi)) := by have kb := clampI (x := x53) (by omega); have hnf : ¬ ftk ps W (Int32.toNatClampNeg p2) (Int32.toNatClampNeg y29_5) := (fun ⟨x9, q1, q2, q3, q4⟩ => by rw [hx] at q1; cases q1; rw [wdl_len] at q2 q3 q4; have q5 := (hcv (Int32.toNatClampNeg p2 + (Int32.toNatClampNeg ((V 1) s (Int32.toNatClampNeg y29_5)))) (by omega) (by omega)).mpr q4; rw [← co29 (Int32.toNatClampNeg p2 + (Int32.toNatClampNeg ((V 1) s (Int32.toNatClampNeg y29_5)))) (by omega), show Int32.toNatClampNeg p2 + (Int32.toNatClampNeg ((V 1) s (Int32.toNatClampNeg y29_5))) = Int32.toNatClampNeg x53 by omega] at q5; exact q5 (by omega)); have k6 := clampI (x := y29_5 + 1) (by omega); rw [show Int32.toNatClampNeg (y29_5 + 1) = Int32.toNatClampNeg y29_5 + 1 by omega]; exact FTI_no fz29 hnf
            have iv29_6 : (CLI ps W (Int32.toNatClampNeg p2) (Int32.toNatClampNeg (y29_5 + 1)) (d29_V12 cl (Int32.toNatClampNeg p2))) := by have kb := clampI (x := x53) (by omega); have hnf : ¬ ftk ps W (Int32.toNatClampNeg p2) (Int32.toNatClampNeg y29_5) := (fun ⟨x9, q1, q2, q3, q4⟩ => by rw [hx] at q1; cases q1; rw [wdl_len] at q2 q3 q4; have q5 := (hcv (Int32.toNatClampNeg p2 + (Int32.toNatClampNeg ((V 1) s (Int32.toNatClampNeg y29_5)))) (by omega) (by omega)).mpr q4; rw [← co29 (Int32.toNatClampNeg p2 + (Int32.toNatClampNeg ((V 1) s (Int32.toNatClampNeg y29_5)))) (by omega), show Int32.toNatClampNeg p2 + (Int32.toNatClampNeg ((V 1) s (Int32.toNatClampNeg y29_5))) = Int32.toNatClampNeg x53 by omega] at q5; exact q5 (by omega)); have k6 := clampI (x := y29_5 + 1) (by omega); rw [show Int32.toNatClampNeg (y29_5 + 1) = Int32.toNatClampNeg y29_5 + 1 by omega]; exact CLI_no cz29 hnf
            exact ih29 (y29_5 + 1) d29_V0 d29_V12 hfr19 hfr20 iv29_0 iv29_1 iv29_2 iv29_3 iv29_4 iv29_5 iv29_6
          · have c69 := z_ne c69
            refine pw_nne hn5 ?_
            have f33 : (p1 + p2).toInt = p1.toInt + p2.toInt := z_add (by omega) (by omega)
            have hpr82_0 : (0 ≤ y29_5.toInt ∧ y29_5.toInt < ((G 203) pt).toInt) := by first | assumption | omega
            refine pw_b1 (fun r82 hc82 => ?_)
            have hq82 := wp_at (ok_X10_standsIn κ wd G P U (va_up (va_up V 0 d29_V0) 12 d29_V12) X O kd ln cnt pt y29_5 p0 (p1 + p2) hzG200 hzG203 hzP201 hzP202 hzV1 hzRA hzRB hzRI hzLN hk_pt hk_p0 hpr82_0) hc82
            have f34 : (0 ≤ r82.toInt ∧ r82.toInt ≤ 1) := hq82
            clear hq82
            have h882_hl : (P 201) pt = some l := by exact hl
            have h882_hs : (P 202) pt = some s := by exact hs
            have h882_hw : ((G 200) pt).toInt = ((16) : Int) := by exact hw
            have h882_hw24 : (16) ≤ 24 := by decide
            have hx82 := pwq (fn_X10_standsIn κ wd la G P U (va_up (va_up V 0 d29_V0) 12 d29_V12) X O kd ln cnt pt y29_5 p0 (p1 + p2) (l) (s) (16) hzG200 hzG203 hzP201 hzP202 hzV1 hzRA hzRB hzRI hzLN hk_pt hk_p0 hpr82_0 hB lt_pt6 hlt_p0 h882_hl h882_hs h882_hw h882_hw24) hc82
            obtain ⟨p82_0, p82_1⟩ : ((r82.toInt ≠ 0 → 0 ≤ (p1 + p2).toInt ∧ wdl (d29_V0 p0) (Int32.toNatClampNeg (p1 + p2)) (Int32.toNatClampNeg (((V 1) s) (Int32.toNatClampNeg y29_5))) = wdl (d29_V0 l) ((16) * Int32.toNatClampNeg y29_5) (Int32.toNatClampNeg (((V 1) s) (Int32.toNatClampNeg y29_5))))) ∧ ((r82.toInt = 0 → 0 ≤ (p1 + p2).toInt → (p1 + p2).toInt + (((V 1) s) (Int32.toNatClampNeg y29_5)).toInt ≤ ((ln p0 : Nat) : Int) → wdl (d29_V0 p0) (Int32.toNatClampNeg (p1 + p2)) (Int32.toNatClampNeg (((V 1) s) (Int32.toNatClampNeg y29_5))) ≠ wdl (d29_V0 l) ((16) * Int32.toNatClampNeg y29_5) (Int32.toNatClampNeg (((V 1) s) (Int32.toNatClampNeg y29_5))))) := hx82
            refine pw_ite (fun c85 => ?_) (fun c85 => ?_)
            · have c85 := congrArg Int32.toInt c85
              refine pw_j2 ej118 (fun z118_0 ez118_0 z118_1 ez118_1 => ?_)
              subst ez118_0 ez118_1
              have f35 : (y29_5 + 1).toInt = y29_5.toInt + (1) := z_addc (by decide +kernel) (by omega) (by omega)
              have iv29_0 : (0 ≤ (y29_5 + 1).toInt ∧ (y29_5 + 1).toInt ≤ 100) := by omega
              have iv29_1 : (y29_5 + 1).toInt ≤ ((G 203) pt).toInt := by omega
              have iv29_2 : (∀ z, z ≠ fi → d29_V0 z = (V 0) z) := by exact vz29
              have iv29_3 : (∀ j, j ≠ Int32.toNatClampNeg p2 → d29_V12 cl j = (V 12) cl j) := by exact co29
              have iv29_4 : (∀ q, (q < 17 * Int32.toNatClampNeg p2 ∨ 17 * Int32.toNatClampNeg p2 + 17 ≤ q) → d29_V0 fi q = (V 0) fi q) := by exact vo29
              have iv29_5 : (FTI ps W (Int32.toNatClampNeg p2) (Int32.toNatClampNeg (y29_5 + 1)) (d29_V0 fi)) := by have kb := clampI (x := x53) (by omega); have hsl : (W.drop (Int32.toNatClampNeg p2)).take (Int32.toNatClampNeg ((V 1) s (Int32.toNatClampNeg y29_5))) = wdl ((V 0) p0) (Int32.toNatClampNeg (p1 + p2)) (Int32.toNatClampNeg ((V 1) s (Int32.toNatClampNeg y29_5))) := (by rw [← hW, wdl_dt (by omega), show Int32.toNatClampNeg p1 + Int32.toNatClampNeg p2 = Int32.toNatClampNeg (p1 + p2) by have z := clampI (x := p1 + p2) (by omega); omega]); have hnf : ¬ ftk ps W (Int32.toNatClampNeg p2) (Int32.toNatClampNeg y29_5) := (fun ⟨x9, q1, q2, q3, q4⟩ => by rw [hx] at q1; cases q1; rw [wdl_len] at q2 q3 q4; rw [hsl] at q3; have z9 := p82_1 (by omega) (by omega) (by omega); rw [vz29 p0 np, vz29 l nl] at z9; exact z9 q3); have k6 := clampI (x := y29_5 + 1) (by omega); rw [show Int32.toNatClampNeg (y29_5 + 1) = Int32.toNatClampNeg y29_5 + 1 by omega]; exact FTI_no fz29 hnf
              have iv29_6 : (CLI ps W (Int32.toNatClampNeg p2) (Int32.toNatClampNeg (y29_5 + 1)) (d29_V12 cl (Int32.toNatClampNeg p2))) := by have kb := clampI (x := x53) (by omega); have hsl : (W.drop (Int32.toNatClampNeg p2)).take (Int32.toNatClampNeg ((V 1) s (Int32.toNatClampNeg y29_5))) = wdl ((V 0) p0) (Int32.toNatClampNeg (p1 + p2)) (Int32.toNatClampNeg ((V 1) s (Int32.toNatClampNeg y29_5))) := (by rw [← hW, wdl_dt (by omega), show Int32.toNatClampNeg p1 + Int32.toNatClampNeg p2 = Int32.toNatClampNeg (p1 + p2) by have z := clampI (x := p1 + p2) (by omega); omega]); have hnf : ¬ ftk ps W (Int32.toNatClampNeg p2) (Int32.toNatClampNeg y29_5) := (fun ⟨x9, q1, q2, q3, q4⟩ => by rw [hx] at q1; cases q1; rw [wdl_len] at q2 q3 q4; rw [hsl] at q3; have z9 := p82_1 (by omega) (by omega) (by omega); rw [vz29 p0 np, vz29 l nl] at z9; exact z9 q3); have k6 := clampI (x := y29_5 + 1) (by omega); rw [show Int32.toNatClampNeg (y29_5 + 1) = Int32.toNatClampNeg y29_5 + 1 by omega]; exact CLI_no cz29 hnf
              exact ih29 (y29_5 + 1) d29_V0 d29_V12 hfr19 hfr20 iv29_0 iv29_1 iv29_2 iv29_3 iv29_4 iv29_5 iv29_6
            · have c85 := z_ne c85
              refine pw_nne hn3 ?_
              refine pw_nne hn5 ?_
              refine pw_nne hn9 ?_
              refine pw_if (fun hb105 => ?_)
              obtain ⟨hbl105, hbr105⟩ := hb105
              have f39 : ((p2 * 17) + (((V 1) s) (Int32.toNatClampNeg y29_5))).toInt = (p2 * 17).toInt + (((V 1) s) (Int32.toNatClampNeg y29_5)).toInt := z_add (by omega) (by omega)
              refine pw_if (fun hb110 => ?_)
              obtain ⟨hbl110, hbr110⟩ := hb110
              refine pw_vl (fun m110 em110 => ?_)
              have hfr40 : ∀ z, ((la z < la this ∨ la this + 2 < la z)) → m110 z = (V 0) z := fr_up (e0 := (V 0)) hfr19 em110 (show ¬ ((la fi < la this ∨ la this + 2 < la fi)) from by omega)
              refine pw_nne hn1 ?_
              refine pw_if (fun hb117 => ?_)
              obtain ⟨hbl117, hbr117⟩ := hb117
              refine pw_vl (fun m117 em117 => ?_)
              have hfr41 : ∀ z, ((la z < la this ∨ la this + 2 < la z)) → m117 z = (V 12) z := fr_up (e0 := (V 12)) hfr20 em117 (show ¬ ((la cl < la this ∨ la this + 2 < la cl)) from by omega)
              refine pw_j2 ej118 (fun z118_0 ez118_0 z118_1 ez118_1 => ?_)
              subst ez118_0 ez118_1
              have f42 : (y29_5 + 1).toInt = y29_5.toInt + (1) := z_addc (by decide +kernel) (by omega) (by omega)
              have iv29_0 : (0 ≤ (y29_5 + 1).toInt ∧ (y29_5 + 1).toInt ≤ 100) := by omega
              have iv29_1 : (y29_5 + 1).toInt ≤ ((G 203) pt).toInt := by omega
              have iv29_2 : (∀ z, z ≠ fi → m110 z = (V 0) z) := by intro z hz; rw [em110, va_up_ne _ _ hz]; exact vz29 z hz
              have iv29_3 : (∀ j, j ≠ Int32.toNatClampNeg p2 → m117 cl j = (V 12) cl j) := by intro j hj; rw [em117, va_up_self, pk_un hj]; exact co29 j hj
              have iv29_4 : (∀ q, (q < 17 * Int32.toNatClampNeg p2 ∨ 17 * Int32.toNatClampNeg p2 + 17 ≤ q) → m110 fi q = (V 0) fi q) := by have xi := clampI (x := (p2 * 17) + ((V 1) s (Int32.toNatClampNeg y29_5))) (by omega); intro q hq; rw [em110, va_up_self, pk_un (by omega)]; exact vo29 q hq
              have iv29_5 : (FTI ps W (Int32.toNatClampNeg p2) (Int32.toNatClampNeg (y29_5 + 1)) (m110 fi)) := by have kb := clampI (x := x53) (by omega); have hsl : (W.drop (Int32.toNatClampNeg p2)).take (Int32.toNatClampNeg ((V 1) s (Int32.toNatClampNeg y29_5))) = wdl ((V 0) p0) (Int32.toNatClampNeg (p1 + p2)) (Int32.toNatClampNeg ((V 1) s (Int32.toNatClampNeg y29_5))) := (by rw [← hW, wdl_dt (by omega), show Int32.toNatClampNeg p1 + Int32.toNatClampNeg p2 = Int32.toNatClampNeg (p1 + p2) by have z := clampI (x := p1 + p2) (by omega); omega]); have hft : ftk ps W (Int32.toNatClampNeg p2) (Int32.toNatClampNeg y29_5) := (by have z9 := (p82_0 (by omega)).2; rw [vz29 p0 np, vz29 l nl] at z9; refine ⟨_, hx, ?_, ?_, ?_⟩; (rw [wdl_len]; omega); (rw [wdl_len, hsl]; exact z9); (rw [wdl_len]; refine (hcv (Int32.toNatClampNeg p2 + (Int32.toNatClampNeg ((V 1) s (Int32.toNatClampNeg y29_5)))) (by omega) (by omega)).mp ?_; rw [← co29 (Int32.toNatClampNeg p2 + (Int32.toNatClampNeg ((V 1) s (Int32.toNatClampNeg y29_5)))) (by omega), show Int32.toNatClampNeg p2 + (Int32.toNatClampNeg ((V 1) s (Int32.toNatClampNeg y29_5))) = Int32.toNatClampNeg x53 by omega]; omega)); have k6 := clampI (x := y29_5 + 1) (by omega); rw [show Int32.toNatClampNeg (y29_5 + 1) = Int32.toNatClampNeg y29_5 + 1 by omega]; have xi := clampI (x := (p2 * 17) + ((V 1) s (Int32.toNatClampNeg y29_5))) (by omega); exact FTI_yes (v := vp_nar .byte (Int8.toInt32 (Int32.toInt8 y29_5))) (c := Int32.toNatClampNeg ((p2 * 17) + ((V 1) s (Int32.toNatClampNeg y29_5)))) fz29 hx hft (by rw [i8_id (by omega), by_id (by omega)]; omega) (by rw [wdl_len]; omega) (by rw [em110, va_up_self])
              have iv29_6 : (CLI ps W (Int32.toNatClampNeg p2) (Int32.toNatClampNeg (y29_5 + 1)) (m117 cl (Int32.toNatClampNeg p2))) := by have kb := clampI (x := x53) (by omega); have hsl : (W.drop (Int32.toNatClampNeg p2)).take (Int32.toNatClampNeg ((V 1) s (Int32.toNatClampNeg y29_5))) = wdl ((V 0) p0) (Int32.toNatClampNeg (p1 + p2)) (Int32.toNatClampNeg ((V 1) s (Int32.toNatClampNeg y29_5))) := (by rw [← hW, wdl_dt (by omega), show Int32.toNatClampNeg p1 + Int32.toNatClampNeg p2 = Int32.toNatClampNeg (p1 + p2) by have z := clampI (x := p1 + p2) (by omega); omega]); have hft : ftk ps W (Int32.toNatClampNeg p2) (Int32.toNatClampNeg y29_5) := (by have z9 := (p82_0 (by omega)).2; rw [vz29 p0 np, vz29 l nl] at z9; refine ⟨_, hx, ?_, ?_, ?_⟩; (rw [wdl_len]; omega); (rw [wdl_len, hsl]; exact z9); (rw [wdl_len]; refine (hcv (Int32.toNatClampNeg p2 + (Int32.toNatClampNeg ((V 1) s (Int32.toNatClampNeg y29_5)))) (by omega) (by omega)).mp ?_; rw [← co29 (Int32.toNatClampNeg p2 + (Int32.toNatClampNeg ((V 1) s (Int32.toNatClampNeg y29_5)))) (by omega), show Int32.toNatClampNeg p2 + (Int32.toNatClampNeg ((V 1) s (Int32.toNatClampNeg y29_5))) = Int32.toNatClampNeg x53 by omega]; omega)); have k6 := clampI (x := y29_5 + 1) (by omega); rw [show Int32.toNatClampNeg (y29_5 + 1) = Int32.toNatClampNeg y29_5 + 1 by omega]; exact CLI_yes hft (by rw [em117, va_up_self, pk_us]; decide +kernel)
              exact ih29 (y29_5 + 1) m110 m117 hfr40 hfr41 iv29_0 iv29_1 iv29_2 iv29_3 iv29_4 iv29_5 iv29_6
  exact lp29 NN (0 : Int32) c23_V0 m6 hfr18 hfr14 (show (0 ≤ (0 : Int32).toInt ∧ (0 : Int32).toInt ≤ 100) from by omega) (show (0 : Int32).toInt ≤ ((G 203) pt).toInt from by omega) (show (∀ z, z ≠ fi → c23_V0 z = (V 0) z) from by exact p23_2) (show (∀ j, j ≠ Int32.toNatClampNeg p2 → m6 cl j = (V 12) cl j) from by intro j hj; rw [em6, va_up_self, pk_un hj]) (show (∀ q, (q < 17 * Int32.toNatClampNeg p2 ∨ 17 * Int32.toNatClampNeg p2 + 17 ≤ q) → c23_V0 fi q = (V 0) fi q) from by intro q hq; exact p23_0 q (by omega)) (show (FTI ps W (Int32.toNatClampNeg p2) (Int32.toNatClampNeg (0 : Int32)) (c23_V0 fi)) from by rw [show Int32.toNatClampNeg (0 : Int32) = 0 from rfl]; exact FTI_0 (fun i hi => by rw [p23_1 (17 * Int32.toNatClampNeg p2 + (i + 1)) (by omega) (by omega)]; decide +kernel)) (show (CLI ps W (Int32.toNatClampNeg p2) (Int32.toNatClampNeg (0 : Int32)) (m6 cl (Int32.toNatClampNeg p2))) from by rw [show Int32.toNatClampNeg (0 : Int32) = 0 from rfl, em6, va_up_self, pk_us]; exact CLI_0 (by decide +kernel))
