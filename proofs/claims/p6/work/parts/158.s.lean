abbrev QF_X11_reform (κ : Nat → Nat) (wd : Nat) (la : Nat → Nat) (G : Nat → Nat → Int32) (P : Nat → Nat → Option Nat) (U : Nat → Nat → Int64) (V : Nat → Nat → Nat → Int32) (X : Nat → Nat → Nat → Int64) (O : Nat → Nat → Nat → Option Nat) (kd : Nat → Nat) (ln : Nat → Nat) (cnt : Nat) (this : Nat) (p0 : Int32) (D : Nat) (f : Nat → Int32) (n : Nat) (ld : Int) (tp : Nat) (tb : Nat) (rd : Nat) (dr : Nat) (ra : Nat) (er : Nat) (br : Nat) (pr : Nat) (kp : Nat) (lr : Nat) (le : Nat) (lb : Nat) (lp : Nat) (se : Nat) (sb : Nat) (sp : Nat) : (Int32 × (Nat → Nat → Int32) × (Nat → Nat → Option Nat) × (Nat → Nat → Int64) × (Nat → Nat → Nat → Int32) × (Nat → Nat → Nat → Int64) × (Nat → Nat → Nat → Option Nat) × (Nat → Nat) × (Nat → Nat) × Nat) → Prop := (fun t => ∃ la1 : Nat → Nat, (∀ z, z < cnt → la1 z = la z) ∧ LB la1 (t.2.2.2.2.2.2.2.2.2) (t.2.2.1) ∧ ((p0.toInt ≤ ld ∨ 100000 < p0.toInt → (t.1).toInt = -2 ∧ ((t.2.1) 222) this = (G 222) this ∧ ((t.2.1) 223) this = (G 223) this ∧ ((t.2.1) 80) rd = (G 80) rd ∧ ((t.2.1) 81) rd = (G 81) rd)) ∧ ((ld < p0.toInt ∧ p0.toInt ≤ 100000 → ∀ x, (parF f n (n + 1) 0 ([], [], [])).1 = some x → (t.1).toInt = -1 ∧ ((t.2.1) 222) this = (G 222) this ∧ ((t.2.1) 223) this = (G 223) this ∧ ERR (some x) (((t.2.1) 80) rd) (((t.2.1) 81) rd))) ∧ ((ld < p0.toInt ∧ p0.toInt ≤ 100000 → (parF f n (n + 1) 0 ([], [], [])).1 = none → 6 ≤ ((G 222) this).toInt → (t.1).toInt = -3 ∧ ((t.2.1) 222) this = (G 222) this ∧ ((t.2.1) 223) this = (G 223) this ∧ (((t.2.1) 80) rd).toInt = 0 ∧ (((t.2.1) 81) rd).toInt = -1)) ∧ ((ld < p0.toInt ∧ p0.toInt ≤ 100000 → (parF f n (n + 1) 0 ([], [], [])).1 = none → ((G 222) this).toInt < 6 → (t.1).toInt = ((G 222) this).toInt ∧ (((t.2.1) 222) this).toInt = ((G 222) this).toInt + 1 ∧ ((t.2.1) 223) this = p0 ∧ (((t.2.1) 80) rd).toInt = 0 ∧ (((t.2.1) 81) rd).toInt = -1 ∧ ((t.2.2.2.2.2.2.1) 2) ra (Int32.toNatClampNeg ((G 222) this)) = some dr ∧ RFC (t.2.1) (t.2.2.1) (t.2.2.2.2.1) (t.2.2.2.2.2.2.1) (t.2.2.2.2.2.2.2.2.1) la1 (t.2.2.2.2.2.2.2.2.2) dr p0 (parF f n (n + 1) 0 ([], [], [])).2)) ∧ ((∃ dr1, ((t.2.2.1) 224) this = some dr1 ∧ DRF (t.2.1) (t.2.2.1) (t.2.2.2.2.2.2.2.2.1) dr1 ∧ dr1 < (t.2.2.2.2.2.2.2.2.2) ∧ ((la1 dr1 = la dr ∧ dr1 = dr) ∨ (la1 dr1 = 100000 + 10 * dr1 ∧ cnt ≤ dr1)))) ∧ ((∀ q, q ≠ (Int32.toNatClampNeg ((G 222) this)) → ((t.2.2.2.2.2.2.1) 2) ra q = (O 2) ra q) ∧ ((((t.2.1) 222) this).toInt = ((G 222) this).toInt → ((t.2.2.2.2.2.2.1) 2) ra = (O 2) ra)) ∧ (((((t.2.1) 222) this).toInt = ((G 222) this).toInt + 1 → ∀ b, ((t.2.2.1) 224) this = some b → cnt ≤ b)))
set_option maxHeartbeats 40000000 in
set_option maxRecDepth 100000 in
theorem fn_X11_reform (κ : Nat → Nat) (wd : Nat) (la : Nat → Nat) (G : Nat → Nat → Int32) (P : Nat → Nat → Option Nat) (U : Nat → Nat → Int64) (V : Nat → Nat → Nat → Int32) (X : Nat → Nat → Nat → Int64) (O : Nat → Nat → Nat → Option Nat) (kd : Nat → Nat) (ln : Nat → Nat) (cnt : Nat) (this : Nat) (p0 : Int32) (D : Nat) (f : Nat → Int32) (n : Nat) (ld : Int) (tp : Nat) (tb : Nat) (rd : Nat) (dr : Nat) (ra : Nat) (er : Nat) (br : Nat) (pr : Nat) (kp : Nat) (lr : Nat) (le : Nat) (lb : Nat) (lp : Nat) (se : Nat) (sb : Nat) (sp : Nat) (hI : CInv κ wd G P V O ln cnt) (hk_this : κ this = 12) (hB : LB la cnt P) (hlt_this : this < cnt) (hpl0 : la this = 200) (hpl1 : ∀ b, (P 224) this = some b → b < cnt ∧ la b = D) (h220 : (P 220) this = some tp) (h140 : (P 140) tp = some tb) (h225 : (P 225) this = some rd) (h224 : (P 224) this = some dr) (h221 : (P 221) this = some ra) (hpt : PTS P (G 200) ln dr er br pr kp lr le lb lp se sb sp) (hf : (V 0) tb = f) (hn : Int32.toNatClampNeg ((G 141) tp) = n) (hld : ((G 223) this).toInt = ld) (hlD : 100000 ≤ la dr) : pw (f_X11_reform G P U V X O kd ln cnt this p0) (sp1 (QF_X11_reform κ wd la G P U V X O kd ln cnt this p0 D f n ld tp tb rd dr ra er br pr kp lr le lb lp se sb sp)) := by
  unfold f_X11_reform
  have zkm3 : (-3 : Int32).toInt = -3 := by decide +kernel
  have zkm2 : (-2 : Int32).toInt = -2 := by decide +kernel
  have zkm1 : (-1 : Int32).toInt = -1 := by decide +kernel
  have zk0 : (0 : Int32).toInt = 0 := by decide +kernel
  have zk1 : (1 : Int32).toInt = 1 := by decide +kernel
  have zk6 : (6 : Int32).toInt = 6 := by decide +kernel
  have zk100000 : (100000 : Int32).toInt = 100000 := by decide +kernel
  have r_p0 := i32r p0
  have hn1 : (P 220) this = some tp := h220
  have lt_tp2 := ((hB.1 220 fl_220) this tp hn1).2.1
  have lb_tp2 : la tp = 10 := lk_220.mp ((hB.1 220 fl_220) this tp hn1).2.2
  have hk_tp := (((CInv_P220 hI :) this).2 tp hn1).1
  have hl1_tp := (((CInv_P220 hI :) this).2 tp hn1).2.1
  have hl2_tp := (((CInv_P220 hI :) this).2 tp hn1).2.2.1
  have hw_tp := (((CInv_P220 hI :) this).2 tp hn1).2.2.2
  have hn3 : (P 140) tp = some tb := h140
  obtain ⟨_, lt_tb4, lb_tb4⟩ := (hB.1 140 fl_140) tp tb hn3
  have lb_tb4 : la tb = 11 := (lk_140.mp lb_tb4).trans (congrArg (fun z9 => z9 + 1) lb_tp2)
  have hk_tb := (((CInv_P140 hI :) tp).2 tb hn3).1
  have hl1_tb := (((CInv_P140 hI :) tp).2 tb hn3).2.1
  have hl2_tb := (((CInv_P140 hI :) tp).2 tb hn3).2.2.1
  have hw_tb := (((CInv_P140 hI :) tp).2 tb hn3).2.2.2
  have hz_tb : (Int32.ofNat (ln tb)).toInt = ((ln tb : Nat) : Int) := ofN_eq (by first | exact Nat.le_trans hl2_tb (by decide) | omega)
  have hn5 : (P 225) this = some rd := h225
  have lt_rd6 := ((hB.1 225 fl_225) this rd hn5).2.1
  have lb_rd6 : la rd = 300 := lk_225.mp ((hB.1 225 fl_225) this rd hn5).2.2
  have hk_rd := (((CInv_P225 hI :) this).2 rd hn5).1
  have hl1_rd := (((CInv_P225 hI :) this).2 rd hn5).2.1
  have hl2_rd := (((CInv_P225 hI :) this).2 rd hn5).2.2.1
  have hw_rd := (((CInv_P225 hI :) this).2 rd hn5).2.2.2
  have hn7 : (P 224) this = some dr := h224
  have lt_dr8 := ((hB.1 224 fl_224) this dr hn7).2.1
  have hk_dr := (((CInv_P224 hI :) this).2 dr hn7).1
  have hl1_dr := (((CInv_P224 hI :) this).2 dr hn7).2.1
  have hl2_dr := (((CInv_P224 hI :) this).2 dr hn7).2.2.1
  have hw_dr := (((CInv_P224 hI :) this).2 dr hn7).2.2.2
  have hn9 : (P 221) this = some ra := h221
  obtain ⟨_, lt_ra10, lb_ra10⟩ := (hB.1 221 fl_221) this ra hn9
  have lb_ra10 : la ra = 203 := (lk_221.mp lb_ra10).trans (congrArg (fun z9 => z9 + 3) hpl0)
  have hk_ra := (((CInv_P221 hI :) this).2 ra hn9).1
  have hl1_ra := (((CInv_P221 hI :) this).2 ra hn9).2.1
  have hl2_ra := (((CInv_P221 hI :) this).2 ra hn9).2.2.1
  have hw_ra := (((CInv_P221 hI :) this).2 ra hn9).2.2.2
  have hz_ra : (Int32.ofNat (ln ra)).toInt = ((ln ra : Nat) : Int) := ofN_eq (by first | exact Nat.le_trans hl2_ra (by decide) | omega)
  have lDr := (hpl1 dr h224).2
  have hul : tp < cnt := by omega
  have htl := hlt_this
  have hl2k : ln tb = 2000 := by omega
  refine pw_nne hn1 ?_
  refine pw_b2 (fun r4 c4_G141 hc4 => ?_)
  have hq4 := wp_at (ok_X7_take κ wd G P U V X O kd ln cnt tp (CInv_G141 hI :) (CInv_LN hI :) hk_tp) hc4
  obtain ⟨hg11, f12, f13, f14⟩ : (rng (0) 2000 c4_G141) ∧ (r4.toInt = ((G 141) tp).toInt) ∧ ((c4_G141 tp).toInt = 0) ∧ ((0 ≤ r4.toInt ∧ r4.toInt ≤ 2000)) := hq4
  have hq4 := pwq (fr_X7_take la G P U V X O kd ln cnt tp hB) hc4
  have q4_G141 : (∀ z, (la z < la tp ∨ la tp < la z) → c4_G141 z = (G 141) z) := hq4
  clear hq4
  have tz4 : ∀ z, (z < cnt ∧ (la z < 10 ∨ 10 < la z) ∧ (la z < 300 ∨ 300 < la z) ∧ (la z < 90 ∨ 90 + 8 < la z) ∧ (la z < 200 ∨ 200 + 3 < la z) ∧ (la z < D ∨ D + 5 < la z)) → ((la z < la tp ∨ la tp < la z)) := fun z hz => by omega
  have hfr15 : ∀ z, (z < cnt ∧ (la z < 10 ∨ 10 < la z) ∧ (la z < 300 ∨ 300 < la z) ∧ (la z < 90 ∨ 90 + 8 < la z) ∧ (la z < 200 ∨ 200 + 3 < la z) ∧ (la z < D ∨ D + 5 < la z)) → c4_G141 z = (G 141) z := fun z hz => (q4_G141 z (tz4 z hz)).trans ((fun _ _ => rfl) z hz)
  have hx4 := pwq (fn_X7_take κ wd la G P U V X O kd ln cnt tp (CInv_G141 hI :) (CInv_LN hI :) hk_tp hB lt_tp2) hc4
  obtain ⟨p4_0, p4_1⟩ : (r4 = (G 141) tp) ∧ (c4_G141 tp = 0) := hx4
  have hr4 := congrArg Int32.toInt p4_0
  have hb4 := (CInv_G141 hI :) tp
  refine pw_jE (fun j22 ej22 => ?_)
  refine pw_ite (fun c13 => ?_) (fun c13 => ?_)
  · have c13 := (z_le _ _).mp c13
    refine pw_j0 ej22 ?_
    have qq0 : (p0.toInt ≤ ld ∨ 100000 < p0.toInt → (-2 : Int32).toInt = -2 ∧ (G 222) this = (G 222) this ∧ (G 223) this = (G 223) this ∧ (G 80) rd = (G 80) rd ∧ (G 81) rd = (G 81) rd) := by intro _; exact ⟨by omega, rfl, rfl, rfl, rfl⟩
    have qq1 : (ld < p0.toInt ∧ p0.toInt ≤ 100000 → ∀ x, (parF f n (n + 1) 0 ([], [], [])).1 = some x → (-2 : Int32).toInt = -1 ∧ (G 222) this = (G 222) this ∧ (G 223) this = (G 223) this ∧ ERR (some x) ((G 80) rd) ((G 81) rd)) := by intro h; exfalso; omega
    have qq2 : (ld < p0.toInt ∧ p0.toInt ≤ 100000 → (parF f n (n + 1) 0 ([], [], [])).1 = none → 6 ≤ ((G 222) this).toInt → (-2 : Int32).toInt = -3 ∧ (G 222) this = (G 222) this ∧ (G 223) this = (G 223) this ∧ ((G 80) rd).toInt = 0 ∧ ((G 81) rd).toInt = -1) := by intro h; exfalso; omega
    have qq3 : (ld < p0.toInt ∧ p0.toInt ≤ 100000 → (parF f n (n + 1) 0 ([], [], [])).1 = none → ((G 222) this).toInt < 6 → (-2 : Int32).toInt = ((G 222) this).toInt ∧ ((G 222) this).toInt = ((G 222) this).toInt + 1 ∧ (G 223) this = p0 ∧ ((G 80) rd).toInt = 0 ∧ ((G 81) rd).toInt = -1 ∧ (O 2) ra (Int32.toNatClampNeg ((G 222) this)) = some dr ∧ RFC (va_up G 141 c4_G141) P V O ln la cnt dr p0 (parF f n (n + 1) 0 ([], [], [])).2) := by intro h; exfalso; omega
    have qq4 : (∃ dr1, (P 224) this = some dr1 ∧ DRF (va_up G 141 c4_G141) P ln dr1 ∧ dr1 < cnt ∧ ((la dr1 = la dr ∧ dr1 = dr) ∨ (la dr1 = 100000 + 10 * dr1 ∧ cnt ≤ dr1))) := by exact ⟨dr, h224, ⟨er, br, pr, kp, lr, le, lb, lp, se, sb, sp, hpt⟩, by omega, Or.inl ⟨rfl, rfl⟩⟩
    have qq5 : (∀ q, q ≠ (Int32.toNatClampNeg ((G 222) this)) → (O 2) ra q = (O 2) ra q) ∧ (((G 222) this).toInt = ((G 222) this).toInt → (O 2) ra = (O 2) ra) := by exact ⟨fun _ _ => rfl, fun _ => rfl⟩
    have qq6 : (((G 222) this).toInt = ((G 222) this).toInt + 1 → ∀ b, (P 224) this = some b → cnt ≤ b) := by intro h; exfalso; omega
    exact pw_some ⟨la, (fun _ _ => rfl), hB, qq0, qq1, qq2, qq3, qq4, qq5, qq6⟩
  · have c13 := z_nle c13
    refine pw_ite (fun c19 => ?_) (fun c19 => ?_)
    · have c19 := (z_le _ _).mp c19
      refine pw_nne hn7 ?_
      refine pw_b4 (fun c30_G100 c30_G102 c30_G107 c30_G203 hc30 => ?_)
      have hq30 := wp_at (ok_X5_clear κ wd (va_up G 141 c4_G141) P U V X O kd ln cnt dr p0 (CInv_G102 hI :) (CInv_G200 hI :) (CInv_G203 hI :) (CInv_P103 hI :) (CInv_P104 hI :) (CInv_P105 hI :) (CInv_P108 hI :) (CInv_P201 hI :) (CInv_P202 hI :) (CInv_V1 hI :) (CInv_RA hI :) (CInv_RB hI :) (CInv_RI hI :) (CInv_RM103 hI :) (CInv_RM104 hI :) (CInv_RM108 hI :) (CInv_LN hI :) hk_dr) hc30
      obtain ⟨hg16, hg17, hRB18, f19, f20⟩ : (rng (0) 40 c30_G102) ∧ (rng (0) 100 c30_G203) ∧ (RB κ ln (G 200) c30_G203 (P 202) (V 1)) ∧ (c30_G203 wd = (G 203) wd) ∧ ((c30_G102 dr).toInt = 0) := hq30
      have hq30 := pwq (fr_X5_clear la (va_up G 141 c4_G141) P U V X O kd ln cnt dr p0 hB) hc30
      obtain ⟨q30_G100, q30_G102, q30_G107, q30_G203⟩ : (∀ z, (la z < la dr ∨ la dr + 5 < la z) → c30_G100 z = (G 100) z) ∧ (∀ z, (la z < la dr ∨ la dr + 5 < la z) → c30_G102 z = (G 102) z) ∧ (∀ z, (la z < la dr ∨ la dr + 5 < la z) → c30_G107 z = (G 107) z) ∧ (∀ z, (la z < la dr ∨ la dr + 5 < la z) → c30_G203 z = (G 203) z) := hq30
      have tz30 : ∀ z, (z < cnt ∧ (la z < 10 ∨ 10 < la z) ∧ (la z < 300 ∨ 300 < la z) ∧ (la z < 90 ∨ 90 + 8 < la z) ∧ (la z < 200 ∨ 200 + 3 < la z) ∧ (la z < D ∨ D + 5 < la z)) → ((la z < la dr ∨ la dr + 5 < la z)) := fun z hz => by omega
      have hfr21 : ∀ z, (z < cnt ∧ (la z < 10 ∨ 10 < la z) ∧ (la z < 300 ∨ 300 < la z) ∧ (la z < 90 ∨ 90 + 8 < la z) ∧ (la z < 200 ∨ 200 + 3 < la z) ∧ (la z < D ∨ D + 5 < la z)) → c30_G100 z = (G 100) z := fun z hz => (q30_G100 z (tz30 z hz)).trans ((fun _ _ => rfl) z hz)
      have hfr22 : ∀ z, (z < cnt ∧ (la z < 10 ∨ 10 < la z) ∧ (la z < 300 ∨ 300 < la z) ∧ (la z < 90 ∨ 90 + 8 < la z) ∧ (la z < 200 ∨ 200 + 3 < la z) ∧ (la z < D ∨ D + 5 < la z)) → c30_G102 z = (G 102) z := fun z hz => (q30_G102 z (tz30 z hz)).trans ((fun _ _ => rfl) z hz)
      have hfr23 : ∀ z, (z < cnt ∧ (la z < 10 ∨ 10 < la z) ∧ (la z < 300 ∨ 300 < la z) ∧ (la z < 90 ∨ 90 + 8 < la z) ∧ (la z < 200 ∨ 200 + 3 < la z) ∧ (la z < D ∨ D + 5 < la z)) → c30_G107 z = (G 107) z := fun z hz => (q30_G107 z (tz30 z hz)).trans ((fun _ _ => rfl) z hz)
      have hfr24 : ∀ z, (z < cnt ∧ (la z < 10 ∨ 10 < la z) ∧ (la z < 300 ∨ 300 < la z) ∧ (la z < 90 ∨ 90 + 8 < la z) ∧ (la z < 200 ∨ 200 + 3 < la z) ∧ (la z < D ∨ D + 5 < la z)) → c30_G203 z = (G 203) z := fun z hz => (q30_G203 z (tz30 z hz)).trans ((fun _ _ => rfl) z hz)
      have h830_hpt : PTS P (G 200) ln dr er br pr kp lr le lb lp se sb sp := by exact hpt
      have hx30 := pwq (fn_X5_clear κ wd la (va_up G 141 c4_G141) P U V X O kd ln cnt dr p0 (er) (br) (pr) (kp) (lr) (le) (lb) (lp) (se) (sb) (sp) (CInv_G102 hI :) (CInv_G200 hI :) (CInv_G203 hI :) (CInv_P103 hI :) (CInv_P104 hI :) (CInv_P105 hI :) (CInv_P108 hI :) (CInv_P201 hI :) (CInv_P202 hI :) (CInv_V1 hI :) (CInv_RA hI :) (CInv_RB hI :) (CInv_RI hI :) (CInv_RM103 hI :) (CInv_RM104 hI :) (CInv_RM108 hI :) (CInv_LN hI :) hk_dr hB lt_dr8 h830_hpt) hc30
      obtain ⟨p30_0, p30_1⟩ : ((c30_G102 dr).toInt = 0 ∧ (c30_G107 dr).toInt = 0 ∧ c30_G100 dr = p0) ∧ ((c30_G203 er).toInt = 0 ∧ (c30_G203 br).toInt = 0 ∧ (c30_G203 pr).toInt = 0) := hx30
      have hFL25 : FL wd c30_G203 (V 3) := by exact FL_eq (CInv_FL hI :) f19
      refine pw_nne hn5 ?_
      refine pw_nne hn1 ?_
      refine pw_nne hn3 ?_
      refine pw_nne hn7 ?_
      have hpr49_0 : 0 ≤ r4.toInt := by first | assumption | omega
      have hpr49_1 : ((ln tb : Nat) : Int) ≤ 2000 := by first | assumption | omega
      refine pw_bA9 (fun c49_G c49_P c49_U c49_V c49_X c49_O c49_kd c49_ln c49_cnt v1_49 v2_49 hc49 => ?_)
      have hq49 := wp_at (ok_X4_read κ wd (va_up (va_up (va_up (va_up (va_up G 141 c4_G141) 100 c30_G100) 102 c30_G102) 107 c30_G107) 203 c30_G203) P U V X O kd ln cnt rd tb r4 dr (CInv_i (CInv_G43 hI :) (CInv_G44 hI :) (CInv_G45 hI :) (CInv_G60 hI :) (CInv_G83 hI :) (CInv_G84 hI :) (CInv_G85 hI :) (CInv_G87 hI :) (CInv_G88 hI :) hg16 (CInv_G125 hI :) (CInv_G126 hI :) (CInv_G127 hI :) hg11 (CInv_G160 hI :) (CInv_G161 hI :) (CInv_G162 hI :) (CInv_G165 hI :) (CInv_G166 hI :) (CInv_G183 hI :) (CInv_G200 hI :) hg17 (CInv_G222 hI :) (CInv_G231 hI :) (CInv_G233 hI :) (CInv_P0 hI :) (CInv_P1 hI :) (CInv_P2 hI :) (CInv_P3 hI :) (CInv_P4 hI :) (CInv_P5 hI :) (CInv_P20 hI :) (CInv_P21 hI :) (CInv_P22 hI :) (CInv_P23 hI :) (CInv_P40 hI :) (CInv_P41 hI :) (CInv_P42 hI :) (CInv_P61 hI :) (CInv_P62 hI :) (CInv_P63 hI :) (CInv_P64 hI :) (CInv_P65 hI :) (CInv_P66 hI :) (CInv_P82 hI :) (CInv_P101 hI :) (CInv_P103 hI :) (CInv_P104 hI :) (CInv_P105 hI :) (CInv_P106 hI :) (CInv_P108 hI :) (CInv_P109 hI :) (CInv_P110 hI :) (CInv_P120 hI :) (CInv_P121 hI :) (CInv_P122 hI :) (CInv_P123 hI :) (CInv_P140 hI :) (CInv_P164 hI :) (CInv_P180 hI :) (CInv_P181 hI :) (CInv_P182 hI :) (CInv_P185 hI :) (CInv_P186 hI :) (CInv_P187 hI :) (CInv_P201 hI :) (CInv_P202 hI :) (CInv_P220 hI :) (CInv_P221 hI :) (CInv_P224 hI :) (CInv_P225 hI :) (CInv_P226 hI :) (CInv_P227 hI :) (CInv_P228 hI :) (CInv_P229 hI :) (CInv_P230 hI :) (CInv_P232 hI :) (CInv_P234 hI :) (CInv_P235 hI :) (CInv_P236 hI :) (CInv_V1 hI :) (CInv_V2 hI :) (CInv_V3 hI :) (CInv_V9 hI :) (CInv_O0 hI :) (CInv_O1 hI :) (CInv_O2 hI :) (CInv_RA hI :) hRB18 (CInv_RI hI :) (CInv_RM103 hI :) (CInv_RM104 hI :) (CInv_RM108 hI :) (CInv_LN hI :) hFL25 (CInv_W0 hI :) (CInv_KC hI :) (CInv_WK hI :)) hk_rd hk_tb hk_dr hpr49_0 hpr49_1) hc49
      obtain ⟨κ49_25, hCI49, hxx49, hcc27, hfr28, hfr29, hfr30, hfr31, hfr32, hfr33, hfr34, hfr35, f36, f37, f38⟩ : ∃ κ1 : Nat → Nat, (CInv κ1 wd c49_G c49_P c49_V c49_O c49_ln c49_cnt) ∧ (∀ a, κ a ≠ 0 → κ1 a = κ a) ∧ (cnt ≤ c49_cnt) ∧ ((∀ a, κ a ≠ 0 → (c49_P 220) a = (P 220) a)) ∧ ((∀ a, κ a ≠ 0 → (c49_P 229) a = (P 229) a)) ∧ ((∀ a, κ a ≠ 0 → (c49_P 3) a = (P 3) a)) ∧ ((∀ a, κ a ≠ 0 → (c49_G 141) a = c4_G141 a)) ∧ ((∀ a, κ a ≠ 0 → (c49_P 0) a = (P 0) a)) ∧ ((∀ a, κ a ≠ 0 → (c49_V 3) a = (V 3) a)) ∧ ((∀ a, κ a ≠ 0 → (c49_G 160) a = (G 160) a)) ∧ ((∀ a, κ a ≠ 0 → c49_ln a = ln a)) ∧ ((c49_G 203) wd = c30_G203 wd) ∧ (((v1_49 : Nat) : Int) ≤ 10 * r4.toInt + 10) ∧ (((v2_49 : Nat) : Int) ≤ 118 * r4.toInt + 118) := hq49
      have kx39 : ∀ a, κ a ≠ 0 → κ49_25 a = κ a := hxx49
      have hk40 : κ49_25 this = 12 := kxk hxx49 hk_this (by decide)
      have hq49 := pwq (fr_X4_read la (va_up (va_up (va_up (va_up (va_up G 141 c4_G141) 100 c30_G100) 102 c30_G102) 107 c30_G107) 203 c30_G203) P U V X O kd ln cnt rd tb r4 dr hB lt_rd6 lt_tb4 lt_dr8) hc49
      obtain ⟨la49_f, agf49, hBf49, ccf49, fG49, fP49, fU49, fV49, fX49, fO49, fl49⟩ : ∃ la9 : Nat → Nat, (∀ z, z < cnt → la9 z = la z) ∧ LB la9 c49_cnt c49_P ∧ cnt ≤ c49_cnt ∧ FRM cnt [24, 25, 80, 81, 83, 84, 85, 86, 87, 88, 102, 107, 203] (fun z => (la z < la rd ∨ la rd < la z) ∧ (la z < la dr ∨ la dr + 3 < la z) ∧ (la z < la dr + 5 ∨ la dr + 5 < la z)) (va_up (va_up (va_up (va_up (va_up G 141 c4_G141) 100 c30_G100) 102 c30_G102) 107 c30_G107) 203 c30_G203) c49_G ∧ FRM cnt [22, 23, 82] (fun z => (la z < la rd ∨ la rd < la z) ∧ (la z < la dr ∨ la dr + 3 < la z) ∧ (la z < la dr + 5 ∨ la dr + 5 < la z)) P c49_P ∧ FRM cnt [] (fun z => (la z < la rd ∨ la rd < la z) ∧ (la z < la dr ∨ la dr + 3 < la z) ∧ (la z < la dr + 5 ∨ la dr + 5 < la z)) U c49_U ∧ FRM cnt [0, 1, 10] (fun z => (la z < la rd ∨ la rd < la z) ∧ (la z < la dr ∨ la dr + 3 < la z) ∧ (la z < la dr + 5 ∨ la dr + 5 < la z)) V c49_V ∧ FRM cnt [] (fun z => (la z < la rd ∨ la rd < la z) ∧ (la z < la dr ∨ la dr + 3 < la z) ∧ (la z < la dr + 5 ∨ la dr + 5 < la z)) X c49_X ∧ FRM cnt [0] (fun z => (la z < la rd ∨ la rd < la z) ∧ (la z < la dr ∨ la dr + 3 < la z) ∧ (la z < la dr + 5 ∨ la dr + 5 < la z)) O c49_O ∧ (∀ z, z < cnt → c49_ln z = ln z) := hq49
      have h849_hpt : PTS P (G 200) ln dr er br pr kp lr le lb lp se sb sp := by exact hpt
      have h849_hd : (entV (c30_G203 er) ((V 0) le) ((V 1) se) ((V 0) lb) ((V 1) sb) ((V 10) kp), rwW (c30_G203 pr) ((V 0) lp) ((V 1) sp) 16, lwsV (c30_G102 dr) ((O 0) lr) (P 20) (P 21) (P 22) (P 23) (G 24) (G 25) (V 0) ln) = ([], [], []) := by exact Prod.ext (ent_0 p30_1.1) (Prod.ext (rw_0 p30_1.2.2) (lws_0 p30_0.1))
      have h849_hcb : (c30_G203 br).toInt = (c30_G203 er).toInt := by omega
      have h849_hkc : (c30_G107 dr).toInt = 0 := by omega
      have h849_hlw : LWL (c30_G102 dr) ((O 0) lr) la cnt (la dr + 5) := by exact LWL_0 p30_0.1
      have h849_hf : (V 0) tb = f := by exact hf
      have h849_hn : Int32.toNatClampNeg r4 = n := by rw [p4_0]; exact hn
      have h849_hle : r4.toInt ≤ ((ln tb : Nat) : Int) := by omega
      have h849_hlx : la tb = 11 := by omega
      have h849_hld : 100000 ≤ la dr := by omega
      have h849_hlh : la rd = 300 := by omega
      have hx49 := pwq (fn_X4_read κ wd la (va_up (va_up (va_up (va_up (va_up G 141 c4_G141) 100 c30_G100) 102 c30_G102) 107 c30_G107) 203 c30_G203) P U V X O kd ln cnt rd tb r4 dr (f) (n) (er) (br) (pr) (kp) (lr) (le) (lb) (lp) (se) (sb) (sp) (CInv_i (CInv_G43 hI :) (CInv_G44 hI :) (CInv_G45 hI :) (CInv_G60 hI :) (CInv_G83 hI :) (CInv_G84 hI :) (CInv_G85 hI :) (CInv_G87 hI :) (CInv_G88 hI :) hg16 (CInv_G125 hI :) (CInv_G126 hI :) (CInv_G127 hI :) hg11 (CInv_G160 hI :) (CInv_G161 hI :) (CInv_G162 hI :) (CInv_G165 hI :) (CInv_G166 hI :) (CInv_G183 hI :) (CInv_G200 hI :) hg17 (CInv_G222 hI :) (CInv_G231 hI :) (CInv_G233 hI :) (CInv_P0 hI :) (CInv_P1 hI :) (CInv_P2 hI :) (CInv_P3 hI :) (CInv_P4 hI :) (CInv_P5 hI :) (CInv_P20 hI :) (CInv_P21 hI :) (CInv_P22 hI :) (CInv_P23 hI :) (CInv_P40 hI :) (CInv_P41 hI :) (CInv_P42 hI :) (CInv_P61 hI :) (CInv_P62 hI :) (CInv_P63 hI :) (CInv_P64 hI :) (CInv_P65 hI :) (CInv_P66 hI :) (CInv_P82 hI :) (CInv_P101 hI :) (CInv_P103 hI :) (CInv_P104 hI :) (CInv_P105 hI :) (CInv_P106 hI :) (CInv_P108 hI :) (CInv_P109 hI :) (CInv_P110 hI :) (CInv_P120 hI :) (CInv_P121 hI :) (CInv_P122 hI :) (CInv_P123 hI :) (CInv_P140 hI :) (CInv_P164 hI :) (CInv_P180 hI :) (CInv_P181 hI :) (CInv_P182 hI :) (CInv_P185 hI :) (CInv_P186 hI :) (CInv_P187 hI :) (CInv_P201 hI :) (CInv_P202 hI :) (CInv_P220 hI :) (CInv_P221 hI :) (CInv_P224 hI :) (CInv_P225 hI :) (CInv_P226 hI :) (CInv_P227 hI :) (CInv_P228 hI :) (CInv_P229 hI :) (CInv_P230 hI :) (CInv_P232 hI :) (CInv_P234 hI :) (CInv_P235 hI :) (CInv_P236 hI :) (CInv_V1 hI :) (CInv_V2 hI :) (CInv_V3 hI :) (CInv_V9 hI :) (CInv_O0 hI :) (CInv_O1 hI :) (CInv_O2 hI :) (CInv_RA hI :) hRB18 (CInv_RI hI :) (CInv_RM103 hI :) (CInv_RM104 hI :) (CInv_RM108 hI :) (CInv_LN hI :) hFL25 (CInv_W0 hI :) (CInv_KC hI :) (CInv_WK hI :)) hk_rd hk_tb hk_dr hpr49_0 hpr49_1 hB lt_rd6 lt_tb4 lt_dr8 h849_hpt h849_hd h849_hcb h849_hkc h849_hlw h849_hf h849_hn h849_hle h849_hlx h849_hld h849_hlh) hc49
      obtain ⟨la49, ag49, hB49, p49_0, p49_1⟩ : ∃ la9 : Nat → Nat, (∀ z, z < cnt → la9 z = la z) ∧ LB la9 c49_cnt c49_P ∧ (id (((parF f n (n + 1) 0 ([], [], [])).1 = none → ((c49_G 80) rd).toInt = 0 ∧ ((c49_G 81) rd).toInt = -1 ∧ (entV ((c49_G 203) er) ((c49_V 0) le) ((c49_V 1) se) ((c49_V 0) lb) ((c49_V 1) sb) ((c49_V 10) kp), rwW ((c49_G 203) pr) ((c49_V 0) lp) ((c49_V 1) sp) 16, lwsV ((c49_G 102) dr) ((c49_O 0) lr) (c49_P 20) (c49_P 21) (c49_P 22) (c49_P 23) (c49_G 24) (c49_G 25) (c49_V 0) c49_ln) = (parF f n (n + 1) 0 ([], [], [])).2 ∧ ((c49_G 203) br).toInt = ((c49_G 203) er).toInt ∧ ((c49_G 107) dr).toInt = ((kct (parF f n (n + 1) 0 ([], [], [])).2.1 : Nat) : Int) ∧ LWL ((c49_G 102) dr) ((c49_O 0) lr) la9 c49_cnt (la dr + 5)))) ∧ (id ((∀ x, (parF f n (n + 1) 0 ([], [], [])).1 = some x → ERR (some x) ((c49_G 80) rd) ((c49_G 81) rd)))) := hx49
      clear h849_hlh h849_hld h849_hlx h849_hle h849_hn h849_hf h849_hlw h849_hkc h849_hcb h849_hd h849_hpt agf49 hBf49 hxx49 hfr28 hfr29 hfr30 hfr31 hfr32 hfr33 hfr34 hfr35 hc49 hpr49_1 hpr49_0 hFL25 h830_hpt tz30 q30_G100 q30_G102 q30_G107 q30_G203 hg16 hg17 hRB18 hc30 tz4 q4_G141 hg11 hc4
      have gl_41 : la49 this = 200 := (ag49 this hlt_this).trans hpl0
      have lt42 : this < c49_cnt := Nat.lt_of_lt_of_le hlt_this ccf49
      have gl_43 : la49 tp = 10 := (ag49 tp lt_tp2).trans lb_tp2
      have lt44 : tp < c49_cnt := Nat.lt_of_lt_of_le lt_tp2 ccf49
      have gl_45 : la49 tb = 11 := (ag49 tb lt_tb4).trans lb_tb4
      have lt46 : tb < c49_cnt := Nat.lt_of_lt_of_le lt_tb4 ccf49
      have gl_47 : la49 rd = 300 := (ag49 rd lt_rd6).trans lb_rd6
      have lt48 : rd < c49_cnt := Nat.lt_of_lt_of_le lt_rd6 ccf49
      have gl_49 : la49 dr = la dr := ag49 dr lt_dr8
      have lt50 : dr < c49_cnt := Nat.lt_of_lt_of_le lt_dr8 ccf49
      have gl_51 : la49 ra = 203 := (ag49 ra lt_ra10).trans lb_ra10
      have lt52 : ra < c49_cnt := Nat.lt_of_lt_of_le lt_ra10 ccf49
      have hag49 : ∀ z, z < cnt → la49 z = la z := fun z hz => (ag49 z (Nat.lt_of_lt_of_le hz (Nat.le_refl _))).trans (rfl)
      have hle49 : cnt ≤ cnt := (Nat.le_refl _)
      have ctf49 : ∀ z, z < cnt → ((la z < 10 ∨ 10 < la z) ∧ (la z < 300 ∨ 300 < la z) ∧ (la z < 90 ∨ 90 + 8 < la z) ∧ (la z < 200 ∨ 200 + 3 < la z) ∧ (la z < D ∨ D + 5 < la z)) → ((la z < la rd ∨ la rd < la z) ∧ (la z < la dr ∨ la dr + 3 < la z) ∧ (la z < la dr + 5 ∨ la dr + 5 < la z)) := fun z h0 hz => by have q2 := hB.2 z h0; omega
      have hF49_G : FRM cnt [24, 25, 80, 81, 83, 84, 85, 86, 87, 88, 100, 102, 107, 141, 183, 203, 222, 223] (fun z => (la z < 10 ∨ 10 < la z) ∧ (la z < 300 ∨ 300 < la z) ∧ (la z < 90 ∨ 90 + 8 < la z) ∧ (la z < 200 ∨ 200 + 3 < la z) ∧ (la z < D ∨ D + 5 < la z)) G c49_G := FRM_trans (FRM_set (FRM_set (FRM_set (FRM_set (FRM_set FRM_refl (by decide) (fun z h1 h2 => hfr15 z ⟨h1, h2⟩)) (by decide) (fun z h1 h2 => hfr21 z ⟨h1, h2⟩)) (by decide) (fun z h1 h2 => hfr22 z ⟨h1, h2⟩)) (by decide) (fun z h1 h2 => hfr23 z ⟨h1, h2⟩)) (by decide) (fun z h1 h2 => hfr24 z ⟨h1, h2⟩)) fG49 hle49 (by decide) (ctf49)
      have hF49_P : FRM cnt [22, 23, 82, 181, 182, 224] (fun z => (la z < 10 ∨ 10 < la z) ∧ (la z < 300 ∨ 300 < la z) ∧ (la z < 90 ∨ 90 + 8 < la z) ∧ (la z < 200 ∨ 200 + 3 < la z) ∧ (la z < D ∨ D + 5 < la z)) P c49_P := FRM_trans FRM_refl fP49 hle49 (by decide) (ctf49)
      have hF49_U : FRM cnt [184] (fun z => (la z < 10 ∨ 10 < la z) ∧ (la z < 300 ∨ 300 < la z) ∧ (la z < 90 ∨ 90 + 8 < la z) ∧ (la z < 200 ∨ 200 + 3 < la z) ∧ (la z < D ∨ D + 5 < la z)) U c49_U := FRM_trans FRM_refl fU49 hle49 (by decide) (ctf49)
      have hF49_V : FRM cnt [0, 1, 10, 11] (fun z => (la z < 10 ∨ 10 < la z) ∧ (la z < 300 ∨ 300 < la z) ∧ (la z < 90 ∨ 90 + 8 < la z) ∧ (la z < 200 ∨ 200 + 3 < la z) ∧ (la z < D ∨ D + 5 < la z)) V c49_V := FRM_trans FRM_refl fV49 hle49 (by decide) (ctf49)
      have hF49_X : FRM cnt [0] (fun z => (la z < 10 ∨ 10 < la z) ∧ (la z < 300 ∨ 300 < la z) ∧ (la z < 90 ∨ 90 + 8 < la z) ∧ (la z < 200 ∨ 200 + 3 < la z) ∧ (la z < D ∨ D + 5 < la z)) X c49_X := FRM_trans FRM_refl fX49 hle49 (by decide) (ctf49)
      have hF49_O : FRM cnt [0, 2] (fun z => (la z < 10 ∨ 10 < la z) ∧ (la z < 300 ∨ 300 < la z) ∧ (la z < 90 ∨ 90 + 8 < la z) ∧ (la z < 200 ∨ 200 + 3 < la z) ∧ (la z < D ∨ D + 5 < la z)) O c49_O := FRM_trans FRM_refl fO49 hle49 (by decide) (ctf49)
      have hlnn49 : ∀ z, z < cnt → c49_ln z = ln z := fun z hz => (fl49 z (Nat.lt_of_lt_of_le hz hle49)).trans (rfl)
      clear fU49 fV49 fX49 hfr24 hfr23 hfr22 hfr21 hfr15
      have hn53 : (c49_P 220) this = some tp := (fP49 220 this hlt_this (fun q => absurd q (by decide))).trans hn1
      have lt_tp54 := ((hB49.1 220 fl_220) this tp hn53).2.1
      have hk_tp := (((CInv_P220 hCI49 :) this).2 tp hn53).1
      have hl1_tp := (((CInv_P220 hCI49 :) this).2 tp hn53).2.1
      have hl2_tp := (((CInv_P220 hCI49 :) this).2 tp hn53).2.2.1
      have hw_tp := (((CInv_P220 hCI49 :) this).2 tp hn53).2.2.2
      have hn55 : (c49_P 140) tp = some tb := (fP49 140 tp lt_tp2 (fun q => absurd q (by decide))).trans hn3
      have lt_tb56 := ((hB49.1 140 fl_140) tp tb hn55).2.1
      have hk_tb := (((CInv_P140 hCI49 :) tp).2 tb hn55).1
      have hl1_tb := (((CInv_P140 hCI49 :) tp).2 tb hn55).2.1
      have hl2_tb := (((CInv_P140 hCI49 :) tp).2 tb hn55).2.2.1
      have hw_tb := (((CInv_P140 hCI49 :) tp).2 tb hn55).2.2.2
      have hn57 : (c49_P 225) this = some rd := (fP49 225 this hlt_this (fun q => absurd q (by decide))).trans hn5
      have lt_rd58 := ((hB49.1 225 fl_225) this rd hn57).2.1
      have hk_rd := (((CInv_P225 hCI49 :) this).2 rd hn57).1
      have hl1_rd := (((CInv_P225 hCI49 :) this).2 rd hn57).2.1
      have hl2_rd := (((CInv_P225 hCI49 :) this).2 rd hn57).2.2.1
      have hw_rd := (((CInv_P225 hCI49 :) this).2 rd hn57).2.2.2
      have hn59 : (c49_P 224) this = some dr := (fP49 224 this hlt_this (fun q => absurd q (by decide))).trans hn7
      have lt_dr60 := ((hB49.1 224 fl_224) this dr hn59).2.1
      have hk_dr := (((CInv_P224 hCI49 :) this).2 dr hn59).1
      have hl1_dr := (((CInv_P224 hCI49 :) this).2 dr hn59).2.1
      have hl2_dr := (((CInv_P224 hCI49 :) this).2 dr hn59).2.2.1
      have hw_dr := (((CInv_P224 hCI49 :) this).2 dr hn59).2.2.2
      have hn61 : (c49_P 221) this = some ra := (fP49 221 this hlt_this (fun q => absurd q (by decide))).trans hn9
      have lt_ra62 := ((hB49.1 221 fl_221) this ra hn61).2.1
      have hk_ra := (((CInv_P221 hCI49 :) this).2 ra hn61).1
      have hl1_ra := (((CInv_P221 hCI49 :) this).2 ra hn61).2.1
      have hl2_ra := (((CInv_P221 hCI49 :) this).2 ra hn61).2.2.1
      have hw_ra := (((CInv_P221 hCI49 :) this).2 ra hn61).2.2.2
      have h222 : (c49_G 222) this = (G 222) this := fG49 222 this (by omega) (fun q => absurd q (by decide))
      have h223 : (c49_G 223) this = (G 223) this := fG49 223 this (by omega) (fun q => absurd q (by decide))
      have h222i := congrArg Int32.toInt h222
      have hO49 : (c49_O 2) ra = (O 2) ra := fO49 2 ra (by omega) (fun q => absurd q (by decide))
      have hpt49 : PTS c49_P (c49_G 200) c49_ln dr er br pr kp lr le lb lp se sb sp := by obtain ⟨⟨c_er, l_er⟩, ⟨c_br, l_br⟩, ⟨c_pr, l_pr⟩, ⟨c_kp, l_kp⟩, ⟨c_lr, l_lr⟩, ⟨c_le, l_le⟩, ⟨c_lb, l_lb⟩, ⟨c_lp, l_lp⟩, ⟨c_se, l_se⟩, ⟨c_sb, l_sb⟩, ⟨c_sp, l_sp⟩⟩ := pts_lab hpt hB; exact pts_fr hpt (fun g z hg hz => fP49 g z hz (fun q => absurd q (by rcases hg with h | h | h | h | h | h | h <;> subst h <;> decide))) (fun z hz => fG49 200 z hz (fun q => absurd q (by decide))) (fun z hz => fl49 z hz) (by omega) (by omega) (by omega) (by omega) (by omega) (by omega) (by omega)
      refine pw_nne hn57 ?_
      refine pw_ite (fun c59 => ?_) (fun c59 => ?_)
      · have c59 := congrArg Int32.toInt c59
        have hR : (parF f n (n + 1) 0 ([], [], [])).1 = none := by by_cases hq : (parF f n (n + 1) 0 ([], [], [])).1 = none; (exact hq); (exfalso; obtain ⟨x, hx⟩ := Option.ne_none_iff_exists'.mp hq; have h9 := (p49_1 x hx).2.1; omega)
        obtain ⟨b1, b2, b3, b4, b5, b6⟩ := p49_0 hR
        have hRFC : RFC c49_G c49_P c49_V c49_O c49_ln la49 c49_cnt dr p0 (parF f n (n + 1) 0 ([], [], [])).2 := ⟨er, br, pr, kp, lr, le, lb, lp, se, sb, sp, hpt49, b3, by rw [ag49 dr (by omega)]; exact b6, b4, b5, (fG49 100 dr (by omega) (fun q => absurd q (by decide))).trans p30_0.2.2⟩
        have b63 := (CInv_G222 hCI49 :) this
        refine pw_ite (fun c70 => ?_) (fun c70 => ?_)
        · have c70 := (z_lt _ _).mp c70
          refine pw_nn (fun a77 hn_a77 => ?_)
          have lt_a7764 := ((hB49.1 226 fl_226) this a77 hn_a77).2.1
          have lb_a7764 : la49 a77 = 90 := lk_226.mp ((hB49.1 226 fl_226) this a77 hn_a77).2.2
          have hk_a77 := (((CInv_P226 hCI49 :) this).2 a77 hn_a77).1
          have hl1_a77 := (((CInv_P226 hCI49 :) this).2 a77 hn_a77).2.1
          have hl2_a77 := (((CInv_P226 hCI49 :) this).2 a77 hn_a77).2.2.1
          have hw_a77 := (((CInv_P226 hCI49 :) this).2 a77 hn_a77).2.2.2
          refine pw_nne hn59 ?_
          refine pw_b9 (fun c84_G183 c84_G203 c84_P181 c84_P182 c84_U184 c84_V0 c84_V1 c84_V11 c84_X0 hc84 => ?_)
          have hq84 := wp_at (ok_X9_turnParts κ49_25 wd c49_G c49_P c49_U c49_V c49_X c49_O c49_kd c49_ln c49_cnt a77 dr (CInv_G102 hCI49 :) (CInv_G183 hCI49 :) (CInv_G200 hCI49 :) (CInv_G203 hCI49 :) (CInv_P20 hCI49 :) (CInv_P21 hCI49 :) (CInv_P22 hCI49 :) (CInv_P23 hCI49 :) (CInv_P101 hCI49 :) (CInv_P103 hCI49 :) (CInv_P108 hCI49 :) (CInv_P109 hCI49 :) (CInv_P110 hCI49 :) (CInv_P181 hCI49 :) (CInv_P182 hCI49 :) (CInv_P201 hCI49 :) (CInv_P202 hCI49 :) (CInv_V1 hCI49 :) (CInv_O0 hCI49 :) (CInv_RA hCI49 :) (CInv_RB hCI49 :) (CInv_RI hCI49 :) (CInv_RM103 hCI49 :) (CInv_RM108 hCI49 :) (CInv_LN hCI49 :) hk_a77 hk_dr) hc84
          obtain ⟨hg65, hg66, hg67, hg68, hg69, hRB70, f71⟩ : (rng (0) 40 c84_G183) ∧ (rng (0) 100 c84_G203) ∧ (PB κ49_25 c49_ln wd 10 100 40 40 0 c84_P181) ∧ (PB κ49_25 c49_ln wd 10 100 40 40 0 c84_P182) ∧ (rng2 (0) 24 c84_V1) ∧ (RB κ49_25 c49_ln (c49_G 200) c84_G203 (c49_P 202) c84_V1) ∧ (c84_G203 wd = (c49_G 203) wd) := hq84
          have hq84 := pwq (fr_X9_turnParts la49 c49_G c49_P c49_U c49_V c49_X c49_O c49_kd c49_ln c49_cnt a77 dr hB49 lt_a7764) hc84
          obtain ⟨q84_G183, q84_G203, q84_P181, q84_P182, q84_U184, q84_V0, q84_V1, q84_V11, q84_X0, ql84_181, ql84_182⟩ : (∀ z, (la49 z < la49 a77 ∨ la49 a77 + 8 < la49 z) ∧ (la49 z < la49 dr ∨ la49 dr + 5 < la49 z) → c84_G183 z = (c49_G 183) z) ∧ (∀ z, (la49 z < la49 a77 ∨ la49 a77 + 8 < la49 z) ∧ (la49 z < la49 dr ∨ la49 dr + 5 < la49 z) → c84_G203 z = (c49_G 203) z) ∧ (∀ z, (la49 z < la49 a77 ∨ la49 a77 + 8 < la49 z) ∧ (la49 z < la49 dr ∨ la49 dr + 5 < la49 z) → c84_P181 z = (c49_P 181) z) ∧ (∀ z, (la49 z < la49 a77 ∨ la49 a77 + 8 < la49 z) ∧ (la49 z < la49 dr ∨ la49 dr + 5 < la49 z) → c84_P182 z = (c49_P 182) z) ∧ (∀ z, (la49 z < la49 a77 ∨ la49 a77 + 8 < la49 z) ∧ (la49 z < la49 dr ∨ la49 dr + 5 < la49 z) → c84_U184 z = (c49_U 184) z) ∧ (∀ z, (la49 z < la49 a77 ∨ la49 a77 + 8 < la49 z) ∧ (la49 z < la49 dr ∨ la49 dr + 5 < la49 z) → c84_V0 z = (c49_V 0) z) ∧ (∀ z, (la49 z < la49 a77 ∨ la49 a77 + 8 < la49 z) ∧ (la49 z < la49 dr ∨ la49 dr + 5 < la49 z) → c84_V1 z = (c49_V 1) z) ∧ (∀ z, (la49 z < la49 a77 ∨ la49 a77 + 8 < la49 z) ∧ (la49 z < la49 dr ∨ la49 dr + 5 < la49 z) → c84_V11 z = (c49_V 11) z) ∧ (∀ z, (la49 z < la49 a77 ∨ la49 a77 + 8 < la49 z) ∧ (la49 z < la49 dr ∨ la49 dr + 5 < la49 z) → c84_X0 z = (c49_X 0) z) ∧ LC 181 la49 c49_cnt c84_P181 ∧ LC 182 la49 c49_cnt c84_P182 := hq84
          have tz84 : ∀ z, (z < cnt ∧ (la z < 10 ∨ 10 < la z) ∧ (la z < 300 ∨ 300 < la z) ∧ (la z < 90 ∨ 90 + 8 < la z) ∧ (la z < 200 ∨ 200 + 3 < la z) ∧ (la z < D ∨ D + 5 < la z)) → ((la49 z < la49 a77 ∨ la49 a77 + 8 < la49 z) ∧ (la49 z < la49 dr ∨ la49 dr + 5 < la49 z)) := fun z hz => by have q1 := hag49 z hz.1; have q2 := hB.2 z hz.1; omega
          have hfr72 : ∀ z, (z < cnt ∧ (la z < 10 ∨ 10 < la z) ∧ (la z < 300 ∨ 300 < la z) ∧ (la z < 90 ∨ 90 + 8 < la z) ∧ (la z < 200 ∨ 200 + 3 < la z) ∧ (la z < D ∨ D + 5 < la z)) → c84_G183 z = (G 183) z := fun z hz => (q84_G183 z (tz84 z hz)).trans ((fun (z : Nat) (hz : (z < cnt ∧ (la z < 10 ∨ 10 < la z) ∧ (la z < 300 ∨ 300 < la z) ∧ (la z < 90 ∨ 90 + 8 < la z) ∧ (la z < 200 ∨ 200 + 3 < la z) ∧ (la z < D ∨ D + 5 < la z))) => hF49_G 183 z hz.1 (fun _ => hz.2)) z hz)
          have hfr73 : ∀ z, (z < cnt ∧ (la z < 10 ∨ 10 < la z) ∧ (la z < 300 ∨ 300 < la z) ∧ (la z < 90 ∨ 90 + 8 < la z) ∧ (la z < 200 ∨ 200 + 3 < la z) ∧ (la z < D ∨ D + 5 < la z)) → c84_G203 z = (G 203) z := fun z hz => (q84_G203 z (tz84 z hz)).trans ((fun (z : Nat) (hz : (z < cnt ∧ (la z < 10 ∨ 10 < la z) ∧ (la z < 300 ∨ 300 < la z) ∧ (la z < 90 ∨ 90 + 8 < la z) ∧ (la z < 200 ∨ 200 + 3 < la z) ∧ (la z < D ∨ D + 5 < la z))) => hF49_G 203 z hz.1 (fun _ => hz.2)) z hz)
          have hfr74 : ∀ z, (z < cnt ∧ (la z < 10 ∨ 10 < la z) ∧ (la z < 300 ∨ 300 < la z) ∧ (la z < 90 ∨ 90 + 8 < la z) ∧ (la z < 200 ∨ 200 + 3 < la z) ∧ (la z < D ∨ D + 5 < la z)) → c84_P181 z = (P 181) z := fun z hz => (q84_P181 z (tz84 z hz)).trans ((fun (z : Nat) (hz : (z < cnt ∧ (la z < 10 ∨ 10 < la z) ∧ (la z < 300 ∨ 300 < la z) ∧ (la z < 90 ∨ 90 + 8 < la z) ∧ (la z < 200 ∨ 200 + 3 < la z) ∧ (la z < D ∨ D + 5 < la z))) => hF49_P 181 z hz.1 (fun _ => hz.2)) z hz)
          have hfr75 : ∀ z, (z < cnt ∧ (la z < 10 ∨ 10 < la z) ∧ (la z < 300 ∨ 300 < la z) ∧ (la z < 90 ∨ 90 + 8 < la z) ∧ (la z < 200 ∨ 200 + 3 < la z) ∧ (la z < D ∨ D + 5 < la z)) → c84_P182 z = (P 182) z := fun z hz => (q84_P182 z (tz84 z hz)).trans ((fun (z : Nat) (hz : (z < cnt ∧ (la z < 10 ∨ 10 < la z) ∧ (la z < 300 ∨ 300 < la z) ∧ (la z < 90 ∨ 90 + 8 < la z) ∧ (la z < 200 ∨ 200 + 3 < la z) ∧ (la z < D ∨ D + 5 < la z))) => hF49_P 182 z hz.1 (fun _ => hz.2)) z hz)
          have hfr76 : ∀ z, (z < cnt ∧ (la z < 10 ∨ 10 < la z) ∧ (la z < 300 ∨ 300 < la z) ∧ (la z < 90 ∨ 90 + 8 < la z) ∧ (la z < 200 ∨ 200 + 3 < la z) ∧ (la z < D ∨ D + 5 < la z)) → c84_U184 z = (U 184) z := fun z hz => (q84_U184 z (tz84 z hz)).trans ((fun (z : Nat) (hz : (z < cnt ∧ (la z < 10 ∨ 10 < la z) ∧ (la z < 300 ∨ 300 < la z) ∧ (la z < 90 ∨ 90 + 8 < la z) ∧ (la z < 200 ∨ 200 + 3 < la z) ∧ (la z < D ∨ D + 5 < la z))) => hF49_U 184 z hz.1 (fun _ => hz.2)) z hz)
          have hfr77 : ∀ z, (z < cnt ∧ (la z < 10 ∨ 10 < la z) ∧ (la z < 300 ∨ 300 < la z) ∧ (la z < 90 ∨ 90 + 8 < la z) ∧ (la z < 200 ∨ 200 + 3 < la z) ∧ (la z < D ∨ D + 5 < la z)) → c84_V0 z = (V 0) z := fun z hz => (q84_V0 z (tz84 z hz)).trans ((fun (z : Nat) (hz : (z < cnt ∧ (la z < 10 ∨ 10 < la z) ∧ (la z < 300 ∨ 300 < la z) ∧ (la z < 90 ∨ 90 + 8 < la z) ∧ (la z < 200 ∨ 200 + 3 < la z) ∧ (la z < D ∨ D + 5 < la z))) => hF49_V 0 z hz.1 (fun _ => hz.2)) z hz)
          have hfr78 : ∀ z, (z < cnt ∧ (la z < 10 ∨ 10 < la z) ∧ (la z < 300 ∨ 300 < la z) ∧ (la z < 90 ∨ 90 + 8 < la z) ∧ (la z < 200 ∨ 200 + 3 < la z) ∧ (la z < D ∨ D + 5 < la z)) → c84_V1 z = (V 1) z := fun z hz => (q84_V1 z (tz84 z hz)).trans ((fun (z : Nat) (hz : (z < cnt ∧ (la z < 10 ∨ 10 < la z) ∧ (la z < 300 ∨ 300 < la z) ∧ (la z < 90 ∨ 90 + 8 < la z) ∧ (la z < 200 ∨ 200 + 3 < la z) ∧ (la z < D ∨ D + 5 < la z))) => hF49_V 1 z hz.1 (fun _ => hz.2)) z hz)
          have hfr79 : ∀ z, (z < cnt ∧ (la z < 10 ∨ 10 < la z) ∧ (la z < 300 ∨ 300 < la z) ∧ (la z < 90 ∨ 90 + 8 < la z) ∧ (la z < 200 ∨ 200 + 3 < la z) ∧ (la z < D ∨ D + 5 < la z)) → c84_V11 z = (V 11) z := fun z hz => (q84_V11 z (tz84 z hz)).trans ((fun (z : Nat) (hz : (z < cnt ∧ (la z < 10 ∨ 10 < la z) ∧ (la z < 300 ∨ 300 < la z) ∧ (la z < 90 ∨ 90 + 8 < la z) ∧ (la z < 200 ∨ 200 + 3 < la z) ∧ (la z < D ∨ D + 5 < la z))) => hF49_V 11 z hz.1 (fun _ => hz.2)) z hz)
          have hfr80 : ∀ z, (z < cnt ∧ (la z < 10 ∨ 10 < la z) ∧ (la z < 300 ∨ 300 < la z) ∧ (la z < 90 ∨ 90 + 8 < la z) ∧ (la z < 200 ∨ 200 + 3 < la z) ∧ (la z < D ∨ D + 5 < la z)) → c84_X0 z = (X 0) z := fun z hz => (q84_X0 z (tz84 z hz)).trans ((fun (z : Nat) (hz : (z < cnt ∧ (la z < 10 ∨ 10 < la z) ∧ (la z < 300 ∨ 300 < la z) ∧ (la z < 90 ∨ 90 + 8 < la z) ∧ (la z < 200 ∨ 200 + 3 < la z) ∧ (la z < D ∨ D + 5 < la z))) => hF49_X 0 z hz.1 (fun _ => hz.2)) z hz)
          have h884_hld : 100000 ≤ la49 dr := by first | assumption | omega
          have h884_hlh : la49 a77 = 90 := by first | assumption | omega
          have hx84 := pwq (fn_X9_turnParts κ49_25 wd la49 c49_G c49_P c49_U c49_V c49_X c49_O c49_kd c49_ln c49_cnt a77 dr (CInv_G102 hCI49 :) (CInv_G183 hCI49 :) (CInv_G200 hCI49 :) (CInv_G203 hCI49 :) (CInv_P20 hCI49 :) (CInv_P21 hCI49 :) (CInv_P22 hCI49 :) (CInv_P23 hCI49 :) (CInv_P101 hCI49 :) (CInv_P103 hCI49 :) (CInv_P108 hCI49 :) (CInv_P109 hCI49 :) (CInv_P110 hCI49 :) (CInv_P181 hCI49 :) (CInv_P182 hCI49 :) (CInv_P201 hCI49 :) (CInv_P202 hCI49 :) (CInv_V1 hCI49 :) (CInv_O0 hCI49 :) (CInv_RA hCI49 :) (CInv_RB hCI49 :) (CInv_RI hCI49 :) (CInv_RM103 hCI49 :) (CInv_RM108 hCI49 :) (CInv_LN hCI49 :) hk_a77 hk_dr hB49 lt_a7764 lt_dr60 h884_hld h884_hlh) hc84
          have p84_0 : id ((∀ z, la49 z ≠ la49 dr + 4 → (la49 z < 90 ∨ 98 < la49 z) → c84_V0 z = (c49_V 0) z ∧ c84_V1 z = (c49_V 1) z ∧ c84_G203 z = (c49_G 203) z)) := hx84
          clear hx84
          have hFL81 : FL wd c84_G203 (c49_V 3) := by exact FL_eq (CInv_FL hCI49 :) f71
          refine pw_nne hn61 ?_
          refine pw_nne hn59 ?_
          refine pw_if (fun hb99 => ?_)
          obtain ⟨hbl99, hbr99⟩ := hb99
          refine pw_vl (fun m99 em99 => ?_)
          have hfr83 : ∀ z, (z < cnt ∧ (la z < 10 ∨ 10 < la z) ∧ (la z < 300 ∨ 300 < la z) ∧ (la z < 90 ∨ 90 + 8 < la z) ∧ (la z < 200 ∨ 200 + 3 < la z) ∧ (la z < D ∨ D + 5 < la z)) → m99 z = (O 2) z := fr_up (e0 := (O 2)) (fun (z : Nat) (hz : (z < cnt ∧ (la z < 10 ∨ 10 < la z) ∧ (la z < 300 ∨ 300 < la z) ∧ (la z < 90 ∨ 90 + 8 < la z) ∧ (la z < 200 ∨ 200 + 3 < la z) ∧ (la z < D ∨ D + 5 < la z))) => hF49_O 2 z hz.1 (fun _ => hz.2)) em99 (show ¬ (ra < cnt ∧ (la ra < 10 ∨ 10 < la ra) ∧ (la ra < 300 ∨ 300 < la ra) ∧ (la ra < 90 ∨ 90 + 8 < la ra) ∧ (la ra < 200 ∨ 200 + 3 < la ra) ∧ (la ra < D ∨ D + 5 < la ra)) from fun hz => by have q1 := hag49 ra hz.1; omega)
          have ho84 : OB κ49_25 6 m99 := by rw [em99]; exact OB_up (CInv_O2 hCI49 :) hk_dr
          refine pw_tk ?_
          refine pw_newd (κ := κ49_25) (la := la49) (wd := wd) (Ke := 0) (L := 100000 + 10 * c49_cnt) (CInv_i (CInv_G43 hCI49 :) (CInv_G44 hCI49 :) (CInv_G45 hCI49 :) (CInv_G60 hCI49 :) (CInv_G83 hCI49 :) (CInv_G84 hCI49 :) (CInv_G85 hCI49 :) (CInv_G87 hCI49 :) (CInv_G88 hCI49 :) (CInv_G102 hCI49 :) (CInv_G125 hCI49 :) (CInv_G126 hCI49 :) (CInv_G127 hCI49 :) (CInv_G141 hCI49 :) (CInv_G160 hCI49 :) (CInv_G161 hCI49 :) (CInv_G162 hCI49 :) (CInv_G165 hCI49 :) (CInv_G166 hCI49 :) hg65 (CInv_G200 hCI49 :) hg66 (CInv_G222 hCI49 :) (CInv_G231 hCI49 :) (CInv_G233 hCI49 :) (CInv_P0 hCI49 :) (CInv_P1 hCI49 :) (CInv_P2 hCI49 :) (CInv_P3 hCI49 :) (CInv_P4 hCI49 :) (CInv_P5 hCI49 :) (CInv_P20 hCI49 :) (CInv_P21 hCI49 :) (CInv_P22 hCI49 :) (CInv_P23 hCI49 :) (CInv_P40 hCI49 :) (CInv_P41 hCI49 :) (CInv_P42 hCI49 :) (CInv_P61 hCI49 :) (CInv_P62 hCI49 :) (CInv_P63 hCI49 :) (CInv_P64 hCI49 :) (CInv_P65 hCI49 :) (CInv_P66 hCI49 :) (CInv_P82 hCI49 :) (CInv_P101 hCI49 :) (CInv_P103 hCI49 :) (CInv_P104 hCI49 :) (CInv_P105 hCI49 :) (CInv_P106 hCI49 :) (CInv_P108 hCI49 :) (CInv_P109 hCI49 :) (CInv_P110 hCI49 :) (CInv_P120 hCI49 :) (CInv_P121 hCI49 :) (CInv_P122 hCI49 :) (CInv_P123 hCI49 :) (CInv_P140 hCI49 :) (CInv_P164 hCI49 :) (CInv_P180 hCI49 :) hg67 hg68 (CInv_P185 hCI49 :) (CInv_P186 hCI49 :) (CInv_P187 hCI49 :) (CInv_P201 hCI49 :) (CInv_P202 hCI49 :) (CInv_P220 hCI49 :) (CInv_P221 hCI49 :) (CInv_P224 hCI49 :) (CInv_P225 hCI49 :) (CInv_P226 hCI49 :) (CInv_P227 hCI49 :) (CInv_P228 hCI49 :) (CInv_P229 hCI49 :) (CInv_P230 hCI49 :) (CInv_P232 hCI49 :) (CInv_P234 hCI49 :) (CInv_P235 hCI49 :) (CInv_P236 hCI49 :) hg69 (CInv_V2 hCI49 :) (CInv_V3 hCI49 :) (CInv_V9 hCI49 :) (CInv_O0 hCI49 :) (CInv_O1 hCI49 :) ho84 (CInv_RA hCI49 :) hRB70 (CInv_RI hCI49 :) (CInv_RM103 hCI49 :) (CInv_RM104 hCI49 :) (CInv_RM108 hCI49 :) (CInv_LN hCI49 :) hFL81 (CInv_W0 hCI49 :) (CInv_KC hCI49 :) (CInv_WK hCI49 :)) (by decide) (by omega) (LB_set (LB_set hB49 ql84_181) ql84_182) (by have q85 := hB49.2 this lt42; omega) (fun κ101 la101 G101 P101 U101 V101 X101 O101 kd101 ln101 cnt101 hCI101 hcn101 hkn101 hln101 hex101 hvz101 hfs101 hB101 hL101 ag101 fU101 fX101 => ?_)
          have hx86 : ∀ a, κ49_25 a ≠ 0 → κ101 a = κ49_25 a := fun a ha => (hex101 a (kclt (CInv_KC hCI49 :) ha) (Nat.ne_of_lt (kclt (CInv_KC hCI49 :) ha))).1
          have ccf101 : c49_cnt ≤ cnt101 := by rw [hcn101]; exact Nat.le_succ _
          clear hvz101 hfs101 ho84 hFL81 h884_hlh h884_hld tz84 q84_G183 q84_G203 q84_P181 q84_P182 q84_U184 q84_V0 q84_V1 q84_V11 q84_X0 ql84_181 ql84_182 hg65 hg66 hg67 hg68 hg69 hRB70 hc84 ag49 fG49 fP49 fO49 fl49
          have kx87 : ∀ a, κ a ≠ 0 → κ101 a = κ a := kxt kx39 hx86
          have hk88 : κ101 this = 12 := kxk hx86 hk40 (by decide)
          have gl_89 : la101 this = 200 := (ag101 this lt42).trans gl_41
          have lt90 : this < cnt101 := Nat.lt_of_lt_of_le lt42 ccf101
          have gl_91 : la101 tp = 10 := (ag101 tp lt_tp54).trans gl_43
          have lt92 : tp < cnt101 := Nat.lt_of_lt_of_le lt_tp54 ccf101
          have gl_93 : la101 tb = 11 := (ag101 tb lt_tb56).trans gl_45
          have lt94 : tb < cnt101 := Nat.lt_of_lt_of_le lt_tb56 ccf101
          have gl_95 : la101 rd = 300 := (ag101 rd lt_rd58).trans gl_47
          have lt96 : rd < cnt101 := Nat.lt_of_lt_of_le lt_rd58 ccf101
          have gl_97 : la101 dr = la dr := (ag101 dr lt_dr60).trans gl_49
          have lt98 : dr < cnt101 := Nat.lt_of_lt_of_le lt_dr60 ccf101
          have gl_99 : la101 ra = 203 := (ag101 ra lt_ra62).trans gl_51
          have lt100 : ra < cnt101 := Nat.lt_of_lt_of_le lt_ra62 ccf101
          have gl_101 : la101 a77 = 90 := (ag101 a77 lt_a7764).trans lb_a7764
          have lt102 : a77 < cnt101 := Nat.lt_of_lt_of_le lt_a7764 ccf101
          have hag101 : ∀ z, z < cnt → la101 z = la z := fun z hz => (ag101 z (Nat.lt_of_lt_of_le hz (Nat.le_trans (Nat.le_refl _) ccf49))).trans (hag49 z hz)
          have fG101 : FRM c49_cnt [] (fun _ => True) (va_up (va_up c49_G 183 c84_G183) 203 c84_G203) G101 := fun g z hz _ => (hex101 z hz (Nat.ne_of_lt hz)).2.1 g
          have fP101 : FRM c49_cnt [] (fun _ => True) (va_up (va_up c49_P 181 c84_P181) 182 c84_P182) P101 := fun g z hz _ => (hex101 z hz (Nat.ne_of_lt hz)).2.2.1 g
          have fV101 : FRM c49_cnt [] (fun _ => True) (va_up (va_up (va_up c49_V 0 c84_V0) 1 c84_V1) 11 c84_V11) V101 := fun g z hz _ => (hex101 z hz (Nat.ne_of_lt hz)).2.2.2.1 g
          have fO101 : FRM c49_cnt [] (fun _ => True) (va_up c49_O 2 m99) O101 := fun g z hz _ => (hex101 z hz (Nat.ne_of_lt hz)).2.2.2.2.1 g
          have fl101 : ∀ z, z < c49_cnt → ln101 z = c49_ln z := fun z hz => (hex101 z hz (Nat.ne_of_lt hz)).2.2.2.2.2
          have hle101 : cnt ≤ c49_cnt := (Nat.le_trans (Nat.le_refl _) ccf49)
          have hF101_G : FRM cnt [24, 25, 80, 81, 83, 84, 85, 86, 87, 88, 100, 102, 107, 141, 183, 203, 222, 223] (fun z => (la z < 10 ∨ 10 < la z) ∧ (la z < 300 ∨ 300 < la z) ∧ (la z < 90 ∨ 90 + 8 < la z) ∧ (la z < 200 ∨ 200 + 3 < la z) ∧ (la z < D ∨ D + 5 < la z)) G G101 := FRM_trans (FRM_set (FRM_set hF49_G (by decide) (fun z h1 h2 => hfr72 z ⟨h1, h2⟩)) (by decide) (fun z h1 h2 => hfr73 z ⟨h1, h2⟩)) fG101 hle101 (by decide) (fun _ _ _ => trivial)
          have hF101_P : FRM cnt [22, 23, 82, 181, 182, 224] (fun z => (la z < 10 ∨ 10 < la z) ∧ (la z < 300 ∨ 300 < la z) ∧ (la z < 90 ∨ 90 + 8 < la z) ∧ (la z < 200 ∨ 200 + 3 < la z) ∧ (la z < D ∨ D + 5 < la z)) P P101 := FRM_trans (FRM_set (FRM_set hF49_P (by decide) (fun z h1 h2 => hfr74 z ⟨h1, h2⟩)) (by decide) (fun z h1 h2 => hfr75 z ⟨h1, h2⟩)) fP101 hle101 (by decide) (fun _ _ _ => trivial)
          have hF101_U : FRM cnt [184] (fun z => (la z < 10 ∨ 10 < la z) ∧ (la z < 300 ∨ 300 < la z) ∧ (la z < 90 ∨ 90 + 8 < la z) ∧ (la z < 200 ∨ 200 + 3 < la z) ∧ (la z < D ∨ D + 5 < la z)) U U101 := FRM_trans (FRM_set hF49_U (by decide) (fun z h1 h2 => hfr76 z ⟨h1, h2⟩)) fU101 hle101 (by decide) (fun _ _ _ => trivial)
          have hF101_V : FRM cnt [0, 1, 10, 11] (fun z => (la z < 10 ∨ 10 < la z) ∧ (la z < 300 ∨ 300 < la z) ∧ (la z < 90 ∨ 90 + 8 < la z) ∧ (la z < 200 ∨ 200 + 3 < la z) ∧ (la z < D ∨ D + 5 < la z)) V V101 := FRM_trans (FRM_set (FRM_set (FRM_set hF49_V (by decide) (fun z h1 h2 => hfr77 z ⟨h1, h2⟩)) (by decide) (fun z h1 h2 => hfr78 z ⟨h1, h2⟩)) (by decide) (fun z h1 h2 => hfr79 z ⟨h1, h2⟩)) fV101 hle101 (by decide) (fun _ _ _ => trivial)
          have hF101_X : FRM cnt [0] (fun z => (la z < 10 ∨ 10 < la z) ∧ (la z < 300 ∨ 300 < la z) ∧ (la z < 90 ∨ 90 + 8 < la z) ∧ (la z < 200 ∨ 200 + 3 < la z) ∧ (la z < D ∨ D + 5 < la z)) X X101 := FRM_trans (FRM_set hF49_X (by decide) (fun z h1 h2 => hfr80 z ⟨h1, h2⟩)) fX101 hle101 (by decide) (fun _ _ _ => trivial)
          have hF101_O : FRM cnt [0, 2] (fun z => (la z < 10 ∨ 10 < la z) ∧ (la z < 300 ∨ 300 < la z) ∧ (la z < 90 ∨ 90 + 8 < la z) ∧ (la z < 200 ∨ 200 + 3 < la z) ∧ (la z < D ∨ D + 5 < la z)) O O101 := FRM_trans (FRM_set hF49_O (by decide) (fun z h1 h2 => hfr83 z ⟨h1, h2⟩)) fO101 hle101 (by decide) (fun _ _ _ => trivial)
          have hlnn101 : ∀ z, z < cnt → ln101 z = ln z := fun z hz => (fl101 z (Nat.lt_of_lt_of_le hz hle101)).trans (hlnn49 z hz)
          clear hx86 fU101 fX101 hfr83 hfr80 hfr79 hfr78 hfr77 hfr76 hfr75 hfr74 hfr73 hfr72 hlnn49 hF49_O hF49_X hF49_V hF49_U hF49_P hF49_G hag49 hk40 kx39
          have lt103 : c49_cnt < cnt101 := by rw [hcn101]; exact Nat.lt_succ_self _
          have hn104 : (P101 220) this = some tp := ((hex101 this lt42 (Nat.ne_of_lt lt42)).2.2.1 220).trans hn53
          have lt_tp105 := ((hB101.1 220 fl_220) this tp hn104).2.1
          have hk_tp := (((CInv_P220 hCI101 :) this).2 tp hn104).1
          have hl1_tp := (((CInv_P220 hCI101 :) this).2 tp hn104).2.1
          have hl2_tp := (((CInv_P220 hCI101 :) this).2 tp hn104).2.2.1
          have hw_tp := (((CInv_P220 hCI101 :) this).2 tp hn104).2.2.2
          have hn106 : (P101 140) tp = some tb := ((hex101 tp lt_tp54 (Nat.ne_of_lt lt_tp54)).2.2.1 140).trans hn55
          have lt_tb107 := ((hB101.1 140 fl_140) tp tb hn106).2.1
          have hk_tb := (((CInv_P140 hCI101 :) tp).2 tb hn106).1
          have hl1_tb := (((CInv_P140 hCI101 :) tp).2 tb hn106).2.1
          have hl2_tb := (((CInv_P140 hCI101 :) tp).2 tb hn106).2.2.1
          have hw_tb := (((CInv_P140 hCI101 :) tp).2 tb hn106).2.2.2
          have hn108 : (P101 225) this = some rd := ((hex101 this lt42 (Nat.ne_of_lt lt42)).2.2.1 225).trans hn57
          have lt_rd109 := ((hB101.1 225 fl_225) this rd hn108).2.1
          have hk_rd := (((CInv_P225 hCI101 :) this).2 rd hn108).1
          have hl1_rd := (((CInv_P225 hCI101 :) this).2 rd hn108).2.1
          have hl2_rd := (((CInv_P225 hCI101 :) this).2 rd hn108).2.2.1
          have hw_rd := (((CInv_P225 hCI101 :) this).2 rd hn108).2.2.2
          have hn110 : (P101 224) this = some dr := ((hex101 this lt42 (Nat.ne_of_lt lt42)).2.2.1 224).trans hn59
          have lt_dr111 := ((hB101.1 224 fl_224) this dr hn110).2.1
          have hk_dr := (((CInv_P224 hCI101 :) this).2 dr hn110).1
          have hl1_dr := (((CInv_P224 hCI101 :) this).2 dr hn110).2.1
          have hl2_dr := (((CInv_P224 hCI101 :) this).2 dr hn110).2.2.1
          have hw_dr := (((CInv_P224 hCI101 :) this).2 dr hn110).2.2.2
          have hn112 : (P101 221) this = some ra := ((hex101 this lt42 (Nat.ne_of_lt lt42)).2.2.1 221).trans hn61
          have lt_ra113 := ((hB101.1 221 fl_221) this ra hn112).2.1
          have hk_ra := (((CInv_P221 hCI101 :) this).2 ra hn112).1
          have hl1_ra := (((CInv_P221 hCI101 :) this).2 ra hn112).2.1
          have hl2_ra := (((CInv_P221 hCI101 :) this).2 ra hn112).2.2.1
          have hw_ra := (((CInv_P221 hCI101 :) this).2 ra hn112).2.2.2
          have hn114 : (P101 226) this = some a77 := ((hex101 this lt42 (Nat.ne_of_lt lt42)).2.2.1 226).trans hn_a77
          have lt_a77115 := ((hB101.1 226 fl_226) this a77 hn114).2.1
          have hk_a77 := (((CInv_P226 hCI101 :) this).2 a77 hn114).1
          have hl1_a77 := (((CInv_P226 hCI101 :) this).2 a77 hn114).2.1
          have hl2_a77 := (((CInv_P226 hCI101 :) this).2 a77 hn114).2.2.1
          have hw_a77 := (((CInv_P226 hCI101 :) this).2 a77 hn114).2.2.2
          have sg101 : ((G101 222) this).toInt = ((c49_G 222) this).toInt := congrArg Int32.toInt ((hex101 this (by omega) (by omega)).2.1 222)
          refine pw_bA9 (fun c105_G c105_P c105_U c105_V c105_X c105_O c105_kd c105_ln c105_cnt v1_105 v2_105 hc105 => ?_)
          have hq105 := wp_at (ok_X5_init κ101 wd G101 P101 U101 V101 X101 O101 kd101 ln101 cnt101 c49_cnt (CInv_i (CInv_G43 hCI101 :) (CInv_G44 hCI101 :) (CInv_G45 hCI101 :) (CInv_G60 hCI101 :) (CInv_G83 hCI101 :) (CInv_G84 hCI101 :) (CInv_G85 hCI101 :) (CInv_G87 hCI101 :) (CInv_G88 hCI101 :) (CInv_G102 hCI101 :) (CInv_G125 hCI101 :) (CInv_G126 hCI101 :) (CInv_G127 hCI101 :) (CInv_G141 hCI101 :) (CInv_G160 hCI101 :) (CInv_G161 hCI101 :) (CInv_G162 hCI101 :) (CInv_G165 hCI101 :) (CInv_G166 hCI101 :) (CInv_G183 hCI101 :) (CInv_G200 hCI101 :) (CInv_G203 hCI101 :) (CInv_G222 hCI101 :) (CInv_G231 hCI101 :) (CInv_G233 hCI101 :) (CInv_P0 hCI101 :) (CInv_P1 hCI101 :) (CInv_P2 hCI101 :) (CInv_P3 hCI101 :) (CInv_P4 hCI101 :) (CInv_P5 hCI101 :) (CInv_P20 hCI101 :) (CInv_P21 hCI101 :) (CInv_P22 hCI101 :) (CInv_P23 hCI101 :) (CInv_P40 hCI101 :) (CInv_P41 hCI101 :) (CInv_P42 hCI101 :) (CInv_P61 hCI101 :) (CInv_P62 hCI101 :) (CInv_P63 hCI101 :) (CInv_P64 hCI101 :) (CInv_P65 hCI101 :) (CInv_P66 hCI101 :) (CInv_P82 hCI101 :) (CInv_P101 hCI101 :) (CInv_P103 hCI101 :) (CInv_P104 hCI101 :) (CInv_P105 hCI101 :) (CInv_P106 hCI101 :) (CInv_P108 hCI101 :) (CInv_P109 hCI101 :) (CInv_P110 hCI101 :) (CInv_P120 hCI101 :) (CInv_P121 hCI101 :) (CInv_P122 hCI101 :) (CInv_P123 hCI101 :) (CInv_P140 hCI101 :) (CInv_P164 hCI101 :) (CInv_P180 hCI101 :) (CInv_P181 hCI101 :) (CInv_P182 hCI101 :) (CInv_P185 hCI101 :) (CInv_P186 hCI101 :) (CInv_P187 hCI101 :) (CInv_P201 hCI101 :) (CInv_P202 hCI101 :) (CInv_P220 hCI101 :) (CInv_P221 hCI101 :) (CInv_P224 hCI101 :) (CInv_P225 hCI101 :) (CInv_P226 hCI101 :) (CInv_P227 hCI101 :) (CInv_P228 hCI101 :) (CInv_P229 hCI101 :) (CInv_P230 hCI101 :) (CInv_P232 hCI101 :) (CInv_P234 hCI101 :) (CInv_P235 hCI101 :) (CInv_P236 hCI101 :) (CInv_V1 hCI101 :) (CInv_V2 hCI101 :) (CInv_V3 hCI101 :) (CInv_V9 hCI101 :) (CInv_O0 hCI101 :) (CInv_O1 hCI101 :) (CInv_O2 hCI101 :) (CInv_RA hCI101 :) (CInv_RB hCI101 :) (CInv_RI hCI101 :) (CInv_RM103 hCI101 :) (CInv_RM104 hCI101 :) (CInv_RM108 hCI101 :) (CInv_LN hCI101 :) (CInv_FL hCI101 :) (CInv_W0 hCI101 :) (CInv_KC hCI101 :) (CInv_WK hCI101 :)) hkn101 (by omega) (by omega)) hc105
          obtain ⟨κ105_115, hCI105, hxx105, hcc117, hk118, hex105, f119, f120⟩ : ∃ κ1 : Nat → Nat, (CInv κ1 wd c105_G c105_P c105_V c105_O c105_ln c105_cnt) ∧ (∀ a, κ101 a ≠ 0 → κ1 a = κ101 a) ∧ (cnt101 ≤ c105_cnt) ∧ (κ1 c49_cnt = 6) ∧ (EX c49_cnt cnt101 κ101 κ1 G101 c105_G P101 c105_P V101 c105_V O101 c105_O ln101 c105_ln) ∧ (v1_105 ≤ 17) ∧ (v2_105 ≤ 4300) := hq105
          have kx121 : ∀ a, κ a ≠ 0 → κ105_115 a = κ a := kxt kx87 hxx105
          have hk122 : κ105_115 this = 12 := kxk hxx105 hk88 (by decide)
          have hlo_c49_cnt := (CInv_LN hCI105 :) c49_cnt (by rw [hk118]; decide)
          have hq105 := pwq (fr_X5_init la101 G101 P101 U101 V101 X101 O101 kd101 ln101 cnt101 c49_cnt hB101 lt103) hc105
          obtain ⟨la105_f, agf105, hBf105, ccf105, fG105, fP105, fU105, fV105, fX105, fO105, fl105⟩ : ∃ la9 : Nat → Nat, (∀ z, z < cnt101 → la9 z = la101 z) ∧ LB la9 c105_cnt c105_P ∧ cnt101 ≤ c105_cnt ∧ FRM cnt101 [100, 102, 107, 200, 203] (fun z => z ≠ c49_cnt) G101 c105_G ∧ FRM cnt101 [101, 103, 104, 105, 106, 108, 109, 110, 201, 202] (fun z => z ≠ c49_cnt) P101 c105_P ∧ FRM cnt101 [] (fun z => z ≠ c49_cnt) U101 c105_U ∧ FRM cnt101 [] (fun z => z ≠ c49_cnt) V101 c105_V ∧ FRM cnt101 [] (fun z => z ≠ c49_cnt) X101 c105_X ∧ FRM cnt101 [] (fun z => z ≠ c49_cnt) O101 c105_O ∧ (∀ z, z < cnt101 → c105_ln z = ln101 z) := hq105
          have hx105 := pwq (fn_X5_init κ101 wd la101 G101 P101 U101 V101 X101 O101 kd101 ln101 cnt101 c49_cnt (CInv_i (CInv_G43 hCI101 :) (CInv_G44 hCI101 :) (CInv_G45 hCI101 :) (CInv_G60 hCI101 :) (CInv_G83 hCI101 :) (CInv_G84 hCI101 :) (CInv_G85 hCI101 :) (CInv_G87 hCI101 :) (CInv_G88 hCI101 :) (CInv_G102 hCI101 :) (CInv_G125 hCI101 :) (CInv_G126 hCI101 :) (CInv_G127 hCI101 :) (CInv_G141 hCI101 :) (CInv_G160 hCI101 :) (CInv_G161 hCI101 :) (CInv_G162 hCI101 :) (CInv_G165 hCI101 :) (CInv_G166 hCI101 :) (CInv_G183 hCI101 :) (CInv_G200 hCI101 :) (CInv_G203 hCI101 :) (CInv_G222 hCI101 :) (CInv_G231 hCI101 :) (CInv_G233 hCI101 :) (CInv_P0 hCI101 :) (CInv_P1 hCI101 :) (CInv_P2 hCI101 :) (CInv_P3 hCI101 :) (CInv_P4 hCI101 :) (CInv_P5 hCI101 :) (CInv_P20 hCI101 :) (CInv_P21 hCI101 :) (CInv_P22 hCI101 :) (CInv_P23 hCI101 :) (CInv_P40 hCI101 :) (CInv_P41 hCI101 :) (CInv_P42 hCI101 :) (CInv_P61 hCI101 :) (CInv_P62 hCI101 :) (CInv_P63 hCI101 :) (CInv_P64 hCI101 :) (CInv_P65 hCI101 :) (CInv_P66 hCI101 :) (CInv_P82 hCI101 :) (CInv_P101 hCI101 :) (CInv_P103 hCI101 :) (CInv_P104 hCI101 :) (CInv_P105 hCI101 :) (CInv_P106 hCI101 :) (CInv_P108 hCI101 :) (CInv_P109 hCI101 :) (CInv_P110 hCI101 :) (CInv_P120 hCI101 :) (CInv_P121 hCI101 :) (CInv_P122 hCI101 :) (CInv_P123 hCI101 :) (CInv_P140 hCI101 :) (CInv_P164 hCI101 :) (CInv_P180 hCI101 :) (CInv_P181 hCI101 :) (CInv_P182 hCI101 :) (CInv_P185 hCI101 :) (CInv_P186 hCI101 :) (CInv_P187 hCI101 :) (CInv_P201 hCI101 :) (CInv_P202 hCI101 :) (CInv_P220 hCI101 :) (CInv_P221 hCI101 :) (CInv_P224 hCI101 :) (CInv_P225 hCI101 :) (CInv_P226 hCI101 :) (CInv_P227 hCI101 :) (CInv_P228 hCI101 :) (CInv_P229 hCI101 :) (CInv_P230 hCI101 :) (CInv_P232 hCI101 :) (CInv_P234 hCI101 :) (CInv_P235 hCI101 :) (CInv_P236 hCI101 :) (CInv_V1 hCI101 :) (CInv_V2 hCI101 :) (CInv_V3 hCI101 :) (CInv_V9 hCI101 :) (CInv_O0 hCI101 :) (CInv_O1 hCI101 :) (CInv_O2 hCI101 :) (CInv_RA hCI101 :) (CInv_RB hCI101 :) (CInv_RI hCI101 :) (CInv_RM103 hCI101 :) (CInv_RM104 hCI101 :) (CInv_RM108 hCI101 :) (CInv_LN hCI101 :) (CInv_FL hCI101 :) (CInv_W0 hCI101 :) (CInv_KC hCI101 :) (CInv_WK hCI101 :)) hkn101 (by omega) (by omega) hB101) hc105
          obtain ⟨la105, ag105, hB105, p105_0⟩ : ∃ la9 : Nat → Nat, (∀ z, z < cnt101 → la9 z = la101 z) ∧ LB la9 c105_cnt c105_P ∧ (∃ er br pr kp lr le lb lp se sb sp, PTS c105_P (c105_G 200) c105_ln c49_cnt er br pr kp lr le lb lp se sb sp) := hx105
          clear agf105 hBf105 hk122 kx121 hxx105 hc105 hk88 kx87 hex101 hB101
          have gl_123 : la105 this = 200 := (ag105 this lt90).trans gl_89
          have lt124 : this < c105_cnt := Nat.lt_of_lt_of_le lt90 ccf105
          have gl_125 : la105 tp = 10 := (ag105 tp lt_tp105).trans gl_91
          have lt126 : tp < c105_cnt := Nat.lt_of_lt_of_le lt_tp105 ccf105
          have gl_127 : la105 tb = 11 := (ag105 tb lt_tb107).trans gl_93
          have lt128 : tb < c105_cnt := Nat.lt_of_lt_of_le lt_tb107 ccf105
          have gl_129 : la105 rd = 300 := (ag105 rd lt_rd109).trans gl_95
          have lt130 : rd < c105_cnt := Nat.lt_of_lt_of_le lt_rd109 ccf105
          have gl_131 : la105 dr = la dr := (ag105 dr lt_dr111).trans gl_97
          have lt132 : dr < c105_cnt := Nat.lt_of_lt_of_le lt_dr111 ccf105
          have gl_133 : la105 ra = 203 := (ag105 ra lt_ra113).trans gl_99
          have lt134 : ra < c105_cnt := Nat.lt_of_lt_of_le lt_ra113 ccf105
          have gl_135 : la105 a77 = 90 := (ag105 a77 lt_a77115).trans gl_101
          have lt136 : a77 < c105_cnt := Nat.lt_of_lt_of_le lt_a77115 ccf105
          have gl_137 : la105 c49_cnt = la101 c49_cnt := ag105 c49_cnt lt103
          have lt138 : c49_cnt < c105_cnt := Nat.lt_of_lt_of_le lt103 ccf105
          have hag105 : ∀ z, z < cnt → la105 z = la z := fun z hz => (ag105 z (Nat.lt_of_lt_of_le hz (Nat.le_trans (Nat.le_trans (Nat.le_refl _) ccf49) ccf101))).trans (hag101 z hz)
          have hle105 : cnt ≤ cnt101 := (Nat.le_trans (Nat.le_trans (Nat.le_refl _) ccf49) ccf101)
          have hfs105z : cnt ≤ c49_cnt := by omega
          have hF105_G : FRM cnt [24, 25, 80, 81, 83, 84, 85, 86, 87, 88, 100, 102, 107, 141, 183, 203, 222, 223] (fun z => (la z < 10 ∨ 10 < la z) ∧ (la z < 300 ∨ 300 < la z) ∧ (la z < 90 ∨ 90 + 8 < la z) ∧ (la z < 200 ∨ 200 + 3 < la z) ∧ (la z < D ∨ D + 5 < la z)) G c105_G := FRM_tri hF101_G fG105 hle105 hfs105z
          have hF105_P : FRM cnt [22, 23, 82, 181, 182, 224] (fun z => (la z < 10 ∨ 10 < la z) ∧ (la z < 300 ∨ 300 < la z) ∧ (la z < 90 ∨ 90 + 8 < la z) ∧ (la z < 200 ∨ 200 + 3 < la z) ∧ (la z < D ∨ D + 5 < la z)) P c105_P := FRM_tri hF101_P fP105 hle105 hfs105z
          have hF105_U : FRM cnt [184] (fun z => (la z < 10 ∨ 10 < la z) ∧ (la z < 300 ∨ 300 < la z) ∧ (la z < 90 ∨ 90 + 8 < la z) ∧ (la z < 200 ∨ 200 + 3 < la z) ∧ (la z < D ∨ D + 5 < la z)) U c105_U := FRM_tri hF101_U fU105 hle105 hfs105z
          have hF105_V : FRM cnt [0, 1, 10, 11] (fun z => (la z < 10 ∨ 10 < la z) ∧ (la z < 300 ∨ 300 < la z) ∧ (la z < 90 ∨ 90 + 8 < la z) ∧ (la z < 200 ∨ 200 + 3 < la z) ∧ (la z < D ∨ D + 5 < la z)) V c105_V := FRM_tri hF101_V fV105 hle105 hfs105z
          have hF105_X : FRM cnt [0] (fun z => (la z < 10 ∨ 10 < la z) ∧ (la z < 300 ∨ 300 < la z) ∧ (la z < 90 ∨ 90 + 8 < la z) ∧ (la z < 200 ∨ 200 + 3 < la z) ∧ (la z < D ∨ D + 5 < la z)) X c105_X := FRM_tri hF101_X fX105 hle105 hfs105z
          have hF105_O : FRM cnt [0, 2] (fun z => (la z < 10 ∨ 10 < la z) ∧ (la z < 300 ∨ 300 < la z) ∧ (la z < 90 ∨ 90 + 8 < la z) ∧ (la z < 200 ∨ 200 + 3 < la z) ∧ (la z < D ∨ D + 5 < la z)) O c105_O := FRM_tri hF101_O fO105 hle105 hfs105z
          have hlnn105 : ∀ z, z < cnt → c105_ln z = ln z := fun z hz => (fl105 z (Nat.lt_of_lt_of_le hz hle105)).trans (hlnn101 z hz)
          clear hlnn105 hF105_O hF105_X hF105_V hF105_U fU105 fX105 hlnn101 hF101_O hF101_X hF101_V hF101_U hF101_P hF101_G hag101
          have hn139 : (c105_P 220) this = some tp := ((hex105 this lt90 (by omega)).2.2.1 220).trans hn104
          have lt_tp140 := ((hB105.1 220 fl_220) this tp hn139).2.1
          have hk_tp := (((CInv_P220 hCI105 :) this).2 tp hn139).1
          have hl1_tp := (((CInv_P220 hCI105 :) this).2 tp hn139).2.1
          have hl2_tp := (((CInv_P220 hCI105 :) this).2 tp hn139).2.2.1
          have hw_tp := (((CInv_P220 hCI105 :) this).2 tp hn139).2.2.2
          have hn141 : (c105_P 140) tp = some tb := ((hex105 tp lt_tp105 (by omega)).2.2.1 140).trans hn106
          have lt_tb142 := ((hB105.1 140 fl_140) tp tb hn141).2.1
          have hk_tb := (((CInv_P140 hCI105 :) tp).2 tb hn141).1
          have hl1_tb := (((CInv_P140 hCI105 :) tp).2 tb hn141).2.1
          have hl2_tb := (((CInv_P140 hCI105 :) tp).2 tb hn141).2.2.1
          have hw_tb := (((CInv_P140 hCI105 :) tp).2 tb hn141).2.2.2
          have hn143 : (c105_P 225) this = some rd := ((hex105 this lt90 (by omega)).2.2.1 225).trans hn108
          have lt_rd144 := ((hB105.1 225 fl_225) this rd hn143).2.1
          have hk_rd := (((CInv_P225 hCI105 :) this).2 rd hn143).1
          have hl1_rd := (((CInv_P225 hCI105 :) this).2 rd hn143).2.1
          have hl2_rd := (((CInv_P225 hCI105 :) this).2 rd hn143).2.2.1
          have hw_rd := (((CInv_P225 hCI105 :) this).2 rd hn143).2.2.2
          have hn145 : (c105_P 224) this = some dr := ((hex105 this lt90 (by omega)).2.2.1 224).trans hn110
          have lt_dr146 := ((hB105.1 224 fl_224) this dr hn145).2.1
          have hk_dr := (((CInv_P224 hCI105 :) this).2 dr hn145).1
          have hl1_dr := (((CInv_P224 hCI105 :) this).2 dr hn145).2.1
          have hl2_dr := (((CInv_P224 hCI105 :) this).2 dr hn145).2.2.1
          have hw_dr := (((CInv_P224 hCI105 :) this).2 dr hn145).2.2.2
          have hn147 : (c105_P 221) this = some ra := ((hex105 this lt90 (by omega)).2.2.1 221).trans hn112
          have lt_ra148 := ((hB105.1 221 fl_221) this ra hn147).2.1
          have hk_ra := (((CInv_P221 hCI105 :) this).2 ra hn147).1
          have hl1_ra := (((CInv_P221 hCI105 :) this).2 ra hn147).2.1
          have hl2_ra := (((CInv_P221 hCI105 :) this).2 ra hn147).2.2.1
          have hw_ra := (((CInv_P221 hCI105 :) this).2 ra hn147).2.2.2
          have hn149 : (c105_P 226) this = some a77 := ((hex105 this lt90 (by omega)).2.2.1 226).trans hn114
          have lt_a77150 := ((hB105.1 226 fl_226) this a77 hn149).2.1
          have hk_a77 := (((CInv_P226 hCI105 :) this).2 a77 hn149).1
          have hl1_a77 := (((CInv_P226 hCI105 :) this).2 a77 hn149).2.1
          have hl2_a77 := (((CInv_P226 hCI105 :) this).2 a77 hn149).2.2.1
          have hw_a77 := (((CInv_P226 hCI105 :) this).2 a77 hn149).2.2.2
          have sg105 : ((c105_G 222) this).toInt = ((G101 222) this).toInt := congrArg Int32.toInt ((hex105 this (by omega) (by omega)).2.1 222)
          refine pw_vl (fun m108 em108 => ?_)
          have hfr151 : ∀ z, (z < cnt ∧ (la z < 10 ∨ 10 < la z) ∧ (la z < 300 ∨ 300 < la z) ∧ (la z < 90 ∨ 90 + 8 < la z) ∧ (la z < 200 ∨ 200 + 3 < la z) ∧ (la z < D ∨ D + 5 < la z)) → m108 z = (P 224) z := fr_up (e0 := (P 224)) (fun (z : Nat) (hz : (z < cnt ∧ (la z < 10 ∨ 10 < la z) ∧ (la z < 300 ∨ 300 < la z) ∧ (la z < 90 ∨ 90 + 8 < la z) ∧ (la z < 200 ∨ 200 + 3 < la z) ∧ (la z < D ∨ D + 5 < la z))) => hF105_P 224 z hz.1 (fun _ => hz.2)) em108 (show ¬ (this < cnt ∧ (la this < 10 ∨ 10 < la this) ∧ (la this < 300 ∨ 300 < la this) ∧ (la this < 90 ∨ 90 + 8 < la this) ∧ (la this < 200 ∨ 200 + 3 < la this) ∧ (la this < D ∨ D + 5 < la this)) from fun hz => by have q1 := hag105 this hz.1; omega)
          have hl152 : LC 224 la105 c105_cnt m108 := LC_up (hB105.1 224 fl_224) em108 (by omega) (by omega) (lk_224 _ _)
          have hp153 : PB κ105_115 c105_ln wd 12 6 0 2500 0 m108 := by rw [em108]; exact PB_up (CInv_P224 hCI105 :) hk118 (by omega) (by omega) (fun h9 => absurd h9 (by decide))
          have sm108 : m108 this = some c49_cnt := by rw [em108]; exact va_up_self _ _ _
          refine pw_vl (fun m113 em113 => ?_)
          have hfr154 : ∀ z, (z < cnt ∧ (la z < 10 ∨ 10 < la z) ∧ (la z < 300 ∨ 300 < la z) ∧ (la z < 90 ∨ 90 + 8 < la z) ∧ (la z < 200 ∨ 200 + 3 < la z) ∧ (la z < D ∨ D + 5 < la z)) → m113 z = (G 223) z := fr_up (e0 := (G 223)) (fun (z : Nat) (hz : (z < cnt ∧ (la z < 10 ∨ 10 < la z) ∧ (la z < 300 ∨ 300 < la z) ∧ (la z < 90 ∨ 90 + 8 < la z) ∧ (la z < 200 ∨ 200 + 3 < la z) ∧ (la z < D ∨ D + 5 < la z))) => hF105_G 223 z hz.1 (fun _ => hz.2)) em113 (show ¬ (this < cnt ∧ (la this < 10 ∨ 10 < la this) ∧ (la this < 300 ∨ 300 < la this) ∧ (la this < 90 ∨ 90 + 8 < la this) ∧ (la this < 200 ∨ 200 + 3 < la this) ∧ (la this < D ∨ D + 5 < la this)) from fun hz => by have q1 := hag105 this hz.1; omega)
          have sm113 : (m113 this).toInt = p0.toInt := by rw [em113, va_up_self]
          have b155 := (CInv_G222 hCI105 :) this
          have f156 : (((c105_G 222) this) + 1).toInt = ((c105_G 222) this).toInt + 1 := z_addc (by decide +kernel) (by omega) (by omega)
          refine pw_vl (fun x123 ex123 => ?_)
          have f157 : x123.toInt = (((c105_G 222) this) + 1).toInt := congrArg Int32.toInt ex123
          refine pw_vl (fun m123 em123 => ?_)
          have hfr158 : ∀ z, (z < cnt ∧ (la z < 10 ∨ 10 < la z) ∧ (la z < 300 ∨ 300 < la z) ∧ (la z < 90 ∨ 90 + 8 < la z) ∧ (la z < 200 ∨ 200 + 3 < la z) ∧ (la z < D ∨ D + 5 < la z)) → m123 z = (G 222) z := fr_up (e0 := (G 222)) (fun (z : Nat) (hz : (z < cnt ∧ (la z < 10 ∨ 10 < la z) ∧ (la z < 300 ∨ 300 < la z) ∧ (la z < 90 ∨ 90 + 8 < la z) ∧ (la z < 200 ∨ 200 + 3 < la z) ∧ (la z < D ∨ D + 5 < la z))) => hF105_G 222 z hz.1 (fun _ => hz.2)) em123 (show ¬ (this < cnt ∧ (la this < 10 ∨ 10 < la this) ∧ (la this < 300 ∨ 300 < la this) ∧ (la this < 90 ∨ 90 + 8 < la this) ∧ (la this < 200 ∨ 200 + 3 < la this) ∧ (la this < D ∨ D + 5 < la this)) from fun hz => by have q1 := hag105 this hz.1; omega)
          have hg159 : rng (0) 6 m123 := by rw [em123]; exact rng_vup (CInv_G222 hCI105 :) (by omega) (by omega)
          have sm123 : (m123 this).toInt = x123.toInt := by rw [em123, va_up_self]
          have b160 := hg159 this
          have f162 : ((m123 this) - 1).toInt = (m123 this).toInt - 1 := z_subc (by decide +kernel) (by omega) (by omega)
          have qq0 : (p0.toInt ≤ ld ∨ 100000 < p0.toInt → ((m123 this) - 1).toInt = -2 ∧ m123 this = (G 222) this ∧ m113 this = (G 223) this ∧ (c105_G 80) rd = (G 80) rd ∧ (c105_G 81) rd = (G 81) rd) := by intro h; exfalso; omega
          have qq1 : (ld < p0.toInt ∧ p0.toInt ≤ 100000 → ∀ x, (parF f n (n + 1) 0 ([], [], [])).1 = some x → ((m123 this) - 1).toInt = -1 ∧ m123 this = (G 222) this ∧ m113 this = (G 223) this ∧ ERR (some x) ((c105_G 80) rd) ((c105_G 81) rd)) := by intro _ x hx; rw [hR] at hx; cases hx
          have qq2 : (ld < p0.toInt ∧ p0.toInt ≤ 100000 → (parF f n (n + 1) 0 ([], [], [])).1 = none → 6 ≤ ((G 222) this).toInt → ((m123 this) - 1).toInt = -3 ∧ m123 this = (G 222) this ∧ m113 this = (G 223) this ∧ ((c105_G 80) rd).toInt = 0 ∧ ((c105_G 81) rd).toInt = -1) := by intro _ _ h; exfalso; omega
          have qq3 : (ld < p0.toInt ∧ p0.toInt ≤ 100000 → (parF f n (n + 1) 0 ([], [], [])).1 = none → ((G 222) this).toInt < 6 → ((m123 this) - 1).toInt = ((G 222) this).toInt ∧ (m123 this).toInt = ((G 222) this).toInt + 1 ∧ m113 this = p0 ∧ ((c105_G 80) rd).toInt = 0 ∧ ((c105_G 81) rd).toInt = -1 ∧ (c105_O 2) ra (Int32.toNatClampNeg ((G 222) this)) = some dr ∧ RFC (va_up (va_up c105_G 223 m113) 222 m123) (va_up c105_P 224 m108) c105_V c105_O c105_ln la105 c105_cnt dr p0 (parF f n (n + 1) 0 ([], [], [])).2) := by intro _ _ _; refine ⟨by omega, by omega, by rw [em113, va_up_self], ?_, ?_, ?_, ?_⟩; (show (c105_G 80 rd).toInt = 0; rw [fG105 80 rd (by omega) (fun q => (by show _ ≠ _; omega)), fG101 80 rd (by omega) (fun q => absurd q (by decide))]; exact b1); (show (c105_G 81 rd).toInt = -1; rw [fG105 81 rd (by omega) (fun q => (by show _ ≠ _; omega)), fG101 81 rd (by omega) (fun q => absurd q (by decide))]; exact b2); (rw [(fO105 2 ra (by omega) (fun q => (by show _ ≠ _; omega))).trans (fO101 2 ra (by omega) (fun q => absurd q (by decide)))]; show m99 ra _ = _; rw [em99, va_up_self, h222, va_up_self]); (exact RFC_fr hRFC hB49 (by omega) (fun z hz h1 h2 h3 => ⟨((fG105 100 z (by omega) (fun q => (by show _ ≠ _; omega))).trans (fG101 100 z (by omega) (fun q => absurd q (by decide)))), ((fG105 102 z (by omega) (fun q => (by show _ ≠ _; omega))).trans (fG101 102 z (by omega) (fun q => absurd q (by decide)))), ((fG105 107 z (by omega) (fun q => (by show _ ≠ _; omega))).trans (fG101 107 z (by omega) (fun q => absurd q (by decide)))), ((fG105 200 z (by omega) (fun q => (by show _ ≠ _; omega))).trans (fG101 200 z (by omega) (fun q => absurd q (by decide)))), ((fG105 203 z (by omega) (fun q => (by show _ ≠ _; omega))).trans (fG101 203 z (by omega) (fun q => absurd q (by decide)))).trans (p84_0 z (by omega) (by omega)).2.2, ((fG105 24 z (by omega) (fun q => (by show _ ≠ _; omega))).trans (fG101 24 z (by omega) (fun q => absurd q (by decide)))), ((fG105 25 z (by omega) (fun q => (by show _ ≠ _; omega))).trans (fG101 25 z (by omega) (fun q => absurd q (by decide)))), ((fP105 101 z (by omega) (fun q => (by show _ ≠ _; omega))).trans (fP101 101 z (by omega) (fun q => absurd q (by decide)))), ((fP105 103 z (by omega) (fun q => (by show _ ≠ _; omega))).trans (fP101 103 z (by omega) (fun q => absurd q (by decide)))), ((fP105 104 z (by omega) (fun q => (by show _ ≠ _; omega))).trans (fP101 104 z (by omega) (fun q => absurd q (by decide)))), ((fP105 105 z (by omega) (fun q => (by show _ ≠ _; omega))).trans (fP101 105 z (by omega) (fun q => absurd q (by decide)))), ((fP105 106 z (by omega) (fun q => (by show _ ≠ _; omega))).trans (fP101 106 z (by omega) (fun q => absurd q (by decide)))), ((fP105 201 z (by omega) (fun q => (by show _ ≠ _; omega))).trans (fP101 201 z (by omega) (fun q => absurd q (by decide)))), ((fP105 202 z (by omega) (fun q => (by show _ ≠ _; omega))).trans (fP101 202 z (by omega) (fun q => absurd q (by decide)))), ((fP105 20 z (by omega) (fun q => (by show _ ≠ _; omega))).trans (fP101 20 z (by omega) (fun q => absurd q (by decide)))), ((fP105 21 z (by omega) (fun q => (by show _ ≠ _; omega))).trans (fP101 21 z (by omega) (fun q => absurd q (by decide)))), ((fP105 22 z (by omega) (fun q => (by show _ ≠ _; omega))).trans (fP101 22 z (by omega) (fun q => absurd q (by decide)))), ((fP105 23 z (by omega) (fun q => (by show _ ≠ _; omega))).trans (fP101 23 z (by omega) (fun q => absurd q (by decide)))), ((fV105 0 z (by omega) (fun q => (by show _ ≠ _; omega))).trans (fV101 0 z (by omega) (fun q => absurd q (by decide)))).trans (p84_0 z (by omega) (by omega)).1, ((fV105 1 z (by omega) (fun q => (by show _ ≠ _; omega))).trans (fV101 1 z (by omega) (fun q => absurd q (by decide)))).trans (p84_0 z (by omega) (by omega)).2.1, ((fV105 10 z (by omega) (fun q => (by show _ ≠ _; omega))).trans (fV101 10 z (by omega) (fun q => absurd q (by decide)))), ((fO105 0 z (by omega) (fun q => (by show _ ≠ _; omega))).trans (fO101 0 z (by omega) (fun q => absurd q (by decide)))), (fl105 z (by omega)).trans (fl101 z (by omega))⟩) (by omega) (fun z hz => (ag105 z (by omega)).trans (ag101 z hz)))
          have qq4 : (∃ dr1, m108 this = some dr1 ∧ DRF (va_up (va_up c105_G 223 m113) 222 m123) (va_up c105_P 224 m108) c105_ln dr1 ∧ dr1 < c105_cnt ∧ ((la105 dr1 = la dr ∧ dr1 = dr) ∨ (la105 dr1 = 100000 + 10 * dr1 ∧ cnt ≤ dr1))) := by obtain ⟨er9, br9, pr9, kp9, lr9, le9, lb9, lp9, se9, sb9, sp9, hptn⟩ := p105_0; exact ⟨c49_cnt, sm108, ⟨_, _, _, _, _, _, _, _, _, _, _, hptn⟩, by omega, Or.inr ⟨(ag105 c49_cnt (by omega)).trans hL101, by omega⟩⟩
          have qq5 : (∀ q, q ≠ (Int32.toNatClampNeg ((G 222) this)) → (c105_O 2) ra q = (O 2) ra q) ∧ ((m123 this).toInt = ((G 222) this).toInt → (c105_O 2) ra = (O 2) ra) := by refine ⟨fun q hq => ?_, fun h => absurd h (by omega)⟩; rw [(fO105 2 ra (by omega) (fun q => (by show _ ≠ _; omega))).trans (fO101 2 ra (by omega) (fun q => absurd q (by decide)))]; show m99 ra q = _; rw [em99, va_up_self, h222, va_up_ne _ _ hq, hO49]
          have qq6 : ((m123 this).toInt = ((G 222) this).toInt + 1 → ∀ b, m108 this = some b → cnt ≤ b) := by intro _ b hb; have e9 : some c49_cnt = some b := Eq.trans (Eq.symm sm108) hb; cases e9; omega
          exact pw_some ⟨la105, hag105, (LB_set hB105 hl152), qq0, qq1, qq2, qq3, qq4, qq5, qq6⟩
        · have c70 := z_nlt c70
          have qq0 : (p0.toInt ≤ ld ∨ 100000 < p0.toInt → (-3 : Int32).toInt = -2 ∧ (c49_G 222) this = (G 222) this ∧ (c49_G 223) this = (G 223) this ∧ (c49_G 80) rd = (G 80) rd ∧ (c49_G 81) rd = (G 81) rd) := by intro h; exfalso; omega
          have qq1 : (ld < p0.toInt ∧ p0.toInt ≤ 100000 → ∀ x, (parF f n (n + 1) 0 ([], [], [])).1 = some x → (-3 : Int32).toInt = -1 ∧ (c49_G 222) this = (G 222) this ∧ (c49_G 223) this = (G 223) this ∧ ERR (some x) ((c49_G 80) rd) ((c49_G 81) rd)) := by intro _ x hx; rw [hR] at hx; cases hx
          have qq2 : (ld < p0.toInt ∧ p0.toInt ≤ 100000 → (parF f n (n + 1) 0 ([], [], [])).1 = none → 6 ≤ ((G 222) this).toInt → (-3 : Int32).toInt = -3 ∧ (c49_G 222) this = (G 222) this ∧ (c49_G 223) this = (G 223) this ∧ ((c49_G 80) rd).toInt = 0 ∧ ((c49_G 81) rd).toInt = -1) := by intro _ _ _; exact ⟨by omega, h222, h223, by omega, by omega⟩
          have qq3 : (ld < p0.toInt ∧ p0.toInt ≤ 100000 → (parF f n (n + 1) 0 ([], [], [])).1 = none → ((G 222) this).toInt < 6 → (-3 : Int32).toInt = ((G 222) this).toInt ∧ ((c49_G 222) this).toInt = ((G 222) this).toInt + 1 ∧ (c49_G 223) this = p0 ∧ ((c49_G 80) rd).toInt = 0 ∧ ((c49_G 81) rd).toInt = -1 ∧ (c49_O 2) ra (Int32.toNatClampNeg ((G 222) this)) = some dr ∧ RFC c49_G c49_P c49_V c49_O c49_ln la49 c49_cnt dr p0 (parF f n (n + 1) 0 ([], [], [])).2) := by intro _ _ h; exfalso; omega
          have qq4 : (∃ dr1, (c49_P 224) this = some dr1 ∧ DRF c49_G c49_P c49_ln dr1 ∧ dr1 < c49_cnt ∧ ((la49 dr1 = la dr ∧ dr1 = dr) ∨ (la49 dr1 = 100000 + 10 * dr1 ∧ cnt ≤ dr1))) := by exact ⟨dr, hn59, ⟨er, br, pr, kp, lr, le, lb, lp, se, sb, sp, hpt49⟩, by omega, Or.inl ⟨ag49 dr (by omega), rfl⟩⟩
          have qq5 : (∀ q, q ≠ (Int32.toNatClampNeg ((G 222) this)) → (c49_O 2) ra q = (O 2) ra q) ∧ (((c49_G 222) this).toInt = ((G 222) this).toInt → (c49_O 2) ra = (O 2) ra) := by exact ⟨fun q _ => congrFun hO49 q, fun _ => hO49⟩
          have qq6 : (((c49_G 222) this).toInt = ((G 222) this).toInt + 1 → ∀ b, (c49_P 224) this = some b → cnt ≤ b) := by intro h; exfalso; omega
          exact pw_some ⟨la49, hag49, hB49, qq0, qq1, qq2, qq3, qq4, qq5, qq6⟩
      · have c59 := z_ne c59
        have qq0 : (p0.toInt ≤ ld ∨ 100000 < p0.toInt → (-1 : Int32).toInt = -2 ∧ (c49_G 222) this = (G 222) this ∧ (c49_G 223) this = (G 223) this ∧ (c49_G 80) rd = (G 80) rd ∧ (c49_G 81) rd = (G 81) rd) := by intro h; exfalso; omega
        have qq1 : (ld < p0.toInt ∧ p0.toInt ≤ 100000 → ∀ x, (parF f n (n + 1) 0 ([], [], [])).1 = some x → (-1 : Int32).toInt = -1 ∧ (c49_G 222) this = (G 222) this ∧ (c49_G 223) this = (G 223) this ∧ ERR (some x) ((c49_G 80) rd) ((c49_G 81) rd)) := by intro _ x hx; exact ⟨by omega, h222, h223, p49_1 x hx⟩
        have qq2 : (ld < p0.toInt ∧ p0.toInt ≤ 100000 → (parF f n (n + 1) 0 ([], [], [])).1 = none → 6 ≤ ((G 222) this).toInt → (-1 : Int32).toInt = -3 ∧ (c49_G 222) this = (G 222) this ∧ (c49_G 223) this = (G 223) this ∧ ((c49_G 80) rd).toInt = 0 ∧ ((c49_G 81) rd).toInt = -1) := by intro _ h; exfalso; have h9 := (p49_0 h).1; omega
        have qq3 : (ld < p0.toInt ∧ p0.toInt ≤ 100000 → (parF f n (n + 1) 0 ([], [], [])).1 = none → ((G 222) this).toInt < 6 → (-1 : Int32).toInt = ((G 222) this).toInt ∧ ((c49_G 222) this).toInt = ((G 222) this).toInt + 1 ∧ (c49_G 223) this = p0 ∧ ((c49_G 80) rd).toInt = 0 ∧ ((c49_G 81) rd).toInt = -1 ∧ (c49_O 2) ra (Int32.toNatClampNeg ((G 222) this)) = some dr ∧ RFC c49_G c49_P c49_V c49_O c49_ln la49 c49_cnt dr p0 (parF f n (n + 1) 0 ([], [], [])).2) := by intro _ h; exfalso; have h9 := (p49_0 h).1; omega
        have qq4 : (∃ dr1, (c49_P 224) this = some dr1 ∧ DRF c49_G c49_P c49_ln dr1 ∧ dr1 < c49_cnt ∧ ((la49 dr1 = la dr ∧ dr1 = dr) ∨ (la49 dr1 = 100000 + 10 * dr1 ∧ cnt ≤ dr1))) := by exact ⟨dr, hn59, ⟨er, br, pr, kp, lr, le, lb, lp, se, sb, sp, hpt49⟩, by omega, Or.inl ⟨ag49 dr (by omega), rfl⟩⟩
        have qq5 : (∀ q, q ≠ (Int32.toNatClampNeg ((G 222) this)) → (c49_O 2) ra q = (O 2) ra q) ∧ (((c49_G 222) this).toInt = ((G 222) this).toInt → (c49_O 2) ra = (O 2) ra) := by exact ⟨fun q _ => congrFun hO49 q, fun _ => hO49⟩
        have qq6 : (((c49_G 222) this).toInt = ((G 222) this).toInt + 1 → ∀ b, (c49_P 224) this = some b → cnt ≤ b) := by intro h; exfalso; omega
        exact pw_some ⟨la49, hag49, hB49, qq0, qq1, qq2, qq3, qq4, qq5, qq6⟩
    · have c19 := z_nle c19
      refine pw_j0 ej22 ?_
      have qq0 : (p0.toInt ≤ ld ∨ 100000 < p0.toInt → (-2 : Int32).toInt = -2 ∧ (G 222) this = (G 222) this ∧ (G 223) this = (G 223) this ∧ (G 80) rd = (G 80) rd ∧ (G 81) rd = (G 81) rd) := by intro _; exact ⟨by omega, rfl, rfl, rfl, rfl⟩
      have qq1 : (ld < p0.toInt ∧ p0.toInt ≤ 100000 → ∀ x, (parF f n (n + 1) 0 ([], [], [])).1 = some x → (-2 : Int32).toInt = -1 ∧ (G 222) this = (G 222) this ∧ (G 223) this = (G 223) this ∧ ERR (some x) ((G 80) rd) ((G 81) rd)) := by intro h; exfalso; omega
      have qq2 : (ld < p0.toInt ∧ p0.toInt ≤ 100000 → (parF f n (n + 1) 0 ([], [], [])).1 = none → 6 ≤ ((G 222) this).toInt → (-2 : Int32).toInt = -3 ∧ (G 222) this = (G 222) this ∧ (G 223) this = (G 223) this ∧ ((G 80) rd).toInt = 0 ∧ ((G 81) rd).toInt = -1) := by intro h; exfalso; omega
      have qq3 : (ld < p0.toInt ∧ p0.toInt ≤ 100000 → (parF f n (n + 1) 0 ([], [], [])).1 = none → ((G 222) this).toInt < 6 → (-2 : Int32).toInt = ((G 222) this).toInt ∧ ((G 222) this).toInt = ((G 222) this).toInt + 1 ∧ (G 223) this = p0 ∧ ((G 80) rd).toInt = 0 ∧ ((G 81) rd).toInt = -1 ∧ (O 2) ra (Int32.toNatClampNeg ((G 222) this)) = some dr ∧ RFC (va_up G 141 c4_G141) P V O ln la cnt dr p0 (parF f n (n + 1) 0 ([], [], [])).2) := by intro h; exfalso; omega
      have qq4 : (∃ dr1, (P 224) this = some dr1 ∧ DRF (va_up G 141 c4_G141) P ln dr1 ∧ dr1 < cnt ∧ ((la dr1 = la dr ∧ dr1 = dr) ∨ (la dr1 = 100000 + 10 * dr1 ∧ cnt ≤ dr1))) := by exact ⟨dr, h224, ⟨er, br, pr, kp, lr, le, lb, lp, se, sb, sp, hpt⟩, by omega, Or.inl ⟨rfl, rfl⟩⟩
      have qq5 : (∀ q, q ≠ (Int32.toNatClampNeg ((G 222) this)) → (O 2) ra q = (O 2) ra q) ∧ (((G 222) this).toInt = ((G 222) this).toInt → (O 2) ra = (O 2) ra) := by exact ⟨fun _ _ => rfl, fun _ => rfl⟩
      have qq6 : (((G 222) this).toInt = ((G 222) this).toInt + 1 → ∀ b, (P 224) this = some b → cnt ≤ b) := by intro h; exfalso; omega
      exact pw_some ⟨la, (fun _ _ => rfl), hB, qq0, qq1, qq2, qq3, qq4, qq5, qq6⟩
