abbrev QF_X11_reform (κ : Nat → Nat) (wd : Nat) (la : Nat → Nat) (G : Nat → Nat → Int32) (P : Nat → Nat → Option Nat) (U : Nat → Nat → Int64) (V : Nat → Nat → Nat → Int32) (X : Nat → Nat → Nat → Int64) (O : Nat → Nat → Nat → Option Nat) (kd : Nat → Nat) (ln : Nat → Nat) (cnt : Nat) (this : Nat) (p0 : Int32) (D : Nat) (f : Nat → Int32) (n : Nat) (ld : Int) (tp : Nat) (tb : Nat) (rd : Nat) (dr : Nat) (ra : Nat) (er : Nat) (br : Nat) (pr : Nat) (kp : Nat) (lr : Nat) (le : Nat) (lb : Nat) (lp : Nat) (se : Nat) (sb : Nat) (sp : Nat) (tr : Nat) (ph : Nat) (tl : Nat) (ts : Nat) (tn : Nat) (nw : Nat) (nx : Nat) : (Int32 × (Nat → Nat → Int32) × (Nat → Nat → Option Nat) × (Nat → Nat → Int64) × (Nat → Nat → Nat → Int32) × (Nat → Nat → Nat → Int64) × (Nat → Nat → Nat → Option Nat) × (Nat → Nat) × (Nat → Nat) × Nat) → Prop := (fun t => ∃ la1 : Nat → Nat, (∀ z, z < cnt → la1 z = la z) ∧ LB la1 (t.2.2.2.2.2.2.2.2.2) (t.2.2.1) ∧ ((p0.toInt ≤ ld ∨ 100000 < p0.toInt → (t.1).toInt = -2 ∧ ((t.2.1) 222) this = (G 222) this ∧ ((t.2.1) 223) this = (G 223) this ∧ ((t.2.1) 80) rd = (G 80) rd ∧ ((t.2.1) 81) rd = (G 81) rd)) ∧ ((ld < p0.toInt ∧ p0.toInt ≤ 100000 → ∀ x, (parF f n (n + 1) 0 ([], [], [])).1 = some x → (t.1).toInt = -1 ∧ ((t.2.1) 222) this = (G 222) this ∧ ((t.2.1) 223) this = (G 223) this ∧ ERR (some x) (((t.2.1) 80) rd) (((t.2.1) 81) rd))) ∧ ((ld < p0.toInt ∧ p0.toInt ≤ 100000 → (parF f n (n + 1) 0 ([], [], [])).1 = none → 6 ≤ ((G 222) this).toInt → (t.1).toInt = -3 ∧ ((t.2.1) 222) this = (G 222) this ∧ ((t.2.1) 223) this = (G 223) this ∧ (((t.2.1) 80) rd).toInt = 0 ∧ (((t.2.1) 81) rd).toInt = -1)) ∧ ((ld < p0.toInt ∧ p0.toInt ≤ 100000 → (parF f n (n + 1) 0 ([], [], [])).1 = none → ((G 222) this).toInt < 6 → (t.1).toInt = ((G 222) this).toInt ∧ (((t.2.1) 222) this).toInt = ((G 222) this).toInt + 1 ∧ ((t.2.1) 223) this = p0 ∧ (((t.2.1) 80) rd).toInt = 0 ∧ (((t.2.1) 81) rd).toInt = -1 ∧ ((t.2.2.2.2.2.2.1) 2) ra (Int32.toNatClampNeg ((G 222) this)) = some dr ∧ RFC (t.2.1) (t.2.2.1) (t.2.2.2.2.1) (t.2.2.2.2.2.2.1) (t.2.2.2.2.2.2.2.2.1) la1 (t.2.2.2.2.2.2.2.2.2) dr p0 (parF f n (n + 1) 0 ([], [], [])).2)) ∧ ((∃ dr1, ((t.2.2.1) 224) this = some dr1 ∧ DRF (t.2.1) (t.2.2.1) (t.2.2.2.2.2.2.2.2.1) dr1 ∧ dr1 < (t.2.2.2.2.2.2.2.2.2) ∧ ((la1 dr1 = la dr ∧ dr1 = dr) ∨ (la1 dr1 = 100000 + 10 * dr1 ∧ cnt ≤ dr1)))) ∧ ((∀ q, q ≠ (Int32.toNatClampNeg ((G 222) this)) → ((t.2.2.2.2.2.2.1) 2) ra q = (O 2) ra q) ∧ ((((t.2.1) 222) this).toInt = ((G 222) this).toInt → ((t.2.2.2.2.2.2.1) 2) ra = (O 2) ra)) ∧ (((((t.2.1) 222) this).toInt = ((G 222) this).toInt + 1 → ∀ b, ((t.2.2.1) 224) this = some b → cnt ≤ b)) ∧ ((ld < p0.toInt ∧ p0.toInt ≤ 100000 → (parF f n (n + 1) 0 ([], [], [])).1 = none → ((G 222) this).toInt < 6 → TPC (t.2.1) (t.2.2.1) (t.2.2.2.2.1) dr (parF f n (n + 1) 0 ([], [], [])).2)) ∧ ((∃ dr1, ((t.2.2.1) 224) this = some dr1 ∧ DRT (t.2.1) (t.2.2.1) (t.2.2.2.2.2.2.2.2.1) dr1)))
set_option maxHeartbeats 40000000 in
set_option maxRecDepth 100000 in
theorem fn_X11_reform (κ : Nat → Nat) (wd : Nat) (la : Nat → Nat) (G : Nat → Nat → Int32) (P : Nat → Nat → Option Nat) (U : Nat → Nat → Int64) (V : Nat → Nat → Nat → Int32) (X : Nat → Nat → Nat → Int64) (O : Nat → Nat → Nat → Option Nat) (kd : Nat → Nat) (ln : Nat → Nat) (cnt : Nat) (this : Nat) (p0 : Int32) (D : Nat) (f : Nat → Int32) (n : Nat) (ld : Int) (tp : Nat) (tb : Nat) (rd : Nat) (dr : Nat) (ra : Nat) (er : Nat) (br : Nat) (pr : Nat) (kp : Nat) (lr : Nat) (le : Nat) (lb : Nat) (lp : Nat) (se : Nat) (sb : Nat) (sp : Nat) (tr : Nat) (ph : Nat) (tl : Nat) (ts : Nat) (tn : Nat) (nw : Nat) (nx : Nat) (hI : CInv κ wd G P V O ln cnt) (hk_this : κ this = 12) (hB : LB la cnt P) (hlt_this : this < cnt) (hpl0 : la this = 200) (hpl1 : ∀ b, (P 224) this = some b → b < cnt ∧ la b = D) (h220 : (P 220) this = some tp) (h140 : (P 140) tp = some tb) (h225 : (P 225) this = some rd) (h224 : (P 224) this = some dr) (h221 : (P 221) this = some ra) (hpt : PTS P (G 200) ln dr er br pr kp lr le lb lp se sb sp) (hf : (V 0) tb = f) (hn : Int32.toNatClampNeg ((G 141) tp) = n) (hld : ((G 223) this).toInt = ld) (hlD : 100000 ≤ la dr) (h108 : (P 108) dr = some tr) (h109 : (P 109) dr = some ph) (hxl : (P 201) tr = some tl) (hts : (P 202) tr = some ts) (hwt : ((G 200) tr).toInt = ((24 : Nat) : Int)) (hm40 : ln ts = 40) (h226 : (P 226) this = some tn) (h181 : (P 181) tn = some nw) (h182 : (P 182) tn = some nx) (hnn : nw ≠ nx) (hfit : ∀ i, fits .byte (.int (f i)) = true) : pw (f_X11_reform G P U V X O kd ln cnt this p0) (sp1 (QF_X11_reform κ wd la G P U V X O kd ln cnt this p0 D f n ld tp tb rd dr ra er br pr kp lr le lb lp se sb sp tr ph tl ts tn nw nx)) := by
  unfold f_X11_reform
  have zkm3 : (-3 : Int32).toInt = -3 := by decide +kernel
  have zkm2 : (-2 : Int32).toInt = -2 := by decide +kernel
  have zkm1 : (-1 : Int32).toInt = -1 := by decide +kernel
  have zk0 : (0 : Int32).toInt = 0 := by decide +kernel
  have zk1 : (1 : Int32).toInt = 1 := by decide +kernel
  have zk6 : (6 : Int32).toInt = 6 := by decide +kernel
  have zk100000 : (100000 : Int32).toInt = 100000 := by decide +kernel
  have r_p0 := i32r p0
  replace hnn : id _ := hnn
  have hn1 : (P 220) this = some tp := h220
  have lt_tp2 := ((hB.1 220 fl_220) this tp hn1).2.1
  have lb_tp2 : la tp = 10 := lk_220.mp ((hB.1 220 fl_220) this tp hn1).2.2
  have hk_tp := (((CInv_P220 hI :) this).2 tp hn1).1
  have hl1_tp := (((CInv_P220 hI :) this).2 tp hn1).2.1
  have hl2_tp := (((CInv_P220 hI :) this).2 tp hn1).2.2.1
  have hw_tp : id _ := (((CInv_P220 hI :) this).2 tp hn1).2.2.2
  have hn3 : (P 140) tp = some tb := h140
  obtain ⟨_, lt_tb4, lb_tb4⟩ := (hB.1 140 fl_140) tp tb hn3
  have lb_tb4 : la tb = 11 := (lk_140.mp lb_tb4).trans (congrArg (fun z9 => z9 + 1) lb_tp2)
  have hk_tb := (((CInv_P140 hI :) tp).2 tb hn3).1
  have hl1_tb := (((CInv_P140 hI :) tp).2 tb hn3).2.1
  have hl2_tb := (((CInv_P140 hI :) tp).2 tb hn3).2.2.1
  have hw_tb : id _ := (((CInv_P140 hI :) tp).2 tb hn3).2.2.2
  have hz_tb : (Int32.ofNat (ln tb)).toInt = ((ln tb : Nat) : Int) := ofN_eq (by first | exact Nat.le_trans hl2_tb (by decide) | omega)
  have hn5 : (P 225) this = some rd := h225
  have lt_rd6 := ((hB.1 225 fl_225) this rd hn5).2.1
  have lb_rd6 : la rd = 300 := lk_225.mp ((hB.1 225 fl_225) this rd hn5).2.2
  have hk_rd := (((CInv_P225 hI :) this).2 rd hn5).1
  have hl1_rd := (((CInv_P225 hI :) this).2 rd hn5).2.1
  have hl2_rd := (((CInv_P225 hI :) this).2 rd hn5).2.2.1
  have hw_rd : id _ := (((CInv_P225 hI :) this).2 rd hn5).2.2.2
  have hn7 : (P 224) this = some dr := h224
  have lt_dr8 := ((hB.1 224 fl_224) this dr hn7).2.1
  have hk_dr := (((CInv_P224 hI :) this).2 dr hn7).1
  have hl1_dr := (((CInv_P224 hI :) this).2 dr hn7).2.1
  have hl2_dr := (((CInv_P224 hI :) this).2 dr hn7).2.2.1
  have hw_dr : id _ := (((CInv_P224 hI :) this).2 dr hn7).2.2.2
  have hn9 : (P 221) this = some ra := h221
  obtain ⟨_, lt_ra10, lb_ra10⟩ := (hB.1 221 fl_221) this ra hn9
  have lb_ra10 : la ra = 203 := (lk_221.mp lb_ra10).trans (congrArg (fun z9 => z9 + 3) hpl0)
  have hk_ra := (((CInv_P221 hI :) this).2 ra hn9).1
  have hl1_ra := (((CInv_P221 hI :) this).2 ra hn9).2.1
  have hl2_ra := (((CInv_P221 hI :) this).2 ra hn9).2.2.1
  have hw_ra : id _ := (((CInv_P221 hI :) this).2 ra hn9).2.2.2
  have hz_ra : (Int32.ofNat (ln ra)).toInt = ((ln ra : Nat) : Int) := ofN_eq (by first | exact Nat.le_trans hl2_ra (by decide) | omega)
  have hn11 : (P 108) dr = some tr := h108
  have lt_tr12 := ((hB.1 108 fl_108) dr tr hn11).2.1
  have lb_tr12 : la tr = la dr + 4 := lk_108.mp ((hB.1 108 fl_108) dr tr hn11).2.2
  have lbb_tr12 : la dr ≤ la tr ∧ la tr ≤ la dr + 5 := by rw [lb_tr12]; exact ⟨Nat.le_add_right _ _, Nat.add_le_add_left (by decide) _⟩
  have hk_tr := (((CInv_P108 hI :) dr).2 tr hn11).1
  have hl1_tr := (((CInv_P108 hI :) dr).2 tr hn11).2.1
  have hl2_tr := (((CInv_P108 hI :) dr).2 tr hn11).2.2.1
  have hw_tr : id _ := (((CInv_P108 hI :) dr).2 tr hn11).2.2.2
  have hn13 : (P 109) dr = some ph := h109
  obtain ⟨_, lt_ph14, lb_ph14⟩ := (hB.1 109 fl_109) dr ph hn13
  have lb_ph14 : la dr ≤ la ph ∧ la ph ≤ la dr + 5 := by rw [lk_109.mp lb_ph14]; exact ⟨Nat.le_add_right _ _, Nat.add_le_add_left (by decide) _⟩
  have hk_ph := (((CInv_P109 hI :) dr).2 ph hn13).1
  have hl1_ph := (((CInv_P109 hI :) dr).2 ph hn13).2.1
  have hl2_ph := (((CInv_P109 hI :) dr).2 ph hn13).2.2.1
  have hw_ph : id _ := (((CInv_P109 hI :) dr).2 ph hn13).2.2.2
  have hz_ph : (Int32.ofNat (ln ph)).toInt = ((ln ph : Nat) : Int) := ofN_eq (by first | exact Nat.le_trans hl2_ph (by decide) | omega)
  have hn15 : (P 201) tr = some tl := hxl
  obtain ⟨_, lt_tl16, lb_tl16⟩ := (hB.1 201 fl_201) tr tl hn15
  have lb_tl16 : la dr ≤ la tl ∧ la tl ≤ la dr + 5 := by rw [lk_201.mp lb_tl16]; exact lbb_tr12
  have hk_tl := (((CInv_P201 hI :) tr).2 tl hn15).1
  have hl1_tl := (((CInv_P201 hI :) tr).2 tl hn15).2.1
  have hl2_tl := (((CInv_P201 hI :) tr).2 tl hn15).2.2.1
  have hw_tl : id _ := (((CInv_P201 hI :) tr).2 tl hn15).2.2.2
  have hz_tl : (Int32.ofNat (ln tl)).toInt = ((ln tl : Nat) : Int) := ofN_eq (by first | exact Nat.le_trans hl2_tl (by decide) | omega)
  have hn17 : (P 202) tr = some ts := hts
  obtain ⟨_, lt_ts18, lb_ts18⟩ := (hB.1 202 fl_202) tr ts hn17
  have lb_ts18 : la dr ≤ la ts ∧ la ts ≤ la dr + 5 := by rw [lk_202.mp lb_ts18]; exact lbb_tr12
  have hk_ts := (((CInv_P202 hI :) tr).2 ts hn17).1
  have hl1_ts := (((CInv_P202 hI :) tr).2 ts hn17).2.1
  have hl2_ts := (((CInv_P202 hI :) tr).2 ts hn17).2.2.1
  have hw_ts : id _ := (((CInv_P202 hI :) tr).2 ts hn17).2.2.2
  have hz_ts : (Int32.ofNat (ln ts)).toInt = ((ln ts : Nat) : Int) := ofN_eq (by first | exact Nat.le_trans hl2_ts (by decide) | omega)
  have rb19 := ((CInv_RB hI :) tr ts hk_tr hn17).1
  have ra20 := (CInv_RA hI :) tr tl ts hk_tr hn15 hn17
  have bw21 := (CInv_G200 hI :) tr
  have hn22 : (P 226) this = some tn := h226
  have lt_tn23 := ((hB.1 226 fl_226) this tn hn22).2.1
  have lb_tn23 : la tn = 90 := lk_226.mp ((hB.1 226 fl_226) this tn hn22).2.2
  have hk_tn := (((CInv_P226 hI :) this).2 tn hn22).1
  have hl1_tn := (((CInv_P226 hI :) this).2 tn hn22).2.1
  have hl2_tn := (((CInv_P226 hI :) this).2 tn hn22).2.2.1
  have hw_tn : id _ := (((CInv_P226 hI :) this).2 tn hn22).2.2.2
  have lDr := (hpl1 dr h224).2
  have hul : tp < cnt := by omega
  have htl := hlt_this
  have hl2k : ln tb = 2000 := by omega
  refine pw_nne hn1 ?_
  refine pw_b2 (fun r4 c4_G141 hc4 => ?_)
  have hq4 := wp_at (ok_X7_take κ wd G P U V X O kd ln cnt tp (CInv_G141 hI :) (CInv_LN hI :) hk_tp) hc4
  obtain ⟨hg24, f25, f26, f27⟩ : (rng (0) 2000 c4_G141) ∧ (r4.toInt = ((G 141) tp).toInt) ∧ ((c4_G141 tp).toInt = 0) ∧ ((0 ≤ r4.toInt ∧ r4.toInt ≤ 2000)) := hq4
  have hq4 := pwq (fr_X7_take la G P U V X O kd ln cnt tp hB) hc4
  have q4_G141 : (∀ z, (la z < la tp ∨ la tp < la z) → c4_G141 z = (G 141) z) := hq4
  clear hq4
  have tz4 : ∀ z, (z < cnt ∧ (la z < 10 ∨ 10 < la z) ∧ (la z < 300 ∨ 300 < la z) ∧ (la z < 90 ∨ 90 + 8 < la z) ∧ (la z < 200 ∨ 200 + 3 < la z) ∧ (la z < D ∨ D + 5 < la z)) → ((la z < la tp ∨ la tp < la z)) := fun z hz => by omega
  have hfr28 : ∀ z, (z < cnt ∧ (la z < 10 ∨ 10 < la z) ∧ (la z < 300 ∨ 300 < la z) ∧ (la z < 90 ∨ 90 + 8 < la z) ∧ (la z < 200 ∨ 200 + 3 < la z) ∧ (la z < D ∨ D + 5 < la z)) → c4_G141 z = (G 141) z := fun z hz => (q4_G141 z (tz4 z hz)).trans ((fun _ _ => rfl) z hz)
  have hx4 := pwq (fn_X7_take κ wd la G P U V X O kd ln cnt tp (CInv_G141 hI :) (CInv_LN hI :) hk_tp hB lt_tp2) hc4
  obtain ⟨p4_0, p4_1⟩ : (r4 = (G 141) tp) ∧ (c4_G141 tp = 0) := hx4
  have hr4 := congrArg Int32.toInt p4_0
  have hb4 := (CInv_G141 hI :) tp
  refine pw_jE (fun j22 ej22 => ?_)
  refine pw_ite (fun c13 => ?_) (fun c13 => ?_)
  · have c13 := (z_le _ _).mp c13
    refine pw_j0 ej22 ?_
    have qq0 : (p0.toInt ≤ ld ∨ 100000 < p0.toInt → (-2 : Int32).toInt = -2 ∧ (G 222) this = (G 222) this ∧ (G 223) this = (G 223) this ∧ (G 80) rd = (G 80) rd ∧ (G 81) rd = (G 81) rd) := by intro _; exact ⟨by omega, rfl, rfl, rfl, rfl⟩
    have qq1 : (ld < p0.toInt ∧ p0.toInt ≤ 100000 → ∀ x, (parF f n (n + 1) 0 ([], [], [])).1 = some x → (-2 : Int32).toInt = -1 ∧ (G 222) this = (G 222) this ∧ (G 223) this = (G 223) this ∧ ERR (some x) ((G 80) rd) ((G 81) rd)) := by intro h; exfalso; omega
    have qq2 : (ld < p0.toInt ∧ p0.toInt ≤ 100000 → (parF f n (n + 1) 0 ([], [], [])).1 = none → 6 ≤ ((G 222) this).toInt → (-2 : Int32).toInt = -3 ∧ (G 222) this = (G 222) this ∧ (G 223) this = (G 223) this ∧ ((G 80) rd).toInt = 0 ∧ ((G 81) rd).toInt = -1) := by intro h; exfalso; omega
    have qq3 : (ld < p0.toInt ∧ p0.toInt ≤ 100000 → (parF f n (n + 1) 0 ([], [], [])).1 = none → ((G 222) this).toInt < 6 → (-2 : Int32).toInt = ((G 222) this).toInt ∧ ((G 222) this).toInt = ((G 222) this).toInt + 1 ∧ (G 223) this = p0 ∧ ((G 80) rd).toInt = 0 ∧ ((G 81) rd).toInt = -1 ∧ (O 2) ra (Int32.toNatClampNeg ((G 222) this)) = some dr ∧ RFC (va_up G 141 c4_G141) P V O ln la cnt dr p0 (parF f n (n + 1) 0 ([], [], [])).2) := by intro h; exfalso; omega
    have qq4 : (∃ dr1, (P 224) this = some dr1 ∧ DRF (va_up G 141 c4_G141) P ln dr1 ∧ dr1 < cnt ∧ ((la dr1 = la dr ∧ dr1 = dr) ∨ (la dr1 = 100000 + 10 * dr1 ∧ cnt ≤ dr1))) := by exact ⟨dr, h224, ⟨er, br, pr, kp, lr, le, lb, lp, se, sb, sp, hpt⟩, by omega, Or.inl ⟨rfl, rfl⟩⟩
    have qq5 : (∀ q, q ≠ (Int32.toNatClampNeg ((G 222) this)) → (O 2) ra q = (O 2) ra q) ∧ (((G 222) this).toInt = ((G 222) this).toInt → (O 2) ra = (O 2) ra) := by exact ⟨fun _ _ => rfl, fun _ => rfl⟩
    have qq6 : (((G 222) this).toInt = ((G 222) this).toInt + 1 → ∀ b, (P 224) this = some b → cnt ≤ b) := by intro h; exfalso; omega
    have qq7 : (ld < p0.toInt ∧ p0.toInt ≤ 100000 → (parF f n (n + 1) 0 ([], [], [])).1 = none → ((G 222) this).toInt < 6 → TPC (va_up G 141 c4_G141) P V dr (parF f n (n + 1) 0 ([], [], [])).2) := by intro h; exfalso; omega
    have qq8 : (∃ dr1, (P 224) this = some dr1 ∧ DRT (va_up G 141 c4_G141) P ln dr1) := by exact ⟨dr, h224, tr, ph, tl, ts, ⟨h108, h109, hxl, hts⟩, hwt, hm40⟩
    exact pw_some ⟨la, (fun _ _ => rfl), hB, qq0, qq1, qq2, qq3, qq4, qq5, qq6, qq7, qq8⟩
  · have c13 := z_nle c13
    refine pw_ite (fun c19 => ?_) (fun c19 => ?_)
    · have c19 := (z_le _ _).mp c19
      refine pw_nne hn7 ?_
      refine pw_b4 (fun c30_G100 c30_G102 c30_G107 c30_G203 hc30 => ?_)
      have hq30 := wp_at (ok_X5_clear κ wd (va_up G 141 c4_G141) P U V X O kd ln cnt dr p0 (CInv_G102 hI :) (CInv_G200 hI :) (CInv_G203 hI :) (CInv_P103 hI :) (CInv_P104 hI :) (CInv_P105 hI :) (CInv_P108 hI :) (CInv_P201 hI :) (CInv_P202 hI :) (CInv_V1 hI :) (CInv_RA hI :) (CInv_RB hI :) (CInv_RI hI :) (CInv_RM103 hI :) (CInv_RM104 hI :) (CInv_RM108 hI :) (CInv_LN hI :) hk_dr) hc30
      obtain ⟨hg29, hg30, hRB31, f32, f33⟩ : (rng (0) 40 c30_G102) ∧ (rng (0) 100 c30_G203) ∧ (RB κ ln (G 200) c30_G203 (P 202) (V 1)) ∧ (c30_G203 wd = (G 203) wd) ∧ ((c30_G102 dr).toInt = 0) := hq30
      have hq30 := pwq (fr_X5_clear la (va_up G 141 c4_G141) P U V X O kd ln cnt dr p0 hB) hc30
      obtain ⟨q30_G100, q30_G102, q30_G107, q30_G203⟩ : (∀ z, (la z < la dr ∨ la dr + 5 < la z) → c30_G100 z = (G 100) z) ∧ (∀ z, (la z < la dr ∨ la dr + 5 < la z) → c30_G102 z = (G 102) z) ∧ (∀ z, (la z < la dr ∨ la dr + 5 < la z) → c30_G107 z = (G 107) z) ∧ (∀ z, (la z < la dr ∨ la dr + 5 < la z) → c30_G203 z = (G 203) z) := hq30
      have tz30 : ∀ z, (z < cnt ∧ (la z < 10 ∨ 10 < la z) ∧ (la z < 300 ∨ 300 < la z) ∧ (la z < 90 ∨ 90 + 8 < la z) ∧ (la z < 200 ∨ 200 + 3 < la z) ∧ (la z < D ∨ D + 5 < la z)) → ((la z < la dr ∨ la dr + 5 < la z)) := fun z hz => by omega
      have hfr34 : ∀ z, (z < cnt ∧ (la z < 10 ∨ 10 < la z) ∧ (la z < 300 ∨ 300 < la z) ∧ (la z < 90 ∨ 90 + 8 < la z) ∧ (la z < 200 ∨ 200 + 3 < la z) ∧ (la z < D ∨ D + 5 < la z)) → c30_G100 z = (G 100) z := fun z hz => (q30_G100 z (tz30 z hz)).trans ((fun _ _ => rfl) z hz)
      have hfr35 : ∀ z, (z < cnt ∧ (la z < 10 ∨ 10 < la z) ∧ (la z < 300 ∨ 300 < la z) ∧ (la z < 90 ∨ 90 + 8 < la z) ∧ (la z < 200 ∨ 200 + 3 < la z) ∧ (la z < D ∨ D + 5 < la z)) → c30_G102 z = (G 102) z := fun z hz => (q30_G102 z (tz30 z hz)).trans ((fun _ _ => rfl) z hz)
      have hfr36 : ∀ z, (z < cnt ∧ (la z < 10 ∨ 10 < la z) ∧ (la z < 300 ∨ 300 < la z) ∧ (la z < 90 ∨ 90 + 8 < la z) ∧ (la z < 200 ∨ 200 + 3 < la z) ∧ (la z < D ∨ D + 5 < la z)) → c30_G107 z = (G 107) z := fun z hz => (q30_G107 z (tz30 z hz)).trans ((fun _ _ => rfl) z hz)
      have hfr37 : ∀ z, (z < cnt ∧ (la z < 10 ∨ 10 < la z) ∧ (la z < 300 ∨ 300 < la z) ∧ (la z < 90 ∨ 90 + 8 < la z) ∧ (la z < 200 ∨ 200 + 3 < la z) ∧ (la z < D ∨ D + 5 < la z)) → c30_G203 z = (G 203) z := fun z hz => (q30_G203 z (tz30 z hz)).trans ((fun _ _ => rfl) z hz)
      have h830_hpt : PTS P (G 200) ln dr er br pr kp lr le lb lp se sb sp := by exact hpt
      have h830_h108 : (P 108) dr = some tr := by exact h108
      have hx30 := pwq (fn_X5_clear2 κ wd la (va_up G 141 c4_G141) P U V X O kd ln cnt dr p0 (er) (br) (pr) (kp) (lr) (le) (lb) (lp) (se) (sb) (sp) (tr) (CInv_G102 hI :) (CInv_G200 hI :) (CInv_G203 hI :) (CInv_P103 hI :) (CInv_P104 hI :) (CInv_P105 hI :) (CInv_P108 hI :) (CInv_P201 hI :) (CInv_P202 hI :) (CInv_V1 hI :) (CInv_RA hI :) (CInv_RB hI :) (CInv_RI hI :) (CInv_RM103 hI :) (CInv_RM104 hI :) (CInv_RM108 hI :) (CInv_LN hI :) hk_dr hB lt_dr8 h830_hpt h830_h108) hc30
      obtain ⟨p30_0, p30_1, p30_2⟩ : ((c30_G102 dr).toInt = 0 ∧ (c30_G107 dr).toInt = 0 ∧ c30_G100 dr = p0) ∧ ((c30_G203 er).toInt = 0 ∧ (c30_G203 br).toInt = 0 ∧ (c30_G203 pr).toInt = 0) ∧ ((c30_G203 tr).toInt = 0) := hx30
      have hFL38 : FL wd c30_G203 (V 3) := by exact FL_eq (CInv_FL hI :) f32
      refine pw_nne hn5 ?_
      refine pw_nne hn1 ?_
      refine pw_nne hn3 ?_
      refine pw_nne hn7 ?_
      have hpr49_0 : 0 ≤ r4.toInt := by first | assumption | omega
      have hpr49_1 : ((ln tb : Nat) : Int) ≤ 2000 := by first | assumption | omega
      refine pw_bA9 (fun c49_G c49_P c49_U c49_V c49_X c49_O c49_kd c49_ln c49_cnt v1_49 v2_49 hc49 => ?_)
      have hq49 := wp_at (ok_X4_read κ wd (va_up (va_up (va_up (va_up (va_up G 141 c4_G141) 100 c30_G100) 102 c30_G102) 107 c30_G107) 203 c30_G203) P U V X O kd ln cnt rd tb r4 dr (CInv_i (CInv_G43 hI :) (CInv_G44 hI :) (CInv_G45 hI :) (CInv_G60 hI :) (CInv_G83 hI :) (CInv_G84 hI :) (CInv_G85 hI :) (CInv_G87 hI :) (CInv_G88 hI :) hg29 (CInv_G125 hI :) (CInv_G126 hI :) (CInv_G127 hI :) hg24 (CInv_G160 hI :) (CInv_G161 hI :) (CInv_G162 hI :) (CInv_G165 hI :) (CInv_G166 hI :) (CInv_G183 hI :) (CInv_G200 hI :) hg30 (CInv_G222 hI :) (CInv_G231 hI :) (CInv_G233 hI :) (CInv_P0 hI :) (CInv_P1 hI :) (CInv_P2 hI :) (CInv_P3 hI :) (CInv_P4 hI :) (CInv_P5 hI :) (CInv_P20 hI :) (CInv_P21 hI :) (CInv_P22 hI :) (CInv_P23 hI :) (CInv_P40 hI :) (CInv_P41 hI :) (CInv_P42 hI :) (CInv_P61 hI :) (CInv_P62 hI :) (CInv_P63 hI :) (CInv_P64 hI :) (CInv_P65 hI :) (CInv_P66 hI :) (CInv_P82 hI :) (CInv_P101 hI :) (CInv_P103 hI :) (CInv_P104 hI :) (CInv_P105 hI :) (CInv_P106 hI :) (CInv_P108 hI :) (CInv_P109 hI :) (CInv_P110 hI :) (CInv_P120 hI :) (CInv_P121 hI :) (CInv_P122 hI :) (CInv_P123 hI :) (CInv_P140 hI :) (CInv_P164 hI :) (CInv_P180 hI :) (CInv_P181 hI :) (CInv_P182 hI :) (CInv_P185 hI :) (CInv_P186 hI :) (CInv_P187 hI :) (CInv_P201 hI :) (CInv_P202 hI :) (CInv_P220 hI :) (CInv_P221 hI :) (CInv_P224 hI :) (CInv_P225 hI :) (CInv_P226 hI :) (CInv_P227 hI :) (CInv_P228 hI :) (CInv_P229 hI :) (CInv_P230 hI :) (CInv_P232 hI :) (CInv_P234 hI :) (CInv_P235 hI :) (CInv_P236 hI :) (CInv_V1 hI :) (CInv_V2 hI :) (CInv_V3 hI :) (CInv_V9 hI :) (CInv_O0 hI :) (CInv_O1 hI :) (CInv_O2 hI :) (CInv_RA hI :) hRB31 (CInv_RI hI :) (CInv_RM103 hI :) (CInv_RM104 hI :) (CInv_RM108 hI :) (CInv_LN hI :) hFL38 (CInv_W0 hI :) (CInv_KC hI :) (CInv_WK hI :)) hk_rd hk_tb hk_dr hpr49_0 hpr49_1) hc49
      obtain ⟨κ49_38, hCI49, hxx49, hcc40, hfr41, hfr42, hfr43, hfr44, hfr45, hfr46, hfr47, hfr48, f49, f50, f51⟩ : ∃ κ1 : Nat → Nat, (CInv κ1 wd c49_G c49_P c49_V c49_O c49_ln c49_cnt) ∧ (∀ a, κ a ≠ 0 → κ1 a = κ a) ∧ (cnt ≤ c49_cnt) ∧ ((∀ a, κ a ≠ 0 → (c49_P 220) a = (P 220) a)) ∧ ((∀ a, κ a ≠ 0 → (c49_P 229) a = (P 229) a)) ∧ ((∀ a, κ a ≠ 0 → (c49_P 3) a = (P 3) a)) ∧ ((∀ a, κ a ≠ 0 → (c49_G 141) a = c4_G141 a)) ∧ ((∀ a, κ a ≠ 0 → (c49_P 0) a = (P 0) a)) ∧ ((∀ a, κ a ≠ 0 → (c49_V 3) a = (V 3) a)) ∧ ((∀ a, κ a ≠ 0 → (c49_G 160) a = (G 160) a)) ∧ ((∀ a, κ a ≠ 0 → c49_ln a = ln a)) ∧ ((c49_G 203) wd = c30_G203 wd) ∧ (((v1_49 : Nat) : Int) ≤ 10 * r4.toInt + 10) ∧ (((v2_49 : Nat) : Int) ≤ 118 * r4.toInt + 118) := hq49
      have kx52 : ∀ a, κ a ≠ 0 → κ49_38 a = κ a := hxx49
      have hk53 : κ49_38 this = 12 := kxk hxx49 hk_this (by decide)
      have hq49 := pwq (fr_X4_read la (va_up (va_up (va_up (va_up (va_up G 141 c4_G141) 100 c30_G100) 102 c30_G102) 107 c30_G107) 203 c30_G203) P U V X O kd ln cnt rd tb r4 dr hB lt_rd6 lt_tb4 lt_dr8) hc49
      obtain ⟨la49_f, agf49, hBf49, ccf49, fG49, fP49, fU49, fV49, fX49, fO49, fl49⟩ : ∃ la9 : Nat → Nat, (∀ z, z < cnt → la9 z = la z) ∧ LB la9 c49_cnt c49_P ∧ cnt ≤ c49_cnt ∧ FRM cnt [24, 25, 80, 81, 83, 84, 85, 86, 87, 88, 102, 107, 203] (fun z => (la z < la rd ∨ la rd < la z) ∧ (la z < la dr ∨ la dr + 3 < la z) ∧ (la z < la dr + 5 ∨ la dr + 5 < la z)) (va_up (va_up (va_up (va_up (va_up G 141 c4_G141) 100 c30_G100) 102 c30_G102) 107 c30_G107) 203 c30_G203) c49_G ∧ FRM cnt [22, 23, 82] (fun z => (la z < la rd ∨ la rd < la z) ∧ (la z < la dr ∨ la dr + 3 < la z) ∧ (la z < la dr + 5 ∨ la dr + 5 < la z)) P c49_P ∧ FRM cnt [] (fun z => (la z < la rd ∨ la rd < la z) ∧ (la z < la dr ∨ la dr + 3 < la z) ∧ (la z < la dr + 5 ∨ la dr + 5 < la z)) U c49_U ∧ FRM cnt [0, 1, 10] (fun z => (la z < la rd ∨ la rd < la z) ∧ (la z < la dr ∨ la dr + 3 < la z) ∧ (la z < la dr + 5 ∨ la dr + 5 < la z)) V c49_V ∧ FRM cnt [] (fun z => (la z < la rd ∨ la rd < la z) ∧ (la z < la dr ∨ la dr + 3 < la z) ∧ (la z < la dr + 5 ∨ la dr + 5 < la z)) X c49_X ∧ FRM cnt [0] (fun z => (la z < la rd ∨ la rd < la z) ∧ (la z < la dr ∨ la dr + 3 < la z) ∧ (la z < la dr + 5 ∨ la dr + 5 < la z)) O c49_O ∧ (∀ z, z < cnt → c49_ln z = ln z) := hq49
      have h849_hpt : PTS P (G 200) ln dr er br pr kp lr le lb lp se sb sp := by exact hpt
      have h849_hd : (entV (c30_G203 er) ((V 0) le) ((V 1) se) ((V 0) lb) ((V 1) sb) ((V 10) kp), rwW (c30_G203 pr) ((V 0) lp) ((V 1) sp) 16, lwsV (c30_G102 dr) ((O 0) lr) (P 20) (P 21) (P 22) (P 23) (G 24) (G 25) (V 0) ln) = ([], [], []) := by exact Prod.ext (ent_0 p30_1.1) (Prod.ext (rw_0 p30_1.2.2) (lws_0 p30_0.1))
      have h849_hcb : (c30_G203 br).toInt = (c30_G203 er).toInt := by omega
      have h849_hkc : (c30_G107 dr).toInt = 0 := by omega
      have h849_hlw : LWL (c30_G102 dr) ((O 0) lr) la cnt (la dr + 5) := by exact LWL_0 p30_0.1
      have h849_hf : (V 0) tb = f := by exact hf
      have h849_hn : Int32.toNatClampNeg r4 = n := by rw [p4_0]; exact hn
      have h849_hle : r4.toInt ≤ ((ln tb : Nat) : Int) := by omega
      have h849_hlx : la tb = 11 := by omega
      have h849_hld : 100000 ≤ la dr := by omega
      have h849_hlh : la rd = 300 := by omega
      have hx49 := pwq (fn_X4_read κ wd la (va_up (va_up (va_up (va_up (va_up G 141 c4_G141) 100 c30_G100) 102 c30_G102) 107 c30_G107) 203 c30_G203) P U V X O kd ln cnt rd tb r4 dr (f) (n) (er) (br) (pr) (kp) (lr) (le) (lb) (lp) (se) (sb) (sp) (CInv_i (CInv_G43 hI :) (CInv_G44 hI :) (CInv_G45 hI :) (CInv_G60 hI :) (CInv_G83 hI :) (CInv_G84 hI :) (CInv_G85 hI :) (CInv_G87 hI :) (CInv_G88 hI :) hg29 (CInv_G125 hI :) (CInv_G126 hI :) (CInv_G127 hI :) hg24 (CInv_G160 hI :) (CInv_G161 hI :) (CInv_G162 hI :) (CInv_G165 hI :) (CInv_G166 hI :) (CInv_G183 hI :) (CInv_G200 hI :) hg30 (CInv_G222 hI :) (CInv_G231 hI :) (CInv_G233 hI :) (CInv_P0 hI :) (CInv_P1 hI :) (CInv_P2 hI :) (CInv_P3 hI :) (CInv_P4 hI :) (CInv_P5 hI :) (CInv_P20 hI :) (CInv_P21 hI :) (CInv_P22 hI :) (CInv_P23 hI :) (CInv_P40 hI :) (CInv_P41 hI :) (CInv_P42 hI :) (CInv_P61 hI :) (CInv_P62 hI :) (CInv_P63 hI :) (CInv_P64 hI :) (CInv_P65 hI :) (CInv_P66 hI :) (CInv_P82 hI :) (CInv_P101 hI :) (CInv_P103 hI :) (CInv_P104 hI :) (CInv_P105 hI :) (CInv_P106 hI :) (CInv_P108 hI :) (CInv_P109 hI :) (CInv_P110 hI :) (CInv_P120 hI :) (CInv_P121 hI :) (CInv_P122 hI :) (CInv_P123 hI :) (CInv_P140 hI :) (CInv_P164 hI :) (CInv_P180 hI :) (CInv_P181 hI :) (CInv_P182 hI :) (CInv_P185 hI :) (CInv_P186 hI :) (CInv_P187 hI :) (CInv_P201 hI :) (CInv_P202 hI :) (CInv_P220 hI :) (CInv_P221 hI :) (CInv_P224 hI :) (CInv_P225 hI :) (CInv_P226 hI :) (CInv_P227 hI :) (CInv_P228 hI :) (CInv_P229 hI :) (CInv_P230 hI :) (CInv_P232 hI :) (CInv_P234 hI :) (CInv_P235 hI :) (CInv_P236 hI :) (CInv_V1 hI :) (CInv_V2 hI :) (CInv_V3 hI :) (CInv_V9 hI :) (CInv_O0 hI :) (CInv_O1 hI :) (CInv_O2 hI :) (CInv_RA hI :) hRB31 (CInv_RI hI :) (CInv_RM103 hI :) (CInv_RM104 hI :) (CInv_RM108 hI :) (CInv_LN hI :) hFL38 (CInv_W0 hI :) (CInv_KC hI :) (CInv_WK hI :)) hk_rd hk_tb hk_dr hpr49_0 hpr49_1 hB lt_rd6 lt_tb4 lt_dr8 h849_hpt h849_hd h849_hcb h849_hkc h849_hlw h849_hf h849_hn h849_hle h849_hlx h849_hld h849_hlh) hc49
      obtain ⟨la49, ag49, hB49, p49_0, p49_1⟩ : ∃ la9 : Nat → Nat, (∀ z, z < cnt → la9 z = la z) ∧ LB la9 c49_cnt c49_P ∧ (id (((parF f n (n + 1) 0 ([], [], [])).1 = none → ((c49_G 80) rd).toInt = 0 ∧ ((c49_G 81) rd).toInt = -1 ∧ (entV ((c49_G 203) er) ((c49_V 0) le) ((c49_V 1) se) ((c49_V 0) lb) ((c49_V 1) sb) ((c49_V 10) kp), rwW ((c49_G 203) pr) ((c49_V 0) lp) ((c49_V 1) sp) 16, lwsV ((c49_G 102) dr) ((c49_O 0) lr) (c49_P 20) (c49_P 21) (c49_P 22) (c49_P 23) (c49_G 24) (c49_G 25) (c49_V 0) c49_ln) = (parF f n (n + 1) 0 ([], [], [])).2 ∧ ((c49_G 203) br).toInt = ((c49_G 203) er).toInt ∧ ((c49_G 107) dr).toInt = ((kct (parF f n (n + 1) 0 ([], [], [])).2.1 : Nat) : Int) ∧ LWL ((c49_G 102) dr) ((c49_O 0) lr) la9 c49_cnt (la dr + 5)))) ∧ (id ((∀ x, (parF f n (n + 1) 0 ([], [], [])).1 = some x → ERR (some x) ((c49_G 80) rd) ((c49_G 81) rd)))) := hx49
      clear h849_hlh h849_hld h849_hlx h849_hle h849_hn h849_hf h849_hlw h849_hkc h849_hcb h849_hd h849_hpt agf49 hBf49 hxx49 hfr41 hfr42 hfr43 hfr44 hfr45 hfr46 hfr47 hfr48 hc49 hpr49_1 hpr49_0 hFL38 h830_h108 h830_hpt tz30 q30_G100 q30_G102 q30_G107 q30_G203 hg29 hg30 hRB31 hc30 tz4 q4_G141 hg24 hc4
      have gl_54 : la49 this = 200 := (ag49 this hlt_this).trans hpl0
      have lt55 : this < c49_cnt := Nat.lt_of_lt_of_le hlt_this ccf49
      have gl_56 : la49 tp = 10 := (ag49 tp lt_tp2).trans lb_tp2
      have lt57 : tp < c49_cnt := Nat.lt_of_lt_of_le lt_tp2 ccf49
      have gl_58 : la49 tb = 11 := (ag49 tb lt_tb4).trans lb_tb4
      have lt59 : tb < c49_cnt := Nat.lt_of_lt_of_le lt_tb4 ccf49
      have gl_60 : la49 rd = 300 := (ag49 rd lt_rd6).trans lb_rd6
      have lt61 : rd < c49_cnt := Nat.lt_of_lt_of_le lt_rd6 ccf49
      have gl_62 : la49 dr = la dr := ag49 dr lt_dr8
      have lt63 : dr < c49_cnt := Nat.lt_of_lt_of_le lt_dr8 ccf49
      have gl_64 : la49 ra = 203 := (ag49 ra lt_ra10).trans lb_ra10
      have lt65 : ra < c49_cnt := Nat.lt_of_lt_of_le lt_ra10 ccf49
      have gl_66 : la dr ≤ la49 tr ∧ la49 tr ≤ la dr + 5 := by rw [ag49 tr lt_tr12]; exact lbb_tr12
      have lt67 : tr < c49_cnt := Nat.lt_of_lt_of_le lt_tr12 ccf49
      have gl_68 : la dr ≤ la49 ph ∧ la49 ph ≤ la dr + 5 := by rw [ag49 ph lt_ph14]; exact lb_ph14
      have lt69 : ph < c49_cnt := Nat.lt_of_lt_of_le lt_ph14 ccf49
      have gl_70 : la dr ≤ la49 tl ∧ la49 tl ≤ la dr + 5 := by rw [ag49 tl lt_tl16]; exact lb_tl16
      have lt71 : tl < c49_cnt := Nat.lt_of_lt_of_le lt_tl16 ccf49
      have gl_72 : la dr ≤ la49 ts ∧ la49 ts ≤ la dr + 5 := by rw [ag49 ts lt_ts18]; exact lb_ts18
      have lt73 : ts < c49_cnt := Nat.lt_of_lt_of_le lt_ts18 ccf49
      have gl_74 : la49 tn = 90 := (ag49 tn lt_tn23).trans lb_tn23
      have lt75 : tn < c49_cnt := Nat.lt_of_lt_of_le lt_tn23 ccf49
      have hag49 : ∀ z, z < cnt → la49 z = la z := fun z hz => (ag49 z (Nat.lt_of_lt_of_le hz (Nat.le_refl _))).trans (rfl)
      have hle49 : cnt ≤ cnt := (Nat.le_refl _)
      have ctf49 : ∀ z, z < cnt → ((la z < 10 ∨ 10 < la z) ∧ (la z < 300 ∨ 300 < la z) ∧ (la z < 90 ∨ 90 + 8 < la z) ∧ (la z < 200 ∨ 200 + 3 < la z) ∧ (la z < D ∨ D + 5 < la z)) → ((la z < la rd ∨ la rd < la z) ∧ (la z < la dr ∨ la dr + 3 < la z) ∧ (la z < la dr + 5 ∨ la dr + 5 < la z)) := fun z h0 hz => by have q2 := hB.2 z h0; omega
      have hF49_G : FRM cnt [24, 25, 80, 81, 83, 84, 85, 86, 87, 88, 100, 102, 107, 141, 183, 203, 222, 223] (fun z => (la z < 10 ∨ 10 < la z) ∧ (la z < 300 ∨ 300 < la z) ∧ (la z < 90 ∨ 90 + 8 < la z) ∧ (la z < 200 ∨ 200 + 3 < la z) ∧ (la z < D ∨ D + 5 < la z)) G c49_G := FRM_trans (FRM_set (FRM_set (FRM_set (FRM_set (FRM_set FRM_refl (by decide) (fun z h1 h2 => hfr28 z ⟨h1, h2⟩)) (by decide) (fun z h1 h2 => hfr34 z ⟨h1, h2⟩)) (by decide) (fun z h1 h2 => hfr35 z ⟨h1, h2⟩)) (by decide) (fun z h1 h2 => hfr36 z ⟨h1, h2⟩)) (by decide) (fun z h1 h2 => hfr37 z ⟨h1, h2⟩)) fG49 hle49 (by decide) (ctf49)
      have hF49_P : FRM cnt [22, 23, 82, 181, 182, 224] (fun z => (la z < 10 ∨ 10 < la z) ∧ (la z < 300 ∨ 300 < la z) ∧ (la z < 90 ∨ 90 + 8 < la z) ∧ (la z < 200 ∨ 200 + 3 < la z) ∧ (la z < D ∨ D + 5 < la z)) P c49_P := FRM_trans FRM_refl fP49 hle49 (by decide) (ctf49)
      have hF49_U : FRM cnt [184] (fun z => (la z < 10 ∨ 10 < la z) ∧ (la z < 300 ∨ 300 < la z) ∧ (la z < 90 ∨ 90 + 8 < la z) ∧ (la z < 200 ∨ 200 + 3 < la z) ∧ (la z < D ∨ D + 5 < la z)) U c49_U := FRM_trans FRM_refl fU49 hle49 (by decide) (ctf49)
      have hF49_V : FRM cnt [0, 1, 10, 11] (fun z => (la z < 10 ∨ 10 < la z) ∧ (la z < 300 ∨ 300 < la z) ∧ (la z < 90 ∨ 90 + 8 < la z) ∧ (la z < 200 ∨ 200 + 3 < la z) ∧ (la z < D ∨ D + 5 < la z)) V c49_V := FRM_trans FRM_refl fV49 hle49 (by decide) (ctf49)
      have hF49_X : FRM cnt [0] (fun z => (la z < 10 ∨ 10 < la z) ∧ (la z < 300 ∨ 300 < la z) ∧ (la z < 90 ∨ 90 + 8 < la z) ∧ (la z < 200 ∨ 200 + 3 < la z) ∧ (la z < D ∨ D + 5 < la z)) X c49_X := FRM_trans FRM_refl fX49 hle49 (by decide) (ctf49)
      have hF49_O : FRM cnt [0, 2] (fun z => (la z < 10 ∨ 10 < la z) ∧ (la z < 300 ∨ 300 < la z) ∧ (la z < 90 ∨ 90 + 8 < la z) ∧ (la z < 200 ∨ 200 + 3 < la z) ∧ (la z < D ∨ D + 5 < la z)) O c49_O := FRM_trans FRM_refl fO49 hle49 (by decide) (ctf49)
      have hlnn49 : ∀ z, z < cnt → c49_ln z = ln z := fun z hz => (fl49 z (Nat.lt_of_lt_of_le hz hle49)).trans (rfl)
      clear fU49 fV49 fX49 hfr37 hfr36 hfr35 hfr34 hfr28
      have hn76 : (c49_P 220) this = some tp := (fP49 220 this hlt_this (fun q => absurd q (by decide))).trans hn1
      have lt_tp77 := ((hB49.1 220 fl_220) this tp hn76).2.1
      have hk_tp := (((CInv_P220 hCI49 :) this).2 tp hn76).1
      have hl1_tp := (((CInv_P220 hCI49 :) this).2 tp hn76).2.1
      have hl2_tp := (((CInv_P220 hCI49 :) this).2 tp hn76).2.2.1
      have hw_tp : id _ := (((CInv_P220 hCI49 :) this).2 tp hn76).2.2.2
      have hn78 : (c49_P 140) tp = some tb := (fP49 140 tp lt_tp2 (fun q => absurd q (by decide))).trans hn3
      have lt_tb79 := ((hB49.1 140 fl_140) tp tb hn78).2.1
      have hk_tb := (((CInv_P140 hCI49 :) tp).2 tb hn78).1
      have hl1_tb := (((CInv_P140 hCI49 :) tp).2 tb hn78).2.1
      have hl2_tb := (((CInv_P140 hCI49 :) tp).2 tb hn78).2.2.1
      have hw_tb : id _ := (((CInv_P140 hCI49 :) tp).2 tb hn78).2.2.2
      have hn80 : (c49_P 225) this = some rd := (fP49 225 this hlt_this (fun q => absurd q (by decide))).trans hn5
      have lt_rd81 := ((hB49.1 225 fl_225) this rd hn80).2.1
      have hk_rd := (((CInv_P225 hCI49 :) this).2 rd hn80).1
      have hl1_rd := (((CInv_P225 hCI49 :) this).2 rd hn80).2.1
      have hl2_rd := (((CInv_P225 hCI49 :) this).2 rd hn80).2.2.1
      have hw_rd : id _ := (((CInv_P225 hCI49 :) this).2 rd hn80).2.2.2
      have hn82 : (c49_P 224) this = some dr := (fP49 224 this hlt_this (fun q => absurd q (by decide))).trans hn7
      have lt_dr83 := ((hB49.1 224 fl_224) this dr hn82).2.1
      have hk_dr := (((CInv_P224 hCI49 :) this).2 dr hn82).1
      have hl1_dr := (((CInv_P224 hCI49 :) this).2 dr hn82).2.1
      have hl2_dr := (((CInv_P224 hCI49 :) this).2 dr hn82).2.2.1
      have hw_dr : id _ := (((CInv_P224 hCI49 :) this).2 dr hn82).2.2.2
      have hn84 : (c49_P 221) this = some ra := (fP49 221 this hlt_this (fun q => absurd q (by decide))).trans hn9
      have lt_ra85 := ((hB49.1 221 fl_221) this ra hn84).2.1
      have hk_ra := (((CInv_P221 hCI49 :) this).2 ra hn84).1
      have hl1_ra := (((CInv_P221 hCI49 :) this).2 ra hn84).2.1
      have hl2_ra := (((CInv_P221 hCI49 :) this).2 ra hn84).2.2.1
      have hw_ra : id _ := (((CInv_P221 hCI49 :) this).2 ra hn84).2.2.2
      have hn86 : (c49_P 108) dr = some tr := (fP49 108 dr lt_dr8 (fun q => absurd q (by decide))).trans hn11
      have lt_tr87 := ((hB49.1 108 fl_108) dr tr hn86).2.1
      have hk_tr := (((CInv_P108 hCI49 :) dr).2 tr hn86).1
      have hl1_tr := (((CInv_P108 hCI49 :) dr).2 tr hn86).2.1
      have hl2_tr := (((CInv_P108 hCI49 :) dr).2 tr hn86).2.2.1
      have hw_tr : id _ := (((CInv_P108 hCI49 :) dr).2 tr hn86).2.2.2
      have hn88 : (c49_P 109) dr = some ph := (fP49 109 dr lt_dr8 (fun q => absurd q (by decide))).trans hn13
      have lt_ph89 := ((hB49.1 109 fl_109) dr ph hn88).2.1
      have hk_ph := (((CInv_P109 hCI49 :) dr).2 ph hn88).1
      have hl1_ph := (((CInv_P109 hCI49 :) dr).2 ph hn88).2.1
      have hl2_ph := (((CInv_P109 hCI49 :) dr).2 ph hn88).2.2.1
      have hw_ph : id _ := (((CInv_P109 hCI49 :) dr).2 ph hn88).2.2.2
      have hn90 : (c49_P 201) tr = some tl := (fP49 201 tr lt_tr12 (fun q => absurd q (by decide))).trans hn15
      have lt_tl91 := ((hB49.1 201 fl_201) tr tl hn90).2.1
      have hk_tl := (((CInv_P201 hCI49 :) tr).2 tl hn90).1
      have hl1_tl := (((CInv_P201 hCI49 :) tr).2 tl hn90).2.1
      have hl2_tl := (((CInv_P201 hCI49 :) tr).2 tl hn90).2.2.1
      have hw_tl : id _ := (((CInv_P201 hCI49 :) tr).2 tl hn90).2.2.2
      have hn92 : (c49_P 202) tr = some ts := (fP49 202 tr lt_tr12 (fun q => absurd q (by decide))).trans hn17
      have lt_ts93 := ((hB49.1 202 fl_202) tr ts hn92).2.1
      have hk_ts := (((CInv_P202 hCI49 :) tr).2 ts hn92).1
      have hl1_ts := (((CInv_P202 hCI49 :) tr).2 ts hn92).2.1
      have hl2_ts := (((CInv_P202 hCI49 :) tr).2 ts hn92).2.2.1
      have hw_ts : id _ := (((CInv_P202 hCI49 :) tr).2 ts hn92).2.2.2
      have rb94 := ((CInv_RB hCI49 :) tr ts hk_tr hn92).1
      have hn97 : (c49_P 226) this = some tn := (fP49 226 this hlt_this (fun q => absurd q (by decide))).trans hn22
      have lt_tn98 := ((hB49.1 226 fl_226) this tn hn97).2.1
      have hk_tn := (((CInv_P226 hCI49 :) this).2 tn hn97).1
      have hl1_tn := (((CInv_P226 hCI49 :) this).2 tn hn97).2.1
      have hl2_tn := (((CInv_P226 hCI49 :) this).2 tn hn97).2.2.1
      have hw_tn : id _ := (((CInv_P226 hCI49 :) this).2 tn hn97).2.2.2
      have h222 : (c49_G 222) this = (G 222) this := fG49 222 this (by omega) (fun q => absurd q (by decide))
      have h223 : (c49_G 223) this = (G 223) this := fG49 223 this (by omega) (fun q => absurd q (by decide))
      have h222i := congrArg Int32.toInt h222
      have hO49 : (c49_O 2) ra = (O 2) ra := fO49 2 ra (by omega) (fun q => absurd q (by decide))
      have hpt49 : PTS c49_P (c49_G 200) c49_ln dr er br pr kp lr le lb lp se sb sp := by obtain ⟨⟨c_er, l_er⟩, ⟨c_br, l_br⟩, ⟨c_pr, l_pr⟩, ⟨c_kp, l_kp⟩, ⟨c_lr, l_lr⟩, ⟨c_le, l_le⟩, ⟨c_lb, l_lb⟩, ⟨c_lp, l_lp⟩, ⟨c_se, l_se⟩, ⟨c_sb, l_sb⟩, ⟨c_sp, l_sp⟩⟩ := pts_lab hpt hB; exact pts_fr hpt (fun g z hg hz => fP49 g z hz (fun q => absurd q (by rcases hg with h | h | h | h | h | h | h <;> subst h <;> decide))) (fun z hz => fG49 200 z hz (fun q => absurd q (by decide))) (fun z hz => fl49 z hz) (by omega) (by omega) (by omega) (by omega) (by omega) (by omega) (by omega)
      have g108 : c49_P 108 dr = some tr := (fP49 108 dr (by omega) (fun q => absurd q (by decide))).trans h108
      have g109 : c49_P 109 dr = some ph := (fP49 109 dr (by omega) (fun q => absurd q (by decide))).trans h109
      have g201 : c49_P 201 tr = some tl := (fP49 201 tr (by omega) (fun q => absurd q (by decide))).trans hxl
      have g202 : c49_P 202 tr = some ts := (fP49 202 tr (by omega) (fun q => absurd q (by decide))).trans hts
      have g200 : (c49_G 200 tr).toInt = ((24 : Nat) : Int) := by rw [fG49 200 tr (by omega) (fun q => absurd q (by decide))]; exact hwt
      have g226 : c49_P 226 this = some tn := (fP49 226 this (by omega) (fun q => absurd q (by decide))).trans h226
      have g181 : c49_P 181 tn = some nw := (fP49 181 tn (by omega) (fun q => absurd q (by decide))).trans h181
      have g182 : c49_P 182 tn = some nx := (fP49 182 tn (by omega) (fun q => absurd q (by decide))).trans h182
      have g203 : (c49_G 203 tr).toInt = 0 := by rw [fG49 203 tr (by omega) (fun _ => show (la tr < la rd ∨ la rd < la tr) ∧ (la tr < la dr ∨ la dr + 3 < la tr) ∧ (la tr < la dr + 5 ∨ la dr + 5 < la tr) from by omega)]; exact p30_2
      have gln : c49_ln ts = 40 := (fl49 ts (by omega)).trans hm40
      refine pw_nne hn80 ?_
      refine pw_ite (fun c59 => ?_) (fun c59 => ?_)
      · have c59 := congrArg Int32.toInt c59
        have hR : (parF f n (n + 1) 0 ([], [], [])).1 = none := by by_cases hq : (parF f n (n + 1) 0 ([], [], [])).1 = none; (exact hq); (exfalso; obtain ⟨x, hx⟩ := Option.ne_none_iff_exists'.mp hq; have h9 := (p49_1 x hx).2.1; omega)
        obtain ⟨b1, b2, b3, b4, b5, b6⟩ := p49_0 hR
        have hRFC : RFC c49_G c49_P c49_V c49_O c49_ln la49 c49_cnt dr p0 (parF f n (n + 1) 0 ([], [], [])).2 := ⟨er, br, pr, kp, lr, le, lb, lp, se, sb, sp, hpt49, b3, by rw [ag49 dr (by omega)]; exact b6, b4, b5, (fG49 100 dr (by omega) (fun q => absurd q (by decide))).trans p30_0.2.2⟩
        have hwfd : WFD (parF f n (n + 1) 0 ([], [], [])).2 := par_wf hfit _ _ _ wfd_0
        have b3p := congrArg (fun d : Dr => d.2.1) b3
        have b3l := congrArg (fun d : Dr => d.2.2) b3
        dsimp only at b3p b3l
        have hn99 : (c49_P 108) dr = some tr := g108
        have hk_tr := (((CInv_P108 hCI49 :) dr).2 tr hn99).1
        have hl1_tr := (((CInv_P108 hCI49 :) dr).2 tr hn99).2.1
        have hl2_tr := (((CInv_P108 hCI49 :) dr).2 tr hn99).2.2.1
        have hw_tr : id _ := (((CInv_P108 hCI49 :) dr).2 tr hn99).2.2.2
        have hn100 : (c49_P 109) dr = some ph := g109
        have hk_ph := (((CInv_P109 hCI49 :) dr).2 ph hn100).1
        have hl1_ph := (((CInv_P109 hCI49 :) dr).2 ph hn100).2.1
        have hl2_ph := (((CInv_P109 hCI49 :) dr).2 ph hn100).2.2.1
        have hw_ph : id _ := (((CInv_P109 hCI49 :) dr).2 ph hn100).2.2.2
        have hn101 : (c49_P 201) tr = some tl := g201
        have hk_tl := (((CInv_P201 hCI49 :) tr).2 tl hn101).1
        have hl1_tl := (((CInv_P201 hCI49 :) tr).2 tl hn101).2.1
        have hl2_tl := (((CInv_P201 hCI49 :) tr).2 tl hn101).2.2.1
        have hw_tl : id _ := (((CInv_P201 hCI49 :) tr).2 tl hn101).2.2.2
        have hn105 : (c49_P 202) tr = some ts := g202
        have hk_ts := (((CInv_P202 hCI49 :) tr).2 ts hn105).1
        have hl1_ts := (((CInv_P202 hCI49 :) tr).2 ts hn105).2.1
        have hl2_ts := (((CInv_P202 hCI49 :) tr).2 ts hn105).2.2.1
        have hw_ts : id _ := (((CInv_P202 hCI49 :) tr).2 ts hn105).2.2.2
        have hn109 : (c49_P 226) this = some tn := g226
        have hk_tn := (((CInv_P226 hCI49 :) this).2 tn hn109).1
        have hl1_tn := (((CInv_P226 hCI49 :) this).2 tn hn109).2.1
        have hl2_tn := (((CInv_P226 hCI49 :) this).2 tn hn109).2.2.1
        have hw_tn : id _ := (((CInv_P226 hCI49 :) this).2 tn hn109).2.2.2
        have hn110 : (c49_P 181) tn = some nw := g181
        obtain ⟨_, lt_nw111, lb_nw111⟩ := (hB49.1 181 fl_181) tn nw hn110
        have lb_nw111 : 91 ≤ la49 nw ∧ la49 nw ≤ 92 := by have z9 := lk_181.mp lb_nw111; rw [gl_74] at z9; exact or_bd z9 (by decide)
        have hk_nw := (((CInv_P181 hCI49 :) tn).2 nw hn110).1
        have hl1_nw := (((CInv_P181 hCI49 :) tn).2 nw hn110).2.1
        have hl2_nw := (((CInv_P181 hCI49 :) tn).2 nw hn110).2.2.1
        have hw_nw : id _ := (((CInv_P181 hCI49 :) tn).2 nw hn110).2.2.2
        have hz_nw : (Int32.ofNat (c49_ln nw)).toInt = ((c49_ln nw : Nat) : Int) := ofN_eq (by first | exact Nat.le_trans hl2_nw (by decide) | omega)
        have hn112 : (c49_P 182) tn = some nx := g182
        obtain ⟨_, lt_nx113, lb_nx113⟩ := (hB49.1 182 fl_182) tn nx hn112
        have lb_nx113 : 91 ≤ la49 nx ∧ la49 nx ≤ 92 := by have z9 := lk_182.mp lb_nx113; rw [gl_74] at z9; exact or_bd z9 (by decide)
        have hk_nx := (((CInv_P182 hCI49 :) tn).2 nx hn112).1
        have hl1_nx := (((CInv_P182 hCI49 :) tn).2 nx hn112).2.1
        have hl2_nx := (((CInv_P182 hCI49 :) tn).2 nx hn112).2.2.1
        have hw_nx : id _ := (((CInv_P182 hCI49 :) tn).2 nx hn112).2.2.2
        have hz_nx : (Int32.ofNat (c49_ln nx)).toInt = ((c49_ln nx : Nat) : Int) := ofN_eq (by first | exact Nat.le_trans hl2_nx (by decide) | omega)
        have b114 := (CInv_G222 hCI49 :) this
        refine pw_ite (fun c70 => ?_) (fun c70 => ?_)
        · have c70 := (z_lt _ _).mp c70
          refine pw_nne hn109 ?_
          refine pw_nne hn82 ?_
          refine pw_b9 (fun c84_G183 c84_G203 c84_P181 c84_P182 c84_U184 c84_V0 c84_V1 c84_V11 c84_X0 hc84 => ?_)
          have hq84 := wp_at (ok_X9_turnParts κ49_38 wd c49_G c49_P c49_U c49_V c49_X c49_O c49_kd c49_ln c49_cnt tn dr (CInv_G102 hCI49 :) (CInv_G183 hCI49 :) (CInv_G200 hCI49 :) (CInv_G203 hCI49 :) (CInv_P20 hCI49 :) (CInv_P21 hCI49 :) (CInv_P22 hCI49 :) (CInv_P23 hCI49 :) (CInv_P101 hCI49 :) (CInv_P103 hCI49 :) (CInv_P108 hCI49 :) (CInv_P109 hCI49 :) (CInv_P110 hCI49 :) (CInv_P181 hCI49 :) (CInv_P182 hCI49 :) (CInv_P201 hCI49 :) (CInv_P202 hCI49 :) (CInv_V1 hCI49 :) (CInv_O0 hCI49 :) (CInv_RA hCI49 :) (CInv_RB hCI49 :) (CInv_RI hCI49 :) (CInv_RM103 hCI49 :) (CInv_RM108 hCI49 :) (CInv_LN hCI49 :) hk_tn hk_dr) hc84
          obtain ⟨hg115, hg116, hg117, hg118, hg119, hRB120, f121⟩ : (rng (0) 40 c84_G183) ∧ (rng (0) 100 c84_G203) ∧ (PB κ49_38 c49_ln wd 10 100 40 40 0 c84_P181) ∧ (PB κ49_38 c49_ln wd 10 100 40 40 0 c84_P182) ∧ (rng2 (0) 24 c84_V1) ∧ (RB κ49_38 c49_ln (c49_G 200) c84_G203 (c49_P 202) c84_V1) ∧ (c84_G203 wd = (c49_G 203) wd) := hq84
          have hq84 := pwq (fr_X9_turnParts la49 c49_G c49_P c49_U c49_V c49_X c49_O c49_kd c49_ln c49_cnt tn dr hB49 lt_tn98) hc84
          obtain ⟨q84_G183, q84_G203, q84_P181, q84_P182, q84_U184, q84_V0, q84_V1, q84_V11, q84_X0, ql84_181, ql84_182⟩ : (∀ z, (la49 z < la49 tn ∨ la49 tn + 8 < la49 z) ∧ (la49 z < la49 dr ∨ la49 dr + 5 < la49 z) → c84_G183 z = (c49_G 183) z) ∧ (∀ z, (la49 z < la49 tn ∨ la49 tn + 8 < la49 z) ∧ (la49 z < la49 dr ∨ la49 dr + 5 < la49 z) → c84_G203 z = (c49_G 203) z) ∧ (∀ z, (la49 z < la49 tn ∨ la49 tn + 8 < la49 z) ∧ (la49 z < la49 dr ∨ la49 dr + 5 < la49 z) → c84_P181 z = (c49_P 181) z) ∧ (∀ z, (la49 z < la49 tn ∨ la49 tn + 8 < la49 z) ∧ (la49 z < la49 dr ∨ la49 dr + 5 < la49 z) → c84_P182 z = (c49_P 182) z) ∧ (∀ z, (la49 z < la49 tn ∨ la49 tn + 8 < la49 z) ∧ (la49 z < la49 dr ∨ la49 dr + 5 < la49 z) → c84_U184 z = (c49_U 184) z) ∧ (∀ z, (la49 z < la49 tn ∨ la49 tn + 8 < la49 z) ∧ (la49 z < la49 dr ∨ la49 dr + 5 < la49 z) → c84_V0 z = (c49_V 0) z) ∧ (∀ z, (la49 z < la49 tn ∨ la49 tn + 8 < la49 z) ∧ (la49 z < la49 dr ∨ la49 dr + 5 < la49 z) → c84_V1 z = (c49_V 1) z) ∧ (∀ z, (la49 z < la49 tn ∨ la49 tn + 8 < la49 z) ∧ (la49 z < la49 dr ∨ la49 dr + 5 < la49 z) → c84_V11 z = (c49_V 11) z) ∧ (∀ z, (la49 z < la49 tn ∨ la49 tn + 8 < la49 z) ∧ (la49 z < la49 dr ∨ la49 dr + 5 < la49 z) → c84_X0 z = (c49_X 0) z) ∧ LC 181 la49 c49_cnt c84_P181 ∧ LC 182 la49 c49_cnt c84_P182 := hq84
          have tz84 : ∀ z, (z < cnt ∧ (la z < 10 ∨ 10 < la z) ∧ (la z < 300 ∨ 300 < la z) ∧ (la z < 90 ∨ 90 + 8 < la z) ∧ (la z < 200 ∨ 200 + 3 < la z) ∧ (la z < D ∨ D + 5 < la z)) → ((la49 z < la49 tn ∨ la49 tn + 8 < la49 z) ∧ (la49 z < la49 dr ∨ la49 dr + 5 < la49 z)) := fun z hz => by have q1 := hag49 z hz.1; have q2 := hB.2 z hz.1; omega
          have hfr122 : ∀ z, (z < cnt ∧ (la z < 10 ∨ 10 < la z) ∧ (la z < 300 ∨ 300 < la z) ∧ (la z < 90 ∨ 90 + 8 < la z) ∧ (la z < 200 ∨ 200 + 3 < la z) ∧ (la z < D ∨ D + 5 < la z)) → c84_G183 z = (G 183) z := fun z hz => (q84_G183 z (tz84 z hz)).trans ((fun (z : Nat) (hz : (z < cnt ∧ (la z < 10 ∨ 10 < la z) ∧ (la z < 300 ∨ 300 < la z) ∧ (la z < 90 ∨ 90 + 8 < la z) ∧ (la z < 200 ∨ 200 + 3 < la z) ∧ (la z < D ∨ D + 5 < la z))) => hF49_G 183 z hz.1 (fun _ => hz.2)) z hz)
          have hfr123 : ∀ z, (z < cnt ∧ (la z < 10 ∨ 10 < la z) ∧ (la z < 300 ∨ 300 < la z) ∧ (la z < 90 ∨ 90 + 8 < la z) ∧ (la z < 200 ∨ 200 + 3 < la z) ∧ (la z < D ∨ D + 5 < la z)) → c84_G203 z = (G 203) z := fun z hz => (q84_G203 z (tz84 z hz)).trans ((fun (z : Nat) (hz : (z < cnt ∧ (la z < 10 ∨ 10 < la z) ∧ (la z < 300 ∨ 300 < la z) ∧ (la z < 90 ∨ 90 + 8 < la z) ∧ (la z < 200 ∨ 200 + 3 < la z) ∧ (la z < D ∨ D + 5 < la z))) => hF49_G 203 z hz.1 (fun _ => hz.2)) z hz)
          have hfr124 : ∀ z, (z < cnt ∧ (la z < 10 ∨ 10 < la z) ∧ (la z < 300 ∨ 300 < la z) ∧ (la z < 90 ∨ 90 + 8 < la z) ∧ (la z < 200 ∨ 200 + 3 < la z) ∧ (la z < D ∨ D + 5 < la z)) → c84_P181 z = (P 181) z := fun z hz => (q84_P181 z (tz84 z hz)).trans ((fun (z : Nat) (hz : (z < cnt ∧ (la z < 10 ∨ 10 < la z) ∧ (la z < 300 ∨ 300 < la z) ∧ (la z < 90 ∨ 90 + 8 < la z) ∧ (la z < 200 ∨ 200 + 3 < la z) ∧ (la z < D ∨ D + 5 < la z))) => hF49_P 181 z hz.1 (fun _ => hz.2)) z hz)
          have hfr125 : ∀ z, (z < cnt ∧ (la z < 10 ∨ 10 < la z) ∧ (la z < 300 ∨ 300 < la z) ∧ (la z < 90 ∨ 90 + 8 < la z) ∧ (la z < 200 ∨ 200 + 3 < la z) ∧ (la z < D ∨ D + 5 < la z)) → c84_P182 z = (P 182) z := fun z hz => (q84_P182 z (tz84 z hz)).trans ((fun (z : Nat) (hz : (z < cnt ∧ (la z < 10 ∨ 10 < la z) ∧ (la z < 300 ∨ 300 < la z) ∧ (la z < 90 ∨ 90 + 8 < la z) ∧ (la z < 200 ∨ 200 + 3 < la z) ∧ (la z < D ∨ D + 5 < la z))) => hF49_P 182 z hz.1 (fun _ => hz.2)) z hz)
          have hfr126 : ∀ z, (z < cnt ∧ (la z < 10 ∨ 10 < la z) ∧ (la z < 300 ∨ 300 < la z) ∧ (la z < 90 ∨ 90 + 8 < la z) ∧ (la z < 200 ∨ 200 + 3 < la z) ∧ (la z < D ∨ D + 5 < la z)) → c84_U184 z = (U 184) z := fun z hz => (q84_U184 z (tz84 z hz)).trans ((fun (z : Nat) (hz : (z < cnt ∧ (la z < 10 ∨ 10 < la z) ∧ (la z < 300 ∨ 300 < la z) ∧ (la z < 90 ∨ 90 + 8 < la z) ∧ (la z < 200 ∨ 200 + 3 < la z) ∧ (la z < D ∨ D + 5 < la z))) => hF49_U 184 z hz.1 (fun _ => hz.2)) z hz)
          have hfr127 : ∀ z, (z < cnt ∧ (la z < 10 ∨ 10 < la z) ∧ (la z < 300 ∨ 300 < la z) ∧ (la z < 90 ∨ 90 + 8 < la z) ∧ (la z < 200 ∨ 200 + 3 < la z) ∧ (la z < D ∨ D + 5 < la z)) → c84_V0 z = (V 0) z := fun z hz => (q84_V0 z (tz84 z hz)).trans ((fun (z : Nat) (hz : (z < cnt ∧ (la z < 10 ∨ 10 < la z) ∧ (la z < 300 ∨ 300 < la z) ∧ (la z < 90 ∨ 90 + 8 < la z) ∧ (la z < 200 ∨ 200 + 3 < la z) ∧ (la z < D ∨ D + 5 < la z))) => hF49_V 0 z hz.1 (fun _ => hz.2)) z hz)
          have hfr128 : ∀ z, (z < cnt ∧ (la z < 10 ∨ 10 < la z) ∧ (la z < 300 ∨ 300 < la z) ∧ (la z < 90 ∨ 90 + 8 < la z) ∧ (la z < 200 ∨ 200 + 3 < la z) ∧ (la z < D ∨ D + 5 < la z)) → c84_V1 z = (V 1) z := fun z hz => (q84_V1 z (tz84 z hz)).trans ((fun (z : Nat) (hz : (z < cnt ∧ (la z < 10 ∨ 10 < la z) ∧ (la z < 300 ∨ 300 < la z) ∧ (la z < 90 ∨ 90 + 8 < la z) ∧ (la z < 200 ∨ 200 + 3 < la z) ∧ (la z < D ∨ D + 5 < la z))) => hF49_V 1 z hz.1 (fun _ => hz.2)) z hz)
          have hfr129 : ∀ z, (z < cnt ∧ (la z < 10 ∨ 10 < la z) ∧ (la z < 300 ∨ 300 < la z) ∧ (la z < 90 ∨ 90 + 8 < la z) ∧ (la z < 200 ∨ 200 + 3 < la z) ∧ (la z < D ∨ D + 5 < la z)) → c84_V11 z = (V 11) z := fun z hz => (q84_V11 z (tz84 z hz)).trans ((fun (z : Nat) (hz : (z < cnt ∧ (la z < 10 ∨ 10 < la z) ∧ (la z < 300 ∨ 300 < la z) ∧ (la z < 90 ∨ 90 + 8 < la z) ∧ (la z < 200 ∨ 200 + 3 < la z) ∧ (la z < D ∨ D + 5 < la z))) => hF49_V 11 z hz.1 (fun _ => hz.2)) z hz)
          have hfr130 : ∀ z, (z < cnt ∧ (la z < 10 ∨ 10 < la z) ∧ (la z < 300 ∨ 300 < la z) ∧ (la z < 90 ∨ 90 + 8 < la z) ∧ (la z < 200 ∨ 200 + 3 < la z) ∧ (la z < D ∨ D + 5 < la z)) → c84_X0 z = (X 0) z := fun z hz => (q84_X0 z (tz84 z hz)).trans ((fun (z : Nat) (hz : (z < cnt ∧ (la z < 10 ∨ 10 < la z) ∧ (la z < 300 ∨ 300 < la z) ∧ (la z < 90 ∨ 90 + 8 < la z) ∧ (la z < 200 ∨ 200 + 3 < la z) ∧ (la z < D ∨ D + 5 < la z))) => hF49_X 0 z hz.1 (fun _ => hz.2)) z hz)
          have h884_hld : 100000 ≤ la49 dr := by omega
          have h884_hlh : la49 tn = 90 := by omega
          have h884_h181 : (c49_P 181) tn = some nw := by exact g181
          have h884_h182 : (c49_P 182) tn = some nx := by exact g182
          have h884_hnn : nw ≠ nx := by exact hnn
          have h884_h103 : (c49_P 103) dr = some pr := by exact hpt49.1.2.2.1
          have h884_hlq : (c49_P 201) pr = some (lp) := by exact hpt49.2.1.2.2
          have h884_hsq : (c49_P 202) pr = some sp := by exact hpt49.2.2.1.2.2
          have h884_hwq : ((c49_G 200) pr).toInt = ((16 : Nat) : Int) := by have z9 := hpt49.2.2.2.1.2.2; omega
          have h884_hps : rwW ((c49_G 203) pr) ((c49_V 0) (lp)) ((c49_V 1) sp) 16 = ((parF f n (n + 1) 0 ([], [], [])).2.2.1) := by exact b3p
          have h884_hlr : (c49_P 101) dr = some lr := by exact hpt49.1.2.2.2.2
          have h884_hls : lwsV ((c49_G 102) dr) ((c49_O 0) lr) (c49_P 20) (c49_P 21) (c49_P 22) (c49_P 23) (c49_G 24) (c49_G 25) (c49_V 0) c49_ln = ((parF f n (n + 1) 0 ([], [], [])).2.2.2) := by exact b3l
          have h884_hLW : LWL ((c49_G 102) dr) ((c49_O 0) lr) la49 c49_cnt (la49 dr + 5) := by rw [ag49 dr (by omega)]; exact b6
          have h884_hwl : ∀ L ∈ ((parF f n (n + 1) 0 ([], [], [])).2.2.2), 1 ≤ L.1.length ∧ BW L.2.1 := by exact fun L hL => ⟨Nat.pos_of_ne_zero (fun q => (hwfd.2.2 L hL).1 (List.length_eq_zero_iff.mp q)), (hwfd.2.2 L hL).2.2.1.1⟩
          have h884_hwp : ∀ w ∈ ((parF f n (n + 1) 0 ([], [], [])).2.2.1), BW w ∧ w.length ≤ 16 := by exact fun w hw => ⟨(hwfd.2.1 w hw).2.1, (hwfd.2.1 w hw).2.2⟩
          have h884_h108 : (c49_P 108) dr = some tr := by exact g108
          have h884_h109 : (c49_P 109) dr = some ph := by exact g109
          have h884_htl : (c49_P 201) tr = some tl := by exact g201
          have h884_hts : (c49_P 202) tr = some ts := by exact g202
          have h884_hwt : ((c49_G 200) tr).toInt = ((24 : Nat) : Int) := by exact g200
          have h884_hn40 : c49_ln ts = 40 := by exact gln
          have h884_hz0 : ((c49_G 203) tr).toInt = 0 := by exact g203
          have h884_hp40 : ((parF f n (n + 1) 0 ([], [], [])).2.2.1).length ≤ 40 := by have z9 := congrArg List.length b3p; rw [rw_len] at z9; have z8 := (CInv_G203 hCI49 :) pr; have z7 := clampI (x := c49_G 203 pr) (by omega); have z6 := ((CInv_RB hCI49 :) pr sp (((CInv_P103 hCI49 :) dr).2 pr hpt49.1.2.2.1).1 hpt49.2.2.1.2.2).1; have z5 := hpt49.2.2.2.2.2.2; omega
          have hx84 := pwq (fn_X9_turnParts2 κ49_38 wd la49 c49_G c49_P c49_U c49_V c49_X c49_O c49_kd c49_ln c49_cnt tn dr (nw) (nx) (pr) (lp) (sp) (lr) (tr) (ph) (tl) (ts) ((parF f n (n + 1) 0 ([], [], [])).2.2.1) ((parF f n (n + 1) 0 ([], [], [])).2.2.2) (CInv_G102 hCI49 :) (CInv_G183 hCI49 :) (CInv_G200 hCI49 :) (CInv_G203 hCI49 :) (CInv_P20 hCI49 :) (CInv_P21 hCI49 :) (CInv_P22 hCI49 :) (CInv_P23 hCI49 :) (CInv_P101 hCI49 :) (CInv_P103 hCI49 :) (CInv_P108 hCI49 :) (CInv_P109 hCI49 :) (CInv_P110 hCI49 :) (CInv_P181 hCI49 :) (CInv_P182 hCI49 :) (CInv_P201 hCI49 :) (CInv_P202 hCI49 :) (CInv_V1 hCI49 :) (CInv_O0 hCI49 :) (CInv_RA hCI49 :) (CInv_RB hCI49 :) (CInv_RI hCI49 :) (CInv_RM103 hCI49 :) (CInv_RM108 hCI49 :) (CInv_LN hCI49 :) hk_tn hk_dr hB49 lt_tn98 lt_dr83 h884_hld h884_hlh h884_h181 h884_h182 h884_hnn h884_h103 h884_hlq h884_hsq h884_hwq h884_hps h884_hlr h884_hls h884_hLW h884_hwl h884_hwp h884_h108 h884_h109 h884_htl h884_hts h884_hwt h884_hn40 h884_hz0 h884_hp40) hc84
          obtain ⟨p84_0, p84_1, p84_2⟩ : (id ((∀ z, la49 z ≠ la49 dr + 4 → (la49 z < 90 ∨ 98 < la49 z) → c84_V0 z = (c49_V 0) z ∧ c84_V1 z = (c49_V 1) z ∧ c84_G203 z = (c49_G 203) z))) ∧ (TPV (c84_G203 tr) (c84_V0 tl) (c84_V1 ts) (c84_V11 ph) ((parF f n (n + 1) 0 ([], [], [])).2.2.1) ((parF f n (n + 1) 0 ([], [], [])).2.2.2)) ∧ ((∃ nwb nxb, c84_P181 tn = some nwb ∧ c84_P182 tn = some nxb ∧ ((nwb = nw ∧ nxb = nx) ∨ (nwb = nx ∧ nxb = nw)))) := hx84
          have hFL131 : FL wd c84_G203 (c49_V 3) := by exact FL_eq (CInv_FL hCI49 :) f121
          have hB84 := (LB_set (LB_set hB49 ql84_181) ql84_182)
          have hTP84 : TPC (va_up (va_up c49_G 183 c84_G183) 203 c84_G203) (va_up (va_up c49_P 181 c84_P181) 182 c84_P182) (va_up (va_up (va_up c49_V 0 c84_V0) 1 c84_V1) 11 c84_V11) dr (parF f n (n + 1) 0 ([], [], [])).2 := ⟨tr, ph, tl, ts, ⟨g108, g109, g201, g202⟩, g200, p84_1⟩
          refine pw_nne hn84 ?_
          refine pw_nne hn82 ?_
          refine pw_if (fun hb99 => ?_)
          obtain ⟨hbl99, hbr99⟩ := hb99
          refine pw_vl (fun m99 em99 => ?_)
          have hfr133 : ∀ z, (z < cnt ∧ (la z < 10 ∨ 10 < la z) ∧ (la z < 300 ∨ 300 < la z) ∧ (la z < 90 ∨ 90 + 8 < la z) ∧ (la z < 200 ∨ 200 + 3 < la z) ∧ (la z < D ∨ D + 5 < la z)) → m99 z = (O 2) z := fr_up (e0 := (O 2)) (fun (z : Nat) (hz : (z < cnt ∧ (la z < 10 ∨ 10 < la z) ∧ (la z < 300 ∨ 300 < la z) ∧ (la z < 90 ∨ 90 + 8 < la z) ∧ (la z < 200 ∨ 200 + 3 < la z) ∧ (la z < D ∨ D + 5 < la z))) => hF49_O 2 z hz.1 (fun _ => hz.2)) em99 (show ¬ (ra < cnt ∧ (la ra < 10 ∨ 10 < la ra) ∧ (la ra < 300 ∨ 300 < la ra) ∧ (la ra < 90 ∨ 90 + 8 < la ra) ∧ (la ra < 200 ∨ 200 + 3 < la ra) ∧ (la ra < D ∨ D + 5 < la ra)) from fun hz => by have q1 := hag49 ra hz.1; omega)
          have ho134 : OB κ49_38 6 m99 := by rw [em99]; exact OB_up (CInv_O2 hCI49 :) hk_dr
          refine pw_tk ?_
          refine pw_newd (κ := κ49_38) (la := la49) (wd := wd) (Ke := 0) (L := 100000 + 10 * c49_cnt) (CInv_i (CInv_G43 hCI49 :) (CInv_G44 hCI49 :) (CInv_G45 hCI49 :) (CInv_G60 hCI49 :) (CInv_G83 hCI49 :) (CInv_G84 hCI49 :) (CInv_G85 hCI49 :) (CInv_G87 hCI49 :) (CInv_G88 hCI49 :) (CInv_G102 hCI49 :) (CInv_G125 hCI49 :) (CInv_G126 hCI49 :) (CInv_G127 hCI49 :) (CInv_G141 hCI49 :) (CInv_G160 hCI49 :) (CInv_G161 hCI49 :) (CInv_G162 hCI49 :) (CInv_G165 hCI49 :) (CInv_G166 hCI49 :) hg115 (CInv_G200 hCI49 :) hg116 (CInv_G222 hCI49 :) (CInv_G231 hCI49 :) (CInv_G233 hCI49 :) (CInv_P0 hCI49 :) (CInv_P1 hCI49 :) (CInv_P2 hCI49 :) (CInv_P3 hCI49 :) (CInv_P4 hCI49 :) (CInv_P5 hCI49 :) (CInv_P20 hCI49 :) (CInv_P21 hCI49 :) (CInv_P22 hCI49 :) (CInv_P23 hCI49 :) (CInv_P40 hCI49 :) (CInv_P41 hCI49 :) (CInv_P42 hCI49 :) (CInv_P61 hCI49 :) (CInv_P62 hCI49 :) (CInv_P63 hCI49 :) (CInv_P64 hCI49 :) (CInv_P65 hCI49 :) (CInv_P66 hCI49 :) (CInv_P82 hCI49 :) (CInv_P101 hCI49 :) (CInv_P103 hCI49 :) (CInv_P104 hCI49 :) (CInv_P105 hCI49 :) (CInv_P106 hCI49 :) (CInv_P108 hCI49 :) (CInv_P109 hCI49 :) (CInv_P110 hCI49 :) (CInv_P120 hCI49 :) (CInv_P121 hCI49 :) (CInv_P122 hCI49 :) (CInv_P123 hCI49 :) (CInv_P140 hCI49 :) (CInv_P164 hCI49 :) (CInv_P180 hCI49 :) hg117 hg118 (CInv_P185 hCI49 :) (CInv_P186 hCI49 :) (CInv_P187 hCI49 :) (CInv_P201 hCI49 :) (CInv_P202 hCI49 :) (CInv_P220 hCI49 :) (CInv_P221 hCI49 :) (CInv_P224 hCI49 :) (CInv_P225 hCI49 :) (CInv_P226 hCI49 :) (CInv_P227 hCI49 :) (CInv_P228 hCI49 :) (CInv_P229 hCI49 :) (CInv_P230 hCI49 :) (CInv_P232 hCI49 :) (CInv_P234 hCI49 :) (CInv_P235 hCI49 :) (CInv_P236 hCI49 :) hg119 (CInv_V2 hCI49 :) (CInv_V3 hCI49 :) (CInv_V9 hCI49 :) (CInv_O0 hCI49 :) (CInv_O1 hCI49 :) ho134 (CInv_RA hCI49 :) hRB120 (CInv_RI hCI49 :) (CInv_RM103 hCI49 :) (CInv_RM104 hCI49 :) (CInv_RM108 hCI49 :) (CInv_LN hCI49 :) hFL131 (CInv_W0 hCI49 :) (CInv_KC hCI49 :) (CInv_WK hCI49 :)) (by decide) (by omega) (LB_set (LB_set hB49 ql84_181) ql84_182) (by have q135 := hB49.2 this lt55; omega) (fun κ101 la101 G101 P101 U101 V101 X101 O101 kd101 ln101 cnt101 hCI101 hcn101 hkn101 hln101 hex101 hvz101 hfs101 hB101 hL101 ag101 fU101 fX101 => ?_)
          have hx136 : ∀ a, κ49_38 a ≠ 0 → κ101 a = κ49_38 a := fun a ha => (hex101 a (kclt (CInv_KC hCI49 :) ha) (Nat.ne_of_lt (kclt (CInv_KC hCI49 :) ha))).1
          have ccf101 : c49_cnt ≤ cnt101 := by rw [hcn101]; exact Nat.le_succ _
          clear hvz101 hfs101 ho134 hFL131 h884_hp40 h884_hz0 h884_hn40 h884_hwt h884_hts h884_htl h884_h109 h884_h108 h884_hwp h884_hwl h884_hLW h884_hls h884_hlr h884_hps h884_hwq h884_hsq h884_hlq h884_h103 h884_hnn h884_h182 h884_h181 h884_hlh h884_hld tz84 q84_G183 q84_G203 q84_P181 q84_P182 q84_U184 q84_V0 q84_V1 q84_V11 q84_X0 ql84_181 ql84_182 hg115 hg116 hg117 hg118 hg119 hRB120 hc84 ag49 fG49 fP49 fO49 fl49
          have kx137 : ∀ a, κ a ≠ 0 → κ101 a = κ a := kxt kx52 hx136
          have hk138 : κ101 this = 12 := kxk hx136 hk53 (by decide)
          have gl_139 : la101 this = 200 := (ag101 this lt55).trans gl_54
          have lt140 : this < cnt101 := Nat.lt_of_lt_of_le lt55 ccf101
          have gl_141 : la101 tp = 10 := (ag101 tp lt_tp77).trans gl_56
          have lt142 : tp < cnt101 := Nat.lt_of_lt_of_le lt_tp77 ccf101
          have gl_143 : la101 tb = 11 := (ag101 tb lt_tb79).trans gl_58
          have lt144 : tb < cnt101 := Nat.lt_of_lt_of_le lt_tb79 ccf101
          have gl_145 : la101 rd = 300 := (ag101 rd lt_rd81).trans gl_60
          have lt146 : rd < cnt101 := Nat.lt_of_lt_of_le lt_rd81 ccf101
          have gl_147 : la101 dr = la dr := (ag101 dr lt_dr83).trans gl_62
          have lt148 : dr < cnt101 := Nat.lt_of_lt_of_le lt_dr83 ccf101
          have gl_149 : la101 ra = 203 := (ag101 ra lt_ra85).trans gl_64
          have lt150 : ra < cnt101 := Nat.lt_of_lt_of_le lt_ra85 ccf101
          have gl_151 : la dr ≤ la101 tr ∧ la101 tr ≤ la dr + 5 := by rw [ag101 tr lt_tr87]; exact gl_66
          have lt152 : tr < cnt101 := Nat.lt_of_lt_of_le lt_tr87 ccf101
          have gl_153 : la dr ≤ la101 ph ∧ la101 ph ≤ la dr + 5 := by rw [ag101 ph lt_ph89]; exact gl_68
          have lt154 : ph < cnt101 := Nat.lt_of_lt_of_le lt_ph89 ccf101
          have gl_155 : la dr ≤ la101 tl ∧ la101 tl ≤ la dr + 5 := by rw [ag101 tl lt_tl91]; exact gl_70
          have lt156 : tl < cnt101 := Nat.lt_of_lt_of_le lt_tl91 ccf101
          have gl_157 : la dr ≤ la101 ts ∧ la101 ts ≤ la dr + 5 := by rw [ag101 ts lt_ts93]; exact gl_72
          have lt158 : ts < cnt101 := Nat.lt_of_lt_of_le lt_ts93 ccf101
          have gl_159 : la101 tn = 90 := (ag101 tn lt_tn98).trans gl_74
          have lt160 : tn < cnt101 := Nat.lt_of_lt_of_le lt_tn98 ccf101
          have gl_161 : 91 ≤ la101 nw ∧ la101 nw ≤ 92 := by rw [ag101 nw lt_nw111]; exact lb_nw111
          have lt162 : nw < cnt101 := Nat.lt_of_lt_of_le lt_nw111 ccf101
          have gl_163 : 91 ≤ la101 nx ∧ la101 nx ≤ 92 := by rw [ag101 nx lt_nx113]; exact lb_nx113
          have lt164 : nx < cnt101 := Nat.lt_of_lt_of_le lt_nx113 ccf101
          have hag101 : ∀ z, z < cnt → la101 z = la z := fun z hz => (ag101 z (Nat.lt_of_lt_of_le hz (Nat.le_trans (Nat.le_refl _) ccf49))).trans (hag49 z hz)
          have fG101 : FRM c49_cnt [] (fun _ => True) (va_up (va_up c49_G 183 c84_G183) 203 c84_G203) G101 := fun g z hz _ => (hex101 z hz (Nat.ne_of_lt hz)).2.1 g
          have fP101 : FRM c49_cnt [] (fun _ => True) (va_up (va_up c49_P 181 c84_P181) 182 c84_P182) P101 := fun g z hz _ => (hex101 z hz (Nat.ne_of_lt hz)).2.2.1 g
          have fV101 : FRM c49_cnt [] (fun _ => True) (va_up (va_up (va_up c49_V 0 c84_V0) 1 c84_V1) 11 c84_V11) V101 := fun g z hz _ => (hex101 z hz (Nat.ne_of_lt hz)).2.2.2.1 g
          have fO101 : FRM c49_cnt [] (fun _ => True) (va_up c49_O 2 m99) O101 := fun g z hz _ => (hex101 z hz (Nat.ne_of_lt hz)).2.2.2.2.1 g
          have fl101 : ∀ z, z < c49_cnt → ln101 z = c49_ln z := fun z hz => (hex101 z hz (Nat.ne_of_lt hz)).2.2.2.2.2
          have hle101 : cnt ≤ c49_cnt := (Nat.le_trans (Nat.le_refl _) ccf49)
          have hF101_G : FRM cnt [24, 25, 80, 81, 83, 84, 85, 86, 87, 88, 100, 102, 107, 141, 183, 203, 222, 223] (fun z => (la z < 10 ∨ 10 < la z) ∧ (la z < 300 ∨ 300 < la z) ∧ (la z < 90 ∨ 90 + 8 < la z) ∧ (la z < 200 ∨ 200 + 3 < la z) ∧ (la z < D ∨ D + 5 < la z)) G G101 := FRM_trans (FRM_set (FRM_set hF49_G (by decide) (fun z h1 h2 => hfr122 z ⟨h1, h2⟩)) (by decide) (fun z h1 h2 => hfr123 z ⟨h1, h2⟩)) fG101 hle101 (by decide) (fun _ _ _ => trivial)
          have hF101_P : FRM cnt [22, 23, 82, 181, 182, 224] (fun z => (la z < 10 ∨ 10 < la z) ∧ (la z < 300 ∨ 300 < la z) ∧ (la z < 90 ∨ 90 + 8 < la z) ∧ (la z < 200 ∨ 200 + 3 < la z) ∧ (la z < D ∨ D + 5 < la z)) P P101 := FRM_trans (FRM_set (FRM_set hF49_P (by decide) (fun z h1 h2 => hfr124 z ⟨h1, h2⟩)) (by decide) (fun z h1 h2 => hfr125 z ⟨h1, h2⟩)) fP101 hle101 (by decide) (fun _ _ _ => trivial)
          have hF101_U : FRM cnt [184] (fun z => (la z < 10 ∨ 10 < la z) ∧ (la z < 300 ∨ 300 < la z) ∧ (la z < 90 ∨ 90 + 8 < la z) ∧ (la z < 200 ∨ 200 + 3 < la z) ∧ (la z < D ∨ D + 5 < la z)) U U101 := FRM_trans (FRM_set hF49_U (by decide) (fun z h1 h2 => hfr126 z ⟨h1, h2⟩)) fU101 hle101 (by decide) (fun _ _ _ => trivial)
          have hF101_V : FRM cnt [0, 1, 10, 11] (fun z => (la z < 10 ∨ 10 < la z) ∧ (la z < 300 ∨ 300 < la z) ∧ (la z < 90 ∨ 90 + 8 < la z) ∧ (la z < 200 ∨ 200 + 3 < la z) ∧ (la z < D ∨ D + 5 < la z)) V V101 := FRM_trans (FRM_set (FRM_set (FRM_set hF49_V (by decide) (fun z h1 h2 => hfr127 z ⟨h1, h2⟩)) (by decide) (fun z h1 h2 => hfr128 z ⟨h1, h2⟩)) (by decide) (fun z h1 h2 => hfr129 z ⟨h1, h2⟩)) fV101 hle101 (by decide) (fun _ _ _ => trivial)
          have hF101_X : FRM cnt [0] (fun z => (la z < 10 ∨ 10 < la z) ∧ (la z < 300 ∨ 300 < la z) ∧ (la z < 90 ∨ 90 + 8 < la z) ∧ (la z < 200 ∨ 200 + 3 < la z) ∧ (la z < D ∨ D + 5 < la z)) X X101 := FRM_trans (FRM_set hF49_X (by decide) (fun z h1 h2 => hfr130 z ⟨h1, h2⟩)) fX101 hle101 (by decide) (fun _ _ _ => trivial)
          have hF101_O : FRM cnt [0, 2] (fun z => (la z < 10 ∨ 10 < la z) ∧ (la z < 300 ∨ 300 < la z) ∧ (la z < 90 ∨ 90 + 8 < la z) ∧ (la z < 200 ∨ 200 + 3 < la z) ∧ (la z < D ∨ D + 5 < la z)) O O101 := FRM_trans (FRM_set hF49_O (by decide) (fun z h1 h2 => hfr133 z ⟨h1, h2⟩)) fO101 hle101 (by decide) (fun _ _ _ => trivial)
          have hlnn101 : ∀ z, z < cnt → ln101 z = ln z := fun z hz => (fl101 z (Nat.lt_of_lt_of_le hz hle101)).trans (hlnn49 z hz)
          clear hx136 fU101 fX101 hfr133 hfr130 hfr129 hfr128 hfr127 hfr126 hfr125 hfr124 hfr123 hfr122 hlnn49 hF49_O hF49_X hF49_V hF49_U hF49_P hF49_G hag49 hk53 kx52
          have lt165 : c49_cnt < cnt101 := by rw [hcn101]; exact Nat.lt_succ_self _
          have hn166 : (P101 220) this = some tp := ((hex101 this lt55 (Nat.ne_of_lt lt55)).2.2.1 220).trans hn76
          have lt_tp167 := ((hB101.1 220 fl_220) this tp hn166).2.1
          have hk_tp := (((CInv_P220 hCI101 :) this).2 tp hn166).1
          have hl1_tp := (((CInv_P220 hCI101 :) this).2 tp hn166).2.1
          have hl2_tp := (((CInv_P220 hCI101 :) this).2 tp hn166).2.2.1
          have hw_tp : id _ := (((CInv_P220 hCI101 :) this).2 tp hn166).2.2.2
          have hn168 : (P101 140) tp = some tb := ((hex101 tp lt_tp77 (Nat.ne_of_lt lt_tp77)).2.2.1 140).trans hn78
          have lt_tb169 := ((hB101.1 140 fl_140) tp tb hn168).2.1
          have hk_tb := (((CInv_P140 hCI101 :) tp).2 tb hn168).1
          have hl1_tb := (((CInv_P140 hCI101 :) tp).2 tb hn168).2.1
          have hl2_tb := (((CInv_P140 hCI101 :) tp).2 tb hn168).2.2.1
          have hw_tb : id _ := (((CInv_P140 hCI101 :) tp).2 tb hn168).2.2.2
          have hn170 : (P101 225) this = some rd := ((hex101 this lt55 (Nat.ne_of_lt lt55)).2.2.1 225).trans hn80
          have lt_rd171 := ((hB101.1 225 fl_225) this rd hn170).2.1
          have hk_rd := (((CInv_P225 hCI101 :) this).2 rd hn170).1
          have hl1_rd := (((CInv_P225 hCI101 :) this).2 rd hn170).2.1
          have hl2_rd := (((CInv_P225 hCI101 :) this).2 rd hn170).2.2.1
          have hw_rd : id _ := (((CInv_P225 hCI101 :) this).2 rd hn170).2.2.2
          have hn172 : (P101 224) this = some dr := ((hex101 this lt55 (Nat.ne_of_lt lt55)).2.2.1 224).trans hn82
          have lt_dr173 := ((hB101.1 224 fl_224) this dr hn172).2.1
          have hk_dr := (((CInv_P224 hCI101 :) this).2 dr hn172).1
          have hl1_dr := (((CInv_P224 hCI101 :) this).2 dr hn172).2.1
          have hl2_dr := (((CInv_P224 hCI101 :) this).2 dr hn172).2.2.1
          have hw_dr : id _ := (((CInv_P224 hCI101 :) this).2 dr hn172).2.2.2
          have hn174 : (P101 221) this = some ra := ((hex101 this lt55 (Nat.ne_of_lt lt55)).2.2.1 221).trans hn84
          have lt_ra175 := ((hB101.1 221 fl_221) this ra hn174).2.1
          have hk_ra := (((CInv_P221 hCI101 :) this).2 ra hn174).1
          have hl1_ra := (((CInv_P221 hCI101 :) this).2 ra hn174).2.1
          have hl2_ra := (((CInv_P221 hCI101 :) this).2 ra hn174).2.2.1
          have hw_ra : id _ := (((CInv_P221 hCI101 :) this).2 ra hn174).2.2.2
          have hn176 : (P101 108) dr = some tr := ((hex101 dr lt_dr83 (Nat.ne_of_lt lt_dr83)).2.2.1 108).trans hn99
          have lt_tr177 := ((hB101.1 108 fl_108) dr tr hn176).2.1
          have hk_tr := (((CInv_P108 hCI101 :) dr).2 tr hn176).1
          have hl1_tr := (((CInv_P108 hCI101 :) dr).2 tr hn176).2.1
          have hl2_tr := (((CInv_P108 hCI101 :) dr).2 tr hn176).2.2.1
          have hw_tr : id _ := (((CInv_P108 hCI101 :) dr).2 tr hn176).2.2.2
          have hn178 : (P101 109) dr = some ph := ((hex101 dr lt_dr83 (Nat.ne_of_lt lt_dr83)).2.2.1 109).trans hn100
          have lt_ph179 := ((hB101.1 109 fl_109) dr ph hn178).2.1
          have hk_ph := (((CInv_P109 hCI101 :) dr).2 ph hn178).1
          have hl1_ph := (((CInv_P109 hCI101 :) dr).2 ph hn178).2.1
          have hl2_ph := (((CInv_P109 hCI101 :) dr).2 ph hn178).2.2.1
          have hw_ph : id _ := (((CInv_P109 hCI101 :) dr).2 ph hn178).2.2.2
          have hn180 : (P101 201) tr = some tl := ((hex101 tr lt_tr87 (Nat.ne_of_lt lt_tr87)).2.2.1 201).trans hn101
          have lt_tl181 := ((hB101.1 201 fl_201) tr tl hn180).2.1
          have hk_tl := (((CInv_P201 hCI101 :) tr).2 tl hn180).1
          have hl1_tl := (((CInv_P201 hCI101 :) tr).2 tl hn180).2.1
          have hl2_tl := (((CInv_P201 hCI101 :) tr).2 tl hn180).2.2.1
          have hw_tl : id _ := (((CInv_P201 hCI101 :) tr).2 tl hn180).2.2.2
          have hn182 : (P101 202) tr = some ts := ((hex101 tr lt_tr87 (Nat.ne_of_lt lt_tr87)).2.2.1 202).trans hn105
          have lt_ts183 := ((hB101.1 202 fl_202) tr ts hn182).2.1
          have hk_ts := (((CInv_P202 hCI101 :) tr).2 ts hn182).1
          have hl1_ts := (((CInv_P202 hCI101 :) tr).2 ts hn182).2.1
          have hl2_ts := (((CInv_P202 hCI101 :) tr).2 ts hn182).2.2.1
          have hw_ts : id _ := (((CInv_P202 hCI101 :) tr).2 ts hn182).2.2.2
          have rb184 := ((CInv_RB hCI101 :) tr ts hk_tr hn182).1
          have hn187 : (P101 226) this = some tn := ((hex101 this lt55 (Nat.ne_of_lt lt55)).2.2.1 226).trans hn109
          have lt_tn188 := ((hB101.1 226 fl_226) this tn hn187).2.1
          have hk_tn := (((CInv_P226 hCI101 :) this).2 tn hn187).1
          have hl1_tn := (((CInv_P226 hCI101 :) this).2 tn hn187).2.1
          have hl2_tn := (((CInv_P226 hCI101 :) this).2 tn hn187).2.2.1
          have hw_tn : id _ := (((CInv_P226 hCI101 :) this).2 tn hn187).2.2.2
          have sg101 : ((G101 222) this).toInt = ((c49_G 222) this).toInt := congrArg Int32.toInt ((hex101 this (by omega) (by omega)).2.1 222)
          refine pw_bA9 (fun c105_G c105_P c105_U c105_V c105_X c105_O c105_kd c105_ln c105_cnt v1_105 v2_105 hc105 => ?_)
          have hq105 := wp_at (ok_X5_init κ101 wd G101 P101 U101 V101 X101 O101 kd101 ln101 cnt101 c49_cnt (CInv_i (CInv_G43 hCI101 :) (CInv_G44 hCI101 :) (CInv_G45 hCI101 :) (CInv_G60 hCI101 :) (CInv_G83 hCI101 :) (CInv_G84 hCI101 :) (CInv_G85 hCI101 :) (CInv_G87 hCI101 :) (CInv_G88 hCI101 :) (CInv_G102 hCI101 :) (CInv_G125 hCI101 :) (CInv_G126 hCI101 :) (CInv_G127 hCI101 :) (CInv_G141 hCI101 :) (CInv_G160 hCI101 :) (CInv_G161 hCI101 :) (CInv_G162 hCI101 :) (CInv_G165 hCI101 :) (CInv_G166 hCI101 :) (CInv_G183 hCI101 :) (CInv_G200 hCI101 :) (CInv_G203 hCI101 :) (CInv_G222 hCI101 :) (CInv_G231 hCI101 :) (CInv_G233 hCI101 :) (CInv_P0 hCI101 :) (CInv_P1 hCI101 :) (CInv_P2 hCI101 :) (CInv_P3 hCI101 :) (CInv_P4 hCI101 :) (CInv_P5 hCI101 :) (CInv_P20 hCI101 :) (CInv_P21 hCI101 :) (CInv_P22 hCI101 :) (CInv_P23 hCI101 :) (CInv_P40 hCI101 :) (CInv_P41 hCI101 :) (CInv_P42 hCI101 :) (CInv_P61 hCI101 :) (CInv_P62 hCI101 :) (CInv_P63 hCI101 :) (CInv_P64 hCI101 :) (CInv_P65 hCI101 :) (CInv_P66 hCI101 :) (CInv_P82 hCI101 :) (CInv_P101 hCI101 :) (CInv_P103 hCI101 :) (CInv_P104 hCI101 :) (CInv_P105 hCI101 :) (CInv_P106 hCI101 :) (CInv_P108 hCI101 :) (CInv_P109 hCI101 :) (CInv_P110 hCI101 :) (CInv_P120 hCI101 :) (CInv_P121 hCI101 :) (CInv_P122 hCI101 :) (CInv_P123 hCI101 :) (CInv_P140 hCI101 :) (CInv_P164 hCI101 :) (CInv_P180 hCI101 :) (CInv_P181 hCI101 :) (CInv_P182 hCI101 :) (CInv_P185 hCI101 :) (CInv_P186 hCI101 :) (CInv_P187 hCI101 :) (CInv_P201 hCI101 :) (CInv_P202 hCI101 :) (CInv_P220 hCI101 :) (CInv_P221 hCI101 :) (CInv_P224 hCI101 :) (CInv_P225 hCI101 :) (CInv_P226 hCI101 :) (CInv_P227 hCI101 :) (CInv_P228 hCI101 :) (CInv_P229 hCI101 :) (CInv_P230 hCI101 :) (CInv_P232 hCI101 :) (CInv_P234 hCI101 :) (CInv_P235 hCI101 :) (CInv_P236 hCI101 :) (CInv_V1 hCI101 :) (CInv_V2 hCI101 :) (CInv_V3 hCI101 :) (CInv_V9 hCI101 :) (CInv_O0 hCI101 :) (CInv_O1 hCI101 :) (CInv_O2 hCI101 :) (CInv_RA hCI101 :) (CInv_RB hCI101 :) (CInv_RI hCI101 :) (CInv_RM103 hCI101 :) (CInv_RM104 hCI101 :) (CInv_RM108 hCI101 :) (CInv_LN hCI101 :) (CInv_FL hCI101 :) (CInv_W0 hCI101 :) (CInv_KC hCI101 :) (CInv_WK hCI101 :)) hkn101 (by omega) (by omega)) hc105
          obtain ⟨κ105_188, hCI105, hxx105, hcc190, hk191, hex105, f192, f193⟩ : ∃ κ1 : Nat → Nat, (CInv κ1 wd c105_G c105_P c105_V c105_O c105_ln c105_cnt) ∧ (∀ a, κ101 a ≠ 0 → κ1 a = κ101 a) ∧ (cnt101 ≤ c105_cnt) ∧ (κ1 c49_cnt = 6) ∧ (EX c49_cnt cnt101 κ101 κ1 G101 c105_G P101 c105_P V101 c105_V O101 c105_O ln101 c105_ln) ∧ (v1_105 ≤ 17) ∧ (v2_105 ≤ 4300) := hq105
          have kx194 : ∀ a, κ a ≠ 0 → κ105_188 a = κ a := kxt kx137 hxx105
          have hk195 : κ105_188 this = 12 := kxk hxx105 hk138 (by decide)
          have hlo_c49_cnt := (CInv_LN hCI105 :) c49_cnt (by rw [hk191]; decide)
          have hq105 := pwq (fr_X5_init la101 G101 P101 U101 V101 X101 O101 kd101 ln101 cnt101 c49_cnt hB101 lt165) hc105
          obtain ⟨la105_f, agf105, hBf105, ccf105, fG105, fP105, fU105, fV105, fX105, fO105, fl105⟩ : ∃ la9 : Nat → Nat, (∀ z, z < cnt101 → la9 z = la101 z) ∧ LB la9 c105_cnt c105_P ∧ cnt101 ≤ c105_cnt ∧ FRM cnt101 [100, 102, 107, 200, 203] (fun z => z ≠ c49_cnt) G101 c105_G ∧ FRM cnt101 [101, 103, 104, 105, 106, 108, 109, 110, 201, 202] (fun z => z ≠ c49_cnt) P101 c105_P ∧ FRM cnt101 [] (fun z => z ≠ c49_cnt) U101 c105_U ∧ FRM cnt101 [] (fun z => z ≠ c49_cnt) V101 c105_V ∧ FRM cnt101 [] (fun z => z ≠ c49_cnt) X101 c105_X ∧ FRM cnt101 [] (fun z => z ≠ c49_cnt) O101 c105_O ∧ (∀ z, z < cnt101 → c105_ln z = ln101 z) := hq105
          have hx105 := pwq (fn_X5_init κ101 wd la101 G101 P101 U101 V101 X101 O101 kd101 ln101 cnt101 c49_cnt (CInv_i (CInv_G43 hCI101 :) (CInv_G44 hCI101 :) (CInv_G45 hCI101 :) (CInv_G60 hCI101 :) (CInv_G83 hCI101 :) (CInv_G84 hCI101 :) (CInv_G85 hCI101 :) (CInv_G87 hCI101 :) (CInv_G88 hCI101 :) (CInv_G102 hCI101 :) (CInv_G125 hCI101 :) (CInv_G126 hCI101 :) (CInv_G127 hCI101 :) (CInv_G141 hCI101 :) (CInv_G160 hCI101 :) (CInv_G161 hCI101 :) (CInv_G162 hCI101 :) (CInv_G165 hCI101 :) (CInv_G166 hCI101 :) (CInv_G183 hCI101 :) (CInv_G200 hCI101 :) (CInv_G203 hCI101 :) (CInv_G222 hCI101 :) (CInv_G231 hCI101 :) (CInv_G233 hCI101 :) (CInv_P0 hCI101 :) (CInv_P1 hCI101 :) (CInv_P2 hCI101 :) (CInv_P3 hCI101 :) (CInv_P4 hCI101 :) (CInv_P5 hCI101 :) (CInv_P20 hCI101 :) (CInv_P21 hCI101 :) (CInv_P22 hCI101 :) (CInv_P23 hCI101 :) (CInv_P40 hCI101 :) (CInv_P41 hCI101 :) (CInv_P42 hCI101 :) (CInv_P61 hCI101 :) (CInv_P62 hCI101 :) (CInv_P63 hCI101 :) (CInv_P64 hCI101 :) (CInv_P65 hCI101 :) (CInv_P66 hCI101 :) (CInv_P82 hCI101 :) (CInv_P101 hCI101 :) (CInv_P103 hCI101 :) (CInv_P104 hCI101 :) (CInv_P105 hCI101 :) (CInv_P106 hCI101 :) (CInv_P108 hCI101 :) (CInv_P109 hCI101 :) (CInv_P110 hCI101 :) (CInv_P120 hCI101 :) (CInv_P121 hCI101 :) (CInv_P122 hCI101 :) (CInv_P123 hCI101 :) (CInv_P140 hCI101 :) (CInv_P164 hCI101 :) (CInv_P180 hCI101 :) (CInv_P181 hCI101 :) (CInv_P182 hCI101 :) (CInv_P185 hCI101 :) (CInv_P186 hCI101 :) (CInv_P187 hCI101 :) (CInv_P201 hCI101 :) (CInv_P202 hCI101 :) (CInv_P220 hCI101 :) (CInv_P221 hCI101 :) (CInv_P224 hCI101 :) (CInv_P225 hCI101 :) (CInv_P226 hCI101 :) (CInv_P227 hCI101 :) (CInv_P228 hCI101 :) (CInv_P229 hCI101 :) (CInv_P230 hCI101 :) (CInv_P232 hCI101 :) (CInv_P234 hCI101 :) (CInv_P235 hCI101 :) (CInv_P236 hCI101 :) (CInv_V1 hCI101 :) (CInv_V2 hCI101 :) (CInv_V3 hCI101 :) (CInv_V9 hCI101 :) (CInv_O0 hCI101 :) (CInv_O1 hCI101 :) (CInv_O2 hCI101 :) (CInv_RA hCI101 :) (CInv_RB hCI101 :) (CInv_RI hCI101 :) (CInv_RM103 hCI101 :) (CInv_RM104 hCI101 :) (CInv_RM108 hCI101 :) (CInv_LN hCI101 :) (CInv_FL hCI101 :) (CInv_W0 hCI101 :) (CInv_KC hCI101 :) (CInv_WK hCI101 :)) hkn101 (by omega) (by omega) hB101) hc105
          obtain ⟨la105, ag105, hB105, p105_0, p105_1⟩ : ∃ la9 : Nat → Nat, (∀ z, z < cnt101 → la9 z = la101 z) ∧ LB la9 c105_cnt c105_P ∧ (∃ er br pr kp lr le lb lp se sb sp, PTS c105_P (c105_G 200) c105_ln c49_cnt er br pr kp lr le lb lp se sb sp) ∧ (DRT c105_G c105_P c105_ln c49_cnt) := hx105
          clear agf105 hBf105 hk195 kx194 hxx105 hc105 hk138 kx137 hex101 hB101
          have gl_196 : la105 this = 200 := (ag105 this lt140).trans gl_139
          have lt197 : this < c105_cnt := Nat.lt_of_lt_of_le lt140 ccf105
          have gl_198 : la105 tp = 10 := (ag105 tp lt_tp167).trans gl_141
          have lt199 : tp < c105_cnt := Nat.lt_of_lt_of_le lt_tp167 ccf105
          have gl_200 : la105 tb = 11 := (ag105 tb lt_tb169).trans gl_143
          have lt201 : tb < c105_cnt := Nat.lt_of_lt_of_le lt_tb169 ccf105
          have gl_202 : la105 rd = 300 := (ag105 rd lt_rd171).trans gl_145
          have lt203 : rd < c105_cnt := Nat.lt_of_lt_of_le lt_rd171 ccf105
          have gl_204 : la105 dr = la dr := (ag105 dr lt_dr173).trans gl_147
          have lt205 : dr < c105_cnt := Nat.lt_of_lt_of_le lt_dr173 ccf105
          have gl_206 : la105 ra = 203 := (ag105 ra lt_ra175).trans gl_149
          have lt207 : ra < c105_cnt := Nat.lt_of_lt_of_le lt_ra175 ccf105
          have gl_208 : la dr ≤ la105 tr ∧ la105 tr ≤ la dr + 5 := by rw [ag105 tr lt_tr177]; exact gl_151
          have lt209 : tr < c105_cnt := Nat.lt_of_lt_of_le lt_tr177 ccf105
          have gl_210 : la dr ≤ la105 ph ∧ la105 ph ≤ la dr + 5 := by rw [ag105 ph lt_ph179]; exact gl_153
          have lt211 : ph < c105_cnt := Nat.lt_of_lt_of_le lt_ph179 ccf105
          have gl_212 : la dr ≤ la105 tl ∧ la105 tl ≤ la dr + 5 := by rw [ag105 tl lt_tl181]; exact gl_155
          have lt213 : tl < c105_cnt := Nat.lt_of_lt_of_le lt_tl181 ccf105
          have gl_214 : la dr ≤ la105 ts ∧ la105 ts ≤ la dr + 5 := by rw [ag105 ts lt_ts183]; exact gl_157
          have lt215 : ts < c105_cnt := Nat.lt_of_lt_of_le lt_ts183 ccf105
          have gl_216 : la105 tn = 90 := (ag105 tn lt_tn188).trans gl_159
          have lt217 : tn < c105_cnt := Nat.lt_of_lt_of_le lt_tn188 ccf105
          have gl_218 : 91 ≤ la105 nw ∧ la105 nw ≤ 92 := by rw [ag105 nw lt162]; exact gl_161
          have lt219 : nw < c105_cnt := Nat.lt_of_lt_of_le lt162 ccf105
          have gl_220 : 91 ≤ la105 nx ∧ la105 nx ≤ 92 := by rw [ag105 nx lt164]; exact gl_163
          have lt221 : nx < c105_cnt := Nat.lt_of_lt_of_le lt164 ccf105
          have gl_222 : la105 c49_cnt = la101 c49_cnt := ag105 c49_cnt lt165
          have lt223 : c49_cnt < c105_cnt := Nat.lt_of_lt_of_le lt165 ccf105
          have hag105 : ∀ z, z < cnt → la105 z = la z := fun z hz => (ag105 z (Nat.lt_of_lt_of_le hz (Nat.le_trans (Nat.le_trans (Nat.le_refl _) ccf49) ccf101))).trans (hag101 z hz)
          have hle105 : cnt ≤ cnt101 := (Nat.le_trans (Nat.le_trans (Nat.le_refl _) ccf49) ccf101)
          have hfs105z : cnt ≤ c49_cnt := by omega
          have hF105_G : FRM cnt [24, 25, 80, 81, 83, 84, 85, 86, 87, 88, 100, 102, 107, 141, 183, 203, 222, 223] (fun z => (la z < 10 ∨ 10 < la z) ∧ (la z < 300 ∨ 300 < la z) ∧ (la z < 90 ∨ 90 + 8 < la z) ∧ (la z < 200 ∨ 200 + 3 < la z) ∧ (la z < D ∨ D + 5 < la z)) G c105_G := FRM_tri hF101_G fG105 hle105 hfs105z
          have hF105_P : FRM cnt [22, 23, 82, 181, 182, 224] (fun z => (la z < 10 ∨ 10 < la z) ∧ (la z < 300 ∨ 300 < la z) ∧ (la z < 90 ∨ 90 + 8 < la z) ∧ (la z < 200 ∨ 200 + 3 < la z) ∧ (la z < D ∨ D + 5 < la z)) P c105_P := FRM_tri hF101_P fP105 hle105 hfs105z
          have hF105_U : FRM cnt [184] (fun z => (la z < 10 ∨ 10 < la z) ∧ (la z < 300 ∨ 300 < la z) ∧ (la z < 90 ∨ 90 + 8 < la z) ∧ (la z < 200 ∨ 200 + 3 < la z) ∧ (la z < D ∨ D + 5 < la z)) U c105_U := FRM_tri hF101_U fU105 hle105 hfs105z
          have hF105_V : FRM cnt [0, 1, 10, 11] (fun z => (la z < 10 ∨ 10 < la z) ∧ (la z < 300 ∨ 300 < la z) ∧ (la z < 90 ∨ 90 + 8 < la z) ∧ (la z < 200 ∨ 200 + 3 < la z) ∧ (la z < D ∨ D + 5 < la z)) V c105_V := FRM_tri hF101_V fV105 hle105 hfs105z
          have hF105_X : FRM cnt [0] (fun z => (la z < 10 ∨ 10 < la z) ∧ (la z < 300 ∨ 300 < la z) ∧ (la z < 90 ∨ 90 + 8 < la z) ∧ (la z < 200 ∨ 200 + 3 < la z) ∧ (la z < D ∨ D + 5 < la z)) X c105_X := FRM_tri hF101_X fX105 hle105 hfs105z
          have hF105_O : FRM cnt [0, 2] (fun z => (la z < 10 ∨ 10 < la z) ∧ (la z < 300 ∨ 300 < la z) ∧ (la z < 90 ∨ 90 + 8 < la z) ∧ (la z < 200 ∨ 200 + 3 < la z) ∧ (la z < D ∨ D + 5 < la z)) O c105_O := FRM_tri hF101_O fO105 hle105 hfs105z
          have hlnn105 : ∀ z, z < cnt → c105_ln z = ln z := fun z hz => (fl105 z (Nat.lt_of_lt_of_le hz hle105)).trans (hlnn101 z hz)
          clear hlnn105 hF105_O hF105_X hF105_V hF105_U fU105 fX105 hlnn101 hF101_O hF101_X hF101_V hF101_U hF101_P hF101_G hag101
          have hn224 : (c105_P 220) this = some tp := ((hex105 this lt140 (by omega)).2.2.1 220).trans hn166
          have lt_tp225 := ((hB105.1 220 fl_220) this tp hn224).2.1
          have hk_tp := (((CInv_P220 hCI105 :) this).2 tp hn224).1
          have hl1_tp := (((CInv_P220 hCI105 :) this).2 tp hn224).2.1
          have hl2_tp := (((CInv_P220 hCI105 :) this).2 tp hn224).2.2.1
          have hw_tp : id _ := (((CInv_P220 hCI105 :) this).2 tp hn224).2.2.2
          have hn226 : (c105_P 140) tp = some tb := ((hex105 tp lt_tp167 (by omega)).2.2.1 140).trans hn168
          have lt_tb227 := ((hB105.1 140 fl_140) tp tb hn226).2.1
          have hk_tb := (((CInv_P140 hCI105 :) tp).2 tb hn226).1
          have hl1_tb := (((CInv_P140 hCI105 :) tp).2 tb hn226).2.1
          have hl2_tb := (((CInv_P140 hCI105 :) tp).2 tb hn226).2.2.1
          have hw_tb : id _ := (((CInv_P140 hCI105 :) tp).2 tb hn226).2.2.2
          have hn228 : (c105_P 225) this = some rd := ((hex105 this lt140 (by omega)).2.2.1 225).trans hn170
          have lt_rd229 := ((hB105.1 225 fl_225) this rd hn228).2.1
          have hk_rd := (((CInv_P225 hCI105 :) this).2 rd hn228).1
          have hl1_rd := (((CInv_P225 hCI105 :) this).2 rd hn228).2.1
          have hl2_rd := (((CInv_P225 hCI105 :) this).2 rd hn228).2.2.1
          have hw_rd : id _ := (((CInv_P225 hCI105 :) this).2 rd hn228).2.2.2
          have hn230 : (c105_P 224) this = some dr := ((hex105 this lt140 (by omega)).2.2.1 224).trans hn172
          have lt_dr231 := ((hB105.1 224 fl_224) this dr hn230).2.1
          have hk_dr := (((CInv_P224 hCI105 :) this).2 dr hn230).1
          have hl1_dr := (((CInv_P224 hCI105 :) this).2 dr hn230).2.1
          have hl2_dr := (((CInv_P224 hCI105 :) this).2 dr hn230).2.2.1
          have hw_dr : id _ := (((CInv_P224 hCI105 :) this).2 dr hn230).2.2.2
          have hn232 : (c105_P 221) this = some ra := ((hex105 this lt140 (by omega)).2.2.1 221).trans hn174
          have lt_ra233 := ((hB105.1 221 fl_221) this ra hn232).2.1
          have hk_ra := (((CInv_P221 hCI105 :) this).2 ra hn232).1
          have hl1_ra := (((CInv_P221 hCI105 :) this).2 ra hn232).2.1
          have hl2_ra := (((CInv_P221 hCI105 :) this).2 ra hn232).2.2.1
          have hw_ra : id _ := (((CInv_P221 hCI105 :) this).2 ra hn232).2.2.2
          have hn234 : (c105_P 108) dr = some tr := ((hex105 dr lt_dr173 (by omega)).2.2.1 108).trans hn176
          have lt_tr235 := ((hB105.1 108 fl_108) dr tr hn234).2.1
          have hk_tr := (((CInv_P108 hCI105 :) dr).2 tr hn234).1
          have hl1_tr := (((CInv_P108 hCI105 :) dr).2 tr hn234).2.1
          have hl2_tr := (((CInv_P108 hCI105 :) dr).2 tr hn234).2.2.1
          have hw_tr : id _ := (((CInv_P108 hCI105 :) dr).2 tr hn234).2.2.2
          have hn236 : (c105_P 109) dr = some ph := ((hex105 dr lt_dr173 (by omega)).2.2.1 109).trans hn178
          have lt_ph237 := ((hB105.1 109 fl_109) dr ph hn236).2.1
          have hk_ph := (((CInv_P109 hCI105 :) dr).2 ph hn236).1
          have hl1_ph := (((CInv_P109 hCI105 :) dr).2 ph hn236).2.1
          have hl2_ph := (((CInv_P109 hCI105 :) dr).2 ph hn236).2.2.1
          have hw_ph : id _ := (((CInv_P109 hCI105 :) dr).2 ph hn236).2.2.2
          have hn238 : (c105_P 201) tr = some tl := ((hex105 tr lt_tr177 (by omega)).2.2.1 201).trans hn180
          have lt_tl239 := ((hB105.1 201 fl_201) tr tl hn238).2.1
          have hk_tl := (((CInv_P201 hCI105 :) tr).2 tl hn238).1
          have hl1_tl := (((CInv_P201 hCI105 :) tr).2 tl hn238).2.1
          have hl2_tl := (((CInv_P201 hCI105 :) tr).2 tl hn238).2.2.1
          have hw_tl : id _ := (((CInv_P201 hCI105 :) tr).2 tl hn238).2.2.2
          have hn240 : (c105_P 202) tr = some ts := ((hex105 tr lt_tr177 (by omega)).2.2.1 202).trans hn182
          have lt_ts241 := ((hB105.1 202 fl_202) tr ts hn240).2.1
          have hk_ts := (((CInv_P202 hCI105 :) tr).2 ts hn240).1
          have hl1_ts := (((CInv_P202 hCI105 :) tr).2 ts hn240).2.1
          have hl2_ts := (((CInv_P202 hCI105 :) tr).2 ts hn240).2.2.1
          have hw_ts : id _ := (((CInv_P202 hCI105 :) tr).2 ts hn240).2.2.2
          have rb242 := ((CInv_RB hCI105 :) tr ts hk_tr hn240).1
          have hn245 : (c105_P 226) this = some tn := ((hex105 this lt140 (by omega)).2.2.1 226).trans hn187
          have lt_tn246 := ((hB105.1 226 fl_226) this tn hn245).2.1
          have hk_tn := (((CInv_P226 hCI105 :) this).2 tn hn245).1
          have hl1_tn := (((CInv_P226 hCI105 :) this).2 tn hn245).2.1
          have hl2_tn := (((CInv_P226 hCI105 :) this).2 tn hn245).2.2.1
          have hw_tn : id _ := (((CInv_P226 hCI105 :) this).2 tn hn245).2.2.2
          have sg105 : ((c105_G 222) this).toInt = ((G101 222) this).toInt := congrArg Int32.toInt ((hex105 this (by omega) (by omega)).2.1 222)
          refine pw_vl (fun m108 em108 => ?_)
          have hfr247 : ∀ z, (z < cnt ∧ (la z < 10 ∨ 10 < la z) ∧ (la z < 300 ∨ 300 < la z) ∧ (la z < 90 ∨ 90 + 8 < la z) ∧ (la z < 200 ∨ 200 + 3 < la z) ∧ (la z < D ∨ D + 5 < la z)) → m108 z = (P 224) z := fr_up (e0 := (P 224)) (fun (z : Nat) (hz : (z < cnt ∧ (la z < 10 ∨ 10 < la z) ∧ (la z < 300 ∨ 300 < la z) ∧ (la z < 90 ∨ 90 + 8 < la z) ∧ (la z < 200 ∨ 200 + 3 < la z) ∧ (la z < D ∨ D + 5 < la z))) => hF105_P 224 z hz.1 (fun _ => hz.2)) em108 (show ¬ (this < cnt ∧ (la this < 10 ∨ 10 < la this) ∧ (la this < 300 ∨ 300 < la this) ∧ (la this < 90 ∨ 90 + 8 < la this) ∧ (la this < 200 ∨ 200 + 3 < la this) ∧ (la this < D ∨ D + 5 < la this)) from fun hz => by have q1 := hag105 this hz.1; omega)
          have hl248 : LC 224 la105 c105_cnt m108 := LC_up (hB105.1 224 fl_224) em108 (by omega) (by omega) (lk_224 _ _)
          have hp249 : PB κ105_188 c105_ln wd 12 6 0 2500 0 m108 := by rw [em108]; exact PB_up (CInv_P224 hCI105 :) hk191 (by omega) (by omega) (fun h9 => absurd h9 (by decide))
          have sm108 : m108 this = some c49_cnt := by rw [em108]; exact va_up_self _ _ _
          refine pw_vl (fun m113 em113 => ?_)
          have hfr250 : ∀ z, (z < cnt ∧ (la z < 10 ∨ 10 < la z) ∧ (la z < 300 ∨ 300 < la z) ∧ (la z < 90 ∨ 90 + 8 < la z) ∧ (la z < 200 ∨ 200 + 3 < la z) ∧ (la z < D ∨ D + 5 < la z)) → m113 z = (G 223) z := fr_up (e0 := (G 223)) (fun (z : Nat) (hz : (z < cnt ∧ (la z < 10 ∨ 10 < la z) ∧ (la z < 300 ∨ 300 < la z) ∧ (la z < 90 ∨ 90 + 8 < la z) ∧ (la z < 200 ∨ 200 + 3 < la z) ∧ (la z < D ∨ D + 5 < la z))) => hF105_G 223 z hz.1 (fun _ => hz.2)) em113 (show ¬ (this < cnt ∧ (la this < 10 ∨ 10 < la this) ∧ (la this < 300 ∨ 300 < la this) ∧ (la this < 90 ∨ 90 + 8 < la this) ∧ (la this < 200 ∨ 200 + 3 < la this) ∧ (la this < D ∨ D + 5 < la this)) from fun hz => by have q1 := hag105 this hz.1; omega)
          have sm113 : (m113 this).toInt = p0.toInt := by rw [em113, va_up_self]
          have b251 := (CInv_G222 hCI105 :) this
          have f252 : (((c105_G 222) this) + 1).toInt = ((c105_G 222) this).toInt + 1 := z_addc (by decide +kernel) (by omega) (by omega)
          refine pw_vl (fun x123 ex123 => ?_)
          have f253 : x123.toInt = (((c105_G 222) this) + 1).toInt := congrArg Int32.toInt ex123
          refine pw_vl (fun m123 em123 => ?_)
          have hfr254 : ∀ z, (z < cnt ∧ (la z < 10 ∨ 10 < la z) ∧ (la z < 300 ∨ 300 < la z) ∧ (la z < 90 ∨ 90 + 8 < la z) ∧ (la z < 200 ∨ 200 + 3 < la z) ∧ (la z < D ∨ D + 5 < la z)) → m123 z = (G 222) z := fr_up (e0 := (G 222)) (fun (z : Nat) (hz : (z < cnt ∧ (la z < 10 ∨ 10 < la z) ∧ (la z < 300 ∨ 300 < la z) ∧ (la z < 90 ∨ 90 + 8 < la z) ∧ (la z < 200 ∨ 200 + 3 < la z) ∧ (la z < D ∨ D + 5 < la z))) => hF105_G 222 z hz.1 (fun _ => hz.2)) em123 (show ¬ (this < cnt ∧ (la this < 10 ∨ 10 < la this) ∧ (la this < 300 ∨ 300 < la this) ∧ (la this < 90 ∨ 90 + 8 < la this) ∧ (la this < 200 ∨ 200 + 3 < la this) ∧ (la this < D ∨ D + 5 < la this)) from fun hz => by have q1 := hag105 this hz.1; omega)
          have hg255 : rng (0) 6 m123 := by rw [em123]; exact rng_vup (CInv_G222 hCI105 :) (by omega) (by omega)
          have sm123 : (m123 this).toInt = x123.toInt := by rw [em123, va_up_self]
          have b256 := hg255 this
          have f258 : ((m123 this) - 1).toInt = (m123 this).toInt - 1 := z_subc (by decide +kernel) (by omega) (by omega)
          have qq0 : (p0.toInt ≤ ld ∨ 100000 < p0.toInt → ((m123 this) - 1).toInt = -2 ∧ m123 this = (G 222) this ∧ m113 this = (G 223) this ∧ (c105_G 80) rd = (G 80) rd ∧ (c105_G 81) rd = (G 81) rd) := by intro h; exfalso; omega
          have qq1 : (ld < p0.toInt ∧ p0.toInt ≤ 100000 → ∀ x, (parF f n (n + 1) 0 ([], [], [])).1 = some x → ((m123 this) - 1).toInt = -1 ∧ m123 this = (G 222) this ∧ m113 this = (G 223) this ∧ ERR (some x) ((c105_G 80) rd) ((c105_G 81) rd)) := by intro _ x hx; rw [hR] at hx; cases hx
          have qq2 : (ld < p0.toInt ∧ p0.toInt ≤ 100000 → (parF f n (n + 1) 0 ([], [], [])).1 = none → 6 ≤ ((G 222) this).toInt → ((m123 this) - 1).toInt = -3 ∧ m123 this = (G 222) this ∧ m113 this = (G 223) this ∧ ((c105_G 80) rd).toInt = 0 ∧ ((c105_G 81) rd).toInt = -1) := by intro _ _ h; exfalso; omega
          have qq3 : (ld < p0.toInt ∧ p0.toInt ≤ 100000 → (parF f n (n + 1) 0 ([], [], [])).1 = none → ((G 222) this).toInt < 6 → ((m123 this) - 1).toInt = ((G 222) this).toInt ∧ (m123 this).toInt = ((G 222) this).toInt + 1 ∧ m113 this = p0 ∧ ((c105_G 80) rd).toInt = 0 ∧ ((c105_G 81) rd).toInt = -1 ∧ (c105_O 2) ra (Int32.toNatClampNeg ((G 222) this)) = some dr ∧ RFC (va_up (va_up c105_G 223 m113) 222 m123) (va_up c105_P 224 m108) c105_V c105_O c105_ln la105 c105_cnt dr p0 (parF f n (n + 1) 0 ([], [], [])).2) := by intro _ _ _; refine ⟨by omega, by omega, by rw [em113, va_up_self], ?_, ?_, ?_, ?_⟩; (show (c105_G 80 rd).toInt = 0; rw [fG105 80 rd (by omega) (fun q => (by show _ ≠ _; omega)), fG101 80 rd (by omega) (fun q => absurd q (by decide))]; exact b1); (show (c105_G 81 rd).toInt = -1; rw [fG105 81 rd (by omega) (fun q => (by show _ ≠ _; omega)), fG101 81 rd (by omega) (fun q => absurd q (by decide))]; exact b2); (rw [(fO105 2 ra (by omega) (fun q => (by show _ ≠ _; omega))).trans (fO101 2 ra (by omega) (fun q => absurd q (by decide)))]; show m99 ra _ = _; rw [em99, va_up_self, h222, va_up_self]); (exact RFC_fr hRFC hB49 (by omega) (fun z hz h1 h2 h3 => ⟨((fG105 100 z (by omega) (fun q => (by show _ ≠ _; omega))).trans (fG101 100 z (by omega) (fun q => absurd q (by decide)))), ((fG105 102 z (by omega) (fun q => (by show _ ≠ _; omega))).trans (fG101 102 z (by omega) (fun q => absurd q (by decide)))), ((fG105 107 z (by omega) (fun q => (by show _ ≠ _; omega))).trans (fG101 107 z (by omega) (fun q => absurd q (by decide)))), ((fG105 200 z (by omega) (fun q => (by show _ ≠ _; omega))).trans (fG101 200 z (by omega) (fun q => absurd q (by decide)))), ((fG105 203 z (by omega) (fun q => (by show _ ≠ _; omega))).trans (fG101 203 z (by omega) (fun q => absurd q (by decide)))).trans (p84_0 z (by omega) (by omega)).2.2, ((fG105 24 z (by omega) (fun q => (by show _ ≠ _; omega))).trans (fG101 24 z (by omega) (fun q => absurd q (by decide)))), ((fG105 25 z (by omega) (fun q => (by show _ ≠ _; omega))).trans (fG101 25 z (by omega) (fun q => absurd q (by decide)))), ((fP105 101 z (by omega) (fun q => (by show _ ≠ _; omega))).trans (fP101 101 z (by omega) (fun q => absurd q (by decide)))), ((fP105 103 z (by omega) (fun q => (by show _ ≠ _; omega))).trans (fP101 103 z (by omega) (fun q => absurd q (by decide)))), ((fP105 104 z (by omega) (fun q => (by show _ ≠ _; omega))).trans (fP101 104 z (by omega) (fun q => absurd q (by decide)))), ((fP105 105 z (by omega) (fun q => (by show _ ≠ _; omega))).trans (fP101 105 z (by omega) (fun q => absurd q (by decide)))), ((fP105 106 z (by omega) (fun q => (by show _ ≠ _; omega))).trans (fP101 106 z (by omega) (fun q => absurd q (by decide)))), ((fP105 201 z (by omega) (fun q => (by show _ ≠ _; omega))).trans (fP101 201 z (by omega) (fun q => absurd q (by decide)))), ((fP105 202 z (by omega) (fun q => (by show _ ≠ _; omega))).trans (fP101 202 z (by omega) (fun q => absurd q (by decide)))), ((fP105 20 z (by omega) (fun q => (by show _ ≠ _; omega))).trans (fP101 20 z (by omega) (fun q => absurd q (by decide)))), ((fP105 21 z (by omega) (fun q => (by show _ ≠ _; omega))).trans (fP101 21 z (by omega) (fun q => absurd q (by decide)))), ((fP105 22 z (by omega) (fun q => (by show _ ≠ _; omega))).trans (fP101 22 z (by omega) (fun q => absurd q (by decide)))), ((fP105 23 z (by omega) (fun q => (by show _ ≠ _; omega))).trans (fP101 23 z (by omega) (fun q => absurd q (by decide)))), ((fV105 0 z (by omega) (fun q => (by show _ ≠ _; omega))).trans (fV101 0 z (by omega) (fun q => absurd q (by decide)))).trans (p84_0 z (by omega) (by omega)).1, ((fV105 1 z (by omega) (fun q => (by show _ ≠ _; omega))).trans (fV101 1 z (by omega) (fun q => absurd q (by decide)))).trans (p84_0 z (by omega) (by omega)).2.1, ((fV105 10 z (by omega) (fun q => (by show _ ≠ _; omega))).trans (fV101 10 z (by omega) (fun q => absurd q (by decide)))), ((fO105 0 z (by omega) (fun q => (by show _ ≠ _; omega))).trans (fO101 0 z (by omega) (fun q => absurd q (by decide)))), (fl105 z (by omega)).trans (fl101 z (by omega))⟩) (by omega) (fun z hz => (ag105 z (by omega)).trans (ag101 z hz)))
          have qq4 : (∃ dr1, m108 this = some dr1 ∧ DRF (va_up (va_up c105_G 223 m113) 222 m123) (va_up c105_P 224 m108) c105_ln dr1 ∧ dr1 < c105_cnt ∧ ((la105 dr1 = la dr ∧ dr1 = dr) ∨ (la105 dr1 = 100000 + 10 * dr1 ∧ cnt ≤ dr1))) := by obtain ⟨er9, br9, pr9, kp9, lr9, le9, lb9, lp9, se9, sb9, sp9, hptn⟩ := p105_0; exact ⟨c49_cnt, sm108, ⟨_, _, _, _, _, _, _, _, _, _, _, hptn⟩, by omega, Or.inr ⟨(ag105 c49_cnt (by omega)).trans hL101, by omega⟩⟩
          have qq5 : (∀ q, q ≠ (Int32.toNatClampNeg ((G 222) this)) → (c105_O 2) ra q = (O 2) ra q) ∧ ((m123 this).toInt = ((G 222) this).toInt → (c105_O 2) ra = (O 2) ra) := by refine ⟨fun q hq => ?_, fun h => absurd h (by omega)⟩; rw [(fO105 2 ra (by omega) (fun q => (by show _ ≠ _; omega))).trans (fO101 2 ra (by omega) (fun q => absurd q (by decide)))]; show m99 ra q = _; rw [em99, va_up_self, h222, va_up_ne _ _ hq, hO49]
          have qq6 : ((m123 this).toInt = ((G 222) this).toInt + 1 → ∀ b, m108 this = some b → cnt ≤ b) := by intro _ b hb; have e9 : some c49_cnt = some b := Eq.trans (Eq.symm sm108) hb; cases e9; omega
          have qq7 : (ld < p0.toInt ∧ p0.toInt ≤ 100000 → (parF f n (n + 1) 0 ([], [], [])).1 = none → ((G 222) this).toInt < 6 → TPC (va_up (va_up c105_G 223 m113) 222 m123) (va_up c105_P 224 m108) c105_V dr (parF f n (n + 1) 0 ([], [], [])).2) := by intro _ _ _; exact TPC_fr (O1 := c105_O) (ln1 := c105_ln) hTP84 hB84 (by omega) (fun z hz h1 h2 => ⟨((fG105 100 z (by omega) (fun q => (by show _ ≠ _; omega))).trans (fG101 100 z (by omega) (fun q => absurd q (by decide)))), ((fG105 102 z (by omega) (fun q => (by show _ ≠ _; omega))).trans (fG101 102 z (by omega) (fun q => absurd q (by decide)))), ((fG105 107 z (by omega) (fun q => (by show _ ≠ _; omega))).trans (fG101 107 z (by omega) (fun q => absurd q (by decide)))), ((fG105 200 z (by omega) (fun q => (by show _ ≠ _; omega))).trans (fG101 200 z (by omega) (fun q => absurd q (by decide)))), ((fG105 203 z (by omega) (fun q => (by show _ ≠ _; omega))).trans (fG101 203 z (by omega) (fun q => absurd q (by decide)))), ((fG105 24 z (by omega) (fun q => (by show _ ≠ _; omega))).trans (fG101 24 z (by omega) (fun q => absurd q (by decide)))), ((fG105 25 z (by omega) (fun q => (by show _ ≠ _; omega))).trans (fG101 25 z (by omega) (fun q => absurd q (by decide)))), ((fP105 101 z (by omega) (fun q => (by show _ ≠ _; omega))).trans (fP101 101 z (by omega) (fun q => absurd q (by decide)))), ((fP105 103 z (by omega) (fun q => (by show _ ≠ _; omega))).trans (fP101 103 z (by omega) (fun q => absurd q (by decide)))), ((fP105 104 z (by omega) (fun q => (by show _ ≠ _; omega))).trans (fP101 104 z (by omega) (fun q => absurd q (by decide)))), ((fP105 105 z (by omega) (fun q => (by show _ ≠ _; omega))).trans (fP101 105 z (by omega) (fun q => absurd q (by decide)))), ((fP105 106 z (by omega) (fun q => (by show _ ≠ _; omega))).trans (fP101 106 z (by omega) (fun q => absurd q (by decide)))), ((fP105 201 z (by omega) (fun q => (by show _ ≠ _; omega))).trans (fP101 201 z (by omega) (fun q => absurd q (by decide)))), ((fP105 202 z (by omega) (fun q => (by show _ ≠ _; omega))).trans (fP101 202 z (by omega) (fun q => absurd q (by decide)))), ((fP105 20 z (by omega) (fun q => (by show _ ≠ _; omega))).trans (fP101 20 z (by omega) (fun q => absurd q (by decide)))), ((fP105 21 z (by omega) (fun q => (by show _ ≠ _; omega))).trans (fP101 21 z (by omega) (fun q => absurd q (by decide)))), ((fP105 22 z (by omega) (fun q => (by show _ ≠ _; omega))).trans (fP101 22 z (by omega) (fun q => absurd q (by decide)))), ((fP105 23 z (by omega) (fun q => (by show _ ≠ _; omega))).trans (fP101 23 z (by omega) (fun q => absurd q (by decide)))), ((fV105 0 z (by omega) (fun q => (by show _ ≠ _; omega))).trans (fV101 0 z (by omega) (fun q => absurd q (by decide)))), ((fV105 1 z (by omega) (fun q => (by show _ ≠ _; omega))).trans (fV101 1 z (by omega) (fun q => absurd q (by decide)))), ((fV105 10 z (by omega) (fun q => (by show _ ≠ _; omega))).trans (fV101 10 z (by omega) (fun q => absurd q (by decide)))), ((fO105 0 z (by omega) (fun q => (by show _ ≠ _; omega))).trans (fO101 0 z (by omega) (fun q => absurd q (by decide)))), ((fP105 108 z (by omega) (fun q => (by show _ ≠ _; omega))).trans (fP101 108 z (by omega) (fun q => absurd q (by decide)))), ((fP105 109 z (by omega) (fun q => (by show _ ≠ _; omega))).trans (fP101 109 z (by omega) (fun q => absurd q (by decide)))), ((fV105 11 z (by omega) (fun q => (by show _ ≠ _; omega))).trans (fV101 11 z (by omega) (fun q => absurd q (by decide)))), (fl105 z (by omega)).trans (fl101 z (by omega))⟩)
          have qq8 : (∃ dr1, m108 this = some dr1 ∧ DRT (va_up (va_up c105_G 223 m113) 222 m123) (va_up c105_P 224 m108) c105_ln dr1) := by exact ⟨c49_cnt, sm108, p105_1⟩
          exact pw_some ⟨la105, hag105, (LB_set hB105 hl248), qq0, qq1, qq2, qq3, qq4, qq5, qq6, qq7, qq8⟩
        · have c70 := z_nlt c70
          have qq0 : (p0.toInt ≤ ld ∨ 100000 < p0.toInt → (-3 : Int32).toInt = -2 ∧ (c49_G 222) this = (G 222) this ∧ (c49_G 223) this = (G 223) this ∧ (c49_G 80) rd = (G 80) rd ∧ (c49_G 81) rd = (G 81) rd) := by intro h; exfalso; omega
          have qq1 : (ld < p0.toInt ∧ p0.toInt ≤ 100000 → ∀ x, (parF f n (n + 1) 0 ([], [], [])).1 = some x → (-3 : Int32).toInt = -1 ∧ (c49_G 222) this = (G 222) this ∧ (c49_G 223) this = (G 223) this ∧ ERR (some x) ((c49_G 80) rd) ((c49_G 81) rd)) := by intro _ x hx; rw [hR] at hx; cases hx
          have qq2 : (ld < p0.toInt ∧ p0.toInt ≤ 100000 → (parF f n (n + 1) 0 ([], [], [])).1 = none → 6 ≤ ((G 222) this).toInt → (-3 : Int32).toInt = -3 ∧ (c49_G 222) this = (G 222) this ∧ (c49_G 223) this = (G 223) this ∧ ((c49_G 80) rd).toInt = 0 ∧ ((c49_G 81) rd).toInt = -1) := by intro _ _ _; exact ⟨by omega, h222, h223, by omega, by omega⟩
          have qq3 : (ld < p0.toInt ∧ p0.toInt ≤ 100000 → (parF f n (n + 1) 0 ([], [], [])).1 = none → ((G 222) this).toInt < 6 → (-3 : Int32).toInt = ((G 222) this).toInt ∧ ((c49_G 222) this).toInt = ((G 222) this).toInt + 1 ∧ (c49_G 223) this = p0 ∧ ((c49_G 80) rd).toInt = 0 ∧ ((c49_G 81) rd).toInt = -1 ∧ (c49_O 2) ra (Int32.toNatClampNeg ((G 222) this)) = some dr ∧ RFC c49_G c49_P c49_V c49_O c49_ln la49 c49_cnt dr p0 (parF f n (n + 1) 0 ([], [], [])).2) := by intro _ _ h; exfalso; omega
          have qq4 : (∃ dr1, (c49_P 224) this = some dr1 ∧ DRF c49_G c49_P c49_ln dr1 ∧ dr1 < c49_cnt ∧ ((la49 dr1 = la dr ∧ dr1 = dr) ∨ (la49 dr1 = 100000 + 10 * dr1 ∧ cnt ≤ dr1))) := by exact ⟨dr, hn82, ⟨er, br, pr, kp, lr, le, lb, lp, se, sb, sp, hpt49⟩, by omega, Or.inl ⟨ag49 dr (by omega), rfl⟩⟩
          have qq5 : (∀ q, q ≠ (Int32.toNatClampNeg ((G 222) this)) → (c49_O 2) ra q = (O 2) ra q) ∧ (((c49_G 222) this).toInt = ((G 222) this).toInt → (c49_O 2) ra = (O 2) ra) := by exact ⟨fun q _ => congrFun hO49 q, fun _ => hO49⟩
          have qq6 : (((c49_G 222) this).toInt = ((G 222) this).toInt + 1 → ∀ b, (c49_P 224) this = some b → cnt ≤ b) := by intro h; exfalso; omega
          have qq7 : (ld < p0.toInt ∧ p0.toInt ≤ 100000 → (parF f n (n + 1) 0 ([], [], [])).1 = none → ((G 222) this).toInt < 6 → TPC c49_G c49_P c49_V dr (parF f n (n + 1) 0 ([], [], [])).2) := by intro _ _ h; exfalso; omega
          have qq8 : (∃ dr1, (c49_P 224) this = some dr1 ∧ DRT c49_G c49_P c49_ln dr1) := by exact ⟨dr, hn82, tr, ph, tl, ts, ⟨g108, g109, g201, g202⟩, g200, gln⟩
          exact pw_some ⟨la49, hag49, hB49, qq0, qq1, qq2, qq3, qq4, qq5, qq6, qq7, qq8⟩
      · have c59 := z_ne c59
        have qq0 : (p0.toInt ≤ ld ∨ 100000 < p0.toInt → (-1 : Int32).toInt = -2 ∧ (c49_G 222) this = (G 222) this ∧ (c49_G 223) this = (G 223) this ∧ (c49_G 80) rd = (G 80) rd ∧ (c49_G 81) rd = (G 81) rd) := by intro h; exfalso; omega
        have qq1 : (ld < p0.toInt ∧ p0.toInt ≤ 100000 → ∀ x, (parF f n (n + 1) 0 ([], [], [])).1 = some x → (-1 : Int32).toInt = -1 ∧ (c49_G 222) this = (G 222) this ∧ (c49_G 223) this = (G 223) this ∧ ERR (some x) ((c49_G 80) rd) ((c49_G 81) rd)) := by intro _ x hx; exact ⟨by omega, h222, h223, p49_1 x hx⟩
        have qq2 : (ld < p0.toInt ∧ p0.toInt ≤ 100000 → (parF f n (n + 1) 0 ([], [], [])).1 = none → 6 ≤ ((G 222) this).toInt → (-1 : Int32).toInt = -3 ∧ (c49_G 222) this = (G 222) this ∧ (c49_G 223) this = (G 223) this ∧ ((c49_G 80) rd).toInt = 0 ∧ ((c49_G 81) rd).toInt = -1) := by intro _ h; exfalso; have h9 := (p49_0 h).1; omega
        have qq3 : (ld < p0.toInt ∧ p0.toInt ≤ 100000 → (parF f n (n + 1) 0 ([], [], [])).1 = none → ((G 222) this).toInt < 6 → (-1 : Int32).toInt = ((G 222) this).toInt ∧ ((c49_G 222) this).toInt = ((G 222) this).toInt + 1 ∧ (c49_G 223) this = p0 ∧ ((c49_G 80) rd).toInt = 0 ∧ ((c49_G 81) rd).toInt = -1 ∧ (c49_O 2) ra (Int32.toNatClampNeg ((G 222) this)) = some dr ∧ RFC c49_G c49_P c49_V c49_O c49_ln la49 c49_cnt dr p0 (parF f n (n + 1) 0 ([], [], [])).2) := by intro _ h; exfalso; have h9 := (p49_0 h).1; omega
        have qq4 : (∃ dr1, (c49_P 224) this = some dr1 ∧ DRF c49_G c49_P c49_ln dr1 ∧ dr1 < c49_cnt ∧ ((la49 dr1 = la dr ∧ dr1 = dr) ∨ (la49 dr1 = 100000 + 10 * dr1 ∧ cnt ≤ dr1))) := by exact ⟨dr, hn82, ⟨er, br, pr, kp, lr, le, lb, lp, se, sb, sp, hpt49⟩, by omega, Or.inl ⟨ag49 dr (by omega), rfl⟩⟩
        have qq5 : (∀ q, q ≠ (Int32.toNatClampNeg ((G 222) this)) → (c49_O 2) ra q = (O 2) ra q) ∧ (((c49_G 222) this).toInt = ((G 222) this).toInt → (c49_O 2) ra = (O 2) ra) := by exact ⟨fun q _ => congrFun hO49 q, fun _ => hO49⟩
        have qq6 : (((c49_G 222) this).toInt = ((G 222) this).toInt + 1 → ∀ b, (c49_P 224) this = some b → cnt ≤ b) := by intro h; exfalso; omega
        have qq7 : (ld < p0.toInt ∧ p0.toInt ≤ 100000 → (parF f n (n + 1) 0 ([], [], [])).1 = none → ((G 222) this).toInt < 6 → TPC c49_G c49_P c49_V dr (parF f n (n + 1) 0 ([], [], [])).2) := by intro _ h _; exfalso; have h9 := (p49_0 h).1; omega
        have qq8 : (∃ dr1, (c49_P 224) this = some dr1 ∧ DRT c49_G c49_P c49_ln dr1) := by exact ⟨dr, hn82, tr, ph, tl, ts, ⟨g108, g109, g201, g202⟩, g200, gln⟩
        exact pw_some ⟨la49, hag49, hB49, qq0, qq1, qq2, qq3, qq4, qq5, qq6, qq7, qq8⟩
    · have c19 := z_nle c19
      refine pw_j0 ej22 ?_
      have qq0 : (p0.toInt ≤ ld ∨ 100000 < p0.toInt → (-2 : Int32).toInt = -2 ∧ (G 222) this = (G 222) this ∧ (G 223) this = (G 223) this ∧ (G 80) rd = (G 80) rd ∧ (G 81) rd = (G 81) rd) := by intro _; exact ⟨by omega, rfl, rfl, rfl, rfl⟩
      have qq1 : (ld < p0.toInt ∧ p0.toInt ≤ 100000 → ∀ x, (parF f n (n + 1) 0 ([], [], [])).1 = some x → (-2 : Int32).toInt = -1 ∧ (G 222) this = (G 222) this ∧ (G 223) this = (G 223) this ∧ ERR (some x) ((G 80) rd) ((G 81) rd)) := by intro h; exfalso; omega
      have qq2 : (ld < p0.toInt ∧ p0.toInt ≤ 100000 → (parF f n (n + 1) 0 ([], [], [])).1 = none → 6 ≤ ((G 222) this).toInt → (-2 : Int32).toInt = -3 ∧ (G 222) this = (G 222) this ∧ (G 223) this = (G 223) this ∧ ((G 80) rd).toInt = 0 ∧ ((G 81) rd).toInt = -1) := by intro h; exfalso; omega
      have qq3 : (ld < p0.toInt ∧ p0.toInt ≤ 100000 → (parF f n (n + 1) 0 ([], [], [])).1 = none → ((G 222) this).toInt < 6 → (-2 : Int32).toInt = ((G 222) this).toInt ∧ ((G 222) this).toInt = ((G 222) this).toInt + 1 ∧ (G 223) this = p0 ∧ ((G 80) rd).toInt = 0 ∧ ((G 81) rd).toInt = -1 ∧ (O 2) ra (Int32.toNatClampNeg ((G 222) this)) = some dr ∧ RFC (va_up G 141 c4_G141) P V O ln la cnt dr p0 (parF f n (n + 1) 0 ([], [], [])).2) := by intro h; exfalso; omega
      have qq4 : (∃ dr1, (P 224) this = some dr1 ∧ DRF (va_up G 141 c4_G141) P ln dr1 ∧ dr1 < cnt ∧ ((la dr1 = la dr ∧ dr1 = dr) ∨ (la dr1 = 100000 + 10 * dr1 ∧ cnt ≤ dr1))) := by exact ⟨dr, h224, ⟨er, br, pr, kp, lr, le, lb, lp, se, sb, sp, hpt⟩, by omega, Or.inl ⟨rfl, rfl⟩⟩
      have qq5 : (∀ q, q ≠ (Int32.toNatClampNeg ((G 222) this)) → (O 2) ra q = (O 2) ra q) ∧ (((G 222) this).toInt = ((G 222) this).toInt → (O 2) ra = (O 2) ra) := by exact ⟨fun _ _ => rfl, fun _ => rfl⟩
      have qq6 : (((G 222) this).toInt = ((G 222) this).toInt + 1 → ∀ b, (P 224) this = some b → cnt ≤ b) := by intro h; exfalso; omega
      have qq7 : (ld < p0.toInt ∧ p0.toInt ≤ 100000 → (parF f n (n + 1) 0 ([], [], [])).1 = none → ((G 222) this).toInt < 6 → TPC (va_up G 141 c4_G141) P V dr (parF f n (n + 1) 0 ([], [], [])).2) := by intro h; exfalso; omega
      have qq8 : (∃ dr1, (P 224) this = some dr1 ∧ DRT (va_up G 141 c4_G141) P ln dr1) := by exact ⟨dr, h224, tr, ph, tl, ts, ⟨h108, h109, hxl, hts⟩, hwt, hm40⟩
      exact pw_some ⟨la, (fun _ _ => rfl), hB, qq0, qq1, qq2, qq3, qq4, qq5, qq6, qq7, qq8⟩
