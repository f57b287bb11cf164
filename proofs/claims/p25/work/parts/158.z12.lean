abbrev QF_X11_back (κ : Nat → Nat) (wd : Nat) (la : Nat → Nat) (G : Nat → Nat → Int32) (P : Nat → Nat → Option Nat) (U : Nat → Nat → Int64) (V : Nat → Nat → Nat → Int32) (X : Nat → Nat → Nat → Int64) (O : Nat → Nat → Nat → Option Nat) (kd : Nat → Nat) (ln : Nat → Nat) (cnt : Nat) (this : Nat) (p0 : Int32) (f : Nat → Int32) (n : Nat) (tp : Nat) (tb : Nat) (ra : Nat) (tn : Nat) (bk : Nat) (ow : Nat) (nw : Nat) (nx : Nat) (wh : Nat) (pg : Nat) (fi : Nat) (pa : Nat) (pk : Nat) (sz : Nat) (cl : Nat) (fa : Nat) (fl : Nat) (sp : Nat) (lsp : Nat) (ssp : Nat) (wl : Nat) (wz : Nat) (D : Nat) (d : Nat → Dr) (Ws : List Wd) : (Int32 × (Nat → Nat → Int32) × (Nat → Nat → Option Nat) × (Nat → Nat → Int64) × (Nat → Nat → Nat → Int32) × (Nat → Nat → Nat → Int64) × (Nat → Nat → Nat → Option Nat) × (Nat → Nat) × (Nat → Nat) × Nat) → Prop := (fun t => ∃ la1 : Nat → Nat, (∀ z, z < cnt → la1 z = la z) ∧ LB la1 (t.2.2.2.2.2.2.2.2.2) (t.2.2.1) ∧ ((¬ (isw f ((G 141) tp).toInt ∧ 0 ≤ p0.toInt ∧ p0.toInt ≤ ((G 222) this).toInt) → (t.1).toInt = -2 ∧ ((t.2.1) 231) this = (G 231) this ∧ ((t.2.2.2.2.1) 4) ow = (V 4) ow)) ∧ ((isw f ((G 141) tp).toInt ∧ 0 ≤ p0.toInt ∧ p0.toInt ≤ ((G 222) this).toInt → (t.1).toInt = (((t.2.1) 231) this).toInt ∧ NTL (((t.2.1) 231) this).toInt (((t.2.2.2.2.1) 4) ow) (owF d Ws (wdl f 0 n) (Int32.toNatClampNeg p0) Ws.length))) ∧ (BKR (t.2.1) (t.2.2.1) (t.2.2.2.2.1) la1 (t.2.2.2.2.2.2.2.2.2) D (((t.2.2.2.2.2.2.1) 1) fa) (fun s => Int32.toNatClampNeg (((t.2.2.2.2.1) 3) fl s)) (FMT d Ws)) ∧ ((∀ s : Nat, s < 7 → ((G 222) this).toInt < (s : Int) → ((t.2.2.2.2.1) 3) fl s = (V 3) fl s)))
set_option maxHeartbeats 4000000 in
set_option maxRecDepth 100000 in
theorem fn_X11_back (κ : Nat → Nat) (wd : Nat) (la : Nat → Nat) (G : Nat → Nat → Int32) (P : Nat → Nat → Option Nat) (U : Nat → Nat → Int64) (V : Nat → Nat → Nat → Int32) (X : Nat → Nat → Nat → Int64) (O : Nat → Nat → Nat → Option Nat) (kd : Nat → Nat) (ln : Nat → Nat) (cnt : Nat) (this : Nat) (p0 : Int32) (f : Nat → Int32) (n : Nat) (tp : Nat) (tb : Nat) (ra : Nat) (tn : Nat) (bk : Nat) (ow : Nat) (nw : Nat) (nx : Nat) (wh : Nat) (pg : Nat) (fi : Nat) (pa : Nat) (pk : Nat) (sz : Nat) (cl : Nat) (fa : Nat) (fl : Nat) (sp : Nat) (lsp : Nat) (ssp : Nat) (wl : Nat) (wz : Nat) (D : Nat) (d : Nat → Dr) (Ws : List Wd) (hI : CInv κ wd G P V O ln cnt) (hk_this : κ this = 12) (hB : LB la cnt P) (hlt_this : this < cnt) (hpl0 : la this = 200) (h220 : (P 220) this = some tp) (h140 : (P 140) tp = some tb) (h221 : (P 221) this = some ra) (hf : (V 0) tb = f) (hn : Int32.toNatClampNeg ((G 141) tp) = n) (h226 : (P 226) this = some tn) (h229 : (P 229) this = some bk) (h230 : (P 230) this = some ow) (h181 : (P 181) tn = some nw) (h182 : (P 182) tn = some nx) (hnn : nw ≠ nx) (h185 : (P 185) tn = some wh) (h180 : (P 180) tn = some pg) (hfi : (P 63) pg = some fi) (hpa : (P 65) pg = some pa) (hpk : (P 62) pg = some pk) (hsz : (P 61) pg = some sz) (hcl : (P 64) pg = some cl) (hlt9 : la tn = 90) (h1 : (P 1) bk = some fa) (h3 : (P 3) bk = some fl) (h4 : (P 4) bk = some sp) (hls : (P 201) sp = some lsp) (hss : (P 202) sp = some ssp) (hw4 : ((G 200) sp).toInt = ((24 : Nat) : Int)) (hn4 : ln ssp = 12) (hwl : (P 201) wd = some wl) (hwz : (P 202) wd = some wz) (hww : ((G 200) wd).toInt = ((24 : Nat) : Int)) (hWs : rwW ((G 203) wd) ((V 0) wl) ((V 1) wz) 24 = Ws) (hWw : WDS Ws) (hbk : BKR G P V la cnt D ((O 1) fa) (fun s => Int32.toNatClampNeg ((V 3) fl s)) (FMT d Ws)) (hDc : D < 100000 + 10 * cnt) (h0 : (P 0) bk = some wd) (hl7 : ln fl = 7 ∧ ln fa = 700) (hl6 : ln ra = 6) (hfit : ∀ i, fits .byte (.int (f i)) = true) (hrf : ∀ q, q < Int32.toNatClampNeg ((G 222) this) → ∃ rf, (O 2) ra q = some rf ∧ rf < cnt ∧ 100000 ≤ la rf ∧ RFX G P V O ln la cnt rf (d q)) : pw (f_X11_back G P U V X O kd ln cnt this p0) (sp1 (QF_X11_back κ wd la G P U V X O kd ln cnt this p0 f n tp tb ra tn bk ow nw nx wh pg fi pa pk sz cl fa fl sp lsp ssp wl wz D d Ws)) := by
  unfold f_X11_back
  have zkm2 : (-2 : Int32).toInt = -2 := by decide +kernel
  have zkm1 : (-1 : Int32).toInt = -1 := by decide +kernel
  have zk0 : (0 : Int32).toInt = 0 := by decide +kernel
  have zk1 : (1 : Int32).toInt = 1 := by decide +kernel
  have r_p0 := i32r p0
  replace hnn : id _ := hnn
  have hn1 : (P 220) this = some tp := h220
  have lt_tp2 := ((hB.1 220 fl_220) this tp hn1).2.1
  have lb_tp2 : la tp = 10 := lk_220.mp ((hB.1 220 fl_220) this tp hn1).2.2
  have hk_tp := (((CInv_P220 hI :) this).2 tp hn1).1
  have hl1_tp := (((CInv_P220 hI :) this).2 tp hn1).2.1
  have hl2_tp := (((CInv_P220 hI :) this).2 tp hn1).2.2.1
  have hw_tp : id _ := (((CInv_P220 hI :) this).2 tp hn1).2.2.2
  have hn3 : (P 140) tp = some tb := h140
  obtain ⟨_, lt_tb4, lb_tb4⟩ := (hB.1 140 fl_140) tp tb hn3
  have lb_tb4 : la tb = 11 := (lk_140.mp lb_tb4).trans (congrArg (fun z9 => z9 + 1) lb_tp2)
  have hk_tb := (((CInv_P140 hI :) tp).2 tb hn3).1
  have hl1_tb := (((CInv_P140 hI :) tp).2 tb hn3).2.1
  have hl2_tb := (((CInv_P140 hI :) tp).2 tb hn3).2.2.1
  have hw_tb : id _ := (((CInv_P140 hI :) tp).2 tb hn3).2.2.2
  have hz_tb : (Int32.ofNat (ln tb)).toInt = ((ln tb : Nat) : Int) := ofN_eq (by first | exact Nat.le_trans hl2_tb (by decide) | omega)
  have hn5 : (P 221) this = some ra := h221
  obtain ⟨_, lt_ra6, lb_ra6⟩ := (hB.1 221 fl_221) this ra hn5
  have lb_ra6 : la ra = 203 := (lk_221.mp lb_ra6).trans (congrArg (fun z9 => z9 + 3) hpl0)
  have hk_ra := (((CInv_P221 hI :) this).2 ra hn5).1
  have hl1_ra := (((CInv_P221 hI :) this).2 ra hn5).2.1
  have hl2_ra := (((CInv_P221 hI :) this).2 ra hn5).2.2.1
  have hw_ra : id _ := (((CInv_P221 hI :) this).2 ra hn5).2.2.2
  have hz_ra : (Int32.ofNat (ln ra)).toInt = ((ln ra : Nat) : Int) := ofN_eq (by first | exact Nat.le_trans hl2_ra (by decide) | omega)
  have hn7 : (P 226) this = some tn := h226
  have lt_tn8 := ((hB.1 226 fl_226) this tn hn7).2.1
  have lb_tn8 : la tn = 90 := lk_226.mp ((hB.1 226 fl_226) this tn hn7).2.2
  have hk_tn := (((CInv_P226 hI :) this).2 tn hn7).1
  have hl1_tn := (((CInv_P226 hI :) this).2 tn hn7).2.1
  have hl2_tn := (((CInv_P226 hI :) this).2 tn hn7).2.2.1
  have hw_tn : id _ := (((CInv_P226 hI :) this).2 tn hn7).2.2.2
  have hn9 : (P 229) this = some bk := h229
  have lt_bk10 := ((hB.1 229 fl_229) this bk hn9).2.1
  have lb_bk10 : la bk = 70 := lk_229.mp ((hB.1 229 fl_229) this bk hn9).2.2
  have hk_bk := (((CInv_P229 hI :) this).2 bk hn9).1
  have hl1_bk := (((CInv_P229 hI :) this).2 bk hn9).2.1
  have hl2_bk := (((CInv_P229 hI :) this).2 bk hn9).2.2.1
  have hw_bk : id _ := (((CInv_P229 hI :) this).2 bk hn9).2.2.2
  have hn11 : (P 230) this = some ow := h230
  obtain ⟨_, lt_ow12, lb_ow12⟩ := (hB.1 230 fl_230) this ow hn11
  have lb_ow12 : la ow = 201 := (lk_230.mp lb_ow12).trans (congrArg (fun z9 => z9 + 1) hpl0)
  have hk_ow := (((CInv_P230 hI :) this).2 ow hn11).1
  have hl1_ow := (((CInv_P230 hI :) this).2 ow hn11).2.1
  have hl2_ow := (((CInv_P230 hI :) this).2 ow hn11).2.2.1
  have hw_ow : id _ := (((CInv_P230 hI :) this).2 ow hn11).2.2.2
  have hz_ow : (Int32.ofNat (ln ow)).toInt = ((ln ow : Nat) : Int) := ofN_eq (by first | exact Nat.le_trans hl2_ow (by decide) | omega)
  have hn13 : (P 3) bk = some fl := h3
  obtain ⟨_, lt_fl14, lb_fl14⟩ := (hB.1 3 fl_3) bk fl hn13
  have lb_fl14 : la fl = 70 := (lk_3.mp lb_fl14).trans (congrArg (fun z9 => z9 + 0) lb_bk10)
  have hk_fl := (((CInv_P3 hI :) bk).2 fl hn13).1
  have hl1_fl := (((CInv_P3 hI :) bk).2 fl hn13).2.1
  have hl2_fl := (((CInv_P3 hI :) bk).2 fl hn13).2.2.1
  have hw_fl : id _ := (((CInv_P3 hI :) bk).2 fl hn13).2.2.2
  have hz_fl : (Int32.ofNat (ln fl)).toInt = ((ln fl : Nat) : Int) := ofN_eq (by first | exact Nat.le_trans hl2_fl (by decide) | omega)
  have hn15 : (P 1) bk = some fa := h1
  obtain ⟨_, lt_fa16, lb_fa16⟩ := (hB.1 1 fl_1) bk fa hn15
  have lb_fa16 : la fa = 70 := (lk_1.mp lb_fa16).trans (congrArg (fun z9 => z9 + 0) lb_bk10)
  have hk_fa := (((CInv_P1 hI :) bk).2 fa hn15).1
  have hl1_fa := (((CInv_P1 hI :) bk).2 fa hn15).2.1
  have hl2_fa := (((CInv_P1 hI :) bk).2 fa hn15).2.2.1
  have hw_fa : id _ := (((CInv_P1 hI :) bk).2 fa hn15).2.2.2
  have hz_fa : (Int32.ofNat (ln fa)).toInt = ((ln fa : Nat) : Int) := ofN_eq (by first | exact Nat.le_trans hl2_fa (by decide) | omega)
  have hn17 : (P 0) bk = some wd := h0
  have lt_wd18 := ((hB.1 0 fl_0) bk wd hn17).2.1
  have lb_wd18 : la wd = 20 := lk_0.mp ((hB.1 0 fl_0) bk wd hn17).2.2
  have hk_wd := (((CInv_P0 hI :) bk).2 wd hn17).1
  have hl1_wd := (((CInv_P0 hI :) bk).2 wd hn17).2.1
  have hl2_wd := (((CInv_P0 hI :) bk).2 wd hn17).2.2.1
  have hw_wd : id _ := (((CInv_P0 hI :) bk).2 wd hn17).2.2.2
  have hn19 : (P 201) wd = some wl := hwl
  obtain ⟨_, lt_wl20, lb_wl20⟩ := (hB.1 201 fl_201) wd wl hn19
  have lb_wl20 : la wl = 20 := (lk_201.mp lb_wl20).trans (congrArg (fun z9 => z9 + 0) lb_wd18)
  have hk_wl := (((CInv_P201 hI :) wd).2 wl hn19).1
  have hl1_wl := (((CInv_P201 hI :) wd).2 wl hn19).2.1
  have hl2_wl := (((CInv_P201 hI :) wd).2 wl hn19).2.2.1
  have hw_wl : id _ := (((CInv_P201 hI :) wd).2 wl hn19).2.2.2
  have hz_wl : (Int32.ofNat (ln wl)).toInt = ((ln wl : Nat) : Int) := ofN_eq (by first | exact Nat.le_trans hl2_wl (by decide) | omega)
  have hn21 : (P 202) wd = some wz := hwz
  obtain ⟨_, lt_wz22, lb_wz22⟩ := (hB.1 202 fl_202) wd wz hn21
  have lb_wz22 : la wz = 20 := (lk_202.mp lb_wz22).trans (congrArg (fun z9 => z9 + 0) lb_wd18)
  have hk_wz := (((CInv_P202 hI :) wd).2 wz hn21).1
  have hl1_wz := (((CInv_P202 hI :) wd).2 wz hn21).2.1
  have hl2_wz := (((CInv_P202 hI :) wd).2 wz hn21).2.2.1
  have hw_wz : id _ := (((CInv_P202 hI :) wd).2 wz hn21).2.2.2
  have hz_wz : (Int32.ofNat (ln wz)).toInt = ((ln wz : Nat) : Int) := ofN_eq (by first | exact Nat.le_trans hl2_wz (by decide) | omega)
  have rb23 := ((CInv_RB hI :) wd wz hk_wd hn21).1
  have ra24 := (CInv_RA hI :) wd wl wz hk_wd hn19 hn21
  have bw25 := (CInv_G200 hI :) wd
  have hb222 := (CInv_G222 hI :) this
  have hb141 := (CInv_G141 hI :) tp
  have hb222 := (CInv_G222 hI :) this
  have c222 := clampI (x := (G 222) this) (by omega)
  have c141 := clampI (x := (G 141) tp) (by omega)
  refine pw_nne hn1 ?_
  refine pw_b2 (fun r4 c4_G141 hc4 => ?_)
  have hq4 := wp_at (ok_X7_take κ wd G P U V X O kd ln cnt tp (CInv_G141 hI :) (CInv_LN hI :) hk_tp) hc4
  obtain ⟨hg26, f27, f28, f29⟩ : (rng (0) 2000 c4_G141) ∧ (r4.toInt = ((G 141) tp).toInt) ∧ ((c4_G141 tp).toInt = 0) ∧ ((0 ≤ r4.toInt ∧ r4.toInt ≤ 2000)) := hq4
  have hq4 := pwq (fr_X7_take la G P U V X O kd ln cnt tp hB) hc4
  have q4_G141 : (∀ z, (la z < la tp ∨ la tp < la z) → c4_G141 z = (G 141) z) := hq4
  clear hq4
  have tz4 : ∀ z, (z < cnt ∧ (la z < 10 ∨ 10 < la z) ∧ (la z < 70 ∨ 70 + 2 < la z) ∧ (la z < 90 ∨ 90 + 8 < la z) ∧ (la z < 200 ∨ 200 + 3 < la z)) → ((la z < la tp ∨ la tp < la z)) := fun z hz => by omega
  have hfr30 : ∀ z, (z < cnt ∧ (la z < 10 ∨ 10 < la z) ∧ (la z < 70 ∨ 70 + 2 < la z) ∧ (la z < 90 ∨ 90 + 8 < la z) ∧ (la z < 200 ∨ 200 + 3 < la z)) → c4_G141 z = (G 141) z := fun z hz => (q4_G141 z (tz4 z hz)).trans ((fun _ _ => rfl) z hz)
  have hx4 := pwq (fn_X7_take κ wd la G P U V X O kd ln cnt tp (CInv_G141 hI :) (CInv_LN hI :) hk_tp hB lt_tp2) hc4
  obtain ⟨p4_0, p4_1⟩ : (r4 = (G 141) tp) ∧ (c4_G141 tp = 0) := hx4
  have hr4 := congrArg Int32.toInt p4_0
  have hn4x : Int32.toNatClampNeg r4 = n := by rw [p4_0]; exact hn
  refine pw_b1 (fun r10 hc10 => ?_)
  have hq10 := wp_at (ok_X11_isStage κ wd (va_up G 141 c4_G141) P U V X O kd ln cnt this p0 (CInv_G222 hI :) (CInv_LN hI :) hk_this) hc10
  obtain ⟨f31, f32⟩ : ((0 ≤ r10.toInt ∧ r10.toInt ≤ 1)) ∧ (id ((r10.toInt = 1 → 0 ≤ p0.toInt ∧ p0.toInt ≤ ((G 222) this).toInt))) := hq10
  have hx10 := pwq (fn_X11_isStage κ wd la (va_up G 141 c4_G141) P U V X O kd ln cnt this p0 (CInv_G222 hI :) (CInv_LN hI :) hk_this hB hlt_this) hc10
  obtain ⟨p10_0, p10_1⟩ : (id ((r10.toInt ≠ 0 → 0 ≤ p0.toInt ∧ p0.toInt ≤ ((G 222) this).toInt))) ∧ (id ((r10.toInt = 0 → ¬ (0 ≤ p0.toInt ∧ p0.toInt ≤ ((G 222) this).toInt)))) := hx10
  refine pw_jE (fun j27 ej27 => ?_)
  refine pw_ite (fun c13 => ?_) (fun c13 => ?_)
  · have c13 := congrArg Int32.toInt c13
    refine pw_j0 ej27 ?_
    have qq0 : id ((¬ (isw f ((G 141) tp).toInt ∧ 0 ≤ p0.toInt ∧ p0.toInt ≤ ((G 222) this).toInt) → (-2 : Int32).toInt = -2 ∧ (G 231) this = (G 231) this ∧ (V 4) ow = (V 4) ow)) := show (¬ (isw f ((G 141) tp).toInt ∧ 0 ≤ p0.toInt ∧ p0.toInt ≤ ((G 222) this).toInt) → (-2 : Int32).toInt = -2 ∧ (G 231) this = (G 231) this ∧ (V 4) ow = (V 4) ow) from by intro _; exact ⟨by omega, rfl, rfl⟩
    have qq1 : id ((isw f ((G 141) tp).toInt ∧ 0 ≤ p0.toInt ∧ p0.toInt ≤ ((G 222) this).toInt → (-2 : Int32).toInt = ((G 231) this).toInt ∧ NTL ((G 231) this).toInt ((V 4) ow) (owF d Ws (wdl f 0 n) (Int32.toNatClampNeg p0) Ws.length))) := show (isw f ((G 141) tp).toInt ∧ 0 ≤ p0.toInt ∧ p0.toInt ≤ ((G 222) this).toInt → (-2 : Int32).toInt = ((G 231) this).toInt ∧ NTL ((G 231) this).toInt ((V 4) ow) (owF d Ws (wdl f 0 n) (Int32.toNatClampNeg p0) Ws.length)) from by intro h; exfalso; exact p10_1 (by omega) h.2
    have qq2 : BKR (va_up G 141 c4_G141) P V la cnt D ((O 1) fa) (fun s => Int32.toNatClampNeg ((V 3) fl s)) (FMT d Ws) := by exact BKR_fr hbk hB (fun _ => rfl) (fun _ _ => ⟨rfl, rfl, rfl⟩) (fun _ _ _ _ => ⟨rfl, rfl, rfl⟩) (Nat.le_refl _) (fun _ _ => rfl) (fun _ _ h => h)
    have qq3 : id ((∀ s : Nat, s < 7 → ((G 222) this).toInt < (s : Int) → (V 3) fl s = (V 3) fl s)) := show (∀ s : Nat, s < 7 → ((G 222) this).toInt < (s : Int) → (V 3) fl s = (V 3) fl s) from by exact fun _ _ _ => rfl
    exact pw_some ⟨la, (fun _ _ => rfl), hB, qq0, qq1, qq2, qq3⟩
  · have c13 : r10.toInt = 1 := by have z9 := z_ne c13; omega
    refine pw_nne hn1 ?_
    refine pw_b1 (fun r21 hc21 => ?_)
    have hq21 := wp_at (ok_X7_isWord κ wd (va_up G 141 c4_G141) P U V X O kd ln cnt tp r4 (CInv_P140 hI :) (CInv_LN hI :) hk_tp) hc21
    obtain ⟨f33, f34⟩ : ((0 ≤ r21.toInt ∧ r21.toInt ≤ 1)) ∧ (id ((r21.toInt = 1 → 1 ≤ r4.toInt ∧ r4.toInt ≤ 24))) := hq21
    have h821_h140 : (P 140) tp = some tb := by exact h140
    have hx21 := pwq (fn_X7_isWord κ wd la (va_up G 141 c4_G141) P U V X O kd ln cnt tp r4 (tb) (CInv_P140 hI :) (CInv_LN hI :) hk_tp hB lt_tp2 h821_h140) hc21
    obtain ⟨p21_0, p21_1⟩ : (id ((r21.toInt ≠ 0 → isw ((V 0) tb) r4.toInt))) ∧ (id ((r21.toInt = 0 → ¬ isw ((V 0) tb) r4.toInt))) := hx21
    clear h821_h140
    rw [hf, hr4] at p21_0 p21_1
    refine pw_ite (fun c24 => ?_) (fun c24 => ?_)
    · have c24 := congrArg Int32.toInt c24
      refine pw_j0 ej27 ?_
      have qq0 : id ((¬ (isw f ((G 141) tp).toInt ∧ 0 ≤ p0.toInt ∧ p0.toInt ≤ ((G 222) this).toInt) → (-2 : Int32).toInt = -2 ∧ (G 231) this = (G 231) this ∧ (V 4) ow = (V 4) ow)) := show (¬ (isw f ((G 141) tp).toInt ∧ 0 ≤ p0.toInt ∧ p0.toInt ≤ ((G 222) this).toInt) → (-2 : Int32).toInt = -2 ∧ (G 231) this = (G 231) this ∧ (V 4) ow = (V 4) ow) from by intro _; exact ⟨by omega, rfl, rfl⟩
      have qq1 : id ((isw f ((G 141) tp).toInt ∧ 0 ≤ p0.toInt ∧ p0.toInt ≤ ((G 222) this).toInt → (-2 : Int32).toInt = ((G 231) this).toInt ∧ NTL ((G 231) this).toInt ((V 4) ow) (owF d Ws (wdl f 0 n) (Int32.toNatClampNeg p0) Ws.length))) := show (isw f ((G 141) tp).toInt ∧ 0 ≤ p0.toInt ∧ p0.toInt ≤ ((G 222) this).toInt → (-2 : Int32).toInt = ((G 231) this).toInt ∧ NTL ((G 231) this).toInt ((V 4) ow) (owF d Ws (wdl f 0 n) (Int32.toNatClampNeg p0) Ws.length)) from by intro h; exfalso; exact p21_1 (by omega) h.1
      have qq2 : BKR (va_up G 141 c4_G141) P V la cnt D ((O 1) fa) (fun s => Int32.toNatClampNeg ((V 3) fl s)) (FMT d Ws) := by exact BKR_fr hbk hB (fun _ => rfl) (fun _ _ => ⟨rfl, rfl, rfl⟩) (fun _ _ _ _ => ⟨rfl, rfl, rfl⟩) (Nat.le_refl _) (fun _ _ => rfl) (fun _ _ h => h)
      have qq3 : id ((∀ s : Nat, s < 7 → ((G 222) this).toInt < (s : Int) → (V 3) fl s = (V 3) fl s)) := show (∀ s : Nat, s < 7 → ((G 222) this).toInt < (s : Int) → (V 3) fl s = (V 3) fl s) from by exact fun _ _ _ => rfl
      exact pw_some ⟨la, (fun _ _ => rfl), hB, qq0, qq1, qq2, qq3⟩
    · have c24 : r21.toInt = 1 := by have z9 := z_ne c24; omega
      have st9 := p10_0 (by omega)
      have iw9 := p21_0 (by omega)
      have iw1 := iw9.1
      have cp0 := clampI (x := p0) (by omega)
      refine pw_nne hn9 ?_
      refine pw_nne hn5 ?_
      refine pw_nne hn7 ?_
      have hpr43_0 : ln ra = 6 := by first | assumption | omega
      refine pw_bA9 (fun c43_G c43_P c43_U c43_V c43_X c43_O c43_kd c43_ln c43_cnt v1_43 v2_43 hc43 => ?_)
      have hq43 := wp_at (ok_X0_fill κ wd (va_up G 141 c4_G141) P U V X O kd ln cnt bk p0 ra tn (CInv_i (CInv_G43 hI :) (CInv_G44 hI :) (CInv_G45 hI :) (CInv_G60 hI :) (CInv_G83 hI :) (CInv_G84 hI :) (CInv_G85 hI :) (CInv_G87 hI :) (CInv_G88 hI :) (CInv_G102 hI :) (CInv_G125 hI :) (CInv_G126 hI :) (CInv_G127 hI :) hg26 (CInv_G160 hI :) (CInv_G161 hI :) (CInv_G162 hI :) (CInv_G165 hI :) (CInv_G166 hI :) (CInv_G183 hI :) (CInv_G200 hI :) (CInv_G203 hI :) (CInv_G222 hI :) (CInv_G231 hI :) (CInv_G233 hI :) (CInv_P0 hI :) (CInv_P1 hI :) (CInv_P2 hI :) (CInv_P3 hI :) (CInv_P4 hI :) (CInv_P5 hI :) (CInv_P20 hI :) (CInv_P21 hI :) (CInv_P22 hI :) (CInv_P23 hI :) (CInv_P40 hI :) (CInv_P41 hI :) (CInv_P42 hI :) (CInv_P61 hI :) (CInv_P62 hI :) (CInv_P63 hI :) (CInv_P64 hI :) (CInv_P65 hI :) (CInv_P66 hI :) (CInv_P82 hI :) (CInv_P101 hI :) (CInv_P103 hI :) (CInv_P104 hI :) (CInv_P105 hI :) (CInv_P106 hI :) (CInv_P108 hI :) (CInv_P109 hI :) (CInv_P110 hI :) (CInv_P120 hI :) (CInv_P121 hI :) (CInv_P122 hI :) (CInv_P123 hI :) (CInv_P140 hI :) (CInv_P164 hI :) (CInv_P180 hI :) (CInv_P181 hI :) (CInv_P182 hI :) (CInv_P185 hI :) (CInv_P186 hI :) (CInv_P187 hI :) (CInv_P201 hI :) (CInv_P202 hI :) (CInv_P220 hI :) (CInv_P221 hI :) (CInv_P224 hI :) (CInv_P225 hI :) (CInv_P226 hI :) (CInv_P227 hI :) (CInv_P228 hI :) (CInv_P229 hI :) (CInv_P230 hI :) (CInv_P232 hI :) (CInv_P234 hI :) (CInv_P235 hI :) (CInv_P236 hI :) (CInv_V1 hI :) (CInv_V2 hI :) (CInv_V3 hI :) (CInv_V9 hI :) (CInv_O0 hI :) (CInv_O1 hI :) (CInv_O2 hI :) (CInv_RA hI :) (CInv_RB hI :) (CInv_RI hI :) (CInv_RM103 hI :) (CInv_RM104 hI :) (CInv_RM108 hI :) (CInv_LN hI :) (CInv_FL hI :) (CInv_W0 hI :) (CInv_KC hI :) (CInv_WK hI :)) hk_bk hk_ra hk_tn hpr43_0) hc43
      obtain ⟨κ43_34, hCI43, hxx43, hcc36, hfr37, hfr38, hfr39, hfr40, hfr41, hfr42, hfr43, hfr44, hfr45, f46, f47⟩ : ∃ κ1 : Nat → Nat, (CInv κ1 wd c43_G c43_P c43_V c43_O c43_ln c43_cnt) ∧ (∀ a, κ a ≠ 0 → κ1 a = κ a) ∧ (cnt ≤ c43_cnt) ∧ ((∀ a, κ a ≠ 0 → (c43_P 220) a = (P 220) a)) ∧ ((∀ a, κ a ≠ 0 → (c43_P 229) a = (P 229) a)) ∧ ((∀ a, κ a ≠ 0 → (c43_P 3) a = (P 3) a)) ∧ ((∀ a, κ a ≠ 0 → (c43_G 141) a = c4_G141 a)) ∧ ((∀ a, κ a ≠ 0 → (c43_G 83) a = (G 83) a)) ∧ ((∀ a, κ a ≠ 0 → (c43_P 82) a = (P 82) a)) ∧ ((∀ a, κ a ≠ 0 → (c43_P 0) a = (P 0) a)) ∧ ((∀ a, κ a ≠ 0 → (c43_G 160) a = (G 160) a)) ∧ ((∀ a, κ a ≠ 0 → c43_ln a = ln a)) ∧ ((c43_G 203) wd = (G 203) wd) ∧ (id ((∀ fl, (P 3) bk = some fl → (((v1_43 : Nat) : Int) + 3 * s7 ((V 3) fl) ≤ 3 * s7 ((c43_V 3) fl)) ∧ (((v2_43 : Nat) : Int) + 2504 * s7 ((V 3) fl) ≤ 2504 * s7 ((c43_V 3) fl))))) := hq43
      have kx48 : ∀ a, κ a ≠ 0 → κ43_34 a = κ a := hxx43
      have hk49 : κ43_34 this = 12 := kxk hxx43 hk_this (by decide)
      have hq43 := pwq (fr_X0_fill la (va_up G 141 c4_G141) P U V X O kd ln cnt bk p0 ra tn hB lt_bk10 lt_ra6 lt_tn8) hc43
      obtain ⟨la43_f, agf43, hBf43, ccf43, fG43, fP43, fU43, fV43, fX43, fO43, fl43⟩ : ∃ la9 : Nat → Nat, (∀ z, z < cnt → la9 z = la z) ∧ LB la9 c43_cnt c43_P ∧ cnt ≤ c43_cnt ∧ FRM cnt [60, 183, 203] (fun z => (la z < la bk ∨ la bk + 2 < la z) ∧ (la z < la tn ∨ la tn + 8 < la z)) (va_up G 141 c4_G141) c43_G ∧ FRM cnt [66, 181, 182] (fun z => (la z < la bk ∨ la bk + 2 < la z) ∧ (la z < la tn ∨ la tn + 8 < la z)) P c43_P ∧ FRM cnt [184] (fun z => (la z < la bk ∨ la bk + 2 < la z) ∧ (la z < la tn ∨ la tn + 8 < la z)) U c43_U ∧ FRM cnt [0, 1, 2, 3, 12] (fun z => (la z < la bk ∨ la bk + 2 < la z) ∧ (la z < la tn ∨ la tn + 8 < la z)) V c43_V ∧ FRM cnt [1] (fun z => (la z < la bk ∨ la bk + 2 < la z) ∧ (la z < la tn ∨ la tn + 8 < la z)) X c43_X ∧ FRM cnt [1] (fun z => (la z < la bk ∨ la bk + 2 < la z) ∧ (la z < la tn ∨ la tn + 8 < la z)) O c43_O ∧ (∀ z, z < cnt → c43_ln z = ln z) := hq43
      have h843_h181 : (P 181) tn = some nw := by exact h181
      have h843_h182 : (P 182) tn = some nx := by exact h182
      have h843_hnn : nw ≠ nx := by exact hnn
      have h843_h185 : (P 185) tn = some wh := by exact h185
      have h843_h180 : (P 180) tn = some pg := by exact h180
      have h843_hfi : (P 63) pg = some fi := by exact hfi
      have h843_hpa : (P 65) pg = some pa := by exact hpa
      have h843_hpk : (P 62) pg = some pk := by exact hpk
      have h843_hsz : (P 61) pg = some sz := by exact hsz
      have h843_hcl : (P 64) pg = some cl := by exact hcl
      have h843_hlt9 : la tn = 90 := by exact hlt9
      have h843_h1 : (P 1) bk = some fa := by exact h1
      have h843_h3 : (P 3) bk = some fl := by exact h3
      have h843_h4 : (P 4) bk = some sp := by exact h4
      have h843_hls : (P 201) sp = some lsp := by exact hls
      have h843_hss : (P 202) sp = some ssp := by exact hss
      have h843_hw4 : ((G 200) sp).toInt = ((24 : Nat) : Int) := by exact hw4
      have h843_hn4 : ln ssp = 12 := by exact hn4
      have h843_hwl : (P 201) wd = some wl := by exact hwl
      have h843_hwz : (P 202) wd = some wz := by exact hwz
      have h843_hww : ((G 200) wd).toInt = ((24 : Nat) : Int) := by exact hww
      have h843_hWs : rwW ((G 203) wd) ((V 0) wl) ((V 1) wz) 24 = Ws := by exact hWs
      have h843_hWw : WDS Ws := by exact hWw
      have h843_hlb : la bk = 70 := by omega
      have h843_hlw : la wd = 20 := by omega
      have h843_hst : 0 ≤ p0.toInt ∧ p0.toInt ≤ 6 := by omega
      have h843_hrf : id (∀ q : Nat, (q : Int) < p0.toInt → ∃ rf, (O 2) ra q = some rf ∧ rf < cnt ∧ 100000 ≤ la rf ∧ RFX (va_up G 141 c4_G141) P V O ln la cnt rf (d q)) := show ∀ q : Nat, (q : Int) < p0.toInt → ∃ rf, (O 2) ra q = some rf ∧ rf < cnt ∧ 100000 ≤ la rf ∧ RFX (va_up G 141 c4_G141) P V O ln la cnt rf (d q) from by exact fun q hq => (by obtain ⟨rf9, y1, y2, y3, y4⟩ := hrf q (by omega); exact ⟨rf9, y1, y2, y3, RFX_fr y4 hB y2 (fun z hz h3 h4 => ⟨rfl, rfl, rfl, rfl, rfl, rfl, rfl, rfl, rfl, rfl, rfl, rfl, rfl, rfl, rfl, rfl, rfl, rfl, rfl, rfl, rfl, rfl, rfl, rfl, rfl, rfl⟩) (Nat.le_refl _) (fun _ _ => rfl)⟩)
      have h843_hbk : BKR (va_up G 141 c4_G141) P V la cnt D ((O 1) fa) (fun s => Int32.toNatClampNeg ((V 3) fl s)) (FMT d Ws) := by exact BKR_fr hbk hB (fun _ => rfl) (fun _ _ => ⟨rfl, rfl, rfl⟩) (fun _ _ _ _ => ⟨rfl, rfl, rfl⟩) (Nat.le_refl _) (fun _ _ => rfl) (fun _ _ h => h)
      have h843_hDc : D < 100000 + 10 * cnt := by exact hDc
      have h843_h0 : (P 0) bk = some wd := by exact h0
      have h843_hl7 : ln fl = 7 ∧ ln fa = 700 := by exact hl7
      have hx43 := pwq (fn_X0_fill κ wd la (va_up G 141 c4_G141) P U V X O kd ln cnt bk p0 ra tn (nw) (nx) (wh) (pg) (fi) (pa) (pk) (sz) (cl) (fa) (fl) (sp) (lsp) (ssp) (wl) (wz) (D) (d) (Ws) (CInv_i (CInv_G43 hI :) (CInv_G44 hI :) (CInv_G45 hI :) (CInv_G60 hI :) (CInv_G83 hI :) (CInv_G84 hI :) (CInv_G85 hI :) (CInv_G87 hI :) (CInv_G88 hI :) (CInv_G102 hI :) (CInv_G125 hI :) (CInv_G126 hI :) (CInv_G127 hI :) hg26 (CInv_G160 hI :) (CInv_G161 hI :) (CInv_G162 hI :) (CInv_G165 hI :) (CInv_G166 hI :) (CInv_G183 hI :) (CInv_G200 hI :) (CInv_G203 hI :) (CInv_G222 hI :) (CInv_G231 hI :) (CInv_G233 hI :) (CInv_P0 hI :) (CInv_P1 hI :) (CInv_P2 hI :) (CInv_P3 hI :) (CInv_P4 hI :) (CInv_P5 hI :) (CInv_P20 hI :) (CInv_P21 hI :) (CInv_P22 hI :) (CInv_P23 hI :) (CInv_P40 hI :) (CInv_P41 hI :) (CInv_P42 hI :) (CInv_P61 hI :) (CInv_P62 hI :) (CInv_P63 hI :) (CInv_P64 hI :) (CInv_P65 hI :) (CInv_P66 hI :) (CInv_P82 hI :) (CInv_P101 hI :) (CInv_P103 hI :) (CInv_P104 hI :) (CInv_P105 hI :) (CInv_P106 hI :) (CInv_P108 hI :) (CInv_P109 hI :) (CInv_P110 hI :) (CInv_P120 hI :) (CInv_P121 hI :) (CInv_P122 hI :) (CInv_P123 hI :) (CInv_P140 hI :) (CInv_P164 hI :) (CInv_P180 hI :) (CInv_P181 hI :) (CInv_P182 hI :) (CInv_P185 hI :) (CInv_P186 hI :) (CInv_P187 hI :) (CInv_P201 hI :) (CInv_P202 hI :) (CInv_P220 hI :) (CInv_P221 hI :) (CInv_P224 hI :) (CInv_P225 hI :) (CInv_P226 hI :) (CInv_P227 hI :) (CInv_P228 hI :) (CInv_P229 hI :) (CInv_P230 hI :) (CInv_P232 hI :) (CInv_P234 hI :) (CInv_P235 hI :) (CInv_P236 hI :) (CInv_V1 hI :) (CInv_V2 hI :) (CInv_V3 hI :) (CInv_V9 hI :) (CInv_O0 hI :) (CInv_O1 hI :) (CInv_O2 hI :) (CInv_RA hI :) (CInv_RB hI :) (CInv_RI hI :) (CInv_RM103 hI :) (CInv_RM104 hI :) (CInv_RM108 hI :) (CInv_LN hI :) (CInv_FL hI :) (CInv_W0 hI :) (CInv_KC hI :) (CInv_WK hI :)) hk_bk hk_ra hk_tn hpr43_0 hB lt_bk10 lt_ra6 lt_tn8 h843_h181 h843_h182 h843_hnn h843_h185 h843_h180 h843_hfi h843_hpa h843_hpk h843_hsz h843_hcl h843_hlt9 h843_h1 h843_h3 h843_h4 h843_hls h843_hss h843_hw4 h843_hn4 h843_hwl h843_hwz h843_hww h843_hWs h843_hWw h843_hlb h843_hlw h843_hst h843_hrf h843_hbk h843_hDc h843_h0 h843_hl7) hc43
      obtain ⟨la43, ag43, hB43, p43_0, p43_1⟩ : ∃ la9 : Nat → Nat, (∀ z, z < cnt → la9 z = la z) ∧ LB la9 c43_cnt c43_P ∧ (BKR c43_G c43_P c43_V la9 c43_cnt D ((c43_O 1) fa) (fun s => Int32.toNatClampNeg ((c43_V 3) fl s)) (FMT d Ws)) ∧ (id ((∀ s : Nat, s < 7 → (c43_V 3) fl s = (if (s : Int) ≤ p0.toInt then (G 203) wd else (V 3) fl s)))) := hx43
      clear h843_hl7 h843_h0 h843_hDc h843_hbk h843_hrf h843_hst h843_hlw h843_hlb h843_hWw h843_hWs h843_hww h843_hwz h843_hwl h843_hn4 h843_hw4 h843_hss h843_hls h843_h4 h843_h3 h843_h1 h843_hlt9 h843_hcl h843_hsz h843_hpk h843_hpa h843_hfi h843_h180 h843_h185 h843_hnn h843_h182 h843_h181 agf43 hBf43 hk49 kx48 hxx43 hfr37 hfr38 hfr39 hfr40 hfr41 hfr42 hfr43 hfr44 hfr45 hc43 hpr43_0 hc21 hc10 tz4 q4_G141 hg26 hc4
      have gl_50 : la43 this = 200 := (ag43 this hlt_this).trans hpl0
      have lt51 : this < c43_cnt := Nat.lt_of_lt_of_le hlt_this ccf43
      have gl_52 : la43 tp = 10 := (ag43 tp lt_tp2).trans lb_tp2
      have lt53 : tp < c43_cnt := Nat.lt_of_lt_of_le lt_tp2 ccf43
      have gl_54 : la43 tb = 11 := (ag43 tb lt_tb4).trans lb_tb4
      have lt55 : tb < c43_cnt := Nat.lt_of_lt_of_le lt_tb4 ccf43
      have gl_56 : la43 ra = 203 := (ag43 ra lt_ra6).trans lb_ra6
      have lt57 : ra < c43_cnt := Nat.lt_of_lt_of_le lt_ra6 ccf43
      have gl_58 : la43 tn = 90 := (ag43 tn lt_tn8).trans lb_tn8
      have lt59 : tn < c43_cnt := Nat.lt_of_lt_of_le lt_tn8 ccf43
      have gl_60 : la43 bk = 70 := (ag43 bk lt_bk10).trans lb_bk10
      have lt61 : bk < c43_cnt := Nat.lt_of_lt_of_le lt_bk10 ccf43
      have gl_62 : la43 ow = 201 := (ag43 ow lt_ow12).trans lb_ow12
      have lt63 : ow < c43_cnt := Nat.lt_of_lt_of_le lt_ow12 ccf43
      have gl_64 : la43 fl = 70 := (ag43 fl lt_fl14).trans lb_fl14
      have lt65 : fl < c43_cnt := Nat.lt_of_lt_of_le lt_fl14 ccf43
      have gl_66 : la43 fa = 70 := (ag43 fa lt_fa16).trans lb_fa16
      have lt67 : fa < c43_cnt := Nat.lt_of_lt_of_le lt_fa16 ccf43
      have gl_68 : la43 wd = 20 := (ag43 wd lt_wd18).trans lb_wd18
      have lt69 : wd < c43_cnt := Nat.lt_of_lt_of_le lt_wd18 ccf43
      have gl_70 : la43 wl = 20 := (ag43 wl lt_wl20).trans lb_wl20
      have lt71 : wl < c43_cnt := Nat.lt_of_lt_of_le lt_wl20 ccf43
      have gl_72 : la43 wz = 20 := (ag43 wz lt_wz22).trans lb_wz22
      have lt73 : wz < c43_cnt := Nat.lt_of_lt_of_le lt_wz22 ccf43
      have hag43 : ∀ z, z < cnt → la43 z = la z := fun z hz => (ag43 z (Nat.lt_of_lt_of_le hz (Nat.le_refl _))).trans (rfl)
      have hle43 : cnt ≤ cnt := (Nat.le_refl _)
      have ctf43 : ∀ z, z < cnt → ((la z < 10 ∨ 10 < la z) ∧ (la z < 70 ∨ 70 + 2 < la z) ∧ (la z < 90 ∨ 90 + 8 < la z) ∧ (la z < 200 ∨ 200 + 3 < la z)) → ((la z < la bk ∨ la bk + 2 < la z) ∧ (la z < la tn ∨ la tn + 8 < la z)) := fun z h0 hz => by have q2 := hB.2 z h0; omega
      have hF43_G : FRM cnt [60, 141, 183, 203, 231] (fun z => (la z < 10 ∨ 10 < la z) ∧ (la z < 70 ∨ 70 + 2 < la z) ∧ (la z < 90 ∨ 90 + 8 < la z) ∧ (la z < 200 ∨ 200 + 3 < la z)) G c43_G := FRM_trans (FRM_set FRM_refl (by decide) (fun z h1 h2 => hfr30 z ⟨h1, h2⟩)) fG43 hle43 (by decide) (ctf43)
      have hF43_P : FRM cnt [66, 181, 182] (fun z => (la z < 10 ∨ 10 < la z) ∧ (la z < 70 ∨ 70 + 2 < la z) ∧ (la z < 90 ∨ 90 + 8 < la z) ∧ (la z < 200 ∨ 200 + 3 < la z)) P c43_P := FRM_trans FRM_refl fP43 hle43 (by decide) (ctf43)
      have hF43_U : FRM cnt [184] (fun z => (la z < 10 ∨ 10 < la z) ∧ (la z < 70 ∨ 70 + 2 < la z) ∧ (la z < 90 ∨ 90 + 8 < la z) ∧ (la z < 200 ∨ 200 + 3 < la z)) U c43_U := FRM_trans FRM_refl fU43 hle43 (by decide) (ctf43)
      have hF43_V : FRM cnt [0, 1, 2, 3, 4, 12] (fun z => (la z < 10 ∨ 10 < la z) ∧ (la z < 70 ∨ 70 + 2 < la z) ∧ (la z < 90 ∨ 90 + 8 < la z) ∧ (la z < 200 ∨ 200 + 3 < la z)) V c43_V := FRM_trans FRM_refl fV43 hle43 (by decide) (ctf43)
      have hF43_X : FRM cnt [1] (fun z => (la z < 10 ∨ 10 < la z) ∧ (la z < 70 ∨ 70 + 2 < la z) ∧ (la z < 90 ∨ 90 + 8 < la z) ∧ (la z < 200 ∨ 200 + 3 < la z)) X c43_X := FRM_trans FRM_refl fX43 hle43 (by decide) (ctf43)
      have hF43_O : FRM cnt [1] (fun z => (la z < 10 ∨ 10 < la z) ∧ (la z < 70 ∨ 70 + 2 < la z) ∧ (la z < 90 ∨ 90 + 8 < la z) ∧ (la z < 200 ∨ 200 + 3 < la z)) O c43_O := FRM_trans FRM_refl fO43 hle43 (by decide) (ctf43)
      have hlnn43 : ∀ z, z < cnt → c43_ln z = ln z := fun z hz => (fl43 z (Nat.lt_of_lt_of_le hz hle43)).trans (rfl)
      clear hlnn43 hF43_O hF43_X hF43_U hF43_P ag43 fU43 fX43 fO43 hfr30
      have hn74 : (c43_P 220) this = some tp := (fP43 220 this hlt_this (fun q => absurd q (by decide))).trans hn1
      have lt_tp75 := ((hB43.1 220 fl_220) this tp hn74).2.1
      have hk_tp := (((CInv_P220 hCI43 :) this).2 tp hn74).1
      have hl1_tp := (((CInv_P220 hCI43 :) this).2 tp hn74).2.1
      have hl2_tp := (((CInv_P220 hCI43 :) this).2 tp hn74).2.2.1
      have hw_tp : id _ := (((CInv_P220 hCI43 :) this).2 tp hn74).2.2.2
      have hn76 : (c43_P 140) tp = some tb := (fP43 140 tp lt_tp2 (fun q => absurd q (by decide))).trans hn3
      have lt_tb77 := ((hB43.1 140 fl_140) tp tb hn76).2.1
      have hk_tb := (((CInv_P140 hCI43 :) tp).2 tb hn76).1
      have hl1_tb := (((CInv_P140 hCI43 :) tp).2 tb hn76).2.1
      have hl2_tb := (((CInv_P140 hCI43 :) tp).2 tb hn76).2.2.1
      have hw_tb : id _ := (((CInv_P140 hCI43 :) tp).2 tb hn76).2.2.2
      have hn78 : (c43_P 221) this = some ra := (fP43 221 this hlt_this (fun q => absurd q (by decide))).trans hn5
      have lt_ra79 := ((hB43.1 221 fl_221) this ra hn78).2.1
      have hk_ra := (((CInv_P221 hCI43 :) this).2 ra hn78).1
      have hl1_ra := (((CInv_P221 hCI43 :) this).2 ra hn78).2.1
      have hl2_ra := (((CInv_P221 hCI43 :) this).2 ra hn78).2.2.1
      have hw_ra : id _ := (((CInv_P221 hCI43 :) this).2 ra hn78).2.2.2
      have hn80 : (c43_P 226) this = some tn := (fP43 226 this hlt_this (fun q => absurd q (by decide))).trans hn7
      have lt_tn81 := ((hB43.1 226 fl_226) this tn hn80).2.1
      have hk_tn := (((CInv_P226 hCI43 :) this).2 tn hn80).1
      have hl1_tn := (((CInv_P226 hCI43 :) this).2 tn hn80).2.1
      have hl2_tn := (((CInv_P226 hCI43 :) this).2 tn hn80).2.2.1
      have hw_tn : id _ := (((CInv_P226 hCI43 :) this).2 tn hn80).2.2.2
      have hn82 : (c43_P 229) this = some bk := (fP43 229 this hlt_this (fun q => absurd q (by decide))).trans hn9
      have lt_bk83 := ((hB43.1 229 fl_229) this bk hn82).2.1
      have hk_bk := (((CInv_P229 hCI43 :) this).2 bk hn82).1
      have hl1_bk := (((CInv_P229 hCI43 :) this).2 bk hn82).2.1
      have hl2_bk := (((CInv_P229 hCI43 :) this).2 bk hn82).2.2.1
      have hw_bk : id _ := (((CInv_P229 hCI43 :) this).2 bk hn82).2.2.2
      have hn84 : (c43_P 230) this = some ow := (fP43 230 this hlt_this (fun q => absurd q (by decide))).trans hn11
      have lt_ow85 := ((hB43.1 230 fl_230) this ow hn84).2.1
      have hk_ow := (((CInv_P230 hCI43 :) this).2 ow hn84).1
      have hl1_ow := (((CInv_P230 hCI43 :) this).2 ow hn84).2.1
      have hl2_ow := (((CInv_P230 hCI43 :) this).2 ow hn84).2.2.1
      have hw_ow : id _ := (((CInv_P230 hCI43 :) this).2 ow hn84).2.2.2
      have hn86 : (c43_P 3) bk = some fl := (fP43 3 bk lt_bk10 (fun q => absurd q (by decide))).trans hn13
      have lt_fl87 := ((hB43.1 3 fl_3) bk fl hn86).2.1
      have hk_fl := (((CInv_P3 hCI43 :) bk).2 fl hn86).1
      have hl1_fl := (((CInv_P3 hCI43 :) bk).2 fl hn86).2.1
      have hl2_fl := (((CInv_P3 hCI43 :) bk).2 fl hn86).2.2.1
      have hw_fl : id _ := (((CInv_P3 hCI43 :) bk).2 fl hn86).2.2.2
      have hn88 : (c43_P 1) bk = some fa := (fP43 1 bk lt_bk10 (fun q => absurd q (by decide))).trans hn15
      have lt_fa89 := ((hB43.1 1 fl_1) bk fa hn88).2.1
      have hk_fa := (((CInv_P1 hCI43 :) bk).2 fa hn88).1
      have hl1_fa := (((CInv_P1 hCI43 :) bk).2 fa hn88).2.1
      have hl2_fa := (((CInv_P1 hCI43 :) bk).2 fa hn88).2.2.1
      have hw_fa : id _ := (((CInv_P1 hCI43 :) bk).2 fa hn88).2.2.2
      have hn90 : (c43_P 0) bk = some wd := (fP43 0 bk lt_bk10 (fun q => absurd q (by decide))).trans hn17
      have lt_wd91 := ((hB43.1 0 fl_0) bk wd hn90).2.1
      have hk_wd := (((CInv_P0 hCI43 :) bk).2 wd hn90).1
      have hl1_wd := (((CInv_P0 hCI43 :) bk).2 wd hn90).2.1
      have hl2_wd := (((CInv_P0 hCI43 :) bk).2 wd hn90).2.2.1
      have hw_wd : id _ := (((CInv_P0 hCI43 :) bk).2 wd hn90).2.2.2
      have hn92 : (c43_P 201) wd = some wl := (fP43 201 wd lt_wd18 (fun q => absurd q (by decide))).trans hn19
      have lt_wl93 := ((hB43.1 201 fl_201) wd wl hn92).2.1
      have hk_wl := (((CInv_P201 hCI43 :) wd).2 wl hn92).1
      have hl1_wl := (((CInv_P201 hCI43 :) wd).2 wl hn92).2.1
      have hl2_wl := (((CInv_P201 hCI43 :) wd).2 wl hn92).2.2.1
      have hw_wl : id _ := (((CInv_P201 hCI43 :) wd).2 wl hn92).2.2.2
      have hn94 : (c43_P 202) wd = some wz := (fP43 202 wd lt_wd18 (fun q => absurd q (by decide))).trans hn21
      have lt_wz95 := ((hB43.1 202 fl_202) wd wz hn94).2.1
      have hk_wz := (((CInv_P202 hCI43 :) wd).2 wz hn94).1
      have hl1_wz := (((CInv_P202 hCI43 :) wd).2 wz hn94).2.1
      have hl2_wz := (((CInv_P202 hCI43 :) wd).2 wz hn94).2.2.1
      have hw_wz : id _ := (((CInv_P202 hCI43 :) wd).2 wz hn94).2.2.2
      have rb96 := ((CInv_RB hCI43 :) wd wz hk_wd hn94).1
      have hv0t : (c43_V 0) tb = f := (fV43 0 tb (by omega) (fun _ => show (la tb < la bk ∨ la bk + 2 < la tb) ∧ (la tb < la tn ∨ la tn + 8 < la tb) from by omega)).trans hf
      have gzw : (c43_G 203) wd = (G 203) wd := fG43 203 wd (by omega) (fun _ => show (la wd < la bk ∨ la bk + 2 < la wd) ∧ (la wd < la tn ∨ la tn + 8 < la wd) from by omega)
      have gzwi := congrArg Int32.toInt gzw
      have e1b : (c43_P 1) bk = some fa := (fP43 1 bk (by omega) (fun q => absurd q (by decide))).trans h1
      have hWl : Ws.length = Int32.toNatClampNeg ((G 203) wd) := by rw [← hWs]; exact rw_len
      have hbw := (CInv_G203 hI :) wd
      have cbw := clampI (x := (G 203) wd) (by omega)
      have hlt2 : c43_ln tb = ln tb := fl43 tb (by omega)
      have hp9 := p43_1 (Int32.toNatClampNeg p0) (by omega)
      rw [if_pos (by omega)] at hp9
      have hn99 : (c43_P 1) bk = some fa := e1b
      have hk_fa := (((CInv_P1 hCI43 :) bk).2 fa hn99).1
      have hl1_fa := (((CInv_P1 hCI43 :) bk).2 fa hn99).2.1
      have hl2_fa := (((CInv_P1 hCI43 :) bk).2 fa hn99).2.2.1
      have hw_fa : id _ := (((CInv_P1 hCI43 :) bk).2 fa hn99).2.2.2
      refine pw_vl (fun m48 em48 => ?_)
      have hfr100 : ∀ z, (z < cnt ∧ (la z < 10 ∨ 10 < la z) ∧ (la z < 70 ∨ 70 + 2 < la z) ∧ (la z < 90 ∨ 90 + 8 < la z) ∧ (la z < 200 ∨ 200 + 3 < la z)) → m48 z = (G 231) z := fr_up (e0 := (G 231)) (fun (z : Nat) (hz : (z < cnt ∧ (la z < 10 ∨ 10 < la z) ∧ (la z < 70 ∨ 70 + 2 < la z) ∧ (la z < 90 ∨ 90 + 8 < la z) ∧ (la z < 200 ∨ 200 + 3 < la z))) => hF43_G 231 z hz.1 (fun _ => hz.2)) em48 (show ¬ (this < cnt ∧ (la this < 10 ∨ 10 < la this) ∧ (la this < 70 ∨ 70 + 2 < la this) ∧ (la this < 90 ∨ 90 + 8 < la this) ∧ (la this < 200 ∨ 200 + 3 < la this)) from fun hz => by have q1 := hag43 this hz.1; omega)
      have hg101 : rng (0) 100 m48 := by rw [em48]; exact rng_vup (CInv_G231 hCI43 :) (by omega) (by omega)
      have sm48 : (m48 this).toInt = 0 := by rw [em48, va_up_self]; decide +kernel
      have b102 := hg101 this
      have lp53 : ∀ (n53 : Nat) (y53_3 : Int32) (d53_G231 : Nat → Int32) (d53_V4 : Nat → Nat → Int32), rng (0) 100 d53_G231 → (∀ z, (z < cnt ∧ (la z < 10 ∨ 10 < la z) ∧ (la z < 70 ∨ 70 + 2 < la z) ∧ (la z < 90 ∨ 90 + 8 < la z) ∧ (la z < 200 ∨ 200 + 3 < la z)) → d53_G231 z = (G 231) z) → (∀ z, (z < cnt ∧ (la z < 10 ∨ 10 < la z) ∧ (la z < 70 ∨ 70 + 2 < la z) ∧ (la z < 90 ∨ 90 + 8 < la z) ∧ (la z < 200 ∨ 200 + 3 < la z)) → d53_V4 z = (V 4) z) → (0 ≤ y53_3.toInt ∧ y53_3.toInt ≤ 100) → (0 ≤ (d53_G231 this).toInt ∧ (d53_G231 this).toInt ≤ y53_3.toInt) → y53_3.toInt ≤ ((G 203) wd).toInt → (NTL (d53_G231 this).toInt (d53_V4 ow) (owF d Ws (wdl f 0 n) (Int32.toNatClampNeg p0) (Int32.toNatClampNeg y53_3))) → pw (L_X11_back_53 this p0 r4 c43_G c43_P c43_U c43_V c43_X c43_O c43_kd c43_ln c43_cnt n53 y53_3 d53_G231 d53_V4) (sp1 (QF_X11_back κ wd la G P U V X O kd ln cnt this p0 f n tp tb ra tn bk ow nw nx wh pg fi pa pk sz cl fa fl sp lsp ssp wl wz D d Ws)) := by
        intro n53
        clear hg101 hfr100 hF43_V hF43_G fG43 fP43 fV43 fl43
        induction n53 with
        | zero => intros; exact pw_none
        | succ n53 ih53 =>
          intro y53_3 d53_G231 d53_V4 hg103 hfr104 hfr105 f106 f107 f108 io53
          show pw (B_X11_back_53 this p0 r4 c43_G c43_P c43_U c43_V c43_X c43_O c43_kd c43_ln c43_cnt (L_X11_back_53 this p0 r4 c43_G c43_P c43_U c43_V c43_X c43_O c43_kd c43_ln c43_cnt n53) y53_3 d53_G231 d53_V4) _
          unfold B_X11_back_53
          refine pw_nne hn82 ?_
          refine pw_nne hn90 ?_
          have b109 := (CInv_G203 hCI43 :) wd
          refine pw_ite (fun c64 => ?_) (fun c64 => ?_)
          · have c64 := (z_le _ _).mp c64
            have b113 := hg103 this
            have qq0 : id ((¬ (isw f ((G 141) tp).toInt ∧ 0 ≤ p0.toInt ∧ p0.toInt ≤ ((G 222) this).toInt) → (d53_G231 this).toInt = -2 ∧ d53_G231 this = (G 231) this ∧ d53_V4 ow = (V 4) ow)) := show (¬ (isw f ((G 141) tp).toInt ∧ 0 ≤ p0.toInt ∧ p0.toInt ≤ ((G 222) this).toInt) → (d53_G231 this).toInt = -2 ∧ d53_G231 this = (G 231) this ∧ d53_V4 ow = (V 4) ow) from by intro h; exfalso; exact h ⟨iw9, st9⟩
            have qq1 : id ((isw f ((G 141) tp).toInt ∧ 0 ≤ p0.toInt ∧ p0.toInt ≤ ((G 222) this).toInt → (d53_G231 this).toInt = (d53_G231 this).toInt ∧ NTL (d53_G231 this).toInt (d53_V4 ow) (owF d Ws (wdl f 0 n) (Int32.toNatClampNeg p0) Ws.length))) := show (isw f ((G 141) tp).toInt ∧ 0 ≤ p0.toInt ∧ p0.toInt ≤ ((G 222) this).toInt → (d53_G231 this).toInt = (d53_G231 this).toInt ∧ NTL (d53_G231 this).toInt (d53_V4 ow) (owF d Ws (wdl f 0 n) (Int32.toNatClampNeg p0) Ws.length)) from by intro _; refine ⟨rfl, ?_⟩; have k3 := clampI (x := y53_3) (by omega); have h9 := io53; rw [show Int32.toNatClampNeg y53_3 = Ws.length by omega] at h9; exact h9
            have qq2 : BKR (va_up c43_G 231 d53_G231) c43_P (va_up c43_V 4 d53_V4) la43 c43_cnt D ((c43_O 1) fa) (fun s => Int32.toNatClampNeg ((c43_V 3) fl s)) (FMT d Ws) := by exact BKR_fr p43_0 hB43 (fun _ => rfl) (fun _ _ => ⟨rfl, rfl, rfl⟩) (fun _ _ _ _ => ⟨rfl, rfl, rfl⟩) (Nat.le_refl _) (fun _ _ => rfl) (fun _ _ h => h)
            have qq3 : id ((∀ s : Nat, s < 7 → ((G 222) this).toInt < (s : Int) → (c43_V 3) fl s = (V 3) fl s)) := show (∀ s : Nat, s < 7 → ((G 222) this).toInt < (s : Int) → (c43_V 3) fl s = (V 3) fl s) from by intro s hs h9; have z9 := p43_1 s hs; rw [if_neg (by omega)] at z9; exact z9
            exact pw_some ⟨la43, hag43, hB43, qq0, qq1, qq2, qq3⟩
          · have c64 := z_nle c64
            have k3 := clampI (x := y53_3) (by omega)
            refine pw_nne hn82 ?_
            have hpr73_0 : (0 ≤ p0.toInt ∧ p0.toInt ≤ 6) := by first | assumption | omega
            have hpr73_1 : (0 ≤ y53_3.toInt ∧ y53_3.toInt < 100) := by first | assumption | omega
            refine pw_b1 (fun r73 hc73 => ?_)
            have hq73 := wp_at (ok_X0_formsAt κ43_34 wd (va_up c43_G 231 d53_G231) c43_P c43_U (va_up c43_V 4 d53_V4) c43_X c43_O c43_kd c43_ln c43_cnt bk p0 y53_3 (CInv_P1 hCI43 :) (CInv_P5 hCI43 :) (CInv_O1 hCI43 :) (CInv_LN hCI43 :) hk_bk hpr73_0 hpr73_1) hc73
            have hk114 : κ43_34 r73 = 11 := hq73
            clear hq73
            have h873_h1 : (c43_P 1) bk = some fa := by exact hn99
            have hx73 := pwq (fn_X0_formsAt κ43_34 wd la43 (va_up c43_G 231 d53_G231) c43_P c43_U (va_up c43_V 4 d53_V4) c43_X c43_O c43_kd c43_ln c43_cnt bk p0 y53_3 (fa) (CInv_P1 hCI43 :) (CInv_P5 hCI43 :) (CInv_O1 hCI43 :) (CInv_LN hCI43 :) hk_bk hpr73_0 hpr73_1 hB43 lt_bk83 h873_h1) hc73
            have p73_0 : id ((∀ b, (c43_O 1) fa (Int32.toNatClampNeg (p0 * 100 + y53_3)) = some b → r73 = b)) := hx73
            clear hx73
            clear h873_h1
            have f100 : (p0 * 100).toInt = p0.toInt * 100 := z_mulc (by decide +kernel) (by omega) (by omega)
            have f101 : ((p0 * 100) + y53_3).toInt = (p0 * 100).toInt + y53_3.toInt := z_add (by omega) (by omega)
            have kq := clampI (x := (p0 * 100) + y53_3) (by omega)
            obtain ⟨row, lr, sr, e1, ⟨e2, ⟨k9, e3⟩, e4⟩, ⟨e5, e6, e7⟩, e8⟩ := p43_0 (Int32.toNatClampNeg p0) (Int32.toNatClampNeg y53_3) (by omega) (by show _ < Int32.toNatClampNeg (c43_V 3 fl (Int32.toNatClampNeg p0)); rw [hp9]; omega)
            have er : r73 = row := p73_0 row (by rw [← e1]; exact congrArg ((c43_O 1) fa) (by omega))
            have e5r : (c43_P 201) r73 = some lr := by rw [er]; exact e5
            have e6r : (c43_P 202) r73 = some sr := by rw [er]; exact e6
            have hn115 : (c43_P 201) r73 = some lr := e5r
            have lt_lr116 := ((hB43.1 201 fl_201) r73 lr hn115).2.1
            have lb_lr116 : la43 lr = la43 r73 + 0 := lk_201.mp ((hB43.1 201 fl_201) r73 lr hn115).2.2
            have hk_lr := (((CInv_P201 hCI43 :) r73).2 lr hn115).1
            have hl1_lr := (((CInv_P201 hCI43 :) r73).2 lr hn115).2.1
            have hl2_lr := (((CInv_P201 hCI43 :) r73).2 lr hn115).2.2.1
            have hw_lr : id _ := (((CInv_P201 hCI43 :) r73).2 lr hn115).2.2.2
            have hz_lr : (Int32.ofNat (c43_ln lr)).toInt = ((c43_ln lr : Nat) : Int) := ofN_eq (by first | exact Nat.le_trans hl2_lr (by decide) | omega)
            have hn117 : (c43_P 202) r73 = some sr := e6r
            have lt_sr118 := ((hB43.1 202 fl_202) r73 sr hn117).2.1
            have lb_sr118 : la43 sr = la43 r73 + 0 := lk_202.mp ((hB43.1 202 fl_202) r73 sr hn117).2.2
            have hk_sr := (((CInv_P202 hCI43 :) r73).2 sr hn117).1
            have hl1_sr := (((CInv_P202 hCI43 :) r73).2 sr hn117).2.1
            have hl2_sr := (((CInv_P202 hCI43 :) r73).2 sr hn117).2.2.1
            have hw_sr : id _ := (((CInv_P202 hCI43 :) r73).2 sr hn117).2.2.2
            have hz_sr : (Int32.ofNat (c43_ln sr)).toInt = ((c43_ln sr : Nat) : Int) := ofN_eq (by first | exact Nat.le_trans hl2_sr (by decide) | omega)
            have rb119 := ((CInv_RB hCI43 :) r73 sr hk114 hn117).1
            have ra120 := (CInv_RA hCI43 :) r73 lr sr hk114 hn115 hn117
            have bw121 := (CInv_G200 hCI43 :) r73
            refine pw_nne hn74 ?_
            refine pw_nne hn76 ?_
            refine pw_b1 (fun r85 hc85 => ?_)
            have hq85 := wp_at (ok_X10_find κ43_34 wd (va_up c43_G 231 d53_G231) c43_P c43_U (va_up c43_V 4 d53_V4) c43_X c43_O c43_kd c43_ln c43_cnt r73 tb (0 : Int32) r4 (CInv_G200 hCI43 :) (CInv_G203 hCI43 :) (CInv_P201 hCI43 :) (CInv_P202 hCI43 :) (CInv_V1 hCI43 :) (CInv_RA hCI43 :) (CInv_RB hCI43 :) (CInv_RI hCI43 :) (CInv_LN hCI43 :) hk114 hk_tb) hc85
            obtain ⟨f122, f123⟩ : (((-1) ≤ r85.toInt ∧ r85.toInt < 100)) ∧ ((r85.toInt = -1 ∨ r85.toInt < ((c43_G 203) r73).toInt)) := hq85
            have h885_hl : (c43_P 201) r73 = some (lr) := by exact e5r
            have h885_hs : (c43_P 202) r73 = some (sr) := by exact e6r
            have h885_hw : ((c43_G 200) r73).toInt = ((24) : Int) := by rw [er]; exact e7
            have h885_hws : rwW ((c43_G 203) r73) ((c43_V 0) (lr)) ((c43_V 1) (sr)) (24) = (FMT d Ws (Int32.toNatClampNeg p0) (Int32.toNatClampNeg y53_3)) := by rw [er]; exact e8
            have h885_hst : 0 ≤ (0 : Int32).toInt := by omega
            have h885_hm : 0 ≤ r4.toInt := by omega
            have h885_hlf : (0 : Int32).toInt + r4.toInt ≤ ((c43_ln tb : Nat) : Int) := by omega
            have hx85 := pwq (fn_X10_find κ43_34 wd la43 (va_up c43_G 231 d53_G231) c43_P c43_U (va_up c43_V 4 d53_V4) c43_X c43_O c43_kd c43_ln c43_cnt r73 tb (0 : Int32) r4 (lr) (sr) (24) (FMT d Ws (Int32.toNatClampNeg p0) (Int32.toNatClampNeg y53_3)) (CInv_G200 hCI43 :) (CInv_G203 hCI43 :) (CInv_P201 hCI43 :) (CInv_P202 hCI43 :) (CInv_V1 hCI43 :) (CInv_RA hCI43 :) (CInv_RB hCI43 :) (CInv_RI hCI43 :) (CInv_LN hCI43 :) hk114 hk_tb hB43 (by omega) lt_tb77 h885_hl h885_hs h885_hw h885_hws h885_hst h885_hm h885_hlf) hc85
            have p85_0 : FIX (FMT d Ws (Int32.toNatClampNeg p0) (Int32.toNatClampNeg y53_3)) (wdl ((c43_V 0) tb) (Int32.toNatClampNeg (0 : Int32)) (Int32.toNatClampNeg r4)) r85.toInt := hx85
            clear hx85
            clear h885_hl h885_hs h885_hw h885_hws h885_hst h885_hm h885_hlf
            rw [hv0t, hn4x, show Int32.toNatClampNeg (0 : Int32) = 0 from rfl] at p85_0
            refine pw_jE (fun j112 ej112 => ?_)
            refine pw_ite (fun c89 => ?_) (fun c89 => ?_)
            · have c89 := congrArg Int32.toInt c89
              refine pw_j2 ej112 (fun z112_0 ez112_0 z112_1 ez112_1 => ?_)
              subst ez112_0 ez112_1
              have f124 : (y53_3 + 1).toInt = y53_3.toInt + (1) := z_addc (by decide +kernel) (by omega) (by omega)
              have iv53_0 : (0 ≤ (y53_3 + 1).toInt ∧ (y53_3 + 1).toInt ≤ 100) := by omega
              have iv53_1 : (0 ≤ (d53_G231 this).toInt ∧ (d53_G231 this).toInt ≤ (y53_3 + 1).toInt) := by omega
              have iv53_2 : (y53_3 + 1).toInt ≤ ((G 203) wd).toInt := by omega
              have iv53_3 : (NTL (d53_G231 this).toInt (d53_V4 ow) (owF d Ws (wdl f 0 n) (Int32.toNatClampNeg p0) (Int32.toNatClampNeg (y53_3 + 1)))) := by have k4 := clampI (x := y53_3 + 1) (by omega); rw [show Int32.toNatClampNeg (y53_3 + 1) = Int32.toNatClampNeg y53_3 + 1 by omega, owF_no (p85_0.1 (by omega))]; exact io53
              exact ih53 (y53_3 + 1) d53_G231 d53_V4 hg103 hfr104 hfr105 iv53_0 iv53_1 iv53_2 iv53_3
            · have c89 := z_ne c89
              refine pw_nne hn84 ?_
              have b125 := hg103 this
              refine pw_if (fun hb101 => ?_)
              obtain ⟨hbl101, hbr101⟩ := hb101
              refine pw_vl (fun m101 em101 => ?_)
              have hfr126 : ∀ z, (z < cnt ∧ (la z < 10 ∨ 10 < la z) ∧ (la z < 70 ∨ 70 + 2 < la z) ∧ (la z < 90 ∨ 90 + 8 < la z) ∧ (la z < 200 ∨ 200 + 3 < la z)) → m101 z = (V 4) z := fr_up (e0 := (V 4)) hfr105 em101 (show ¬ (ow < cnt ∧ (la ow < 10 ∨ 10 < la ow) ∧ (la ow < 70 ∨ 70 + 2 < la ow) ∧ (la ow < 90 ∨ 90 + 8 < la ow) ∧ (la ow < 200 ∨ 200 + 3 < la ow)) from fun hz => by have q1 := hag43 ow hz.1; omega)
              have f128 : ((d53_G231 this) + 1).toInt = (d53_G231 this).toInt + 1 := z_addc (by decide +kernel) (by omega) (by omega)
              refine pw_vl (fun x109 ex109 => ?_)
              have f129 : x109.toInt = ((d53_G231 this) + 1).toInt := congrArg Int32.toInt ex109
              refine pw_vl (fun m109 em109 => ?_)
              have hfr130 : ∀ z, (z < cnt ∧ (la z < 10 ∨ 10 < la z) ∧ (la z < 70 ∨ 70 + 2 < la z) ∧ (la z < 90 ∨ 90 + 8 < la z) ∧ (la z < 200 ∨ 200 + 3 < la z)) → m109 z = (G 231) z := fr_up (e0 := (G 231)) hfr104 em109 (show ¬ (this < cnt ∧ (la this < 10 ∨ 10 < la this) ∧ (la this < 70 ∨ 70 + 2 < la this) ∧ (la this < 90 ∨ 90 + 8 < la this) ∧ (la this < 200 ∨ 200 + 3 < la this)) from fun hz => by have q1 := hag43 this hz.1; omega)
              have hg131 : rng (0) 100 m109 := by rw [em109]; exact rng_vup hg103 (by omega) (by omega)
              have sm109 : (m109 this).toInt = x109.toInt := by rw [em109, va_up_self]
              have b132 := hg131 this
              refine pw_j2 ej112 (fun z112_0 ez112_0 z112_1 ez112_1 => ?_)
              subst ez112_0 ez112_1
              have f133 : (y53_3 + 1).toInt = y53_3.toInt + (1) := z_addc (by decide +kernel) (by omega) (by omega)
              have iv53_0 : (0 ≤ (y53_3 + 1).toInt ∧ (y53_3 + 1).toInt ≤ 100) := by omega
              have iv53_1 : (0 ≤ (m109 this).toInt ∧ (m109 this).toInt ≤ (y53_3 + 1).toInt) := by omega
              have iv53_2 : (y53_3 + 1).toInt ≤ ((G 203) wd).toInt := by omega
              have iv53_3 : (NTL (m109 this).toInt (m101 ow) (owF d Ws (wdl f 0 n) (Int32.toNatClampNeg p0) (Int32.toNatClampNeg (y53_3 + 1)))) := by have k4 := clampI (x := y53_3 + 1) (by omega); have hn := io53.1; have ko := clampI (x := d53_G231 this) (by omega); rw [show Int32.toNatClampNeg (y53_3 + 1) = Int32.toNatClampNeg y53_3 + 1 by omega, owF_yes (List.mem_of_getElem? (p85_0.2 (by omega)).2.1)]; refine NTL_add io53 (k := Int32.toNatClampNeg (d53_G231 this)) (by omega) (by rw [em101, va_up_self]) (by omega) ?_; rw [em109, va_up_self]; omega
              exact ih53 (y53_3 + 1) m109 m101 hg131 hfr130 hfr126 iv53_0 iv53_1 iv53_2 iv53_3
      exact lp53 NN (0 : Int32) m48 (c43_V 4) hg101 hfr100 (fun (z : Nat) (hz : (z < cnt ∧ (la z < 10 ∨ 10 < la z) ∧ (la z < 70 ∨ 70 + 2 < la z) ∧ (la z < 90 ∨ 90 + 8 < la z) ∧ (la z < 200 ∨ 200 + 3 < la z))) => hF43_V 4 z hz.1 (fun _ => hz.2)) (show (0 ≤ (0 : Int32).toInt ∧ (0 : Int32).toInt ≤ 100) from by omega) (show (0 ≤ (m48 this).toInt ∧ (m48 this).toInt ≤ (0 : Int32).toInt) from by omega) (show (0 : Int32).toInt ≤ ((G 203) wd).toInt from by omega) (show (NTL (m48 this).toInt ((c43_V 4) ow) (owF d Ws (wdl f 0 n) (Int32.toNatClampNeg p0) (Int32.toNatClampNeg (0 : Int32)))) from by exact NTL_0 (by rw [em48, va_up_self]; decide))