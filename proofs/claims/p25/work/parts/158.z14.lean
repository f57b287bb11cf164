abbrev QF_X11_collisions (κ : Nat → Nat) (wd : Nat) (la : Nat → Nat) (G : Nat → Nat → Int32) (P : Nat → Nat → Option Nat) (U : Nat → Nat → Int64) (V : Nat → Nat → Nat → Int32) (X : Nat → Nat → Nat → Int64) (O : Nat → Nat → Nat → Option Nat) (kd : Nat → Nat) (ln : Nat → Nat) (cnt : Nat) (this : Nat) (p0 : Int32) (ra : Nat) (tn : Nat) (bk : Nat) (nw : Nat) (nx : Nat) (wh : Nat) (pg : Nat) (fi : Nat) (pa : Nat) (pk : Nat) (sz : Nat) (cl : Nat) (fa : Nat) (fl : Nat) (sp : Nat) (lsp : Nat) (ssp : Nat) (wl : Nat) (wz : Nat) (D : Nat) (d : Nat → Dr) (Ws : List Wd) : (Int32 × (Nat → Nat → Int32) × (Nat → Nat → Option Nat) × (Nat → Nat → Int64) × (Nat → Nat → Nat → Int32) × (Nat → Nat → Nat → Int64) × (Nat → Nat → Nat → Option Nat) × (Nat → Nat) × (Nat → Nat) × Nat) → Prop := (fun t => ∃ la1 : Nat → Nat, (∀ z, z < cnt → la1 z = la z) ∧ LB la1 (t.2.2.2.2.2.2.2.2.2) (t.2.2.1) ∧ ((¬ (0 ≤ p0.toInt ∧ p0.toInt ≤ ((G 222) this).toInt) → (t.1).toInt = -2)) ∧ ((0 ≤ p0.toInt ∧ p0.toInt ≤ ((G 222) this).toInt → (t.1).toInt = ((cnO (fun a b => clB (FMT d Ws (Int32.toNatClampNeg p0) a) (FMT d Ws (Int32.toNatClampNeg p0) b)) Ws.length Ws.length : Nat) : Int))) ∧ (BKR (t.2.1) (t.2.2.1) (t.2.2.2.2.1) la1 (t.2.2.2.2.2.2.2.2.2) D (((t.2.2.2.2.2.2.1) 1) fa) (fun s => Int32.toNatClampNeg (((t.2.2.2.2.1) 3) fl s)) (FMT d Ws)) ∧ ((∀ s : Nat, s < 7 → ((G 222) this).toInt < (s : Int) → ((t.2.2.2.2.1) 3) fl s = (V 3) fl s)))
set_option maxHeartbeats 4000000 in
set_option maxRecDepth 100000 in
theorem fn_X11_collisions (κ : Nat → Nat) (wd : Nat) (la : Nat → Nat) (G : Nat → Nat → Int32) (P : Nat → Nat → Option Nat) (U : Nat → Nat → Int64) (V : Nat → Nat → Nat → Int32) (X : Nat → Nat → Nat → Int64) (O : Nat → Nat → Nat → Option Nat) (kd : Nat → Nat) (ln : Nat → Nat) (cnt : Nat) (this : Nat) (p0 : Int32) (ra : Nat) (tn : Nat) (bk : Nat) (nw : Nat) (nx : Nat) (wh : Nat) (pg : Nat) (fi : Nat) (pa : Nat) (pk : Nat) (sz : Nat) (cl : Nat) (fa : Nat) (fl : Nat) (sp : Nat) (lsp : Nat) (ssp : Nat) (wl : Nat) (wz : Nat) (D : Nat) (d : Nat → Dr) (Ws : List Wd) (hI : CInv κ wd G P V O ln cnt) (hk_this : κ this = 12) (hB : LB la cnt P) (hlt_this : this < cnt) (hpl0 : la this = 200) (h221 : (P 221) this = some ra) (h226 : (P 226) this = some tn) (h229 : (P 229) this = some bk) (h181 : (P 181) tn = some nw) (h182 : (P 182) tn = some nx) (hnn : nw ≠ nx) (h185 : (P 185) tn = some wh) (h180 : (P 180) tn = some pg) (hfi : (P 63) pg = some fi) (hpa : (P 65) pg = some pa) (hpk : (P 62) pg = some pk) (hsz : (P 61) pg = some sz) (hcl : (P 64) pg = some cl) (hlt9 : la tn = 90) (h1 : (P 1) bk = some fa) (h3 : (P 3) bk = some fl) (h4 : (P 4) bk = some sp) (hls : (P 201) sp = some lsp) (hss : (P 202) sp = some ssp) (hw4 : ((G 200) sp).toInt = ((24 : Nat) : Int)) (hn4 : ln ssp = 12) (hwl : (P 201) wd = some wl) (hwz : (P 202) wd = some wz) (hww : ((G 200) wd).toInt = ((24 : Nat) : Int)) (hWs : rwW ((G 203) wd) ((V 0) wl) ((V 1) wz) 24 = Ws) (hWw : WDS Ws) (hbk : BKR G P V la cnt D ((O 1) fa) (fun s => Int32.toNatClampNeg ((V 3) fl s)) (FMT d Ws)) (hDc : D < 100000 + 10 * cnt) (h0 : (P 0) bk = some wd) (hl7 : ln fl = 7 ∧ ln fa = 700) (hl6 : ln ra = 6) (hrf : ∀ q, q < Int32.toNatClampNeg ((G 222) this) → ∃ rf, (O 2) ra q = some rf ∧ rf < cnt ∧ 100000 ≤ la rf ∧ RFX G P V O ln la cnt rf (d q)) : pw (f_X11_collisions G P U V X O kd ln cnt this p0) (sp1 (QF_X11_collisions κ wd la G P U V X O kd ln cnt this p0 ra tn bk nw nx wh pg fi pa pk sz cl fa fl sp lsp ssp wl wz D d Ws)) := by
  unfold f_X11_collisions
  have zkm2 : (-2 : Int32).toInt = -2 := by decide +kernel
  have zk0 : (0 : Int32).toInt = 0 := by decide +kernel
  have zk1 : (1 : Int32).toInt = 1 := by decide +kernel
  have zk1000 : (1000 : Int32).toInt = 1000 := by decide +kernel
  have r_p0 := i32r p0
  replace hnn : id _ := hnn
  have hn1 : (P 221) this = some ra := h221
  obtain ⟨_, lt_ra2, lb_ra2⟩ := (hB.1 221 fl_221) this ra hn1
  have lb_ra2 : la ra = 203 := (lk_221.mp lb_ra2).trans (congrArg (fun z9 => z9 + 3) hpl0)
  have hk_ra := (((CInv_P221 hI :) this).2 ra hn1).1
  have hl1_ra := (((CInv_P221 hI :) this).2 ra hn1).2.1
  have hl2_ra := (((CInv_P221 hI :) this).2 ra hn1).2.2.1
  have hw_ra : id _ := (((CInv_P221 hI :) this).2 ra hn1).2.2.2
  have hz_ra : (Int32.ofNat (ln ra)).toInt = ((ln ra : Nat) : Int) := ofN_eq (by first | exact Nat.le_trans hl2_ra (by decide) | omega)
  have hn3 : (P 226) this = some tn := h226
  have lt_tn4 := ((hB.1 226 fl_226) this tn hn3).2.1
  have lb_tn4 : la tn = 90 := lk_226.mp ((hB.1 226 fl_226) this tn hn3).2.2
  have hk_tn := (((CInv_P226 hI :) this).2 tn hn3).1
  have hl1_tn := (((CInv_P226 hI :) this).2 tn hn3).2.1
  have hl2_tn := (((CInv_P226 hI :) this).2 tn hn3).2.2.1
  have hw_tn : id _ := (((CInv_P226 hI :) this).2 tn hn3).2.2.2
  have hn5 : (P 229) this = some bk := h229
  have lt_bk6 := ((hB.1 229 fl_229) this bk hn5).2.1
  have lb_bk6 : la bk = 70 := lk_229.mp ((hB.1 229 fl_229) this bk hn5).2.2
  have hk_bk := (((CInv_P229 hI :) this).2 bk hn5).1
  have hl1_bk := (((CInv_P229 hI :) this).2 bk hn5).2.1
  have hl2_bk := (((CInv_P229 hI :) this).2 bk hn5).2.2.1
  have hw_bk : id _ := (((CInv_P229 hI :) this).2 bk hn5).2.2.2
  have hn7 : (P 3) bk = some fl := h3
  obtain ⟨_, lt_fl8, lb_fl8⟩ := (hB.1 3 fl_3) bk fl hn7
  have lb_fl8 : la fl = 70 := (lk_3.mp lb_fl8).trans (congrArg (fun z9 => z9 + 0) lb_bk6)
  have hk_fl := (((CInv_P3 hI :) bk).2 fl hn7).1
  have hl1_fl := (((CInv_P3 hI :) bk).2 fl hn7).2.1
  have hl2_fl := (((CInv_P3 hI :) bk).2 fl hn7).2.2.1
  have hw_fl : id _ := (((CInv_P3 hI :) bk).2 fl hn7).2.2.2
  have hz_fl : (Int32.ofNat (ln fl)).toInt = ((ln fl : Nat) : Int) := ofN_eq (by first | exact Nat.le_trans hl2_fl (by decide) | omega)
  have hn9 : (P 1) bk = some fa := h1
  obtain ⟨_, lt_fa10, lb_fa10⟩ := (hB.1 1 fl_1) bk fa hn9
  have lb_fa10 : la fa = 70 := (lk_1.mp lb_fa10).trans (congrArg (fun z9 => z9 + 0) lb_bk6)
  have hk_fa := (((CInv_P1 hI :) bk).2 fa hn9).1
  have hl1_fa := (((CInv_P1 hI :) bk).2 fa hn9).2.1
  have hl2_fa := (((CInv_P1 hI :) bk).2 fa hn9).2.2.1
  have hw_fa : id _ := (((CInv_P1 hI :) bk).2 fa hn9).2.2.2
  have hz_fa : (Int32.ofNat (ln fa)).toInt = ((ln fa : Nat) : Int) := ofN_eq (by first | exact Nat.le_trans hl2_fa (by decide) | omega)
  have hn11 : (P 0) bk = some wd := h0
  have lt_wd12 := ((hB.1 0 fl_0) bk wd hn11).2.1
  have lb_wd12 : la wd = 20 := lk_0.mp ((hB.1 0 fl_0) bk wd hn11).2.2
  have hk_wd := (((CInv_P0 hI :) bk).2 wd hn11).1
  have hl1_wd := (((CInv_P0 hI :) bk).2 wd hn11).2.1
  have hl2_wd := (((CInv_P0 hI :) bk).2 wd hn11).2.2.1
  have hw_wd : id _ := (((CInv_P0 hI :) bk).2 wd hn11).2.2.2
  have hn13 : (P 201) wd = some wl := hwl
  obtain ⟨_, lt_wl14, lb_wl14⟩ := (hB.1 201 fl_201) wd wl hn13
  have lb_wl14 : la wl = 20 := (lk_201.mp lb_wl14).trans (congrArg (fun z9 => z9 + 0) lb_wd12)
  have hk_wl := (((CInv_P201 hI :) wd).2 wl hn13).1
  have hl1_wl := (((CInv_P201 hI :) wd).2 wl hn13).2.1
  have hl2_wl := (((CInv_P201 hI :) wd).2 wl hn13).2.2.1
  have hw_wl : id _ := (((CInv_P201 hI :) wd).2 wl hn13).2.2.2
  have hz_wl : (Int32.ofNat (ln wl)).toInt = ((ln wl : Nat) : Int) := ofN_eq (by first | exact Nat.le_trans hl2_wl (by decide) | omega)
  have hn15 : (P 202) wd = some wz := hwz
  obtain ⟨_, lt_wz16, lb_wz16⟩ := (hB.1 202 fl_202) wd wz hn15
  have lb_wz16 : la wz = 20 := (lk_202.mp lb_wz16).trans (congrArg (fun z9 => z9 + 0) lb_wd12)
  have hk_wz := (((CInv_P202 hI :) wd).2 wz hn15).1
  have hl1_wz := (((CInv_P202 hI :) wd).2 wz hn15).2.1
  have hl2_wz := (((CInv_P202 hI :) wd).2 wz hn15).2.2.1
  have hw_wz : id _ := (((CInv_P202 hI :) wd).2 wz hn15).2.2.2
  have hz_wz : (Int32.ofNat (ln wz)).toInt = ((ln wz : Nat) : Int) := ofN_eq (by first | exact Nat.le_trans hl2_wz (by decide) | omega)
  have rb17 := ((CInv_RB hI :) wd wz hk_wd hn15).1
  have ra18 := (CInv_RA hI :) wd wl wz hk_wd hn13 hn15
  have bw19 := (CInv_G200 hI :) wd
  have hb222 := (CInv_G222 hI :) this
  have hb222 := (CInv_G222 hI :) this
  have c222 := clampI (x := (G 222) this) (by omega)
  refine pw_vl (fun m2 em2 => ?_)
  have hfr20 : ∀ z, (z < cnt ∧ (la z < 70 ∨ 70 + 2 < la z) ∧ (la z < 90 ∨ 90 + 8 < la z) ∧ (la z < 200 ∨ 200 + 3 < la z)) → m2 z = (G 233) z := fr_up (e0 := (G 233)) (fun _ _ => rfl) em2 (show ¬ (this < cnt ∧ (la this < 70 ∨ 70 + 2 < la this) ∧ (la this < 90 ∨ 90 + 8 < la this) ∧ (la this < 200 ∨ 200 + 3 < la this)) from fun hz => by omega)
  have hg21 : rng (0) 200 m2 := by rw [em2]; exact rng_vup (CInv_G233 hI :) (by omega) (by omega)
  have sm2 : (m2 this).toInt = 0 := by rw [em2, va_up_self]; decide +kernel
  have b22 := hg21 this
  refine pw_b1 (fun r7 hc7 => ?_)
  have hq7 := wp_at (ok_X11_isStage κ wd (va_up G 233 m2) P U V X O kd ln cnt this p0 (CInv_G222 hI :) (CInv_LN hI :) hk_this) hc7
  obtain ⟨f23, f24⟩ : ((0 ≤ r7.toInt ∧ r7.toInt ≤ 1)) ∧ (id ((r7.toInt = 1 → 0 ≤ p0.toInt ∧ p0.toInt ≤ ((G 222) this).toInt))) := hq7
  have hx7 := pwq (fn_X11_isStage κ wd la (va_up G 233 m2) P U V X O kd ln cnt this p0 (CInv_G222 hI :) (CInv_LN hI :) hk_this hB hlt_this) hc7
  obtain ⟨p7_0, p7_1⟩ : (id ((r7.toInt ≠ 0 → 0 ≤ p0.toInt ∧ p0.toInt ≤ ((G 222) this).toInt))) ∧ (id ((r7.toInt = 0 → ¬ (0 ≤ p0.toInt ∧ p0.toInt ≤ ((G 222) this).toInt)))) := hx7
  refine pw_ite (fun c10 => ?_) (fun c10 => ?_)
  · have c10 := congrArg Int32.toInt c10
    have qq0 : id ((¬ (0 ≤ p0.toInt ∧ p0.toInt ≤ ((G 222) this).toInt) → (-2 : Int32).toInt = -2)) := show (¬ (0 ≤ p0.toInt ∧ p0.toInt ≤ ((G 222) this).toInt) → (-2 : Int32).toInt = -2) from by intro _; omega
    have qq1 : id ((0 ≤ p0.toInt ∧ p0.toInt ≤ ((G 222) this).toInt → (-2 : Int32).toInt = ((cnO (fun a b => clB (FMT d Ws (Int32.toNatClampNeg p0) a) (FMT d Ws (Int32.toNatClampNeg p0) b)) Ws.length Ws.length : Nat) : Int))) := show (0 ≤ p0.toInt ∧ p0.toInt ≤ ((G 222) this).toInt → (-2 : Int32).toInt = ((cnO (fun a b => clB (FMT d Ws (Int32.toNatClampNeg p0) a) (FMT d Ws (Int32.toNatClampNeg p0) b)) Ws.length Ws.length : Nat) : Int)) from by intro h; exfalso; exact p7_1 (by omega) h
    have qq2 : BKR (va_up G 233 m2) P V la cnt D ((O 1) fa) (fun s => Int32.toNatClampNeg ((V 3) fl s)) (FMT d Ws) := by exact BKR_fr hbk hB (fun _ => rfl) (fun _ _ => ⟨rfl, rfl, rfl⟩) (fun _ _ _ _ => ⟨rfl, rfl, rfl⟩) (Nat.le_refl _) (fun _ _ => rfl) (fun _ _ h => h)
    have qq3 : id ((∀ s : Nat, s < 7 → ((G 222) this).toInt < (s : Int) → (V 3) fl s = (V 3) fl s)) := show (∀ s : Nat, s < 7 → ((G 222) this).toInt < (s : Int) → (V 3) fl s = (V 3) fl s) from by exact fun _ _ _ => rfl
    exact pw_some ⟨la, (fun _ _ => rfl), hB, qq0, qq1, qq2, qq3⟩
  · have c10 : r7.toInt = 1 := by have z9 := z_ne c10; omega
    have st9 := p7_0 (by omega)
    have cp0 := clampI (x := p0) (by omega)
    refine pw_nne hn5 ?_
    refine pw_nne hn1 ?_
    refine pw_nne hn3 ?_
    have hpr29_0 : ln ra = 6 := by first | assumption | omega
    refine pw_bA9 (fun c29_G c29_P c29_U c29_V c29_X c29_O c29_kd c29_ln c29_cnt v1_29 v2_29 hc29 => ?_)
    have hq29 := wp_at (ok_X0_fill κ wd (va_up G 233 m2) P U V X O kd ln cnt bk p0 ra tn (CInv_i (CInv_G43 hI :) (CInv_G44 hI :) (CInv_G45 hI :) (CInv_G60 hI :) (CInv_G83 hI :) (CInv_G84 hI :) (CInv_G85 hI :) (CInv_G87 hI :) (CInv_G88 hI :) (CInv_G102 hI :) (CInv_G125 hI :) (CInv_G126 hI :) (CInv_G127 hI :) (CInv_G141 hI :) (CInv_G160 hI :) (CInv_G161 hI :) (CInv_G162 hI :) (CInv_G165 hI :) (CInv_G166 hI :) (CInv_G183 hI :) (CInv_G200 hI :) (CInv_G203 hI :) (CInv_G222 hI :) (CInv_G231 hI :) hg21 (CInv_P0 hI :) (CInv_P1 hI :) (CInv_P2 hI :) (CInv_P3 hI :) (CInv_P4 hI :) (CInv_P5 hI :) (CInv_P20 hI :) (CInv_P21 hI :) (CInv_P22 hI :) (CInv_P23 hI :) (CInv_P40 hI :) (CInv_P41 hI :) (CInv_P42 hI :) (CInv_P61 hI :) (CInv_P62 hI :) (CInv_P63 hI :) (CInv_P64 hI :) (CInv_P65 hI :) (CInv_P66 hI :) (CInv_P82 hI :) (CInv_P101 hI :) (CInv_P103 hI :) (CInv_P104 hI :) (CInv_P105 hI :) (CInv_P106 hI :) (CInv_P108 hI :) (CInv_P109 hI :) (CInv_P110 hI :) (CInv_P120 hI :) (CInv_P121 hI :) (CInv_P122 hI :) (CInv_P123 hI :) (CInv_P140 hI :) (CInv_P164 hI :) (CInv_P180 hI :) (CInv_P181 hI :) (CInv_P182 hI :) (CInv_P185 hI :) (CInv_P186 hI :) (CInv_P187 hI :) (CInv_P201 hI :) (CInv_P202 hI :) (CInv_P220 hI :) (CInv_P221 hI :) (CInv_P224 hI :) (CInv_P225 hI :) (CInv_P226 hI :) (CInv_P227 hI :) (CInv_P228 hI :) (CInv_P229 hI :) (CInv_P230 hI :) (CInv_P232 hI :) (CInv_P234 hI :) (CInv_P235 hI :) (CInv_P236 hI :) (CInv_V1 hI :) (CInv_V2 hI :) (CInv_V3 hI :) (CInv_V9 hI :) (CInv_O0 hI :) (CInv_O1 hI :) (CInv_O2 hI :) (CInv_RA hI :) (CInv_RB hI :) (CInv_RI hI :) (CInv_RM103 hI :) (CInv_RM104 hI :) (CInv_RM108 hI :) (CInv_LN hI :) (CInv_FL hI :) (CInv_W0 hI :) (CInv_KC hI :) (CInv_WK hI :)) hk_bk hk_ra hk_tn hpr29_0) hc29
    obtain ⟨κ29_24, hCI29, hxx29, hcc26, hfr27, hfr28, hfr29, hfr30, hfr31, hfr32, hfr33, hfr34, hfr35, f36, f37⟩ : ∃ κ1 : Nat → Nat, (CInv κ1 wd c29_G c29_P c29_V c29_O c29_ln c29_cnt) ∧ (∀ a, κ a ≠ 0 → κ1 a = κ a) ∧ (cnt ≤ c29_cnt) ∧ ((∀ a, κ a ≠ 0 → (c29_P 220) a = (P 220) a)) ∧ ((∀ a, κ a ≠ 0 → (c29_P 229) a = (P 229) a)) ∧ ((∀ a, κ a ≠ 0 → (c29_P 3) a = (P 3) a)) ∧ ((∀ a, κ a ≠ 0 → (c29_G 141) a = (G 141) a)) ∧ ((∀ a, κ a ≠ 0 → (c29_G 83) a = (G 83) a)) ∧ ((∀ a, κ a ≠ 0 → (c29_P 82) a = (P 82) a)) ∧ ((∀ a, κ a ≠ 0 → (c29_P 0) a = (P 0) a)) ∧ ((∀ a, κ a ≠ 0 → (c29_G 160) a = (G 160) a)) ∧ ((∀ a, κ a ≠ 0 → c29_ln a = ln a)) ∧ ((c29_G 203) wd = (G 203) wd) ∧ (id ((∀ fl, (P 3) bk = some fl → (((v1_29 : Nat) : Int) + 3 * s7 ((V 3) fl) ≤ 3 * s7 ((c29_V 3) fl)) ∧ (((v2_29 : Nat) : Int) + 2504 * s7 ((V 3) fl) ≤ 2504 * s7 ((c29_V 3) fl))))) := hq29
    have kx38 : ∀ a, κ a ≠ 0 → κ29_24 a = κ a := hxx29
    have hk39 : κ29_24 this = 12 := kxk hxx29 hk_this (by decide)
    have hq29 := pwq (fr_X0_fill la (va_up G 233 m2) P U V X O kd ln cnt bk p0 ra tn hB lt_bk6 lt_ra2 lt_tn4) hc29
    obtain ⟨la29_f, agf29, hBf29, ccf29, fG29, fP29, fU29, fV29, fX29, fO29, fl29⟩ : ∃ la9 : Nat → Nat, (∀ z, z < cnt → la9 z = la z) ∧ LB la9 c29_cnt c29_P ∧ cnt ≤ c29_cnt ∧ FRM cnt [60, 183, 203] (fun z => (la z < la bk ∨ la bk + 2 < la z) ∧ (la z < la tn ∨ la tn + 8 < la z)) (va_up G 233 m2) c29_G ∧ FRM cnt [66, 181, 182] (fun z => (la z < la bk ∨ la bk + 2 < la z) ∧ (la z < la tn ∨ la tn + 8 < la z)) P c29_P ∧ FRM cnt [184] (fun z => (la z < la bk ∨ la bk + 2 < la z) ∧ (la z < la tn ∨ la tn + 8 < la z)) U c29_U ∧ FRM cnt [0, 1, 2, 3, 12] (fun z => (la z < la bk ∨ la bk + 2 < la z) ∧ (la z < la tn ∨ la tn + 8 < la z)) V c29_V ∧ FRM cnt [1] (fun z => (la z < la bk ∨ la bk + 2 < la z) ∧ (la z < la tn ∨ la tn + 8 < la z)) X c29_X ∧ FRM cnt [1] (fun z => (la z < la bk ∨ la bk + 2 < la z) ∧ (la z < la tn ∨ la tn + 8 < la z)) O c29_O ∧ (∀ z, z < cnt → c29_ln z = ln z) := hq29
    have h829_h181 : (P 181) tn = some nw := by exact h181
    have h829_h182 : (P 182) tn = some nx := by exact h182
    have h829_hnn : nw ≠ nx := by exact hnn
    have h829_h185 : (P 185) tn = some wh := by exact h185
    have h829_h180 : (P 180) tn = some pg := by exact h180
    have h829_hfi : (P 63) pg = some fi := by exact hfi
    have h829_hpa : (P 65) pg = some pa := by exact hpa
    have h829_hpk : (P 62) pg = some pk := by exact hpk
    have h829_hsz : (P 61) pg = some sz := by exact hsz
    have h829_hcl : (P 64) pg = some cl := by exact hcl
    have h829_hlt9 : la tn = 90 := by exact hlt9
    have h829_h1 : (P 1) bk = some fa := by exact h1
    have h829_h3 : (P 3) bk = some fl := by exact h3
    have h829_h4 : (P 4) bk = some sp := by exact h4
    have h829_hls : (P 201) sp = some lsp := by exact hls
    have h829_hss : (P 202) sp = some ssp := by exact hss
    have h829_hw4 : ((G 200) sp).toInt = ((24 : Nat) : Int) := by exact hw4
    have h829_hn4 : ln ssp = 12 := by exact hn4
    have h829_hwl : (P 201) wd = some wl := by exact hwl
    have h829_hwz : (P 202) wd = some wz := by exact hwz
    have h829_hww : ((G 200) wd).toInt = ((24 : Nat) : Int) := by exact hww
    have h829_hWs : rwW ((G 203) wd) ((V 0) wl) ((V 1) wz) 24 = Ws := by exact hWs
    have h829_hWw : WDS Ws := by exact hWw
    have h829_hlb : la bk = 70 := by omega
    have h829_hlw : la wd = 20 := by omega
    have h829_hst : 0 ≤ p0.toInt ∧ p0.toInt ≤ 6 := by omega
    have h829_hrf : id (∀ q : Nat, (q : Int) < p0.toInt → ∃ rf, (O 2) ra q = some rf ∧ rf < cnt ∧ 100000 ≤ la rf ∧ RFX (va_up G 233 m2) P V O ln la cnt rf (d q)) := show ∀ q : Nat, (q : Int) < p0.toInt → ∃ rf, (O 2) ra q = some rf ∧ rf < cnt ∧ 100000 ≤ la rf ∧ RFX (va_up G 233 m2) P V O ln la cnt rf (d q) from by exact fun q hq => (by obtain ⟨rf9, y1, y2, y3, y4⟩ := hrf q (by omega); exact ⟨rf9, y1, y2, y3, RFX_fr y4 hB y2 (fun z hz h3 h4 => ⟨rfl, rfl, rfl, rfl, rfl, rfl, rfl, rfl, rfl, rfl, rfl, rfl, rfl, rfl, rfl, rfl, rfl, rfl, rfl, rfl, rfl, rfl, rfl, rfl, rfl, rfl⟩) (Nat.le_refl _) (fun _ _ => rfl)⟩)
    have h829_hbk : BKR (va_up G 233 m2) P V la cnt D ((O 1) fa) (fun s => Int32.toNatClampNeg ((V 3) fl s)) (FMT d Ws) := by exact BKR_fr hbk hB (fun _ => rfl) (fun _ _ => ⟨rfl, rfl, rfl⟩) (fun _ _ _ _ => ⟨rfl, rfl, rfl⟩) (Nat.le_refl _) (fun _ _ => rfl) (fun _ _ h => h)
    have h829_hDc : D < 100000 + 10 * cnt := by exact hDc
    have h829_h0 : (P 0) bk = some wd := by exact h0
    have h829_hl7 : ln fl = 7 ∧ ln fa = 700 := by exact hl7
    have hx29 := pwq (fn_X0_fill κ wd la (va_up G 233 m2) P U V X O kd ln cnt bk p0 ra tn (nw) (nx) (wh) (pg) (fi) (pa) (pk) (sz) (cl) (fa) (fl) (sp) (lsp) (ssp) (wl) (wz) (D) (d) (Ws) (CInv_i (CInv_G43 hI :) (CInv_G44 hI :) (CInv_G45 hI :) (CInv_G60 hI :) (CInv_G83 hI :) (CInv_G84 hI :) (CInv_G85 hI :) (CInv_G87 hI :) (CInv_G88 hI :) (CInv_G102 hI :) (CInv_G125 hI :) (CInv_G126 hI :) (CInv_G127 hI :) (CInv_G141 hI :) (CInv_G160 hI :) (CInv_G161 hI :) (CInv_G162 hI :) (CInv_G165 hI :) (CInv_G166 hI :) (CInv_G183 hI :) (CInv_G200 hI :) (CInv_G203 hI :) (CInv_G222 hI :) (CInv_G231 hI :) hg21 (CInv_P0 hI :) (CInv_P1 hI :) (CInv_P2 hI :) (CInv_P3 hI :) (CInv_P4 hI :) (CInv_P5 hI :) (CInv_P20 hI :) (CInv_P21 hI :) (CInv_P22 hI :) (CInv_P23 hI :) (CInv_P40 hI :) (CInv_P41 hI :) (CInv_P42 hI :) (CInv_P61 hI :) (CInv_P62 hI :) (CInv_P63 hI :) (CInv_P64 hI :) (CInv_P65 hI :) (CInv_P66 hI :) (CInv_P82 hI :) (CInv_P101 hI :) (CInv_P103 hI :) (CInv_P104 hI :) (CInv_P105 hI :) (CInv_P106 hI :) (CInv_P108 hI :) (CInv_P109 hI :) (CInv_P110 hI :) (CInv_P120 hI :) (CInv_P121 hI :) (CInv_P122 hI :) (CInv_P123 hI :) (CInv_P140 hI :) (CInv_P164 hI :) (CInv_P180 hI :) (CInv_P181 hI :) (CInv_P182 hI :) (CInv_P185 hI :) (CInv_P186 hI :) (CInv_P187 hI :) (CInv_P201 hI :) (CInv_P202 hI :) (CInv_P220 hI :) (CInv_P221 hI :) (CInv_P224 hI :) (CInv_P225 hI :) (CInv_P226 hI :) (CInv_P227 hI :) (CInv_P228 hI :) (CInv_P229 hI :) (CInv_P230 hI :) (CInv_P232 hI :) (CInv_P234 hI :) (CInv_P235 hI :) (CInv_P236 hI :) (CInv_V1 hI :) (CInv_V2 hI :) (CInv_V3 hI :) (CInv_V9 hI :) (CInv_O0 hI :) (CInv_O1 hI :) (CInv_O2 hI :) (CInv_RA hI :) (CInv_RB hI :) (CInv_RI hI :) (CInv_RM103 hI :) (CInv_RM104 hI :) (CInv_RM108 hI :) (CInv_LN hI :) (CInv_FL hI :) (CInv_W0 hI :) (CInv_KC hI :) (CInv_WK hI :)) hk_bk hk_ra hk_tn hpr29_0 hB lt_bk6 lt_ra2 lt_tn4 h829_h181 h829_h182 h829_hnn h829_h185 h829_h180 h829_hfi h829_hpa h829_hpk h829_hsz h829_hcl h829_hlt9 h829_h1 h829_h3 h829_h4 h829_hls h829_hss h829_hw4 h829_hn4 h829_hwl h829_hwz h829_hww h829_hWs h829_hWw h829_hlb h829_hlw h829_hst h829_hrf h829_hbk h829_hDc h829_h0 h829_hl7) hc29
    obtain ⟨la29, ag29, hB29, p29_0, p29_1⟩ : ∃ la9 : Nat → Nat, (∀ z, z < cnt → la9 z = la z) ∧ LB la9 c29_cnt c29_P ∧ (BKR c29_G c29_P c29_V la9 c29_cnt D ((c29_O 1) fa) (fun s => Int32.toNatClampNeg ((c29_V 3) fl s)) (FMT d Ws)) ∧ (id ((∀ s : Nat, s < 7 → (c29_V 3) fl s = (if (s : Int) ≤ p0.toInt then (G 203) wd else (V 3) fl s)))) := hx29
    clear h829_hl7 h829_h0 h829_hDc h829_hbk h829_hrf h829_hst h829_hlw h829_hlb h829_hWw h829_hWs h829_hww h829_hwz h829_hwl h829_hn4 h829_hw4 h829_hss h829_hls h829_h4 h829_h3 h829_h1 h829_hlt9 h829_hcl h829_hsz h829_hpk h829_hpa h829_hfi h829_h180 h829_h185 h829_hnn h829_h182 h829_h181 agf29 hBf29 kx38 hxx29 hfr27 hfr28 hfr29 hfr30 hfr31 hfr32 hfr33 hfr34 hfr35 hc29 hpr29_0 hc7 hg21
    have gl_40 : la29 this = 200 := (ag29 this hlt_this).trans hpl0
    have lt41 : this < c29_cnt := Nat.lt_of_lt_of_le hlt_this ccf29
    have gl_42 : la29 ra = 203 := (ag29 ra lt_ra2).trans lb_ra2
    have lt43 : ra < c29_cnt := Nat.lt_of_lt_of_le lt_ra2 ccf29
    have gl_44 : la29 tn = 90 := (ag29 tn lt_tn4).trans lb_tn4
    have lt45 : tn < c29_cnt := Nat.lt_of_lt_of_le lt_tn4 ccf29
    have gl_46 : la29 bk = 70 := (ag29 bk lt_bk6).trans lb_bk6
    have lt47 : bk < c29_cnt := Nat.lt_of_lt_of_le lt_bk6 ccf29
    have gl_48 : la29 fl = 70 := (ag29 fl lt_fl8).trans lb_fl8
    have lt49 : fl < c29_cnt := Nat.lt_of_lt_of_le lt_fl8 ccf29
    have gl_50 : la29 fa = 70 := (ag29 fa lt_fa10).trans lb_fa10
    have lt51 : fa < c29_cnt := Nat.lt_of_lt_of_le lt_fa10 ccf29
    have gl_52 : la29 wd = 20 := (ag29 wd lt_wd12).trans lb_wd12
    have lt53 : wd < c29_cnt := Nat.lt_of_lt_of_le lt_wd12 ccf29
    have gl_54 : la29 wl = 20 := (ag29 wl lt_wl14).trans lb_wl14
    have lt55 : wl < c29_cnt := Nat.lt_of_lt_of_le lt_wl14 ccf29
    have gl_56 : la29 wz = 20 := (ag29 wz lt_wz16).trans lb_wz16
    have lt57 : wz < c29_cnt := Nat.lt_of_lt_of_le lt_wz16 ccf29
    have hag29 : ∀ z, z < cnt → la29 z = la z := fun z hz => (ag29 z (Nat.lt_of_lt_of_le hz (Nat.le_refl _))).trans (rfl)
    have hle29 : cnt ≤ cnt := (Nat.le_refl _)
    have ctf29 : ∀ z, z < cnt → ((la z < 70 ∨ 70 + 2 < la z) ∧ (la z < 90 ∨ 90 + 8 < la z) ∧ (la z < 200 ∨ 200 + 3 < la z)) → ((la z < la bk ∨ la bk + 2 < la z) ∧ (la z < la tn ∨ la tn + 8 < la z)) := fun z h0 hz => by have q2 := hB.2 z h0; omega
    have hF29_G : FRM cnt [60, 183, 203, 233] (fun z => (la z < 70 ∨ 70 + 2 < la z) ∧ (la z < 90 ∨ 90 + 8 < la z) ∧ (la z < 200 ∨ 200 + 3 < la z)) G c29_G := FRM_trans (FRM_set FRM_refl (by decide) (fun z h1 h2 => hfr20 z ⟨h1, h2⟩)) fG29 hle29 (by decide) (ctf29)
    have hF29_P : FRM cnt [66, 181, 182] (fun z => (la z < 70 ∨ 70 + 2 < la z) ∧ (la z < 90 ∨ 90 + 8 < la z) ∧ (la z < 200 ∨ 200 + 3 < la z)) P c29_P := FRM_trans FRM_refl fP29 hle29 (by decide) (ctf29)
    have hF29_U : FRM cnt [184] (fun z => (la z < 70 ∨ 70 + 2 < la z) ∧ (la z < 90 ∨ 90 + 8 < la z) ∧ (la z < 200 ∨ 200 + 3 < la z)) U c29_U := FRM_trans FRM_refl fU29 hle29 (by decide) (ctf29)
    have hF29_V : FRM cnt [0, 1, 2, 3, 5, 12] (fun z => (la z < 70 ∨ 70 + 2 < la z) ∧ (la z < 90 ∨ 90 + 8 < la z) ∧ (la z < 200 ∨ 200 + 3 < la z)) V c29_V := FRM_trans FRM_refl fV29 hle29 (by decide) (ctf29)
    have hF29_X : FRM cnt [1] (fun z => (la z < 70 ∨ 70 + 2 < la z) ∧ (la z < 90 ∨ 90 + 8 < la z) ∧ (la z < 200 ∨ 200 + 3 < la z)) X c29_X := FRM_trans FRM_refl fX29 hle29 (by decide) (ctf29)
    have hF29_O : FRM cnt [1] (fun z => (la z < 70 ∨ 70 + 2 < la z) ∧ (la z < 90 ∨ 90 + 8 < la z) ∧ (la z < 200 ∨ 200 + 3 < la z)) O c29_O := FRM_trans FRM_refl fO29 hle29 (by decide) (ctf29)
    have hlnn29 : ∀ z, z < cnt → c29_ln z = ln z := fun z hz => (fl29 z (Nat.lt_of_lt_of_le hz hle29)).trans (rfl)
    clear hlnn29 hF29_O hF29_X hF29_U hF29_P ag29 fU29 fX29 fO29 fl29 hfr20
    have hn58 : (c29_P 221) this = some ra := (fP29 221 this hlt_this (fun q => absurd q (by decide))).trans hn1
    have lt_ra59 := ((hB29.1 221 fl_221) this ra hn58).2.1
    have hk_ra := (((CInv_P221 hCI29 :) this).2 ra hn58).1
    have hl1_ra := (((CInv_P221 hCI29 :) this).2 ra hn58).2.1
    have hl2_ra := (((CInv_P221 hCI29 :) this).2 ra hn58).2.2.1
    have hw_ra : id _ := (((CInv_P221 hCI29 :) this).2 ra hn58).2.2.2
    have hn60 : (c29_P 226) this = some tn := (fP29 226 this hlt_this (fun q => absurd q (by decide))).trans hn3
    have lt_tn61 := ((hB29.1 226 fl_226) this tn hn60).2.1
    have hk_tn := (((CInv_P226 hCI29 :) this).2 tn hn60).1
    have hl1_tn := (((CInv_P226 hCI29 :) this).2 tn hn60).2.1
    have hl2_tn := (((CInv_P226 hCI29 :) this).2 tn hn60).2.2.1
    have hw_tn : id _ := (((CInv_P226 hCI29 :) this).2 tn hn60).2.2.2
    have hn62 : (c29_P 229) this = some bk := (fP29 229 this hlt_this (fun q => absurd q (by decide))).trans hn5
    have lt_bk63 := ((hB29.1 229 fl_229) this bk hn62).2.1
    have hk_bk := (((CInv_P229 hCI29 :) this).2 bk hn62).1
    have hl1_bk := (((CInv_P229 hCI29 :) this).2 bk hn62).2.1
    have hl2_bk := (((CInv_P229 hCI29 :) this).2 bk hn62).2.2.1
    have hw_bk : id _ := (((CInv_P229 hCI29 :) this).2 bk hn62).2.2.2
    have hn64 : (c29_P 3) bk = some fl := (fP29 3 bk lt_bk6 (fun q => absurd q (by decide))).trans hn7
    have lt_fl65 := ((hB29.1 3 fl_3) bk fl hn64).2.1
    have hk_fl := (((CInv_P3 hCI29 :) bk).2 fl hn64).1
    have hl1_fl := (((CInv_P3 hCI29 :) bk).2 fl hn64).2.1
    have hl2_fl := (((CInv_P3 hCI29 :) bk).2 fl hn64).2.2.1
    have hw_fl : id _ := (((CInv_P3 hCI29 :) bk).2 fl hn64).2.2.2
    have hn66 : (c29_P 1) bk = some fa := (fP29 1 bk lt_bk6 (fun q => absurd q (by decide))).trans hn9
    have lt_fa67 := ((hB29.1 1 fl_1) bk fa hn66).2.1
    have hk_fa := (((CInv_P1 hCI29 :) bk).2 fa hn66).1
    have hl1_fa := (((CInv_P1 hCI29 :) bk).2 fa hn66).2.1
    have hl2_fa := (((CInv_P1 hCI29 :) bk).2 fa hn66).2.2.1
    have hw_fa : id _ := (((CInv_P1 hCI29 :) bk).2 fa hn66).2.2.2
    have hn68 : (c29_P 0) bk = some wd := (fP29 0 bk lt_bk6 (fun q => absurd q (by decide))).trans hn11
    have lt_wd69 := ((hB29.1 0 fl_0) bk wd hn68).2.1
    have hk_wd := (((CInv_P0 hCI29 :) bk).2 wd hn68).1
    have hl1_wd := (((CInv_P0 hCI29 :) bk).2 wd hn68).2.1
    have hl2_wd := (((CInv_P0 hCI29 :) bk).2 wd hn68).2.2.1
    have hw_wd : id _ := (((CInv_P0 hCI29 :) bk).2 wd hn68).2.2.2
    have hn70 : (c29_P 201) wd = some wl := (fP29 201 wd lt_wd12 (fun q => absurd q (by decide))).trans hn13
    have lt_wl71 := ((hB29.1 201 fl_201) wd wl hn70).2.1
    have hk_wl := (((CInv_P201 hCI29 :) wd).2 wl hn70).1
    have hl1_wl := (((CInv_P201 hCI29 :) wd).2 wl hn70).2.1
    have hl2_wl := (((CInv_P201 hCI29 :) wd).2 wl hn70).2.2.1
    have hw_wl : id _ := (((CInv_P201 hCI29 :) wd).2 wl hn70).2.2.2
    have hn72 : (c29_P 202) wd = some wz := (fP29 202 wd lt_wd12 (fun q => absurd q (by decide))).trans hn15
    have lt_wz73 := ((hB29.1 202 fl_202) wd wz hn72).2.1
    have hk_wz := (((CInv_P202 hCI29 :) wd).2 wz hn72).1
    have hl1_wz := (((CInv_P202 hCI29 :) wd).2 wz hn72).2.1
    have hl2_wz := (((CInv_P202 hCI29 :) wd).2 wz hn72).2.2.1
    have hw_wz : id _ := (((CInv_P202 hCI29 :) wd).2 wz hn72).2.2.2
    have rb74 := ((CInv_RB hCI29 :) wd wz hk_wd hn72).1
    have gzw : (c29_G 203) wd = (G 203) wd := fG29 203 wd (by omega) (fun _ => show (la wd < la bk ∨ la bk + 2 < la wd) ∧ (la wd < la tn ∨ la tn + 8 < la wd) from by omega)
    have gzwi := congrArg Int32.toInt gzw
    have hv0w : (c29_V 0) wl = (V 0) wl := fV29 0 wl (by omega) (fun _ => show (la wl < la bk ∨ la bk + 2 < la wl) ∧ (la wl < la tn ∨ la tn + 8 < la wl) from by omega)
    have hv1w : (c29_V 1) wz = (V 1) wz := fV29 1 wz (by omega) (fun _ => show (la wz < la bk ∨ la bk + 2 < la wz) ∧ (la wz < la tn ∨ la tn + 8 < la wz) from by omega)
    have hg2w : ((c29_G 200) wd).toInt = ((24 : Nat) : Int) := by rw [fG29 200 wd (by omega) (fun q => absurd q (by decide))]; exact hww
    have hWs9 : rwW ((c29_G 203) wd) ((c29_V 0) wl) ((c29_V 1) wz) 24 = Ws := by rw [gzw, hv0w, hv1w]; exact hWs
    have e1b : (c29_P 1) bk = some fa := (fP29 1 bk (by omega) (fun q => absurd q (by decide))).trans h1
    have e0b : (c29_P 0) bk = some wd := (fP29 0 bk (by omega) (fun q => absurd q (by decide))).trans h0
    have ewl : (c29_P 201) wd = some wl := (fP29 201 wd (by omega) (fun q => absurd q (by decide))).trans hwl
    have ewz : (c29_P 202) wd = some wz := (fP29 202 wd (by omega) (fun q => absurd q (by decide))).trans hwz
    have hWl : Ws.length = Int32.toNatClampNeg ((G 203) wd) := by rw [← hWs]; exact rw_len
    have hbw9 := (CInv_G203 hI :) wd
    have cbw := clampI (x := (G 203) wd) (by omega)
    have hp9 := p29_1 (Int32.toNatClampNeg p0) (by omega)
    rw [if_pos (by omega)] at hp9
    have hrw : ∀ w, w < Ws.length → ROWF c29_G c29_P c29_V la29 c29_cnt D ((c29_O 1) fa (100 * Int32.toNatClampNeg p0 + w)) (FMT d Ws (Int32.toNatClampNeg p0) w) := fun w hw => p29_0 (Int32.toNatClampNeg p0) w (by omega) (by show w < Int32.toNatClampNeg (c29_V 3 fl (Int32.toNatClampNeg p0)); rw [hp9]; omega)
    have hn77 : (c29_P 1) bk = some fa := e1b
    have hk_fa := (((CInv_P1 hCI29 :) bk).2 fa hn77).1
    have hl1_fa := (((CInv_P1 hCI29 :) bk).2 fa hn77).2.1
    have hl2_fa := (((CInv_P1 hCI29 :) bk).2 fa hn77).2.2.1
    have hw_fa : id _ := (((CInv_P1 hCI29 :) bk).2 fa hn77).2.2.2
    have hn78 : (c29_P 0) bk = some wd := e0b
    have hk_wd := (((CInv_P0 hCI29 :) bk).2 wd hn78).1
    have hl1_wd := (((CInv_P0 hCI29 :) bk).2 wd hn78).2.1
    have hl2_wd := (((CInv_P0 hCI29 :) bk).2 wd hn78).2.2.1
    have hw_wd : id _ := (((CInv_P0 hCI29 :) bk).2 wd hn78).2.2.2
    have hn79 : (c29_P 201) wd = some wl := ewl
    have hk_wl := (((CInv_P201 hCI29 :) wd).2 wl hn79).1
    have hl1_wl := (((CInv_P201 hCI29 :) wd).2 wl hn79).2.1
    have hl2_wl := (((CInv_P201 hCI29 :) wd).2 wl hn79).2.2.1
    have hw_wl : id _ := (((CInv_P201 hCI29 :) wd).2 wl hn79).2.2.2
    have hn83 : (c29_P 202) wd = some wz := ewz
    have hk_wz := (((CInv_P202 hCI29 :) wd).2 wz hn83).1
    have hl1_wz := (((CInv_P202 hCI29 :) wd).2 wz hn83).2.1
    have hl2_wz := (((CInv_P202 hCI29 :) wd).2 wz hn83).2.2.1
    have hw_wz : id _ := (((CInv_P202 hCI29 :) wd).2 wz hn83).2.2.2
    have lp36 : ∀ (n36 : Nat) (y36_2 : Int32) (y36_3 : Int32) (d36_G233 : Nat → Int32) (d36_V5 : Nat → Nat → Int32), rng (0) 200 d36_G233 → (∀ z, (z < cnt ∧ (la z < 70 ∨ 70 + 2 < la z) ∧ (la z < 90 ∨ 90 + 8 < la z) ∧ (la z < 200 ∨ 200 + 3 < la z)) → d36_G233 z = (G 233) z) → (∀ z, (z < cnt ∧ (la z < 70 ∨ 70 + 2 < la z) ∧ (la z < 90 ∨ 90 + 8 < la z) ∧ (la z < 200 ∨ 200 + 3 < la z)) → d36_V5 z = (V 5) z) → (0 ≤ y36_3.toInt ∧ y36_3.toInt ≤ 100) → (0 ≤ y36_2.toInt ∧ y36_2.toInt ≤ 100 * y36_3.toInt) → y36_3.toInt ≤ ((G 203) wd).toInt → (y36_2.toInt = ((cnO (fun a b => clB (FMT d Ws (Int32.toNatClampNeg p0) a) (FMT d Ws (Int32.toNatClampNeg p0) b)) Ws.length (Int32.toNatClampNeg y36_3) : Nat) : Int)) → pw (L_X11_collisions_36 this p0 c29_G c29_P c29_U c29_V c29_X c29_O c29_kd c29_ln c29_cnt n36 y36_2 y36_3 d36_G233 d36_V5) (sp1 (QF_X11_collisions κ wd la G P U V X O kd ln cnt this p0 ra tn bk nw nx wh pg fi pa pk sz cl fa fl sp lsp ssp wl wz D d Ws)) := by
      intro n36
      clear hWs9 hF29_V hF29_G fG29 fP29 fV29
      induction n36 with
      | zero => intros; exact pw_none
      | succ n36 ih36 =>
        intro y36_2 y36_3 d36_G233 d36_V5 hg87 hfr88 hfr89 f90 f91 f92 io36
        show pw (B_X11_collisions_36 this p0 c29_G c29_P c29_U c29_V c29_X c29_O c29_kd c29_ln c29_cnt (L_X11_collisions_36 this p0 c29_G c29_P c29_U c29_V c29_X c29_O c29_kd c29_ln c29_cnt n36) y36_2 y36_3 d36_G233 d36_V5) _
        unfold B_X11_collisions_36
        refine pw_nne hn62 ?_
        refine pw_nne hn78 ?_
        have b93 := (CInv_G203 hCI29 :) wd
        refine pw_ite (fun c47 => ?_) (fun c47 => ?_)
        · have c47 := (z_le _ _).mp c47
          have qq0 : id ((¬ (0 ≤ p0.toInt ∧ p0.toInt ≤ ((G 222) this).toInt) → y36_2.toInt = -2)) := show (¬ (0 ≤ p0.toInt ∧ p0.toInt ≤ ((G 222) this).toInt) → y36_2.toInt = -2) from by intro h; exfalso; exact h st9
          have qq1 : id ((0 ≤ p0.toInt ∧ p0.toInt ≤ ((G 222) this).toInt → y36_2.toInt = ((cnO (fun a b => clB (FMT d Ws (Int32.toNatClampNeg p0) a) (FMT d Ws (Int32.toNatClampNeg p0) b)) Ws.length Ws.length : Nat) : Int))) := show (0 ≤ p0.toInt ∧ p0.toInt ≤ ((G 222) this).toInt → y36_2.toInt = ((cnO (fun a b => clB (FMT d Ws (Int32.toNatClampNeg p0) a) (FMT d Ws (Int32.toNatClampNeg p0) b)) Ws.length Ws.length : Nat) : Int)) from by intro _; have k3 := clampI (x := y36_3) (by omega); have h9 := io36; rw [show Int32.toNatClampNeg y36_3 = Ws.length by omega] at h9; exact h9
          have qq2 : BKR (va_up c29_G 233 d36_G233) c29_P (va_up c29_V 5 d36_V5) la29 c29_cnt D ((c29_O 1) fa) (fun s => Int32.toNatClampNeg ((c29_V 3) fl s)) (FMT d Ws) := by exact BKR_fr p29_0 hB29 (fun _ => rfl) (fun _ _ => ⟨rfl, rfl, rfl⟩) (fun _ _ _ _ => ⟨rfl, rfl, rfl⟩) (Nat.le_refl _) (fun _ _ => rfl) (fun _ _ h => h)
          have qq3 : id ((∀ s : Nat, s < 7 → ((G 222) this).toInt < (s : Int) → (c29_V 3) fl s = (V 3) fl s)) := show (∀ s : Nat, s < 7 → ((G 222) this).toInt < (s : Int) → (c29_V 3) fl s = (V 3) fl s) from by intro s hs h9; have z9 := p29_1 s hs; rw [if_neg (by omega)] at z9; exact z9
          exact pw_some ⟨la29, hag29, hB29, qq0, qq1, qq2, qq3⟩
        · have c47 := z_nle c47
          have k3 := clampI (x := y36_3) (by omega)
          have f97 : (y36_3 + 1).toInt = y36_3.toInt + 1 := z_addc (by decide +kernel) (by omega) (by omega)
          refine pw_vl (fun x53 ex53 => ?_)
          have f98 : x53.toInt = (y36_3 + 1).toInt := congrArg Int32.toInt ex53
          refine pw_jE (fun k105 ek105 => ?_)
          have lp55 : ∀ (n55 : Nat) (y55_2 : Int32) (y55_4 : Int32) (d55_G233 : Nat → Int32) (d55_V5 : Nat → Nat → Int32), rng (0) 200 d55_G233 → (∀ z, (z < cnt ∧ (la z < 70 ∨ 70 + 2 < la z) ∧ (la z < 90 ∨ 90 + 8 < la z) ∧ (la z < 200 ∨ 200 + 3 < la z)) → d55_G233 z = (G 233) z) → (∀ z, (z < cnt ∧ (la z < 70 ∨ 70 + 2 < la z) ∧ (la z < 90 ∨ 90 + 8 < la z) ∧ (la z < 200 ∨ 200 + 3 < la z)) → d55_V5 z = (V 5) z) → (1 ≤ y55_4.toInt ∧ y55_4.toInt ≤ 101) → (0 ≤ y55_2.toInt ∧ y55_2.toInt ≤ 100 * y36_3.toInt + y55_4.toInt - 1) → (y55_4.toInt ≤ ((G 203) wd).toInt ∧ y36_3.toInt + 1 ≤ y55_4.toInt) → (y55_2.toInt = ((cnO (fun a b => clB (FMT d Ws (Int32.toNatClampNeg p0) a) (FMT d Ws (Int32.toNatClampNeg p0) b)) Ws.length (Int32.toNatClampNeg y36_3) + cnI (fun a b => clB (FMT d Ws (Int32.toNatClampNeg p0) a) (FMT d Ws (Int32.toNatClampNeg p0) b)) (Int32.toNatClampNeg y36_3) (Int32.toNatClampNeg y55_4 - Int32.toNatClampNeg y36_3 - 1) : Nat) : Int)) → pw (L_X11_collisions_55 this p0 c29_G c29_P c29_U c29_V c29_X c29_O c29_kd c29_ln c29_cnt y36_3 k105 n55 y55_2 y55_4 d55_G233 d55_V5) (sp1 (QF_X11_collisions κ wd la G P U V X O kd ln cnt this p0 ra tn bk nw nx wh pg fi pa pk sz cl fa fl sp lsp ssp wl wz D d Ws)) := by
            intro n55
            induction n55 with
            | zero => intros; exact pw_none
            | succ n55 ih55 =>
              intro y55_2 y55_4 d55_G233 d55_V5 hg99 hfr100 hfr101 f102 f103 f104 ii55
              show pw (B_X11_collisions_55 this p0 c29_G c29_P c29_U c29_V c29_X c29_O c29_kd c29_ln c29_cnt y36_3 k105 (L_X11_collisions_55 this p0 c29_G c29_P c29_U c29_V c29_X c29_O c29_kd c29_ln c29_cnt y36_3 k105 n55) y55_2 y55_4 d55_G233 d55_V5) _
              unfold B_X11_collisions_55
              refine pw_nne hn62 ?_
              refine pw_nne hn78 ?_
              refine pw_ite (fun c67 => ?_) (fun c67 => ?_)
              · have c67 := (z_le _ _).mp c67
                refine pw_j3 ek105 (fun x105_2 ex105_2 z105_1 ez105_1 z105_2 ez105_2 => ?_)
                subst ez105_1 ez105_2
                have ex105_2 := ex105_2.symm
                have f_x105_2 : x105_2.toInt = y55_2.toInt := by rw [ex105_2]
                have iv36_0 : (0 ≤ (y36_3 + 1).toInt ∧ (y36_3 + 1).toInt ≤ 100) := by omega
                have iv36_1 : (0 ≤ x105_2.toInt ∧ x105_2.toInt ≤ 100 * (y36_3 + 1).toInt) := by omega
                have iv36_2 : (y36_3 + 1).toInt ≤ ((G 203) wd).toInt := by omega
                have iv36_3 : (x105_2.toInt = ((cnO (fun a b => clB (FMT d Ws (Int32.toNatClampNeg p0) a) (FMT d Ws (Int32.toNatClampNeg p0) b)) Ws.length (Int32.toNatClampNeg (y36_3 + 1)) : Nat) : Int)) := by have k4 := clampI (x := y36_3 + 1) (by omega); have k5 := clampI (x := y55_4) (by omega); rw [cnO_s (k := Int32.toNatClampNeg y36_3) (j := Int32.toNatClampNeg y55_4 - Int32.toNatClampNeg y36_3 - 1) (by omega) (by omega)]; have h9 := ii55; omega
                exact ih36 x105_2 (y36_3 + 1) d55_G233 d55_V5 hg99 hfr100 hfr101 iv36_0 iv36_1 iv36_2 iv36_3
              · have c67 := z_nle c67
                have k4 := clampI (x := y55_4) (by omega)
                refine pw_nne hn62 ?_
                have hpr78_0 : (0 ≤ p0.toInt ∧ p0.toInt ≤ 6) := by first | assumption | omega
                have hpr78_1 : (0 ≤ y36_3.toInt ∧ y36_3.toInt < 100) := by first | assumption | omega
                have hpr78_2 : (0 ≤ y55_4.toInt ∧ y55_4.toInt < 100) := by first | assumption | omega
                refine pw_b1 (fun r78 hc78 => ?_)
                have hq78 := wp_at (ok_X0_collide κ29_24 wd (va_up c29_G 233 d55_G233) c29_P c29_U (va_up c29_V 5 d55_V5) c29_X c29_O c29_kd c29_ln c29_cnt bk p0 y36_3 y55_4 (CInv_G200 hCI29 :) (CInv_G203 hCI29 :) (CInv_P1 hCI29 :) (CInv_P5 hCI29 :) (CInv_P201 hCI29 :) (CInv_P202 hCI29 :) (CInv_V1 hCI29 :) (CInv_O1 hCI29 :) (CInv_RA hCI29 :) (CInv_RB hCI29 :) (CInv_RI hCI29 :) (CInv_LN hCI29 :) hk_bk hpr78_0 hpr78_1 hpr78_2) hc78
                have f110 : (0 ≤ r78.toInt ∧ r78.toInt ≤ 1) := hq78
                clear hq78
                have h878_h1 : (c29_P 1) bk = some fa := by exact hn77
                have h878_hr1 : ROWF (va_up c29_G 233 d55_G233) c29_P (va_up c29_V 5 d55_V5) la29 c29_cnt D ((c29_O 1) fa (100 * Int32.toNatClampNeg p0 + Int32.toNatClampNeg y36_3)) (FMT d Ws (Int32.toNatClampNeg p0) (Int32.toNatClampNeg y36_3)) := by exact hrw _ (by omega)
                have h878_hr2 : ROWF (va_up c29_G 233 d55_G233) c29_P (va_up c29_V 5 d55_V5) la29 c29_cnt D ((c29_O 1) fa (100 * Int32.toNatClampNeg p0 + Int32.toNatClampNeg y55_4)) (FMT d Ws (Int32.toNatClampNeg p0) (Int32.toNatClampNeg y55_4)) := by exact hrw _ (by omega)
                have hx78 := pwq (fn_X0_collide κ29_24 wd la29 (va_up c29_G 233 d55_G233) c29_P c29_U (va_up c29_V 5 d55_V5) c29_X c29_O c29_kd c29_ln c29_cnt bk p0 y36_3 y55_4 (fa) (D) (FMT d Ws (Int32.toNatClampNeg p0) (Int32.toNatClampNeg y36_3)) (FMT d Ws (Int32.toNatClampNeg p0) (Int32.toNatClampNeg y55_4)) (CInv_G200 hCI29 :) (CInv_G203 hCI29 :) (CInv_P1 hCI29 :) (CInv_P5 hCI29 :) (CInv_P201 hCI29 :) (CInv_P202 hCI29 :) (CInv_V1 hCI29 :) (CInv_O1 hCI29 :) (CInv_RA hCI29 :) (CInv_RB hCI29 :) (CInv_RI hCI29 :) (CInv_LN hCI29 :) hk_bk hpr78_0 hpr78_1 hpr78_2 hB29 lt_bk63 h878_h1 h878_hr1 h878_hr2) hc78
                obtain ⟨p78_0, p78_1⟩ : (id ((r78.toInt ≠ 0 → clB (FMT d Ws (Int32.toNatClampNeg p0) (Int32.toNatClampNeg y36_3)) (FMT d Ws (Int32.toNatClampNeg p0) (Int32.toNatClampNeg y55_4)) = true))) ∧ (id ((r78.toInt = 0 → clB (FMT d Ws (Int32.toNatClampNeg p0) (Int32.toNatClampNeg y36_3)) (FMT d Ws (Int32.toNatClampNeg p0) (Int32.toNatClampNeg y55_4)) = false))) := hx78
                clear h878_h1 h878_hr1 h878_hr2
                refine pw_jE (fun j99 ej99 => ?_)
                refine pw_ite (fun c81 => ?_) (fun c81 => ?_)
                · have c81 := congrArg Int32.toInt c81
                  refine pw_j3 ej99 (fun x99_2 ex99_2 z99_1 ez99_1 z99_2 ez99_2 => ?_)
                  subst ez99_1 ez99_2
                  have ex99_2 := ex99_2.symm
                  have f_x99_2 : x99_2.toInt = y55_2.toInt := by rw [ex99_2]
                  have f111 : (y55_4 + 1).toInt = y55_4.toInt + (1) := z_addc (by decide +kernel) (by omega) (by omega)
                  have iv55_0 : (1 ≤ (y55_4 + 1).toInt ∧ (y55_4 + 1).toInt ≤ 101) := by omega
                  have iv55_1 : (0 ≤ x99_2.toInt ∧ x99_2.toInt ≤ 100 * y36_3.toInt + (y55_4 + 1).toInt - 1) := by omega
                  have iv55_2 : ((y55_4 + 1).toInt ≤ ((G 203) wd).toInt ∧ y36_3.toInt + 1 ≤ (y55_4 + 1).toInt) := by omega
                  have iv55_3 : (x99_2.toInt = ((cnO (fun a b => clB (FMT d Ws (Int32.toNatClampNeg p0) a) (FMT d Ws (Int32.toNatClampNeg p0) b)) Ws.length (Int32.toNatClampNeg y36_3) + cnI (fun a b => clB (FMT d Ws (Int32.toNatClampNeg p0) a) (FMT d Ws (Int32.toNatClampNeg p0) b)) (Int32.toNatClampNeg y36_3) (Int32.toNatClampNeg (y55_4 + 1) - Int32.toNatClampNeg y36_3 - 1) : Nat) : Int)) := by have k5 := clampI (x := y55_4 + 1) (by omega); rw [cnI_n (k := Int32.toNatClampNeg y55_4 - Int32.toNatClampNeg y36_3 - 1) (b := Int32.toNatClampNeg y55_4) (p78_1 (by omega)) (by omega) (by omega)]; have h9 := ii55; omega
                  exact ih55 x99_2 (y55_4 + 1) d55_G233 d55_V5 hg99 hfr100 hfr101 iv55_0 iv55_1 iv55_2 iv55_3
                · have c81 : r78.toInt = 1 := by have z9 := z_ne c81; omega
                  have f112 : (1000 * y36_3).toInt = 1000 * y36_3.toInt := z_muld (by decide +kernel) (by omega) (by omega)
                  have f113 : ((1000 * y36_3) + y55_4).toInt = (1000 * y36_3).toInt + y55_4.toInt := z_add (by omega) (by omega)
                  refine pw_b2 (fun c93_G233 c93_V5 hc93 => ?_)
                  have hq93 := wp_at (ok_X11_notePair κ29_24 wd (va_up c29_G 233 d55_G233) c29_P c29_U (va_up c29_V 5 d55_V5) c29_X c29_O c29_kd c29_ln c29_cnt this ((1000 * y36_3) + y55_4) hg99 (CInv_P232 hCI29 :) (CInv_LN hCI29 :) hk39) hc93
                  have hg114 : rng (0) 200 c93_G233 := hq93
                  clear hq93
                  have hq93 := pwq (fr_X11_notePair la29 (va_up c29_G 233 d55_G233) c29_P c29_U (va_up c29_V 5 d55_V5) c29_X c29_O c29_kd c29_ln c29_cnt this ((1000 * y36_3) + y55_4) hB29 (show la29 this = 200 from by omega)) hc93
                  obtain ⟨q93_G233, q93_V5⟩ : (∀ z, (la29 z < la29 this ∨ la29 this + 3 < la29 z) → c93_G233 z = d55_G233 z) ∧ (∀ z, (la29 z < la29 this ∨ la29 this + 3 < la29 z) → c93_V5 z = d55_V5 z) := hq93
                  have tz93 : ∀ z, (z < cnt ∧ (la z < 70 ∨ 70 + 2 < la z) ∧ (la z < 90 ∨ 90 + 8 < la z) ∧ (la z < 200 ∨ 200 + 3 < la z)) → ((la29 z < la29 this ∨ la29 this + 3 < la29 z)) := fun z hz => by have q1 := hag29 z hz.1; have q2 := hB.2 z hz.1; omega
                  have hfr115 : ∀ z, (z < cnt ∧ (la z < 70 ∨ 70 + 2 < la z) ∧ (la z < 90 ∨ 90 + 8 < la z) ∧ (la z < 200 ∨ 200 + 3 < la z)) → c93_G233 z = (G 233) z := fun z hz => (q93_G233 z (tz93 z hz)).trans (hfr100 z hz)
                  have hfr116 : ∀ z, (z < cnt ∧ (la z < 70 ∨ 70 + 2 < la z) ∧ (la z < 90 ∨ 90 + 8 < la z) ∧ (la z < 200 ∨ 200 + 3 < la z)) → c93_V5 z = (V 5) z := fun z hz => (q93_V5 z (tz93 z hz)).trans (hfr101 z hz)
                  have f117 : (y55_2 + 1).toInt = y55_2.toInt + (1) := z_addc (by decide +kernel) (by omega) (by omega)
                  refine pw_j3 ej99 (fun x99_2 ex99_2 z99_1 ez99_1 z99_2 ez99_2 => ?_)
                  subst ez99_1 ez99_2
                  have ex99_2 := ex99_2.symm
                  have f_x99_2 : x99_2.toInt = (y55_2 + 1).toInt := by rw [ex99_2]
                  have f118 : (y55_4 + 1).toInt = y55_4.toInt + (1) := z_addc (by decide +kernel) (by omega) (by omega)
                  have iv55_0 : (1 ≤ (y55_4 + 1).toInt ∧ (y55_4 + 1).toInt ≤ 101) := by omega
                  have iv55_1 : (0 ≤ x99_2.toInt ∧ x99_2.toInt ≤ 100 * y36_3.toInt + (y55_4 + 1).toInt - 1) := by omega
                  have iv55_2 : ((y55_4 + 1).toInt ≤ ((G 203) wd).toInt ∧ y36_3.toInt + 1 ≤ (y55_4 + 1).toInt) := by omega
                  have iv55_3 : (x99_2.toInt = ((cnO (fun a b => clB (FMT d Ws (Int32.toNatClampNeg p0) a) (FMT d Ws (Int32.toNatClampNeg p0) b)) Ws.length (Int32.toNatClampNeg y36_3) + cnI (fun a b => clB (FMT d Ws (Int32.toNatClampNeg p0) a) (FMT d Ws (Int32.toNatClampNeg p0) b)) (Int32.toNatClampNeg y36_3) (Int32.toNatClampNeg (y55_4 + 1) - Int32.toNatClampNeg y36_3 - 1) : Nat) : Int)) := by have k5 := clampI (x := y55_4 + 1) (by omega); rw [cnI_y (k := Int32.toNatClampNeg y55_4 - Int32.toNatClampNeg y36_3 - 1) (b := Int32.toNatClampNeg y55_4) (p78_0 (by omega)) (by omega) (by omega)]; have h9 := ii55; omega
                  exact ih55 x99_2 (y55_4 + 1) c93_G233 c93_V5 hg114 hfr115 hfr116 iv55_0 iv55_1 iv55_2 iv55_3
          exact lp55 NN y36_2 x53 d36_G233 d36_V5 hg87 hfr88 hfr89 (show (1 ≤ x53.toInt ∧ x53.toInt ≤ 101) from by omega) (show (0 ≤ y36_2.toInt ∧ y36_2.toInt ≤ 100 * y36_3.toInt + x53.toInt - 1) from by omega) (show (x53.toInt ≤ ((G 203) wd).toInt ∧ y36_3.toInt + 1 ≤ x53.toInt) from by omega) (show (y36_2.toInt = ((cnO (fun a b => clB (FMT d Ws (Int32.toNatClampNeg p0) a) (FMT d Ws (Int32.toNatClampNeg p0) b)) Ws.length (Int32.toNatClampNeg y36_3) + cnI (fun a b => clB (FMT d Ws (Int32.toNatClampNeg p0) a) (FMT d Ws (Int32.toNatClampNeg p0) b)) (Int32.toNatClampNeg y36_3) (Int32.toNatClampNeg x53 - Int32.toNatClampNeg y36_3 - 1) : Nat) : Int)) from by have k5 := clampI (x := x53) (by omega); rw [show Int32.toNatClampNeg x53 - Int32.toNatClampNeg y36_3 - 1 = 0 by omega]; exact io36)
    exact lp36 NN (0 : Int32) (0 : Int32) (c29_G 233) (c29_V 5) (CInv_G233 hCI29 :) (fun (z : Nat) (hz : (z < cnt ∧ (la z < 70 ∨ 70 + 2 < la z) ∧ (la z < 90 ∨ 90 + 8 < la z) ∧ (la z < 200 ∨ 200 + 3 < la z))) => hF29_G 233 z hz.1 (fun _ => hz.2)) (fun (z : Nat) (hz : (z < cnt ∧ (la z < 70 ∨ 70 + 2 < la z) ∧ (la z < 90 ∨ 90 + 8 < la z) ∧ (la z < 200 ∨ 200 + 3 < la z))) => hF29_V 5 z hz.1 (fun _ => hz.2)) (show (0 ≤ (0 : Int32).toInt ∧ (0 : Int32).toInt ≤ 100) from by omega) (show (0 ≤ (0 : Int32).toInt ∧ (0 : Int32).toInt ≤ 100 * (0 : Int32).toInt) from by omega) (show (0 : Int32).toInt ≤ ((G 203) wd).toInt from by omega) (show ((0 : Int32).toInt = ((cnO (fun a b => clB (FMT d Ws (Int32.toNatClampNeg p0) a) (FMT d Ws (Int32.toNatClampNeg p0) b)) Ws.length (Int32.toNatClampNeg (0 : Int32)) : Nat) : Int)) from by rfl)
abbrev QF_X11_rhymes (κ : Nat → Nat) (wd : Nat) (la : Nat → Nat) (G : Nat → Nat → Int32) (P : Nat → Nat → Option Nat) (U : Nat → Nat → Int64) (V : Nat → Nat → Nat → Int32) (X : Nat → Nat → Nat → Int64) (O : Nat → Nat → Nat → Option Nat) (kd : Nat → Nat) (ln : Nat → Nat) (cnt : Nat) (this : Nat) (p0 : Int32) (ra : Nat) (tn : Nat) (bk : Nat) (nw : Nat) (nx : Nat) (wh : Nat) (pg : Nat) (fi : Nat) (pa : Nat) (pk : Nat) (sz : Nat) (cl : Nat) (fa : Nat) (fl : Nat) (sp : Nat) (lsp : Nat) (ssp : Nat) (wl : Nat) (wz : Nat) (D : Nat) (d : Nat → Dr) (Ws : List Wd) : (Int32 × (Nat → Nat → Int32) × (Nat → Nat → Option Nat) × (Nat → Nat → Int64) × (Nat → Nat → Nat → Int32) × (Nat → Nat → Nat → Int64) × (Nat → Nat → Nat → Option Nat) × (Nat → Nat) × (Nat → Nat) × Nat) → Prop := (fun t => ∃ la1 : Nat → Nat, (∀ z, z < cnt → la1 z = la z) ∧ LB la1 (t.2.2.2.2.2.2.2.2.2) (t.2.2.1) ∧ ((¬ (0 ≤ p0.toInt ∧ p0.toInt ≤ ((G 222) this).toInt) → (t.1).toInt = -2)) ∧ ((0 ≤ p0.toInt ∧ p0.toInt ≤ ((G 222) this).toInt → (t.1).toInt = ((cnO (fun a b => decide (rh3 (Ws.getD a []) (Ws.getD b [])) && !(rhB (FMT d Ws (Int32.toNatClampNeg p0) a) (FMT d Ws (Int32.toNatClampNeg p0) b))) Ws.length Ws.length : Nat) : Int))) ∧ (BKR (t.2.1) (t.2.2.1) (t.2.2.2.2.1) la1 (t.2.2.2.2.2.2.2.2.2) D (((t.2.2.2.2.2.2.1) 1) fa) (fun s => Int32.toNatClampNeg (((t.2.2.2.2.1) 3) fl s)) (FMT d Ws)) ∧ ((∀ s : Nat, s < 7 → ((G 222) this).toInt < (s : Int) → ((t.2.2.2.2.1) 3) fl s = (V 3) fl s)))
set_option maxHeartbeats 4000000 in
set_option maxRecDepth 100000 in
theorem fn_X11_rhymes (κ : Nat → Nat) (wd : Nat) (la : Nat → Nat) (G : Nat → Nat → Int32) (P : Nat → Nat → Option Nat) (U : Nat → Nat → Int64) (V : Nat → Nat → Nat → Int32) (X : Nat → Nat → Nat → Int64) (O : Nat → Nat → Nat → Option Nat) (kd : Nat → Nat) (ln : Nat → Nat) (cnt : Nat) (this : Nat) (p0 : Int32) (ra : Nat) (tn : Nat) (bk : Nat) (nw : Nat) (nx : Nat) (wh : Nat) (pg : Nat) (fi : Nat) (pa : Nat) (pk : Nat) (sz : Nat) (cl : Nat) (fa : Nat) (fl : Nat) (sp : Nat) (lsp : Nat) (ssp : Nat) (wl : Nat) (wz : Nat) (D : Nat) (d : Nat → Dr) (Ws : List Wd) (hI : CInv κ wd G P V O ln cnt) (hk_this : κ this = 12) (hB : LB la cnt P) (hlt_this : this < cnt) (hpl0 : la this = 200) (h221 : (P 221) this = some ra) (h226 : (P 226) this = some tn) (h229 : (P 229) this = some bk) (h181 : (P 181) tn = some nw) (h182 : (P 182) tn = some nx) (hnn : nw ≠ nx) (h185 : (P 185) tn = some wh) (h180 : (P 180) tn = some pg) (hfi : (P 63) pg = some fi) (hpa : (P 65) pg = some pa) (hpk : (P 62) pg = some pk) (hsz : (P 61) pg = some sz) (hcl : (P 64) pg = some cl) (hlt9 : la tn = 90) (h1 : (P 1) bk = some fa) (h3 : (P 3) bk = some fl) (h4 : (P 4) bk = some sp) (hls : (P 201) sp = some lsp) (hss : (P 202) sp = some ssp) (hw4 : ((G 200) sp).toInt = ((24 : Nat) : Int)) (hn4 : ln ssp = 12) (hwl : (P 201) wd = some wl) (hwz : (P 202) wd = some wz) (hww : ((G 200) wd).toInt = ((24 : Nat) : Int)) (hWs : rwW ((G 203) wd) ((V 0) wl) ((V 1) wz) 24 = Ws) (hWw : WDS Ws) (hbk : BKR G P V la cnt D ((O 1) fa) (fun s => Int32.toNatClampNeg ((V 3) fl s)) (FMT d Ws)) (hDc : D < 100000 + 10 * cnt) (h0 : (P 0) bk = some wd) (hl7 : ln fl = 7 ∧ ln fa = 700) (hl6 : ln ra = 6) (hrf : ∀ q, q < Int32.toNatClampNeg ((G 222) this) → ∃ rf, (O 2) ra q = some rf ∧ rf < cnt ∧ 100000 ≤ la rf ∧ RFX G P V O ln la cnt rf (d q)) : pw (f_X11_rhymes G P U V X O kd ln cnt this p0) (sp1 (QF_X11_rhymes κ wd la G P U V X O kd ln cnt this p0 ra tn bk nw nx wh pg fi pa pk sz cl fa fl sp lsp ssp wl wz D d Ws)) := by
  unfold f_X11_rhymes
  have zkm2 : (-2 : Int32).toInt = -2 := by decide +kernel
  have zk0 : (0 : Int32).toInt = 0 := by decide +kernel
  have zk1 : (1 : Int32).toInt = 1 := by decide +kernel
  have r_p0 := i32r p0
  replace hnn : id _ := hnn
  have hn1 : (P 221) this = some ra := h221
  obtain ⟨_, lt_ra2, lb_ra2⟩ := (hB.1 221 fl_221) this ra hn1
  have lb_ra2 : la ra = 203 := (lk_221.mp lb_ra2).trans (congrArg (fun z9 => z9 + 3) hpl0)
  have hk_ra := (((CInv_P221 hI :) this).2 ra hn1).1
  have hl1_ra := (((CInv_P221 hI :) this).2 ra hn1).2.1
  have hl2_ra := (((CInv_P221 hI :) this).2 ra hn1).2.2.1
  have hw_ra : id _ := (((CInv_P221 hI :) this).2 ra hn1).2.2.2
  have hz_ra : (Int32.ofNat (ln ra)).toInt = ((ln ra : Nat) : Int) := ofN_eq (by first | exact Nat.le_trans hl2_ra (by decide) | omega)
  have hn3 : (P 226) this = some tn := h226
  have lt_tn4 := ((hB.1 226 fl_226) this tn hn3).2.1
  have lb_tn4 : la tn = 90 := lk_226.mp ((hB.1 226 fl_226) this tn hn3).2.2
  have hk_tn := (((CInv_P226 hI :) this).2 tn hn3).1
  have hl1_tn := (((CInv_P226 hI :) this).2 tn hn3).2.1
  have hl2_tn := (((CInv_P226 hI :) this).2 tn hn3).2.2.1
  have hw_tn : id _ := (((CInv_P226 hI :) this).2 tn hn3).2.2.2
  have hn5 : (P 229) this = some bk := h229
  have lt_bk6 := ((hB.1 229 fl_229) this bk hn5).2.1
  have lb_bk6 : la bk = 70 := lk_229.mp ((hB.1 229 fl_229) this bk hn5).2.2
  have hk_bk := (((CInv_P229 hI :) this).2 bk hn5).1
  have hl1_bk := (((CInv_P229 hI :) this).2 bk hn5).2.1
  have hl2_bk := (((CInv_P229 hI :) this).2 bk hn5).2.2.1
  have hw_bk : id _ := (((CInv_P229 hI :) this).2 bk hn5).2.2.2
  have hn7 : (P 3) bk = some fl := h3
  obtain ⟨_, lt_fl8, lb_fl8⟩ := (hB.1 3 fl_3) bk fl hn7
  have lb_fl8 : la fl = 70 := (lk_3.mp lb_fl8).trans (congrArg (fun z9 => z9 + 0) lb_bk6)
  have hk_fl := (((CInv_P3 hI :) bk).2 fl hn7).1
  have hl1_fl := (((CInv_P3 hI :) bk).2 fl hn7).2.1
  have hl2_fl := (((CInv_P3 hI :) bk).2 fl hn7).2.2.1
  have hw_fl : id _ := (((CInv_P3 hI :) bk).2 fl hn7).2.2.2
  have hz_fl : (Int32.ofNat (ln fl)).toInt = ((ln fl : Nat) : Int) := ofN_eq (by first | exact Nat.le_trans hl2_fl (by decide) | omega)
  have hn9 : (P 1) bk = some fa := h1
  obtain ⟨_, lt_fa10, lb_fa10⟩ := (hB.1 1 fl_1) bk fa hn9
  have lb_fa10 : la fa = 70 := (lk_1.mp lb_fa10).trans (congrArg (fun z9 => z9 + 0) lb_bk6)
  have hk_fa := (((CInv_P1 hI :) bk).2 fa hn9).1
  have hl1_fa := (((CInv_P1 hI :) bk).2 fa hn9).2.1
  have hl2_fa := (((CInv_P1 hI :) bk).2 fa hn9).2.2.1
  have hw_fa : id _ := (((CInv_P1 hI :) bk).2 fa hn9).2.2.2
  have hz_fa : (Int32.ofNat (ln fa)).toInt = ((ln fa : Nat) : Int) := ofN_eq (by first | exact Nat.le_trans hl2_fa (by decide) | omega)
  have hn11 : (P 0) bk = some wd := h0
  have lt_wd12 := ((hB.1 0 fl_0) bk wd hn11).2.1
  have lb_wd12 : la wd = 20 := lk_0.mp ((hB.1 0 fl_0) bk wd hn11).2.2
  have hk_wd := (((CInv_P0 hI :) bk).2 wd hn11).1
  have hl1_wd := (((CInv_P0 hI :) bk).2 wd hn11).2.1
  have hl2_wd := (((CInv_P0 hI :) bk).2 wd hn11).2.2.1
  have hw_wd : id _ := (((CInv_P0 hI :) bk).2 wd hn11).2.2.2
  have hn13 : (P 201) wd = some wl := hwl
  obtain ⟨_, lt_wl14, lb_wl14⟩ := (hB.1 201 fl_201) wd wl hn13
  have lb_wl14 : la wl = 20 := (lk_201.mp lb_wl14).trans (congrArg (fun z9 => z9 + 0) lb_wd12)
  have hk_wl := (((CInv_P201 hI :) wd).2 wl hn13).1
  have hl1_wl := (((CInv_P201 hI :) wd).2 wl hn13).2.1
  have hl2_wl := (((CInv_P201 hI :) wd).2 wl hn13).2.2.1
  have hw_wl : id _ := (((CInv_P201 hI :) wd).2 wl hn13).2.2.2
  have hz_wl : (Int32.ofNat (ln wl)).toInt = ((ln wl : Nat) : Int) := ofN_eq (by first | exact Nat.le_trans hl2_wl (by decide) | omega)
  have hn15 : (P 202) wd = some wz := hwz
  obtain ⟨_, lt_wz16, lb_wz16⟩ := (hB.1 202 fl_202) wd wz hn15
  have lb_wz16 : la wz = 20 := (lk_202.mp lb_wz16).trans (congrArg (fun z9 => z9 + 0) lb_wd12)
  have hk_wz := (((CInv_P202 hI :) wd).2 wz hn15).1
  have hl1_wz := (((CInv_P202 hI :) wd).2 wz hn15).2.1
  have hl2_wz := (((CInv_P202 hI :) wd).2 wz hn15).2.2.1
  have hw_wz : id _ := (((CInv_P202 hI :) wd).2 wz hn15).2.2.2
  have hz_wz : (Int32.ofNat (ln wz)).toInt = ((ln wz : Nat) : Int) := ofN_eq (by first | exact Nat.le_trans hl2_wz (by decide) | omega)
  have rb17 := ((CInv_RB hI :) wd wz hk_wd hn15).1
  have ra18 := (CInv_RA hI :) wd wl wz hk_wd hn13 hn15
  have bw19 := (CInv_G200 hI :) wd
  have hb222 := (CInv_G222 hI :) this
  have hb222 := (CInv_G222 hI :) this
  have c222 := clampI (x := (G 222) this) (by omega)
  refine pw_b1 (fun r2 hc2 => ?_)
  have hq2 := wp_at (ok_X11_isStage κ wd G P U V X O kd ln cnt this p0 (CInv_G222 hI :) (CInv_LN hI :) hk_this) hc2
  obtain ⟨f20, f21⟩ : ((0 ≤ r2.toInt ∧ r2.toInt ≤ 1)) ∧ (id ((r2.toInt = 1 → 0 ≤ p0.toInt ∧ p0.toInt ≤ ((G 222) this).toInt))) := hq2
  have hx2 := pwq (fn_X11_isStage κ wd la G P U V X O kd ln cnt this p0 (CInv_G222 hI :) (CInv_LN hI :) hk_this hB hlt_this) hc2
  obtain ⟨p2_0, p2_1⟩ : (id ((r2.toInt ≠ 0 → 0 ≤ p0.toInt ∧ p0.toInt ≤ ((G 222) this).toInt))) ∧ (id ((r2.toInt = 0 → ¬ (0 ≤ p0.toInt ∧ p0.toInt ≤ ((G 222) this).toInt)))) := hx2
  refine pw_ite (fun c5 => ?_) (fun c5 => ?_)
  · have c5 := congrArg Int32.toInt c5
    have qq0 : id ((¬ (0 ≤ p0.toInt ∧ p0.toInt ≤ ((G 222) this).toInt) → (-2 : Int32).toInt = -2)) := show (¬ (0 ≤ p0.toInt ∧ p0.toInt ≤ ((G 222) this).toInt) → (-2 : Int32).toInt = -2) from by intro _; omega
    have qq1 : id ((0 ≤ p0.toInt ∧ p0.toInt ≤ ((G 222) this).toInt → (-2 : Int32).toInt = ((cnO (fun a b => decide (rh3 (Ws.getD a []) (Ws.getD b [])) && !(rhB (FMT d Ws (Int32.toNatClampNeg p0) a) (FMT d Ws (Int32.toNatClampNeg p0) b))) Ws.length Ws.length : Nat) : Int))) := show (0 ≤ p0.toInt ∧ p0.toInt ≤ ((G 222) this).toInt → (-2 : Int32).toInt = ((cnO (fun a b => decide (rh3 (Ws.getD a []) (Ws.getD b [])) && !(rhB (FMT d Ws (Int32.toNatClampNeg p0) a) (FMT d Ws (Int32.toNatClampNeg p0) b))) Ws.length Ws.length : Nat) : Int)) from by intro h; exfalso; exact p2_1 (by omega) h
    have qq2 : BKR G P V la cnt D ((O 1) fa) (fun s => Int32.toNatClampNeg ((V 3) fl s)) (FMT d Ws) := by exact BKR_fr hbk hB (fun _ => rfl) (fun _ _ => ⟨rfl, rfl, rfl⟩) (fun _ _ _ _ => ⟨rfl, rfl, rfl⟩) (Nat.le_refl _) (fun _ _ => rfl) (fun _ _ h => h)
    have qq3 : id ((∀ s : Nat, s < 7 → ((G 222) this).toInt < (s : Int) → (V 3) fl s = (V 3) fl s)) := show (∀ s : Nat, s < 7 → ((G 222) this).toInt < (s : Int) → (V 3) fl s = (V 3) fl s) from by exact fun _ _ _ => rfl
    exact pw_some ⟨la, (fun _ _ => rfl), hB, qq0, qq1, qq2, qq3⟩
  · have c5 : r2.toInt = 1 := by have z9 := z_ne c5; omega
    have st9 := p2_0 (by omega)
    have cp0 := clampI (x := p0) (by omega)
    refine pw_nne hn5 ?_
    refine pw_nne hn1 ?_
    refine pw_nne hn3 ?_
    have hpr24_0 : ln ra = 6 := by first | assumption | omega
    refine pw_bA9 (fun c24_G c24_P c24_U c24_V c24_X c24_O c24_kd c24_ln c24_cnt v1_24 v2_24 hc24 => ?_)
    have hq24 := wp_at (ok_X0_fill κ wd G P U V X O kd ln cnt bk p0 ra tn (CInv_i (CInv_G43 hI :) (CInv_G44 hI :) (CInv_G45 hI :) (CInv_G60 hI :) (CInv_G83 hI :) (CInv_G84 hI :) (CInv_G85 hI :) (CInv_G87 hI :) (CInv_G88 hI :) (CInv_G102 hI :) (CInv_G125 hI :) (CInv_G126 hI :) (CInv_G127 hI :) (CInv_G141 hI :) (CInv_G160 hI :) (CInv_G161 hI :) (CInv_G162 hI :) (CInv_G165 hI :) (CInv_G166 hI :) (CInv_G183 hI :) (CInv_G200 hI :) (CInv_G203 hI :) (CInv_G222 hI :) (CInv_G231 hI :) (CInv_G233 hI :) (CInv_P0 hI :) (CInv_P1 hI :) (CInv_P2 hI :) (CInv_P3 hI :) (CInv_P4 hI :) (CInv_P5 hI :) (CInv_P20 hI :) (CInv_P21 hI :) (CInv_P22 hI :) (CInv_P23 hI :) (CInv_P40 hI :) (CInv_P41 hI :) (CInv_P42 hI :) (CInv_P61 hI :) (CInv_P62 hI :) (CInv_P63 hI :) (CInv_P64 hI :) (CInv_P65 hI :) (CInv_P66 hI :) (CInv_P82 hI :) (CInv_P101 hI :) (CInv_P103 hI :) (CInv_P104 hI :) (CInv_P105 hI :) (CInv_P106 hI :) (CInv_P108 hI :) (CInv_P109 hI :) (CInv_P110 hI :) (CInv_P120 hI :) (CInv_P121 hI :) (CInv_P122 hI :) (CInv_P123 hI :) (CInv_P140 hI :) (CInv_P164 hI :) (CInv_P180 hI :) (CInv_P181 hI :) (CInv_P182 hI :) (CInv_P185 hI :) (CInv_P186 hI :) (CInv_P187 hI :) (CInv_P201 hI :) (CInv_P202 hI :) (CInv_P220 hI :) (CInv_P221 hI :) (CInv_P224 hI :) (CInv_P225 hI :) (CInv_P226 hI :) (CInv_P227 hI :) (CInv_P228 hI :) (CInv_P229 hI :) (CInv_P230 hI :) (CInv_P232 hI :) (CInv_P234 hI :) (CInv_P235 hI :) (CInv_P236 hI :) (CInv_V1 hI :) (CInv_V2 hI :) (CInv_V3 hI :) (CInv_V9 hI :) (CInv_O0 hI :) (CInv_O1 hI :) (CInv_O2 hI :) (CInv_RA hI :) (CInv_RB hI :) (CInv_RI hI :) (CInv_RM103 hI :) (CInv_RM104 hI :) (CInv_RM108 hI :) (CInv_LN hI :) (CInv_FL hI :) (CInv_W0 hI :) (CInv_KC hI :) (CInv_WK hI :)) hk_bk hk_ra hk_tn hpr24_0) hc24
    obtain ⟨κ24_21, hCI24, hxx24, hcc23, hfr24, hfr25, hfr26, hfr27, hfr28, hfr29, hfr30, hfr31, hfr32, f33, f34⟩ : ∃ κ1 : Nat → Nat, (CInv κ1 wd c24_G c24_P c24_V c24_O c24_ln c24_cnt) ∧ (∀ a, κ a ≠ 0 → κ1 a = κ a) ∧ (cnt ≤ c24_cnt) ∧ ((∀ a, κ a ≠ 0 → (c24_P 220) a = (P 220) a)) ∧ ((∀ a, κ a ≠ 0 → (c24_P 229) a = (P 229) a)) ∧ ((∀ a, κ a ≠ 0 → (c24_P 3) a = (P 3) a)) ∧ ((∀ a, κ a ≠ 0 → (c24_G 141) a = (G 141) a)) ∧ ((∀ a, κ a ≠ 0 → (c24_G 83) a = (G 83) a)) ∧ ((∀ a, κ a ≠ 0 → (c24_P 82) a = (P 82) a)) ∧ ((∀ a, κ a ≠ 0 → (c24_P 0) a = (P 0) a)) ∧ ((∀ a, κ a ≠ 0 → (c24_G 160) a = (G 160) a)) ∧ ((∀ a, κ a ≠ 0 → c24_ln a = ln a)) ∧ ((c24_G 203) wd = (G 203) wd) ∧ (id ((∀ fl, (P 3) bk = some fl → (((v1_24 : Nat) : Int) + 3 * s7 ((V 3) fl) ≤ 3 * s7 ((c24_V 3) fl)) ∧ (((v2_24 : Nat) : Int) + 2504 * s7 ((V 3) fl) ≤ 2504 * s7 ((c24_V 3) fl))))) := hq24
    have kx35 : ∀ a, κ a ≠ 0 → κ24_21 a = κ a := hxx24
    have hk36 : κ24_21 this = 12 := kxk hxx24 hk_this (by decide)
    have hq24 := pwq (fr_X0_fill la G P U V X O kd ln cnt bk p0 ra tn hB lt_bk6 lt_ra2 lt_tn4) hc24
    obtain ⟨la24_f, agf24, hBf24, ccf24, fG24, fP24, fU24, fV24, fX24, fO24, fl24⟩ : ∃ la9 : Nat → Nat, (∀ z, z < cnt → la9 z = la z) ∧ LB la9 c24_cnt c24_P ∧ cnt ≤ c24_cnt ∧ FRM cnt [60, 183, 203] (fun z => (la z < la bk ∨ la bk + 2 < la z) ∧ (la z < la tn ∨ la tn + 8 < la z)) G c24_G ∧ FRM cnt [66, 181, 182] (fun z => (la z < la bk ∨ la bk + 2 < la z) ∧ (la z < la tn ∨ la tn + 8 < la z)) P c24_P ∧ FRM cnt [184] (fun z => (la z < la bk ∨ la bk + 2 < la z) ∧ (la z < la tn ∨ la tn + 8 < la z)) U c24_U ∧ FRM cnt [0, 1, 2, 3, 12] (fun z => (la z < la bk ∨ la bk + 2 < la z) ∧ (la z < la tn ∨ la tn + 8 < la z)) V c24_V ∧ FRM cnt [1] (fun z => (la z < la bk ∨ la bk + 2 < la z) ∧ (la z < la tn ∨ la tn + 8 < la z)) X c24_X ∧ FRM cnt [1] (fun z => (la z < la bk ∨ la bk + 2 < la z) ∧ (la z < la tn ∨ la tn + 8 < la z)) O c24_O ∧ (∀ z, z < cnt → c24_ln z = ln z) := hq24
    have h824_h181 : (P 181) tn = some nw := by exact h181
    have h824_h182 : (P 182) tn = some nx := by exact h182
    have h824_hnn : nw ≠ nx := by exact hnn
    have h824_h185 : (P 185) tn = some wh := by exact h185
    have h824_h180 : (P 180) tn = some pg := by exact h180
    have h824_hfi : (P 63) pg = some fi := by exact hfi
    have h824_hpa : (P 65) pg = some pa := by exact hpa
    have h824_hpk : (P 62) pg = some pk := by exact hpk
    have h824_hsz : (P 61) pg = some sz := by exact hsz
    have h824_hcl : (P 64) pg = some cl := by exact hcl
    have h824_hlt9 : la tn = 90 := by exact hlt9
    have h824_h1 : (P 1) bk = some fa := by exact h1
    have h824_h3 : (P 3) bk = some fl := by exact h3
    have h824_h4 : (P 4) bk = some sp := by exact h4
    have h824_hls : (P 201) sp = some lsp := by exact hls
    have h824_hss : (P 202) sp = some ssp := by exact hss
    have h824_hw4 : ((G 200) sp).toInt = ((24 : Nat) : Int) := by exact hw4
    have h824_hn4 : ln ssp = 12 := by exact hn4
    have h824_hwl : (P 201) wd = some wl := by exact hwl
    have h824_hwz : (P 202) wd = some wz := by exact hwz
    have h824_hww : ((G 200) wd).toInt = ((24 : Nat) : Int) := by exact hww
    have h824_hWs : rwW ((G 203) wd) ((V 0) wl) ((V 1) wz) 24 = Ws := by exact hWs
    have h824_hWw : WDS Ws := by exact hWw
    have h824_hlb : la bk = 70 := by omega
    have h824_hlw : la wd = 20 := by omega
    have h824_hst : 0 ≤ p0.toInt ∧ p0.toInt ≤ 6 := by omega
    have h824_hrf : id (∀ q : Nat, (q : Int) < p0.toInt → ∃ rf, (O 2) ra q = some rf ∧ rf < cnt ∧ 100000 ≤ la rf ∧ RFX G P V O ln la cnt rf (d q)) := show ∀ q : Nat, (q : Int) < p0.toInt → ∃ rf, (O 2) ra q = some rf ∧ rf < cnt ∧ 100000 ≤ la rf ∧ RFX G P V O ln la cnt rf (d q) from by exact fun q hq => (by obtain ⟨rf9, y1, y2, y3, y4⟩ := hrf q (by omega); exact ⟨rf9, y1, y2, y3, RFX_fr y4 hB y2 (fun z hz h3 h4 => ⟨rfl, rfl, rfl, rfl, rfl, rfl, rfl, rfl, rfl, rfl, rfl, rfl, rfl, rfl, rfl, rfl, rfl, rfl, rfl, rfl, rfl, rfl, rfl, rfl, rfl, rfl⟩) (Nat.le_refl _) (fun _ _ => rfl)⟩)
    have h824_hbk : BKR G P V la cnt D ((O 1) fa) (fun s => Int32.toNatClampNeg ((V 3) fl s)) (FMT d Ws) := by exact BKR_fr hbk hB (fun _ => rfl) (fun _ _ => ⟨rfl, rfl, rfl⟩) (fun _ _ _ _ => ⟨rfl, rfl, rfl⟩) (Nat.le_refl _) (fun _ _ => rfl) (fun _ _ h => h)
    have h824_hDc : D < 100000 + 10 * cnt := by exact hDc
    have h824_h0 : (P 0) bk = some wd := by exact h0
    have h824_hl7 : ln fl = 7 ∧ ln fa = 700 := by exact hl7
    have hx24 := pwq (fn_X0_fill κ wd la G P U V X O kd ln cnt bk p0 ra tn (nw) (nx) (wh) (pg) (fi) (pa) (pk) (sz) (cl) (fa) (fl) (sp) (lsp) (ssp) (wl) (wz) (D) (d) (Ws) (CInv_i (CInv_G43 hI :) (CInv_G44 hI :) (CInv_G45 hI :) (CInv_G60 hI :) (CInv_G83 hI :) (CInv_G84 hI :) (CInv_G85 hI :) (CInv_G87 hI :) (CInv_G88 hI :) (CInv_G102 hI :) (CInv_G125 hI :) (CInv_G126 hI :) (CInv_G127 hI :) (CInv_G141 hI :) (CInv_G160 hI :) (CInv_G161 hI :) (CInv_G162 hI :) (CInv_G165 hI :) (CInv_G166 hI :) (CInv_G183 hI :) (CInv_G200 hI :) (CInv_G203 hI :) (CInv_G222 hI :) (CInv_G231 hI :) (CInv_G233 hI :) (CInv_P0 hI :) (CInv_P1 hI :) (CInv_P2 hI :) (CInv_P3 hI :) (CInv_P4 hI :) (CInv_P5 hI :) (CInv_P20 hI :) (CInv_P21 hI :) (CInv_P22 hI :) (CInv_P23 hI :) (CInv_P40 hI :) (CInv_P41 hI :) (CInv_P42 hI :) (CInv_P61 hI :) (CInv_P62 hI :) (CInv_P63 hI :) (CInv_P64 hI :) (CInv_P65 hI :) (CInv_P66 hI :) (CInv_P82 hI :) (CInv_P101 hI :) (CInv_P103 hI :) (CInv_P104 hI :) (CInv_P105 hI :) (CInv_P106 hI :) (CInv_P108 hI :) (CInv_P109 hI :) (CInv_P110 hI :) (CInv_P120 hI :) (CInv_P121 hI :) (CInv_P122 hI :) (CInv_P123 hI :) (CInv_P140 hI :) (CInv_P164 hI :) (CInv_P180 hI :) (CInv_P181 hI :) (CInv_P182 hI :) (CInv_P185 hI :) (CInv_P186 hI :) (CInv_P187 hI :) (CInv_P201 hI :) (CInv_P202 hI :) (CInv_P220 hI :) (CInv_P221 hI :) (CInv_P224 hI :) (CInv_P225 hI :) (CInv_P226 hI :) (CInv_P227 hI :) (CInv_P228 hI :) (CInv_P229 hI :) (CInv_P230 hI :) (CInv_P232 hI :) (CInv_P234 hI :) (CInv_P235 hI :) (CInv_P236 hI :) (CInv_V1 hI :) (CInv_V2 hI :) (CInv_V3 hI :) (CInv_V9 hI :) (CInv_O0 hI :) (CInv_O1 hI :) (CInv_O2 hI :) (CInv_RA hI :) (CInv_RB hI :) (CInv_RI hI :) (CInv_RM103 hI :) (CInv_RM104 hI :) (CInv_RM108 hI :) (CInv_LN hI :) (CInv_FL hI :) (CInv_W0 hI :) (CInv_KC hI :) (CInv_WK hI :)) hk_bk hk_ra hk_tn hpr24_0 hB lt_bk6 lt_ra2 lt_tn4 h824_h181 h824_h182 h824_hnn h824_h185 h824_h180 h824_hfi h824_hpa h824_hpk h824_hsz h824_hcl h824_hlt9 h824_h1 h824_h3 h824_h4 h824_hls h824_hss h824_hw4 h824_hn4 h824_hwl h824_hwz h824_hww h824_hWs h824_hWw h824_hlb h824_hlw h824_hst h824_hrf h824_hbk h824_hDc h824_h0 h824_hl7) hc24
    obtain ⟨la24, ag24, hB24, p24_0, p24_1⟩ : ∃ la9 : Nat → Nat, (∀ z, z < cnt → la9 z = la z) ∧ LB la9 c24_cnt c24_P ∧ (BKR c24_G c24_P c24_V la9 c24_cnt D ((c24_O 1) fa) (fun s => Int32.toNatClampNeg ((c24_V 3) fl s)) (FMT d Ws)) ∧ (id ((∀ s : Nat, s < 7 → (c24_V 3) fl s = (if (s : Int) ≤ p0.toInt then (G 203) wd else (V 3) fl s)))) := hx24
    clear h824_hl7 h824_h0 h824_hDc h824_hbk h824_hrf h824_hst h824_hlw h824_hlb h824_hWw h824_hWs h824_hww h824_hwz h824_hwl h824_hn4 h824_hw4 h824_hss h824_hls h824_h4 h824_h3 h824_h1 h824_hlt9 h824_hcl h824_hsz h824_hpk h824_hpa h824_hfi h824_h180 h824_h185 h824_hnn h824_h182 h824_h181 agf24 hBf24 hk36 kx35 hxx24 hfr24 hfr25 hfr26 hfr27 hfr28 hfr29 hfr30 hfr31 hfr32 hc24 hpr24_0 hc2
    have gl_37 : la24 this = 200 := (ag24 this hlt_this).trans hpl0
    have lt38 : this < c24_cnt := Nat.lt_of_lt_of_le hlt_this ccf24
    have gl_39 : la24 ra = 203 := (ag24 ra lt_ra2).trans lb_ra2
    have lt40 : ra < c24_cnt := Nat.lt_of_lt_of_le lt_ra2 ccf24
    have gl_41 : la24 tn = 90 := (ag24 tn lt_tn4).trans lb_tn4
    have lt42 : tn < c24_cnt := Nat.lt_of_lt_of_le lt_tn4 ccf24
    have gl_43 : la24 bk = 70 := (ag24 bk lt_bk6).trans lb_bk6
    have lt44 : bk < c24_cnt := Nat.lt_of_lt_of_le lt_bk6 ccf24
    have gl_45 : la24 fl = 70 := (ag24 fl lt_fl8).trans lb_fl8
    have lt46 : fl < c24_cnt := Nat.lt_of_lt_of_le lt_fl8 ccf24
    have gl_47 : la24 fa = 70 := (ag24 fa lt_fa10).trans lb_fa10
    have lt48 : fa < c24_cnt := Nat.lt_of_lt_of_le lt_fa10 ccf24
    have gl_49 : la24 wd = 20 := (ag24 wd lt_wd12).trans lb_wd12
    have lt50 : wd < c24_cnt := Nat.lt_of_lt_of_le lt_wd12 ccf24
    have gl_51 : la24 wl = 20 := (ag24 wl lt_wl14).trans lb_wl14
    have lt52 : wl < c24_cnt := Nat.lt_of_lt_of_le lt_wl14 ccf24
    have gl_53 : la24 wz = 20 := (ag24 wz lt_wz16).trans lb_wz16
    have lt54 : wz < c24_cnt := Nat.lt_of_lt_of_le lt_wz16 ccf24
    have hag24 : ∀ z, z < cnt → la24 z = la z := fun z hz => (ag24 z (Nat.lt_of_lt_of_le hz (Nat.le_refl _))).trans (rfl)
    have hle24 : cnt ≤ cnt := (Nat.le_refl _)
    have ctf24 : ∀ z, z < cnt → ((la z < 70 ∨ 70 + 2 < la z) ∧ (la z < 90 ∨ 90 + 8 < la z)) → ((la z < la bk ∨ la bk + 2 < la z) ∧ (la z < la tn ∨ la tn + 8 < la z)) := fun z h0 hz => by have q2 := hB.2 z h0; omega
    have hF24_G : FRM cnt [60, 183, 203] (fun z => (la z < 70 ∨ 70 + 2 < la z) ∧ (la z < 90 ∨ 90 + 8 < la z)) G c24_G := FRM_trans FRM_refl fG24 hle24 (by decide) (ctf24)
    have hF24_P : FRM cnt [66, 181, 182] (fun z => (la z < 70 ∨ 70 + 2 < la z) ∧ (la z < 90 ∨ 90 + 8 < la z)) P c24_P := FRM_trans FRM_refl fP24 hle24 (by decide) (ctf24)
    have hF24_U : FRM cnt [184] (fun z => (la z < 70 ∨ 70 + 2 < la z) ∧ (la z < 90 ∨ 90 + 8 < la z)) U c24_U := FRM_trans FRM_refl fU24 hle24 (by decide) (ctf24)
    have hF24_V : FRM cnt [0, 1, 2, 3, 12] (fun z => (la z < 70 ∨ 70 + 2 < la z) ∧ (la z < 90 ∨ 90 + 8 < la z)) V c24_V := FRM_trans FRM_refl fV24 hle24 (by decide) (ctf24)
    have hF24_X : FRM cnt [1] (fun z => (la z < 70 ∨ 70 + 2 < la z) ∧ (la z < 90 ∨ 90 + 8 < la z)) X c24_X := FRM_trans FRM_refl fX24 hle24 (by decide) (ctf24)
    have hF24_O : FRM cnt [1] (fun z => (la z < 70 ∨ 70 + 2 < la z) ∧ (la z < 90 ∨ 90 + 8 < la z)) O c24_O := FRM_trans FRM_refl fO24 hle24 (by decide) (ctf24)
    have hlnn24 : ∀ z, z < cnt → c24_ln z = ln z := fun z hz => (fl24 z (Nat.lt_of_lt_of_le hz hle24)).trans (rfl)
    clear hlnn24 hF24_O hF24_X hF24_V hF24_U hF24_P hF24_G ag24 fU24 fX24 fO24 fl24
    have hn55 : (c24_P 221) this = some ra := (fP24 221 this hlt_this (fun q => absurd q (by decide))).trans hn1
    have lt_ra56 := ((hB24.1 221 fl_221) this ra hn55).2.1
    have hk_ra := (((CInv_P221 hCI24 :) this).2 ra hn55).1
    have hl1_ra := (((CInv_P221 hCI24 :) this).2 ra hn55).2.1
    have hl2_ra := (((CInv_P221 hCI24 :) this).2 ra hn55).2.2.1
    have hw_ra : id _ := (((CInv_P221 hCI24 :) this).2 ra hn55).2.2.2
    have hn57 : (c24_P 226) this = some tn := (fP24 226 this hlt_this (fun q => absurd q (by decide))).trans hn3
    have lt_tn58 := ((hB24.1 226 fl_226) this tn hn57).2.1
    have hk_tn := (((CInv_P226 hCI24 :) this).2 tn hn57).1
    have hl1_tn := (((CInv_P226 hCI24 :) this).2 tn hn57).2.1
    have hl2_tn := (((CInv_P226 hCI24 :) this).2 tn hn57).2.2.1
    have hw_tn : id _ := (((CInv_P226 hCI24 :) this).2 tn hn57).2.2.2
    have hn59 : (c24_P 229) this = some bk := (fP24 229 this hlt_this (fun q => absurd q (by decide))).trans hn5
    have lt_bk60 := ((hB24.1 229 fl_229) this bk hn59).2.1
    have hk_bk := (((CInv_P229 hCI24 :) this).2 bk hn59).1
    have hl1_bk := (((CInv_P229 hCI24 :) this).2 bk hn59).2.1
    have hl2_bk := (((CInv_P229 hCI24 :) this).2 bk hn59).2.2.1
    have hw_bk : id _ := (((CInv_P229 hCI24 :) this).2 bk hn59).2.2.2
    have hn61 : (c24_P 3) bk = some fl := (fP24 3 bk lt_bk6 (fun q => absurd q (by decide))).trans hn7
    have lt_fl62 := ((hB24.1 3 fl_3) bk fl hn61).2.1
    have hk_fl := (((CInv_P3 hCI24 :) bk).2 fl hn61).1
    have hl1_fl := (((CInv_P3 hCI24 :) bk).2 fl hn61).2.1
    have hl2_fl := (((CInv_P3 hCI24 :) bk).2 fl hn61).2.2.1
    have hw_fl : id _ := (((CInv_P3 hCI24 :) bk).2 fl hn61).2.2.2
    have hn63 : (c24_P 1) bk = some fa := (fP24 1 bk lt_bk6 (fun q => absurd q (by decide))).trans hn9
    have lt_fa64 := ((hB24.1 1 fl_1) bk fa hn63).2.1
    have hk_fa := (((CInv_P1 hCI24 :) bk).2 fa hn63).1
    have hl1_fa := (((CInv_P1 hCI24 :) bk).2 fa hn63).2.1
    have hl2_fa := (((CInv_P1 hCI24 :) bk).2 fa hn63).2.2.1
    have hw_fa : id _ := (((CInv_P1 hCI24 :) bk).2 fa hn63).2.2.2
    have hn65 : (c24_P 0) bk = some wd := (fP24 0 bk lt_bk6 (fun q => absurd q (by decide))).trans hn11
    have lt_wd66 := ((hB24.1 0 fl_0) bk wd hn65).2.1
    have hk_wd := (((CInv_P0 hCI24 :) bk).2 wd hn65).1
    have hl1_wd := (((CInv_P0 hCI24 :) bk).2 wd hn65).2.1
    have hl2_wd := (((CInv_P0 hCI24 :) bk).2 wd hn65).2.2.1
    have hw_wd : id _ := (((CInv_P0 hCI24 :) bk).2 wd hn65).2.2.2
    have hn67 : (c24_P 201) wd = some wl := (fP24 201 wd lt_wd12 (fun q => absurd q (by decide))).trans hn13
    have lt_wl68 := ((hB24.1 201 fl_201) wd wl hn67).2.1
    have hk_wl := (((CInv_P201 hCI24 :) wd).2 wl hn67).1
    have hl1_wl := (((CInv_P201 hCI24 :) wd).2 wl hn67).2.1
    have hl2_wl := (((CInv_P201 hCI24 :) wd).2 wl hn67).2.2.1
    have hw_wl : id _ := (((CInv_P201 hCI24 :) wd).2 wl hn67).2.2.2
    have hn69 : (c24_P 202) wd = some wz := (fP24 202 wd lt_wd12 (fun q => absurd q (by decide))).trans hn15
    have lt_wz70 := ((hB24.1 202 fl_202) wd wz hn69).2.1
    have hk_wz := (((CInv_P202 hCI24 :) wd).2 wz hn69).1
    have hl1_wz := (((CInv_P202 hCI24 :) wd).2 wz hn69).2.1
    have hl2_wz := (((CInv_P202 hCI24 :) wd).2 wz hn69).2.2.1
    have hw_wz : id _ := (((CInv_P202 hCI24 :) wd).2 wz hn69).2.2.2
    have rb71 := ((CInv_RB hCI24 :) wd wz hk_wd hn69).1
    have gzw : (c24_G 203) wd = (G 203) wd := fG24 203 wd (by omega) (fun _ => show (la wd < la bk ∨ la bk + 2 < la wd) ∧ (la wd < la tn ∨ la tn + 8 < la wd) from by omega)
    have gzwi := congrArg Int32.toInt gzw
    have hv0w : (c24_V 0) wl = (V 0) wl := fV24 0 wl (by omega) (fun _ => show (la wl < la bk ∨ la bk + 2 < la wl) ∧ (la wl < la tn ∨ la tn + 8 < la wl) from by omega)
    have hv1w : (c24_V 1) wz = (V 1) wz := fV24 1 wz (by omega) (fun _ => show (la wz < la bk ∨ la bk + 2 < la wz) ∧ (la wz < la tn ∨ la tn + 8 < la wz) from by omega)
    have hg2w : ((c24_G 200) wd).toInt = ((24 : Nat) : Int) := by rw [fG24 200 wd (by omega) (fun q => absurd q (by decide))]; exact hww
    have hWs9 : rwW ((c24_G 203) wd) ((c24_V 0) wl) ((c24_V 1) wz) 24 = Ws := by rw [gzw, hv0w, hv1w]; exact hWs
    have e1b : (c24_P 1) bk = some fa := (fP24 1 bk (by omega) (fun q => absurd q (by decide))).trans h1
    have e0b : (c24_P 0) bk = some wd := (fP24 0 bk (by omega) (fun q => absurd q (by decide))).trans h0
    have ewl : (c24_P 201) wd = some wl := (fP24 201 wd (by omega) (fun q => absurd q (by decide))).trans hwl
    have ewz : (c24_P 202) wd = some wz := (fP24 202 wd (by omega) (fun q => absurd q (by decide))).trans hwz
    have hWl : Ws.length = Int32.toNatClampNeg ((G 203) wd) := by rw [← hWs]; exact rw_len
    have hbw9 := (CInv_G203 hI :) wd
    have cbw := clampI (x := (G 203) wd) (by omega)
    have hp9 := p24_1 (Int32.toNatClampNeg p0) (by omega)
    rw [if_pos (by omega)] at hp9
    have hrw : ∀ w, w < Ws.length → ROWF c24_G c24_P c24_V la24 c24_cnt D ((c24_O 1) fa (100 * Int32.toNatClampNeg p0 + w)) (FMT d Ws (Int32.toNatClampNeg p0) w) := fun w hw => p24_0 (Int32.toNatClampNeg p0) w (by omega) (by show w < Int32.toNatClampNeg (c24_V 3 fl (Int32.toNatClampNeg p0)); rw [hp9]; omega)
    have hn74 : (c24_P 1) bk = some fa := e1b
    have hk_fa := (((CInv_P1 hCI24 :) bk).2 fa hn74).1
    have hl1_fa := (((CInv_P1 hCI24 :) bk).2 fa hn74).2.1
    have hl2_fa := (((CInv_P1 hCI24 :) bk).2 fa hn74).2.2.1
    have hw_fa : id _ := (((CInv_P1 hCI24 :) bk).2 fa hn74).2.2.2
    have hn75 : (c24_P 0) bk = some wd := e0b
    have hk_wd := (((CInv_P0 hCI24 :) bk).2 wd hn75).1
    have hl1_wd := (((CInv_P0 hCI24 :) bk).2 wd hn75).2.1
    have hl2_wd := (((CInv_P0 hCI24 :) bk).2 wd hn75).2.2.1
    have hw_wd : id _ := (((CInv_P0 hCI24 :) bk).2 wd hn75).2.2.2
    have hn76 : (c24_P 201) wd = some wl := ewl
    have hk_wl := (((CInv_P201 hCI24 :) wd).2 wl hn76).1
    have hl1_wl := (((CInv_P201 hCI24 :) wd).2 wl hn76).2.1
    have hl2_wl := (((CInv_P201 hCI24 :) wd).2 wl hn76).2.2.1
    have hw_wl : id _ := (((CInv_P201 hCI24 :) wd).2 wl hn76).2.2.2
    have hn80 : (c24_P 202) wd = some wz := ewz
    have hk_wz := (((CInv_P202 hCI24 :) wd).2 wz hn80).1
    have hl1_wz := (((CInv_P202 hCI24 :) wd).2 wz hn80).2.1
    have hl2_wz := (((CInv_P202 hCI24 :) wd).2 wz hn80).2.2.1
    have hw_wz : id _ := (((CInv_P202 hCI24 :) wd).2 wz hn80).2.2.2
    have lp31 : ∀ (n31 : Nat) (y31_2 : Int32) (y31_3 : Int32), (0 ≤ y31_3.toInt ∧ y31_3.toInt ≤ 100) → (0 ≤ y31_2.toInt ∧ y31_2.toInt ≤ 100 * y31_3.toInt) → y31_3.toInt ≤ ((G 203) wd).toInt → (y31_2.toInt = ((cnO (fun a b => decide (rh3 (Ws.getD a []) (Ws.getD b [])) && !(rhB (FMT d Ws (Int32.toNatClampNeg p0) a) (FMT d Ws (Int32.toNatClampNeg p0) b))) Ws.length (Int32.toNatClampNeg y31_3) : Nat) : Int)) → pw (L_X11_rhymes_31 this p0 c24_G c24_P c24_U c24_V c24_X c24_O c24_kd c24_ln c24_cnt n31 y31_2 y31_3) (sp1 (QF_X11_rhymes κ wd la G P U V X O kd ln cnt this p0 ra tn bk nw nx wh pg fi pa pk sz cl fa fl sp lsp ssp wl wz D d Ws)) := by
      intro n31
      clear fG24 fP24 fV24
      induction n31 with
      | zero => intros; exact pw_none
      | succ n31 ih31 =>
        intro y31_2 y31_3 f84 f85 f86 io31
        show pw (B_X11_rhymes_31 this p0 c24_G c24_P c24_U c24_V c24_X c24_O c24_kd c24_ln c24_cnt (L_X11_rhymes_31 this p0 c24_G c24_P c24_U c24_V c24_X c24_O c24_kd c24_ln c24_cnt n31) y31_2 y31_3) _
        unfold B_X11_rhymes_31
        refine pw_nne hn59 ?_
        refine pw_nne hn75 ?_
        have b87 := (CInv_G203 hCI24 :) wd
        refine pw_ite (fun c42 => ?_) (fun c42 => ?_)
        · have c42 := (z_le _ _).mp c42
          have qq0 : id ((¬ (0 ≤ p0.toInt ∧ p0.toInt ≤ ((G 222) this).toInt) → y31_2.toInt = -2)) := show (¬ (0 ≤ p0.toInt ∧ p0.toInt ≤ ((G 222) this).toInt) → y31_2.toInt = -2) from by intro h; exfalso; exact h st9
          have qq1 : id ((0 ≤ p0.toInt ∧ p0.toInt ≤ ((G 222) this).toInt → y31_2.toInt = ((cnO (fun a b => decide (rh3 (Ws.getD a []) (Ws.getD b [])) && !(rhB (FMT d Ws (Int32.toNatClampNeg p0) a) (FMT d Ws (Int32.toNatClampNeg p0) b))) Ws.length Ws.length : Nat) : Int))) := show (0 ≤ p0.toInt ∧ p0.toInt ≤ ((G 222) this).toInt → y31_2.toInt = ((cnO (fun a b => decide (rh3 (Ws.getD a []) (Ws.getD b [])) && !(rhB (FMT d Ws (Int32.toNatClampNeg p0) a) (FMT d Ws (Int32.toNatClampNeg p0) b))) Ws.length Ws.length : Nat) : Int)) from by intro _; have k3 := clampI (x := y31_3) (by omega); have h9 := io31; rw [show Int32.toNatClampNeg y31_3 = Ws.length by omega] at h9; exact h9
          have qq2 : BKR c24_G c24_P c24_V la24 c24_cnt D ((c24_O 1) fa) (fun s => Int32.toNatClampNeg ((c24_V 3) fl s)) (FMT d Ws) := by exact BKR_fr p24_0 hB24 (fun _ => rfl) (fun _ _ => ⟨rfl, rfl, rfl⟩) (fun _ _ _ _ => ⟨rfl, rfl, rfl⟩) (Nat.le_refl _) (fun _ _ => rfl) (fun _ _ h => h)
          have qq3 : id ((∀ s : Nat, s < 7 → ((G 222) this).toInt < (s : Int) → (c24_V 3) fl s = (V 3) fl s)) := show (∀ s : Nat, s < 7 → ((G 222) this).toInt < (s : Int) → (c24_V 3) fl s = (V 3) fl s) from by intro s hs h9; have z9 := p24_1 s hs; rw [if_neg (by omega)] at z9; exact z9
          exact pw_some ⟨la24, hag24, hB24, qq0, qq1, qq2, qq3⟩
        · have c42 := z_nle c42
          have kL3 := clampI (x := y31_3) (by omega)
          have hgL3 : Ws.getD (Int32.toNatClampNeg y31_3) [] = wdl ((c24_V 0) wl) (24 * Int32.toNatClampNeg y31_3) (Int32.toNatClampNeg ((c24_V 1) wz (Int32.toNatClampNeg y31_3))) := by rw [List.getD_eq_getElem?_getD, show Ws[Int32.toNatClampNeg y31_3]? = some (wdl ((c24_V 0) wl) (24 * Int32.toNatClampNeg y31_3) (Int32.toNatClampNeg ((c24_V 1) wz (Int32.toNatClampNeg y31_3)))) by rw [← hWs9]; exact rw_at (by rw [gzw]; omega)]; rfl
          have f91 : (y31_3 + 1).toInt = y31_3.toInt + 1 := z_addc (by decide +kernel) (by omega) (by omega)
          refine pw_vl (fun x48 ex48 => ?_)
          have f92 : x48.toInt = (y31_3 + 1).toInt := congrArg Int32.toInt ex48
          refine pw_jE (fun k111 ek111 => ?_)
          have lp50 : ∀ (n50 : Nat) (y50_2 : Int32) (y50_4 : Int32), (1 ≤ y50_4.toInt ∧ y50_4.toInt ≤ 101) → (0 ≤ y50_2.toInt ∧ y50_2.toInt ≤ 100 * y31_3.toInt + y50_4.toInt - 1) → (y50_4.toInt ≤ ((G 203) wd).toInt ∧ y31_3.toInt + 1 ≤ y50_4.toInt) → (y50_2.toInt = ((cnO (fun a b => decide (rh3 (Ws.getD a []) (Ws.getD b [])) && !(rhB (FMT d Ws (Int32.toNatClampNeg p0) a) (FMT d Ws (Int32.toNatClampNeg p0) b))) Ws.length (Int32.toNatClampNeg y31_3) + cnI (fun a b => decide (rh3 (Ws.getD a []) (Ws.getD b [])) && !(rhB (FMT d Ws (Int32.toNatClampNeg p0) a) (FMT d Ws (Int32.toNatClampNeg p0) b))) (Int32.toNatClampNeg y31_3) (Int32.toNatClampNeg y50_4 - Int32.toNatClampNeg y31_3 - 1) : Nat) : Int)) → pw (L_X11_rhymes_50 this p0 c24_G c24_P c24_U c24_V c24_X c24_O c24_kd c24_ln c24_cnt y31_3 k111 n50 y50_2 y50_4) (sp1 (QF_X11_rhymes κ wd la G P U V X O kd ln cnt this p0 ra tn bk nw nx wh pg fi pa pk sz cl fa fl sp lsp ssp wl wz D d Ws)) := by
            intro n50
            clear hag24
            induction n50 with
            | zero => intros; exact pw_none
            | succ n50 ih50 =>
              intro y50_2 y50_4 f93 f94 f95 ii50
              show pw (B_X11_rhymes_50 this p0 c24_G c24_P c24_U c24_V c24_X c24_O c24_kd c24_ln c24_cnt y31_3 k111 (L_X11_rhymes_50 this p0 c24_G c24_P c24_U c24_V c24_X c24_O c24_kd c24_ln c24_cnt y31_3 k111 n50) y50_2 y50_4) _
              unfold B_X11_rhymes_50
              refine pw_nne hn59 ?_
              refine pw_nne hn75 ?_
              refine pw_ite (fun c62 => ?_) (fun c62 => ?_)
              · have c62 := (z_le _ _).mp c62
                refine pw_j1 ek111 (fun x111_2 ex111_2 => ?_)
                have ex111_2 := ex111_2.symm
                have f_x111_2 : x111_2.toInt = y50_2.toInt := by rw [ex111_2]
                have iv31_0 : (0 ≤ (y31_3 + 1).toInt ∧ (y31_3 + 1).toInt ≤ 100) := by omega
                have iv31_1 : (0 ≤ x111_2.toInt ∧ x111_2.toInt ≤ 100 * (y31_3 + 1).toInt) := by omega
                have iv31_2 : (y31_3 + 1).toInt ≤ ((G 203) wd).toInt := by omega
                have iv31_3 : (x111_2.toInt = ((cnO (fun a b => decide (rh3 (Ws.getD a []) (Ws.getD b [])) && !(rhB (FMT d Ws (Int32.toNatClampNeg p0) a) (FMT d Ws (Int32.toNatClampNeg p0) b))) Ws.length (Int32.toNatClampNeg (y31_3 + 1)) : Nat) : Int)) := by have k4 := clampI (x := y31_3 + 1) (by omega); have k5 := clampI (x := y50_4) (by omega); rw [cnO_s (k := Int32.toNatClampNeg y31_3) (j := Int32.toNatClampNeg y50_4 - Int32.toNatClampNeg y31_3 - 1) (by omega) (by omega)]; have h9 := ii50; omega
                exact ih31 x111_2 (y31_3 + 1) iv31_0 iv31_1 iv31_2 iv31_3
              · have c62 := z_nle c62
                have kL4 := clampI (x := y50_4) (by omega)
                have hgL4 : Ws.getD (Int32.toNatClampNeg y50_4) [] = wdl ((c24_V 0) wl) (24 * Int32.toNatClampNeg y50_4) (Int32.toNatClampNeg ((c24_V 1) wz (Int32.toNatClampNeg y50_4))) := by rw [List.getD_eq_getElem?_getD, show Ws[Int32.toNatClampNeg y50_4]? = some (wdl ((c24_V 0) wl) (24 * Int32.toNatClampNeg y50_4) (Int32.toNatClampNeg ((c24_V 1) wz (Int32.toNatClampNeg y50_4)))) by rw [← hWs9]; exact rw_at (by rw [gzw]; omega)]; rfl
                refine pw_nne hn59 ?_
                refine pw_nne hn75 ?_
                refine pw_nne hn59 ?_
                refine pw_nne hn75 ?_
                have hpr82_0 : (0 ≤ y31_3.toInt ∧ y31_3.toInt < ((c24_G 203) wd).toInt) := by first | assumption | omega
                have hpr82_1 : (0 ≤ y50_4.toInt ∧ y50_4.toInt < ((c24_G 203) wd).toInt) := by first | assumption | omega
                refine pw_b1 (fun r82 hc82 => ?_)
                have hq82 := wp_at (ok_X10_endsAlike κ24_21 wd c24_G c24_P c24_U c24_V c24_X c24_O c24_kd c24_ln c24_cnt wd y31_3 wd y50_4 (CInv_G200 hCI24 :) (CInv_G203 hCI24 :) (CInv_P201 hCI24 :) (CInv_P202 hCI24 :) (CInv_V1 hCI24 :) (CInv_RA hCI24 :) (CInv_RB hCI24 :) (CInv_RI hCI24 :) (CInv_LN hCI24 :) hk_wd hk_wd hpr82_0 hpr82_1) hc82
                have f101 : (0 ≤ r82.toInt ∧ r82.toInt ≤ 1) := hq82
                clear hq82
                have h882_hl : (c24_P 201) wd = some (wl) := by exact ewl
                have h882_hs : (c24_P 202) wd = some (wz) := by exact ewz
                have h882_hw : ((c24_G 200) wd).toInt = ((24 : Nat) : Int) := by exact hg2w
                have h882_hlo : (c24_P 201) wd = some (wl) := by exact ewl
                have h882_hso : (c24_P 202) wd = some (wz) := by exact ewz
                have h882_hwo : ((c24_G 200) wd).toInt = ((24 : Nat) : Int) := by exact hg2w
                have hx82 := pwq (fn_X10_endsAlike κ24_21 wd la24 c24_G c24_P c24_U c24_V c24_X c24_O c24_kd c24_ln c24_cnt wd y31_3 wd y50_4 (wl) (wz) (wl) (wz) (CInv_G200 hCI24 :) (CInv_G203 hCI24 :) (CInv_P201 hCI24 :) (CInv_P202 hCI24 :) (CInv_V1 hCI24 :) (CInv_RA hCI24 :) (CInv_RB hCI24 :) (CInv_RI hCI24 :) (CInv_LN hCI24 :) hk_wd hk_wd hpr82_0 hpr82_1 hB24 lt_wd66 lt_wd66 h882_hl h882_hs h882_hw h882_hlo h882_hso h882_hwo) hc82
                obtain ⟨p82_0, p82_1⟩ : (id ((r82.toInt ≠ 0 → rh3 (wdl ((c24_V 0) (wl)) (24 * Int32.toNatClampNeg y31_3) (Int32.toNatClampNeg ((c24_V 1) (wz) (Int32.toNatClampNeg y31_3)))) (wdl ((c24_V 0) (wl)) (24 * Int32.toNatClampNeg y50_4) (Int32.toNatClampNeg ((c24_V 1) (wz) (Int32.toNatClampNeg y50_4))))))) ∧ (id ((r82.toInt = 0 → ¬ rh3 (wdl ((c24_V 0) (wl)) (24 * Int32.toNatClampNeg y31_3) (Int32.toNatClampNeg ((c24_V 1) (wz) (Int32.toNatClampNeg y31_3)))) (wdl ((c24_V 0) (wl)) (24 * Int32.toNatClampNeg y50_4) (Int32.toNatClampNeg ((c24_V 1) (wz) (Int32.toNatClampNeg y50_4))))))) := hx82
                clear h882_hl h882_hs h882_hw h882_hlo h882_hso h882_hwo
                refine pw_jE (fun j105 ej105 => ?_)
                refine pw_ite (fun c85 => ?_) (fun c85 => ?_)
                · have c85 := congrArg Int32.toInt c85
                  refine pw_j1 ej105 (fun x105_2 ex105_2 => ?_)
                  have ex105_2 := ex105_2.symm
                  have f_x105_2 : x105_2.toInt = y50_2.toInt := by rw [ex105_2]
                  have f102 : (y50_4 + 1).toInt = y50_4.toInt + (1) := z_addc (by decide +kernel) (by omega) (by omega)
                  have iv50_0 : (1 ≤ (y50_4 + 1).toInt ∧ (y50_4 + 1).toInt ≤ 101) := by omega
                  have iv50_1 : (0 ≤ x105_2.toInt ∧ x105_2.toInt ≤ 100 * y31_3.toInt + (y50_4 + 1).toInt - 1) := by omega
                  have iv50_2 : ((y50_4 + 1).toInt ≤ ((G 203) wd).toInt ∧ y31_3.toInt + 1 ≤ (y50_4 + 1).toInt) := by omega
                  have iv50_3 : (x105_2.toInt = ((cnO (fun a b => decide (rh3 (Ws.getD a []) (Ws.getD b [])) && !(rhB (FMT d Ws (Int32.toNatClampNeg p0) a) (FMT d Ws (Int32.toNatClampNeg p0) b))) Ws.length (Int32.toNatClampNeg y31_3) + cnI (fun a b => decide (rh3 (Ws.getD a []) (Ws.getD b [])) && !(rhB (FMT d Ws (Int32.toNatClampNeg p0) a) (FMT d Ws (Int32.toNatClampNeg p0) b))) (Int32.toNatClampNeg y31_3) (Int32.toNatClampNeg (y50_4 + 1) - Int32.toNatClampNeg y31_3 - 1) : Nat) : Int)) := by have k5 := clampI (x := y50_4 + 1) (by omega); rw [cnI_n (k := Int32.toNatClampNeg y50_4 - Int32.toNatClampNeg y31_3 - 1) (b := Int32.toNatClampNeg y50_4) (by show (decide (rh3 (Ws.getD _ []) (Ws.getD _ [])) && !(rhB _ _)) = false; rw [hgL3, hgL4, decide_eq_false (p82_1 (by omega))]; rfl) (by omega) (by omega)]; have h9 := ii50; omega
                  exact ih50 x105_2 (y50_4 + 1) iv50_0 iv50_1 iv50_2 iv50_3
                · have c85 : r82.toInt = 1 := by have z9 := z_ne c85; omega
                  refine pw_nne hn59 ?_
                  have hpr96_0 : (0 ≤ p0.toInt ∧ p0.toInt ≤ 6) := by first | assumption | omega
                  have hpr96_1 : (0 ≤ y31_3.toInt ∧ y31_3.toInt < 100) := by first | assumption | omega
                  have hpr96_2 : (0 ≤ y50_4.toInt ∧ y50_4.toInt < 100) := by first | assumption | omega
                  refine pw_b1 (fun r96 hc96 => ?_)
                  have hq96 := wp_at (ok_X0_formsRhyme κ24_21 wd c24_G c24_P c24_U c24_V c24_X c24_O c24_kd c24_ln c24_cnt bk p0 y31_3 y50_4 (CInv_G200 hCI24 :) (CInv_G203 hCI24 :) (CInv_P1 hCI24 :) (CInv_P5 hCI24 :) (CInv_P201 hCI24 :) (CInv_P202 hCI24 :) (CInv_V1 hCI24 :) (CInv_O1 hCI24 :) (CInv_RA hCI24 :) (CInv_RB hCI24 :) (CInv_RI hCI24 :) (CInv_LN hCI24 :) hk_bk hpr96_0 hpr96_1 hpr96_2) hc96
                  have f103 : (0 ≤ r96.toInt ∧ r96.toInt ≤ 1) := hq96
                  clear hq96
                  have h896_h1 : (c24_P 1) bk = some fa := by exact hn74
                  have h896_hr1 : ROWF c24_G c24_P c24_V la24 c24_cnt D ((c24_O 1) fa (100 * Int32.toNatClampNeg p0 + Int32.toNatClampNeg y31_3)) (FMT d Ws (Int32.toNatClampNeg p0) (Int32.toNatClampNeg y31_3)) := by exact hrw _ (by omega)
                  have h896_hr2 : ROWF c24_G c24_P c24_V la24 c24_cnt D ((c24_O 1) fa (100 * Int32.toNatClampNeg p0 + Int32.toNatClampNeg y50_4)) (FMT d Ws (Int32.toNatClampNeg p0) (Int32.toNatClampNeg y50_4)) := by exact hrw _ (by omega)
                  have hx96 := pwq (fn_X0_formsRhyme κ24_21 wd la24 c24_G c24_P c24_U c24_V c24_X c24_O c24_kd c24_ln c24_cnt bk p0 y31_3 y50_4 (fa) (D) (FMT d Ws (Int32.toNatClampNeg p0) (Int32.toNatClampNeg y31_3)) (FMT d Ws (Int32.toNatClampNeg p0) (Int32.toNatClampNeg y50_4)) (CInv_G200 hCI24 :) (CInv_G203 hCI24 :) (CInv_P1 hCI24 :) (CInv_P5 hCI24 :) (CInv_P201 hCI24 :) (CInv_P202 hCI24 :) (CInv_V1 hCI24 :) (CInv_O1 hCI24 :) (CInv_RA hCI24 :) (CInv_RB hCI24 :) (CInv_RI hCI24 :) (CInv_LN hCI24 :) hk_bk hpr96_0 hpr96_1 hpr96_2 hB24 lt_bk60 h896_h1 h896_hr1 h896_hr2) hc96
                  obtain ⟨p96_0, p96_1⟩ : (id ((r96.toInt ≠ 0 → rhB (FMT d Ws (Int32.toNatClampNeg p0) (Int32.toNatClampNeg y31_3)) (FMT d Ws (Int32.toNatClampNeg p0) (Int32.toNatClampNeg y50_4)) = true))) ∧ (id ((r96.toInt = 0 → rhB (FMT d Ws (Int32.toNatClampNeg p0) (Int32.toNatClampNeg y31_3)) (FMT d Ws (Int32.toNatClampNeg p0) (Int32.toNatClampNeg y50_4)) = false))) := hx96
                  clear h896_h1 h896_hr1 h896_hr2
                  refine pw_ite (fun c99 => ?_) (fun c99 => ?_)
                  · have c99 := congrArg Int32.toInt c99
                    have f104 : (y50_2 + 1).toInt = y50_2.toInt + (1) := z_addc (by decide +kernel) (by omega) (by omega)
                    refine pw_j1 ej105 (fun x105_2 ex105_2 => ?_)
                    have ex105_2 := ex105_2.symm
                    have f_x105_2 : x105_2.toInt = (y50_2 + 1).toInt := by rw [ex105_2]
                    have f105 : (y50_4 + 1).toInt = y50_4.toInt + (1) := z_addc (by decide +kernel) (by omega) (by omega)
                    have iv50_0 : (1 ≤ (y50_4 + 1).toInt ∧ (y50_4 + 1).toInt ≤ 101) := by omega
                    have iv50_1 : (0 ≤ x105_2.toInt ∧ x105_2.toInt ≤ 100 * y31_3.toInt + (y50_4 + 1).toInt - 1) := by omega
                    have iv50_2 : ((y50_4 + 1).toInt ≤ ((G 203) wd).toInt ∧ y31_3.toInt + 1 ≤ (y50_4 + 1).toInt) := by omega
                    have iv50_3 : (x105_2.toInt = ((cnO (fun a b => decide (rh3 (Ws.getD a []) (Ws.getD b [])) && !(rhB (FMT d Ws (Int32.toNatClampNeg p0) a) (FMT d Ws (Int32.toNatClampNeg p0) b))) Ws.length (Int32.toNatClampNeg y31_3) + cnI (fun a b => decide (rh3 (Ws.getD a []) (Ws.getD b [])) && !(rhB (FMT d Ws (Int32.toNatClampNeg p0) a) (FMT d Ws (Int32.toNatClampNeg p0) b))) (Int32.toNatClampNeg y31_3) (Int32.toNatClampNeg (y50_4 + 1) - Int32.toNatClampNeg y31_3 - 1) : Nat) : Int)) := by have k5 := clampI (x := y50_4 + 1) (by omega); rw [cnI_y (k := Int32.toNatClampNeg y50_4 - Int32.toNatClampNeg y31_3 - 1) (b := Int32.toNatClampNeg y50_4) (by show (decide (rh3 (Ws.getD _ []) (Ws.getD _ [])) && !(rhB _ _)) = true; rw [hgL3, hgL4, decide_eq_true (p82_0 (by omega)), p96_1 (by omega)]; rfl) (by omega) (by omega)]; have h9 := ii50; omega
                    exact ih50 x105_2 (y50_4 + 1) iv50_0 iv50_1 iv50_2 iv50_3
                  · have c99 : r96.toInt = 1 := by have z9 := z_ne c99; omega
                    refine pw_j1 ej105 (fun x105_2 ex105_2 => ?_)
                    have ex105_2 := ex105_2.symm
                    have f_x105_2 : x105_2.toInt = y50_2.toInt := by rw [ex105_2]
                    have f106 : (y50_4 + 1).toInt = y50_4.toInt + (1) := z_addc (by decide +kernel) (by omega) (by omega)
                    have iv50_0 : (1 ≤ (y50_4 + 1).toInt ∧ (y50_4 + 1).toInt ≤ 101) := by omega
                    have iv50_1 : (0 ≤ x105_2.toInt ∧ x105_2.toInt ≤ 100 * y31_3.toInt + (y50_4 + 1).toInt - 1) := by omega
                    have iv50_2 : ((y50_4 + 1).toInt ≤ ((G 203) wd).toInt ∧ y31_3.toInt + 1 ≤ (y50_4 + 1).toInt) := by omega
                    have iv50_3 : (x105_2.toInt = ((cnO (fun a b => decide (rh3 (Ws.getD a []) (Ws.getD b [])) && !(rhB (FMT d Ws (Int32.toNatClampNeg p0) a) (FMT d Ws (Int32.toNatClampNeg p0) b))) Ws.length (Int32.toNatClampNeg y31_3) + cnI (fun a b => decide (rh3 (Ws.getD a []) (Ws.getD b [])) && !(rhB (FMT d Ws (Int32.toNatClampNeg p0) a) (FMT d Ws (Int32.toNatClampNeg p0) b))) (Int32.toNatClampNeg y31_3) (Int32.toNatClampNeg (y50_4 + 1) - Int32.toNatClampNeg y31_3 - 1) : Nat) : Int)) := by have k5 := clampI (x := y50_4 + 1) (by omega); rw [cnI_n (k := Int32.toNatClampNeg y50_4 - Int32.toNatClampNeg y31_3 - 1) (b := Int32.toNatClampNeg y50_4) (by show (decide (rh3 (Ws.getD _ []) (Ws.getD _ [])) && !(rhB _ _)) = false; rw [hgL3, hgL4, decide_eq_true (p82_0 (by omega)), p96_0 (by omega)]; rfl) (by omega) (by omega)]; have h9 := ii50; omega
                    exact ih50 x105_2 (y50_4 + 1) iv50_0 iv50_1 iv50_2 iv50_3
          exact lp50 NN y31_2 x48 (show (1 ≤ x48.toInt ∧ x48.toInt ≤ 101) from by omega) (show (0 ≤ y31_2.toInt ∧ y31_2.toInt ≤ 100 * y31_3.toInt + x48.toInt - 1) from by omega) (show (x48.toInt ≤ ((G 203) wd).toInt ∧ y31_3.toInt + 1 ≤ x48.toInt) from by omega) (show (y31_2.toInt = ((cnO (fun a b => decide (rh3 (Ws.getD a []) (Ws.getD b [])) && !(rhB (FMT d Ws (Int32.toNatClampNeg p0) a) (FMT d Ws (Int32.toNatClampNeg p0) b))) Ws.length (Int32.toNatClampNeg y31_3) + cnI (fun a b => decide (rh3 (Ws.getD a []) (Ws.getD b [])) && !(rhB (FMT d Ws (Int32.toNatClampNeg p0) a) (FMT d Ws (Int32.toNatClampNeg p0) b))) (Int32.toNatClampNeg y31_3) (Int32.toNatClampNeg x48 - Int32.toNatClampNeg y31_3 - 1) : Nat) : Int)) from by have k5 := clampI (x := x48) (by omega); rw [show Int32.toNatClampNeg x48 - Int32.toNatClampNeg y31_3 - 1 = 0 by omega]; exact io31)
    exact lp31 NN (0 : Int32) (0 : Int32) (show (0 ≤ (0 : Int32).toInt ∧ (0 : Int32).toInt ≤ 100) from by omega) (show (0 ≤ (0 : Int32).toInt ∧ (0 : Int32).toInt ≤ 100 * (0 : Int32).toInt) from by omega) (show (0 : Int32).toInt ≤ ((G 203) wd).toInt from by omega) (show ((0 : Int32).toInt = ((cnO (fun a b => decide (rh3 (Ws.getD a []) (Ws.getD b [])) && !(rhB (FMT d Ws (Int32.toNatClampNeg p0) a) (FMT d Ws (Int32.toNatClampNeg p0) b))) Ws.length (Int32.toNatClampNeg (0 : Int32)) : Nat) : Int)) from by rfl)
abbrev QF_X11_tell (κ : Nat → Nat) (wd : Nat) (la : Nat → Nat) (G : Nat → Nat → Int32) (P : Nat → Nat → Option Nat) (U : Nat → Nat → Int64) (V : Nat → Nat → Nat → Int32) (X : Nat → Nat → Nat → Int64) (O : Nat → Nat → Nat → Option Nat) (kd : Nat → Nat) (ln : Nat → Nat) (cnt : Nat) (this : Nat) (p0 : Int32) (p1 : Int32) (ra : Nat) (tn : Nat) (bk : Nat) (nw : Nat) (nx : Nat) (wh : Nat) (pg : Nat) (fi : Nat) (pa : Nat) (pk : Nat) (sz : Nat) (cl : Nat) (fa : Nat) (fl : Nat) (sp : Nat) (lsp : Nat) (ssp : Nat) (wl : Nat) (wz : Nat) (D : Nat) (d : Nat → Dr) (Ws : List Wd) : (Int32 × (Nat → Nat → Int32) × (Nat → Nat → Option Nat) × (Nat → Nat → Int64) × (Nat → Nat → Nat → Int32) × (Nat → Nat → Nat → Int64) × (Nat → Nat → Nat → Option Nat) × (Nat → Nat) × (Nat → Nat) × Nat) → Prop := (fun t => ∃ la1 : Nat → Nat, (∀ z, z < cnt → la1 z = la z) ∧ LB la1 (t.2.2.2.2.2.2.2.2.2) (t.2.2.1) ∧ ((¬ ((0 ≤ p0.toInt ∧ p0.toInt ≤ ((G 222) this).toInt) ∧ 0 ≤ p1.toInt ∧ p1.toInt ≤ 2) → (t.1).toInt = -2)) ∧ (((0 ≤ p0.toInt ∧ p0.toInt ≤ ((G 222) this).toInt) ∧ 0 ≤ p1.toInt ∧ p1.toInt ≤ 2 → (t.1).toInt = ((cnB (fun w => tlB (FMT d Ws (Int32.toNatClampNeg p0) w) (Ws.getD w []) p1.toInt) Ws.length : Nat) : Int))) ∧ (BKR (t.2.1) (t.2.2.1) (t.2.2.2.2.1) la1 (t.2.2.2.2.2.2.2.2.2) D (((t.2.2.2.2.2.2.1) 1) fa) (fun s => Int32.toNatClampNeg (((t.2.2.2.2.1) 3) fl s)) (FMT d Ws)) ∧ ((∀ s : Nat, s < 7 → ((G 222) this).toInt < (s : Int) → ((t.2.2.2.2.1) 3) fl s = (V 3) fl s)))
set_option maxHeartbeats 4000000 in
set_option maxRecDepth 100000 in
theorem fn_X11_tell (κ : Nat → Nat) (wd : Nat) (la : Nat → Nat) (G : Nat → Nat → Int32) (P : Nat → Nat → Option Nat) (U : Nat → Nat → Int64) (V : Nat → Nat → Nat → Int32) (X : Nat → Nat → Nat → Int64) (O : Nat → Nat → Nat → Option Nat) (kd : Nat → Nat) (ln : Nat → Nat) (cnt : Nat) (this : Nat) (p0 : Int32) (p1 : Int32) (ra : Nat) (tn : Nat) (bk : Nat) (nw : Nat) (nx : Nat) (wh : Nat) (pg : Nat) (fi : Nat) (pa : Nat) (pk : Nat) (sz : Nat) (cl : Nat) (fa : Nat) (fl : Nat) (sp : Nat) (lsp : Nat) (ssp : Nat) (wl : Nat) (wz : Nat) (D : Nat) (d : Nat → Dr) (Ws : List Wd) (hI : CInv κ wd G P V O ln cnt) (hk_this : κ this = 12) (hB : LB la cnt P) (hlt_this : this < cnt) (hpl0 : la this = 200) (h221 : (P 221) this = some ra) (h226 : (P 226) this = some tn) (h229 : (P 229) this = some bk) (h181 : (P 181) tn = some nw) (h182 : (P 182) tn = some nx) (hnn : nw ≠ nx) (h185 : (P 185) tn = some wh) (h180 : (P 180) tn = some pg) (hfi : (P 63) pg = some fi) (hpa : (P 65) pg = some pa) (hpk : (P 62) pg = some pk) (hsz : (P 61) pg = some sz) (hcl : (P 64) pg = some cl) (hlt9 : la tn = 90) (h1 : (P 1) bk = some fa) (h3 : (P 3) bk = some fl) (h4 : (P 4) bk = some sp) (hls : (P 201) sp = some lsp) (hss : (P 202) sp = some ssp) (hw4 : ((G 200) sp).toInt = ((24 : Nat) : Int)) (hn4 : ln ssp = 12) (hwl : (P 201) wd = some wl) (hwz : (P 202) wd = some wz) (hww : ((G 200) wd).toInt = ((24 : Nat) : Int)) (hWs : rwW ((G 203) wd) ((V 0) wl) ((V 1) wz) 24 = Ws) (hWw : WDS Ws) (hbk : BKR G P V la cnt D ((O 1) fa) (fun s => Int32.toNatClampNeg ((V 3) fl s)) (FMT d Ws)) (hDc : D < 100000 + 10 * cnt) (h0 : (P 0) bk = some wd) (hl7 : ln fl = 7 ∧ ln fa = 700) (hl6 : ln ra = 6) (hrf : ∀ q, q < Int32.toNatClampNeg ((G 222) this) → ∃ rf, (O 2) ra q = some rf ∧ rf < cnt ∧ 100000 ≤ la rf ∧ RFX G P V O ln la cnt rf (d q)) : pw (f_X11_tell G P U V X O kd ln cnt this p0 p1) (sp1 (QF_X11_tell κ wd la G P U V X O kd ln cnt this p0 p1 ra tn bk nw nx wh pg fi pa pk sz cl fa fl sp lsp ssp wl wz D d Ws)) := by
  unfold f_X11_tell
  have zkm2 : (-2 : Int32).toInt = -2 := by decide +kernel
  have zk0 : (0 : Int32).toInt = 0 := by decide +kernel
  have zk2 : (2 : Int32).toInt = 2 := by decide +kernel
  have r_p0 := i32r p0
  have r_p1 := i32r p1
  replace hnn : id _ := hnn
  have hn1 : (P 221) this = some ra := h221
  obtain ⟨_, lt_ra2, lb_ra2⟩ := (hB.1 221 fl_221) this ra hn1
  have lb_ra2 : la ra = 203 := (lk_221.mp lb_ra2).trans (congrArg (fun z9 => z9 + 3) hpl0)
  have hk_ra := (((CInv_P221 hI :) this).2 ra hn1).1
  have hl1_ra := (((CInv_P221 hI :) this).2 ra hn1).2.1
  have hl2_ra := (((CInv_P221 hI :) this).2 ra hn1).2.2.1
  have hw_ra : id _ := (((CInv_P221 hI :) this).2 ra hn1).2.2.2
  have hz_ra : (Int32.ofNat (ln ra)).toInt = ((ln ra : Nat) : Int) := ofN_eq (by first | exact Nat.le_trans hl2_ra (by decide) | omega)
  have hn3 : (P 226) this = some tn := h226
  have lt_tn4 := ((hB.1 226 fl_226) this tn hn3).2.1
  have lb_tn4 : la tn = 90 := lk_226.mp ((hB.1 226 fl_226) this tn hn3).2.2
  have hk_tn := (((CInv_P226 hI :) this).2 tn hn3).1
  have hl1_tn := (((CInv_P226 hI :) this).2 tn hn3).2.1
  have hl2_tn := (((CInv_P226 hI :) this).2 tn hn3).2.2.1
  have hw_tn : id _ := (((CInv_P226 hI :) this).2 tn hn3).2.2.2
  have hn5 : (P 229) this = some bk := h229
  have lt_bk6 := ((hB.1 229 fl_229) this bk hn5).2.1
  have lb_bk6 : la bk = 70 := lk_229.mp ((hB.1 229 fl_229) this bk hn5).2.2
  have hk_bk := (((CInv_P229 hI :) this).2 bk hn5).1
  have hl1_bk := (((CInv_P229 hI :) this).2 bk hn5).2.1
  have hl2_bk := (((CInv_P229 hI :) this).2 bk hn5).2.2.1
  have hw_bk : id _ := (((CInv_P229 hI :) this).2 bk hn5).2.2.2
  have hn7 : (P 3) bk = some fl := h3
  obtain ⟨_, lt_fl8, lb_fl8⟩ := (hB.1 3 fl_3) bk fl hn7
  have lb_fl8 : la fl = 70 := (lk_3.mp lb_fl8).trans (congrArg (fun z9 => z9 + 0) lb_bk6)
  have hk_fl := (((CInv_P3 hI :) bk).2 fl hn7).1
  have hl1_fl := (((CInv_P3 hI :) bk).2 fl hn7).2.1
  have hl2_fl := (((CInv_P3 hI :) bk).2 fl hn7).2.2.1
  have hw_fl : id _ := (((CInv_P3 hI :) bk).2 fl hn7).2.2.2
  have hz_fl : (Int32.ofNat (ln fl)).toInt = ((ln fl : Nat) : Int) := ofN_eq (by first | exact Nat.le_trans hl2_fl (by decide) | omega)
  have hn9 : (P 1) bk = some fa := h1
  obtain ⟨_, lt_fa10, lb_fa10⟩ := (hB.1 1 fl_1) bk fa hn9
  have lb_fa10 : la fa = 70 := (lk_1.mp lb_fa10).trans (congrArg (fun z9 => z9 + 0) lb_bk6)
  have hk_fa := (((CInv_P1 hI :) bk).2 fa hn9).1
  have hl1_fa := (((CInv_P1 hI :) bk).2 fa hn9).2.1
  have hl2_fa := (((CInv_P1 hI :) bk).2 fa hn9).2.2.1
  have hw_fa : id _ := (((CInv_P1 hI :) bk).2 fa hn9).2.2.2
  have hz_fa : (Int32.ofNat (ln fa)).toInt = ((ln fa : Nat) : Int) := ofN_eq (by first | exact Nat.le_trans hl2_fa (by decide) | omega)
  have hn11 : (P 0) bk = some wd := h0
  have lt_wd12 := ((hB.1 0 fl_0) bk wd hn11).2.1
  have lb_wd12 : la wd = 20 := lk_0.mp ((hB.1 0 fl_0) bk wd hn11).2.2
  have hk_wd := (((CInv_P0 hI :) bk).2 wd hn11).1
  have hl1_wd := (((CInv_P0 hI :) bk).2 wd hn11).2.1
  have hl2_wd := (((CInv_P0 hI :) bk).2 wd hn11).2.2.1
  have hw_wd : id _ := (((CInv_P0 hI :) bk).2 wd hn11).2.2.2
  have hn13 : (P 201) wd = some wl := hwl
  obtain ⟨_, lt_wl14, lb_wl14⟩ := (hB.1 201 fl_201) wd wl hn13
  have lb_wl14 : la wl = 20 := (lk_201.mp lb_wl14).trans (congrArg (fun z9 => z9 + 0) lb_wd12)
  have hk_wl := (((CInv_P201 hI :) wd).2 wl hn13).1
  have hl1_wl := (((CInv_P201 hI :) wd).2 wl hn13).2.1
  have hl2_wl := (((CInv_P201 hI :) wd).2 wl hn13).2.2.1
  have hw_wl : id _ := (((CInv_P201 hI :) wd).2 wl hn13).2.2.2
  have hz_wl : (Int32.ofNat (ln wl)).toInt = ((ln wl : Nat) : Int) := ofN_eq (by first | exact Nat.le_trans hl2_wl (by decide) | omega)
  have hn15 : (P 202) wd = some wz := hwz
  obtain ⟨_, lt_wz16, lb_wz16⟩ := (hB.1 202 fl_202) wd wz hn15
  have lb_wz16 : la wz = 20 := (lk_202.mp lb_wz16).trans (congrArg (fun z9 => z9 + 0) lb_wd12)
  have hk_wz := (((CInv_P202 hI :) wd).2 wz hn15).1
  have hl1_wz := (((CInv_P202 hI :) wd).2 wz hn15).2.1
  have hl2_wz := (((CInv_P202 hI :) wd).2 wz hn15).2.2.1
  have hw_wz : id _ := (((CInv_P202 hI :) wd).2 wz hn15).2.2.2
  have hz_wz : (Int32.ofNat (ln wz)).toInt = ((ln wz : Nat) : Int) := ofN_eq (by first | exact Nat.le_trans hl2_wz (by decide) | omega)
  have rb17 := ((CInv_RB hI :) wd wz hk_wd hn15).1
  have ra18 := (CInv_RA hI :) wd wl wz hk_wd hn13 hn15
  have bw19 := (CInv_G200 hI :) wd
  have hb222 := (CInv_G222 hI :) this
  have hb222 := (CInv_G222 hI :) this
  have c222 := clampI (x := (G 222) this) (by omega)
  refine pw_b1 (fun r2 hc2 => ?_)
  have hq2 := wp_at (ok_X11_isStage κ wd G P U V X O kd ln cnt this p0 (CInv_G222 hI :) (CInv_LN hI :) hk_this) hc2
  obtain ⟨f20, f21⟩ : ((0 ≤ r2.toInt ∧ r2.toInt ≤ 1)) ∧ (id ((r2.toInt = 1 → 0 ≤ p0.toInt ∧ p0.toInt ≤ ((G 222) this).toInt))) := hq2
  have hx2 := pwq (fn_X11_isStage κ wd la G P U V X O kd ln cnt this p0 (CInv_G222 hI :) (CInv_LN hI :) hk_this hB hlt_this) hc2
  obtain ⟨p2_0, p2_1⟩ : (id ((r2.toInt ≠ 0 → 0 ≤ p0.toInt ∧ p0.toInt ≤ ((G 222) this).toInt))) ∧ (id ((r2.toInt = 0 → ¬ (0 ≤ p0.toInt ∧ p0.toInt ≤ ((G 222) this).toInt)))) := hx2
  refine pw_jE (fun j17 ej17 => ?_)
  refine pw_ite (fun c5 => ?_) (fun c5 => ?_)
  · have c5 := congrArg Int32.toInt c5
    refine pw_j0 ej17 ?_
    have qq0 : id ((¬ ((0 ≤ p0.toInt ∧ p0.toInt ≤ ((G 222) this).toInt) ∧ 0 ≤ p1.toInt ∧ p1.toInt ≤ 2) → (-2 : Int32).toInt = -2)) := show (¬ ((0 ≤ p0.toInt ∧ p0.toInt ≤ ((G 222) this).toInt) ∧ 0 ≤ p1.toInt ∧ p1.toInt ≤ 2) → (-2 : Int32).toInt = -2) from by intro _; omega
    have qq1 : id (((0 ≤ p0.toInt ∧ p0.toInt ≤ ((G 222) this).toInt) ∧ 0 ≤ p1.toInt ∧ p1.toInt ≤ 2 → (-2 : Int32).toInt = ((cnB (fun w => tlB (FMT d Ws (Int32.toNatClampNeg p0) w) (Ws.getD w []) p1.toInt) Ws.length : Nat) : Int))) := show ((0 ≤ p0.toInt ∧ p0.toInt ≤ ((G 222) this).toInt) ∧ 0 ≤ p1.toInt ∧ p1.toInt ≤ 2 → (-2 : Int32).toInt = ((cnB (fun w => tlB (FMT d Ws (Int32.toNatClampNeg p0) w) (Ws.getD w []) p1.toInt) Ws.length : Nat) : Int)) from by intro h; exfalso; exact p2_1 (by omega) h.1
    have qq2 : BKR G P V la cnt D ((O 1) fa) (fun s => Int32.toNatClampNeg ((V 3) fl s)) (FMT d Ws) := by exact BKR_fr hbk hB (fun _ => rfl) (fun _ _ => ⟨rfl, rfl, rfl⟩) (fun _ _ _ _ => ⟨rfl, rfl, rfl⟩) (Nat.le_refl _) (fun _ _ => rfl) (fun _ _ h => h)
    have qq3 : id ((∀ s : Nat, s < 7 → ((G 222) this).toInt < (s : Int) → (V 3) fl s = (V 3) fl s)) := show (∀ s : Nat, s < 7 → ((G 222) this).toInt < (s : Int) → (V 3) fl s = (V 3) fl s) from by exact fun _ _ _ => rfl
    exact pw_some ⟨la, (fun _ _ => rfl), hB, qq0, qq1, qq2, qq3⟩
  · have c5 : r2.toInt = 1 := by have z9 := z_ne c5; omega
    refine pw_ite (fun c9 => ?_) (fun c9 => ?_)
    · have c9 := (z_lt _ _).mp c9
      refine pw_j0 ej17 ?_
      have qq0 : id ((¬ ((0 ≤ p0.toInt ∧ p0.toInt ≤ ((G 222) this).toInt) ∧ 0 ≤ p1.toInt ∧ p1.toInt ≤ 2) → (-2 : Int32).toInt = -2)) := show (¬ ((0 ≤ p0.toInt ∧ p0.toInt ≤ ((G 222) this).toInt) ∧ 0 ≤ p1.toInt ∧ p1.toInt ≤ 2) → (-2 : Int32).toInt = -2) from by intro _; omega
      have qq1 : id (((0 ≤ p0.toInt ∧ p0.toInt ≤ ((G 222) this).toInt) ∧ 0 ≤ p1.toInt ∧ p1.toInt ≤ 2 → (-2 : Int32).toInt = ((cnB (fun w => tlB (FMT d Ws (Int32.toNatClampNeg p0) w) (Ws.getD w []) p1.toInt) Ws.length : Nat) : Int))) := show ((0 ≤ p0.toInt ∧ p0.toInt ≤ ((G 222) this).toInt) ∧ 0 ≤ p1.toInt ∧ p1.toInt ≤ 2 → (-2 : Int32).toInt = ((cnB (fun w => tlB (FMT d Ws (Int32.toNatClampNeg p0) w) (Ws.getD w []) p1.toInt) Ws.length : Nat) : Int)) from by intro h; exfalso; have h2 := h.2; omega
      have qq2 : BKR G P V la cnt D ((O 1) fa) (fun s => Int32.toNatClampNeg ((V 3) fl s)) (FMT d Ws) := by exact BKR_fr hbk hB (fun _ => rfl) (fun _ _ => ⟨rfl, rfl, rfl⟩) (fun _ _ _ _ => ⟨rfl, rfl, rfl⟩) (Nat.le_refl _) (fun _ _ => rfl) (fun _ _ h => h)
      have qq3 : id ((∀ s : Nat, s < 7 → ((G 222) this).toInt < (s : Int) → (V 3) fl s = (V 3) fl s)) := show (∀ s : Nat, s < 7 → ((G 222) this).toInt < (s : Int) → (V 3) fl s = (V 3) fl s) from by exact fun _ _ _ => rfl
      exact pw_some ⟨la, (fun _ _ => rfl), hB, qq0, qq1, qq2, qq3⟩
    · have c9 := z_nlt c9
      refine pw_ite (fun c14 => ?_) (fun c14 => ?_)
      · have c14 := (z_le _ _).mp c14
        have st9 := p2_0 (by omega)
        have cp0 := clampI (x := p0) (by omega)
        have st8 : 0 ≤ p1.toInt ∧ p1.toInt ≤ 2 := by omega
        refine pw_nne hn5 ?_
        refine pw_nne hn1 ?_
        refine pw_nne hn3 ?_
        have hpr33_0 : ln ra = 6 := by first | assumption | omega
        refine pw_bA9 (fun c33_G c33_P c33_U c33_V c33_X c33_O c33_kd c33_ln c33_cnt v1_33 v2_33 hc33 => ?_)
        have hq33 := wp_at (ok_X0_fill κ wd G P U V X O kd ln cnt bk p0 ra tn (CInv_i (CInv_G43 hI :) (CInv_G44 hI :) (CInv_G45 hI :) (CInv_G60 hI :) (CInv_G83 hI :) (CInv_G84 hI :) (CInv_G85 hI :) (CInv_G87 hI :) (CInv_G88 hI :) (CInv_G102 hI :) (CInv_G125 hI :) (CInv_G126 hI :) (CInv_G127 hI :) (CInv_G141 hI :) (CInv_G160 hI :) (CInv_G161 hI :) (CInv_G162 hI :) (CInv_G165 hI :) (CInv_G166 hI :) (CInv_G183 hI :) (CInv_G200 hI :) (CInv_G203 hI :) (CInv_G222 hI :) (CInv_G231 hI :) (CInv_G233 hI :) (CInv_P0 hI :) (CInv_P1 hI :) (CInv_P2 hI :) (CInv_P3 hI :) (CInv_P4 hI :) (CInv_P5 hI :) (CInv_P20 hI :) (CInv_P21 hI :) (CInv_P22 hI :) (CInv_P23 hI :) (CInv_P40 hI :) (CInv_P41 hI :) (CInv_P42 hI :) (CInv_P61 hI :) (CInv_P62 hI :) (CInv_P63 hI :) (CInv_P64 hI :) (CInv_P65 hI :) (CInv_P66 hI :) (CInv_P82 hI :) (CInv_P101 hI :) (CInv_P103 hI :) (CInv_P104 hI :) (CInv_P105 hI :) (CInv_P106 hI :) (CInv_P108 hI :) (CInv_P109 hI :) (CInv_P110 hI :) (CInv_P120 hI :) (CInv_P121 hI :) (CInv_P122 hI :) (CInv_P123 hI :) (CInv_P140 hI :) (CInv_P164 hI :) (CInv_P180 hI :) (CInv_P181 hI :) (CInv_P182 hI :) (CInv_P185 hI :) (CInv_P186 hI :) (CInv_P187 hI :) (CInv_P201 hI :) (CInv_P202 hI :) (CInv_P220 hI :) (CInv_P221 hI :) (CInv_P224 hI :) (CInv_P225 hI :) (CInv_P226 hI :) (CInv_P227 hI :) (CInv_P228 hI :) (CInv_P229 hI :) (CInv_P230 hI :) (CInv_P232 hI :) (CInv_P234 hI :) (CInv_P235 hI :) (CInv_P236 hI :) (CInv_V1 hI :) (CInv_V2 hI :) (CInv_V3 hI :) (CInv_V9 hI :) (CInv_O0 hI :) (CInv_O1 hI :) (CInv_O2 hI :) (CInv_RA hI :) (CInv_RB hI :) (CInv_RI hI :) (CInv_RM103 hI :) (CInv_RM104 hI :) (CInv_RM108 hI :) (CInv_LN hI :) (CInv_FL hI :) (CInv_W0 hI :) (CInv_KC hI :) (CInv_WK hI :)) hk_bk hk_ra hk_tn hpr33_0) hc33
        obtain ⟨κ33_21, hCI33, hxx33, hcc23, hfr24, hfr25, hfr26, hfr27, hfr28, hfr29, hfr30, hfr31, hfr32, f33, f34⟩ : ∃ κ1 : Nat → Nat, (CInv κ1 wd c33_G c33_P c33_V c33_O c33_ln c33_cnt) ∧ (∀ a, κ a ≠ 0 → κ1 a = κ a) ∧ (cnt ≤ c33_cnt) ∧ ((∀ a, κ a ≠ 0 → (c33_P 220) a = (P 220) a)) ∧ ((∀ a, κ a ≠ 0 → (c33_P 229) a = (P 229) a)) ∧ ((∀ a, κ a ≠ 0 → (c33_P 3) a = (P 3) a)) ∧ ((∀ a, κ a ≠ 0 → (c33_G 141) a = (G 141) a)) ∧ ((∀ a, κ a ≠ 0 → (c33_G 83) a = (G 83) a)) ∧ ((∀ a, κ a ≠ 0 → (c33_P 82) a = (P 82) a)) ∧ ((∀ a, κ a ≠ 0 → (c33_P 0) a = (P 0) a)) ∧ ((∀ a, κ a ≠ 0 → (c33_G 160) a = (G 160) a)) ∧ ((∀ a, κ a ≠ 0 → c33_ln a = ln a)) ∧ ((c33_G 203) wd = (G 203) wd) ∧ (id ((∀ fl, (P 3) bk = some fl → (((v1_33 : Nat) : Int) + 3 * s7 ((V 3) fl) ≤ 3 * s7 ((c33_V 3) fl)) ∧ (((v2_33 : Nat) : Int) + 2504 * s7 ((V 3) fl) ≤ 2504 * s7 ((c33_V 3) fl))))) := hq33
        have kx35 : ∀ a, κ a ≠ 0 → κ33_21 a = κ a := hxx33
        have hk36 : κ33_21 this = 12 := kxk hxx33 hk_this (by decide)
        have hq33 := pwq (fr_X0_fill la G P U V X O kd ln cnt bk p0 ra tn hB lt_bk6 lt_ra2 lt_tn4) hc33
        obtain ⟨la33_f, agf33, hBf33, ccf33, fG33, fP33, fU33, fV33, fX33, fO33, fl33⟩ : ∃ la9 : Nat → Nat, (∀ z, z < cnt → la9 z = la z) ∧ LB la9 c33_cnt c33_P ∧ cnt ≤ c33_cnt ∧ FRM cnt [60, 183, 203] (fun z => (la z < la bk ∨ la bk + 2 < la z) ∧ (la z < la tn ∨ la tn + 8 < la z)) G c33_G ∧ FRM cnt [66, 181, 182] (fun z => (la z < la bk ∨ la bk + 2 < la z) ∧ (la z < la tn ∨ la tn + 8 < la z)) P c33_P ∧ FRM cnt [184] (fun z => (la z < la bk ∨ la bk + 2 < la z) ∧ (la z < la tn ∨ la tn + 8 < la z)) U c33_U ∧ FRM cnt [0, 1, 2, 3, 12] (fun z => (la z < la bk ∨ la bk + 2 < la z) ∧ (la z < la tn ∨ la tn + 8 < la z)) V c33_V ∧ FRM cnt [1] (fun z => (la z < la bk ∨ la bk + 2 < la z) ∧ (la z < la tn ∨ la tn + 8 < la z)) X c33_X ∧ FRM cnt [1] (fun z => (la z < la bk ∨ la bk + 2 < la z) ∧ (la z < la tn ∨ la tn + 8 < la z)) O c33_O ∧ (∀ z, z < cnt → c33_ln z = ln z) := hq33
        have h833_h181 : (P 181) tn = some nw := by exact h181
        have h833_h182 : (P 182) tn = some nx := by exact h182
        have h833_hnn : nw ≠ nx := by exact hnn
        have h833_h185 : (P 185) tn = some wh := by exact h185
        have h833_h180 : (P 180) tn = some pg := by exact h180
        have h833_hfi : (P 63) pg = some fi := by exact hfi
        have h833_hpa : (P 65) pg = some pa := by exact hpa
        have h833_hpk : (P 62) pg = some pk := by exact hpk
        have h833_hsz : (P 61) pg = some sz := by exact hsz
        have h833_hcl : (P 64) pg = some cl := by exact hcl
        have h833_hlt9 : la tn = 90 := by exact hlt9
        have h833_h1 : (P 1) bk = some fa := by exact h1
        have h833_h3 : (P 3) bk = some fl := by exact h3
        have h833_h4 : (P 4) bk = some sp := by exact h4
        have h833_hls : (P 201) sp = some lsp := by exact hls
        have h833_hss : (P 202) sp = some ssp := by exact hss
        have h833_hw4 : ((G 200) sp).toInt = ((24 : Nat) : Int) := by exact hw4
        have h833_hn4 : ln ssp = 12 := by exact hn4
        have h833_hwl : (P 201) wd = some wl := by exact hwl
        have h833_hwz : (P 202) wd = some wz := by exact hwz
        have h833_hww : ((G 200) wd).toInt = ((24 : Nat) : Int) := by exact hww
        have h833_hWs : rwW ((G 203) wd) ((V 0) wl) ((V 1) wz) 24 = Ws := by exact hWs
        have h833_hWw : WDS Ws := by exact hWw
        have h833_hlb : la bk = 70 := by omega
        have h833_hlw : la wd = 20 := by omega
        have h833_hst : 0 ≤ p0.toInt ∧ p0.toInt ≤ 6 := by omega
        have h833_hrf : id (∀ q : Nat, (q : Int) < p0.toInt → ∃ rf, (O 2) ra q = some rf ∧ rf < cnt ∧ 100000 ≤ la rf ∧ RFX G P V O ln la cnt rf (d q)) := show ∀ q : Nat, (q : Int) < p0.toInt → ∃ rf, (O 2) ra q = some rf ∧ rf < cnt ∧ 100000 ≤ la rf ∧ RFX G P V O ln la cnt rf (d q) from by exact fun q hq => (by obtain ⟨rf9, y1, y2, y3, y4⟩ := hrf q (by omega); exact ⟨rf9, y1, y2, y3, RFX_fr y4 hB y2 (fun z hz h3 h4 => ⟨rfl, rfl, rfl, rfl, rfl, rfl, rfl, rfl, rfl, rfl, rfl, rfl, rfl, rfl, rfl, rfl, rfl, rfl, rfl, rfl, rfl, rfl, rfl, rfl, rfl, rfl⟩) (Nat.le_refl _) (fun _ _ => rfl)⟩)
        have h833_hbk : BKR G P V la cnt D ((O 1) fa) (fun s => Int32.toNatClampNeg ((V 3) fl s)) (FMT d Ws) := by exact BKR_fr hbk hB (fun _ => rfl) (fun _ _ => ⟨rfl, rfl, rfl⟩) (fun _ _ _ _ => ⟨rfl, rfl, rfl⟩) (Nat.le_refl _) (fun _ _ => rfl) (fun _ _ h => h)
        have h833_hDc : D < 100000 + 10 * cnt := by exact hDc
        have h833_h0 : (P 0) bk = some wd := by exact h0
        have h833_hl7 : ln fl = 7 ∧ ln fa = 700 := by exact hl7
        have hx33 := pwq (fn_X0_fill κ wd la G P U V X O kd ln cnt bk p0 ra tn (nw) (nx) (wh) (pg) (fi) (pa) (pk) (sz) (cl) (fa) (fl) (sp) (lsp) (ssp) (wl) (wz) (D) (d) (Ws) (CInv_i (CInv_G43 hI :) (CInv_G44 hI :) (CInv_G45 hI :) (CInv_G60 hI :) (CInv_G83 hI :) (CInv_G84 hI :) (CInv_G85 hI :) (CInv_G87 hI :) (CInv_G88 hI :) (CInv_G102 hI :) (CInv_G125 hI :) (CInv_G126 hI :) (CInv_G127 hI :) (CInv_G141 hI :) (CInv_G160 hI :) (CInv_G161 hI :) (CInv_G162 hI :) (CInv_G165 hI :) (CInv_G166 hI :) (CInv_G183 hI :) (CInv_G200 hI :) (CInv_G203 hI :) (CInv_G222 hI :) (CInv_G231 hI :) (CInv_G233 hI :) (CInv_P0 hI :) (CInv_P1 hI :) (CInv_P2 hI :) (CInv_P3 hI :) (CInv_P4 hI :) (CInv_P5 hI :) (CInv_P20 hI :) (CInv_P21 hI :) (CInv_P22 hI :) (CInv_P23 hI :) (CInv_P40 hI :) (CInv_P41 hI :) (CInv_P42 hI :) (CInv_P61 hI :) (CInv_P62 hI :) (CInv_P63 hI :) (CInv_P64 hI :) (CInv_P65 hI :) (CInv_P66 hI :) (CInv_P82 hI :) (CInv_P101 hI :) (CInv_P103 hI :) (CInv_P104 hI :) (CInv_P105 hI :) (CInv_P106 hI :) (CInv_P108 hI :) (CInv_P109 hI :) (CInv_P110 hI :) (CInv_P120 hI :) (CInv_P121 hI :) (CInv_P122 hI :) (CInv_P123 hI :) (CInv_P140 hI :) (CInv_P164 hI :) (CInv_P180 hI :) (CInv_P181 hI :) (CInv_P182 hI :) (CInv_P185 hI :) (CInv_P186 hI :) (CInv_P187 hI :) (CInv_P201 hI :) (CInv_P202 hI :) (CInv_P220 hI :) (CInv_P221 hI :) (CInv_P224 hI :) (CInv_P225 hI :) (CInv_P226 hI :) (CInv_P227 hI :) (CInv_P228 hI :) (CInv_P229 hI :) (CInv_P230 hI :) (CInv_P232 hI :) (CInv_P234 hI :) (CInv_P235 hI :) (CInv_P236 hI :) (CInv_V1 hI :) (CInv_V2 hI :) (CInv_V3 hI :) (CInv_V9 hI :) (CInv_O0 hI :) (CInv_O1 hI :) (CInv_O2 hI :) (CInv_RA hI :) (CInv_RB hI :) (CInv_RI hI :) (CInv_RM103 hI :) (CInv_RM104 hI :) (CInv_RM108 hI :) (CInv_LN hI :) (CInv_FL hI :) (CInv_W0 hI :) (CInv_KC hI :) (CInv_WK hI :)) hk_bk hk_ra hk_tn hpr33_0 hB lt_bk6 lt_ra2 lt_tn4 h833_h181 h833_h182 h833_hnn h833_h185 h833_h180 h833_hfi h833_hpa h833_hpk h833_hsz h833_hcl h833_hlt9 h833_h1 h833_h3 h833_h4 h833_hls h833_hss h833_hw4 h833_hn4 h833_hwl h833_hwz h833_hww h833_hWs h833_hWw h833_hlb h833_hlw h833_hst h833_hrf h833_hbk h833_hDc h833_h0 h833_hl7) hc33
        obtain ⟨la33, ag33, hB33, p33_0, p33_1⟩ : ∃ la9 : Nat → Nat, (∀ z, z < cnt → la9 z = la z) ∧ LB la9 c33_cnt c33_P ∧ (BKR c33_G c33_P c33_V la9 c33_cnt D ((c33_O 1) fa) (fun s => Int32.toNatClampNeg ((c33_V 3) fl s)) (FMT d Ws)) ∧ (id ((∀ s : Nat, s < 7 → (c33_V 3) fl s = (if (s : Int) ≤ p0.toInt then (G 203) wd else (V 3) fl s)))) := hx33
        clear h833_hl7 h833_h0 h833_hDc h833_hbk h833_hrf h833_hst h833_hlw h833_hlb h833_hWw h833_hWs h833_hww h833_hwz h833_hwl h833_hn4 h833_hw4 h833_hss h833_hls h833_h4 h833_h3 h833_h1 h833_hlt9 h833_hcl h833_hsz h833_hpk h833_hpa h833_hfi h833_h180 h833_h185 h833_hnn h833_h182 h833_h181 agf33 hBf33 hk36 kx35 hxx33 hfr24 hfr25 hfr26 hfr27 hfr28 hfr29 hfr30 hfr31 hfr32 hc33 hpr33_0 hc2
        have gl_37 : la33 this = 200 := (ag33 this hlt_this).trans hpl0
        have lt38 : this < c33_cnt := Nat.lt_of_lt_of_le hlt_this ccf33
        have gl_39 : la33 ra = 203 := (ag33 ra lt_ra2).trans lb_ra2
        have lt40 : ra < c33_cnt := Nat.lt_of_lt_of_le lt_ra2 ccf33
        have gl_41 : la33 tn = 90 := (ag33 tn lt_tn4).trans lb_tn4
        have lt42 : tn < c33_cnt := Nat.lt_of_lt_of_le lt_tn4 ccf33
        have gl_43 : la33 bk = 70 := (ag33 bk lt_bk6).trans lb_bk6
        have lt44 : bk < c33_cnt := Nat.lt_of_lt_of_le lt_bk6 ccf33
        have gl_45 : la33 fl = 70 := (ag33 fl lt_fl8).trans lb_fl8
        have lt46 : fl < c33_cnt := Nat.lt_of_lt_of_le lt_fl8 ccf33
        have gl_47 : la33 fa = 70 := (ag33 fa lt_fa10).trans lb_fa10
        have lt48 : fa < c33_cnt := Nat.lt_of_lt_of_le lt_fa10 ccf33
        have gl_49 : la33 wd = 20 := (ag33 wd lt_wd12).trans lb_wd12
        have lt50 : wd < c33_cnt := Nat.lt_of_lt_of_le lt_wd12 ccf33
        have gl_51 : la33 wl = 20 := (ag33 wl lt_wl14).trans lb_wl14
        have lt52 : wl < c33_cnt := Nat.lt_of_lt_of_le lt_wl14 ccf33
        have gl_53 : la33 wz = 20 := (ag33 wz lt_wz16).trans lb_wz16
        have lt54 : wz < c33_cnt := Nat.lt_of_lt_of_le lt_wz16 ccf33
        have hag33 : ∀ z, z < cnt → la33 z = la z := fun z hz => (ag33 z (Nat.lt_of_lt_of_le hz (Nat.le_refl _))).trans (rfl)
        have hle33 : cnt ≤ cnt := (Nat.le_refl _)
        have ctf33 : ∀ z, z < cnt → ((la z < 70 ∨ 70 + 2 < la z) ∧ (la z < 90 ∨ 90 + 8 < la z)) → ((la z < la bk ∨ la bk + 2 < la z) ∧ (la z < la tn ∨ la tn + 8 < la z)) := fun z h0 hz => by have q2 := hB.2 z h0; omega
        have hF33_G : FRM cnt [60, 183, 203] (fun z => (la z < 70 ∨ 70 + 2 < la z) ∧ (la z < 90 ∨ 90 + 8 < la z)) G c33_G := FRM_trans FRM_refl fG33 hle33 (by decide) (ctf33)
        have hF33_P : FRM cnt [66, 181, 182] (fun z => (la z < 70 ∨ 70 + 2 < la z) ∧ (la z < 90 ∨ 90 + 8 < la z)) P c33_P := FRM_trans FRM_refl fP33 hle33 (by decide) (ctf33)
        have hF33_U : FRM cnt [184] (fun z => (la z < 70 ∨ 70 + 2 < la z) ∧ (la z < 90 ∨ 90 + 8 < la z)) U c33_U := FRM_trans FRM_refl fU33 hle33 (by decide) (ctf33)
        have hF33_V : FRM cnt [0, 1, 2, 3, 12] (fun z => (la z < 70 ∨ 70 + 2 < la z) ∧ (la z < 90 ∨ 90 + 8 < la z)) V c33_V := FRM_trans FRM_refl fV33 hle33 (by decide) (ctf33)
        have hF33_X : FRM cnt [1] (fun z => (la z < 70 ∨ 70 + 2 < la z) ∧ (la z < 90 ∨ 90 + 8 < la z)) X c33_X := FRM_trans FRM_refl fX33 hle33 (by decide) (ctf33)
        have hF33_O : FRM cnt [1] (fun z => (la z < 70 ∨ 70 + 2 < la z) ∧ (la z < 90 ∨ 90 + 8 < la z)) O c33_O := FRM_trans FRM_refl fO33 hle33 (by decide) (ctf33)
        have hlnn33 : ∀ z, z < cnt → c33_ln z = ln z := fun z hz => (fl33 z (Nat.lt_of_lt_of_le hz hle33)).trans (rfl)
        clear hlnn33 hF33_O hF33_X hF33_V hF33_U hF33_P hF33_G ag33 fU33 fX33 fO33 fl33
        have hn55 : (c33_P 221) this = some ra := (fP33 221 this hlt_this (fun q => absurd q (by decide))).trans hn1
        have lt_ra56 := ((hB33.1 221 fl_221) this ra hn55).2.1
        have hk_ra := (((CInv_P221 hCI33 :) this).2 ra hn55).1
        have hl1_ra := (((CInv_P221 hCI33 :) this).2 ra hn55).2.1
        have hl2_ra := (((CInv_P221 hCI33 :) this).2 ra hn55).2.2.1
        have hw_ra : id _ := (((CInv_P221 hCI33 :) this).2 ra hn55).2.2.2
        have hn57 : (c33_P 226) this = some tn := (fP33 226 this hlt_this (fun q => absurd q (by decide))).trans hn3
        have lt_tn58 := ((hB33.1 226 fl_226) this tn hn57).2.1
        have hk_tn := (((CInv_P226 hCI33 :) this).2 tn hn57).1
        have hl1_tn := (((CInv_P226 hCI33 :) this).2 tn hn57).2.1
        have hl2_tn := (((CInv_P226 hCI33 :) this).2 tn hn57).2.2.1
        have hw_tn : id _ := (((CInv_P226 hCI33 :) this).2 tn hn57).2.2.2
        have hn59 : (c33_P 229) this = some bk := (fP33 229 this hlt_this (fun q => absurd q (by decide))).trans hn5
        have lt_bk60 := ((hB33.1 229 fl_229) this bk hn59).2.1
        have hk_bk := (((CInv_P229 hCI33 :) this).2 bk hn59).1
        have hl1_bk := (((CInv_P229 hCI33 :) this).2 bk hn59).2.1
        have hl2_bk := (((CInv_P229 hCI33 :) this).2 bk hn59).2.2.1
        have hw_bk : id _ := (((CInv_P229 hCI33 :) this).2 bk hn59).2.2.2
        have hn61 : (c33_P 3) bk = some fl := (fP33 3 bk lt_bk6 (fun q => absurd q (by decide))).trans hn7
        have lt_fl62 := ((hB33.1 3 fl_3) bk fl hn61).2.1
        have hk_fl := (((CInv_P3 hCI33 :) bk).2 fl hn61).1
        have hl1_fl := (((CInv_P3 hCI33 :) bk).2 fl hn61).2.1
        have hl2_fl := (((CInv_P3 hCI33 :) bk).2 fl hn61).2.2.1
        have hw_fl : id _ := (((CInv_P3 hCI33 :) bk).2 fl hn61).2.2.2
        have hn63 : (c33_P 1) bk = some fa := (fP33 1 bk lt_bk6 (fun q => absurd q (by decide))).trans hn9
        have lt_fa64 := ((hB33.1 1 fl_1) bk fa hn63).2.1
        have hk_fa := (((CInv_P1 hCI33 :) bk).2 fa hn63).1
        have hl1_fa := (((CInv_P1 hCI33 :) bk).2 fa hn63).2.1
        have hl2_fa := (((CInv_P1 hCI33 :) bk).2 fa hn63).2.2.1
        have hw_fa : id _ := (((CInv_P1 hCI33 :) bk).2 fa hn63).2.2.2
        have hn65 : (c33_P 0) bk = some wd := (fP33 0 bk lt_bk6 (fun q => absurd q (by decide))).trans hn11
        have lt_wd66 := ((hB33.1 0 fl_0) bk wd hn65).2.1
        have hk_wd := (((CInv_P0 hCI33 :) bk).2 wd hn65).1
        have hl1_wd := (((CInv_P0 hCI33 :) bk).2 wd hn65).2.1
        have hl2_wd := (((CInv_P0 hCI33 :) bk).2 wd hn65).2.2.1
        have hw_wd : id _ := (((CInv_P0 hCI33 :) bk).2 wd hn65).2.2.2
        have hn67 : (c33_P 201) wd = some wl := (fP33 201 wd lt_wd12 (fun q => absurd q (by decide))).trans hn13
        have lt_wl68 := ((hB33.1 201 fl_201) wd wl hn67).2.1
        have hk_wl := (((CInv_P201 hCI33 :) wd).2 wl hn67).1
        have hl1_wl := (((CInv_P201 hCI33 :) wd).2 wl hn67).2.1
        have hl2_wl := (((CInv_P201 hCI33 :) wd).2 wl hn67).2.2.1
        have hw_wl : id _ := (((CInv_P201 hCI33 :) wd).2 wl hn67).2.2.2
        have hn69 : (c33_P 202) wd = some wz := (fP33 202 wd lt_wd12 (fun q => absurd q (by decide))).trans hn15
        have lt_wz70 := ((hB33.1 202 fl_202) wd wz hn69).2.1
        have hk_wz := (((CInv_P202 hCI33 :) wd).2 wz hn69).1
        have hl1_wz := (((CInv_P202 hCI33 :) wd).2 wz hn69).2.1
        have hl2_wz := (((CInv_P202 hCI33 :) wd).2 wz hn69).2.2.1
        have hw_wz : id _ := (((CInv_P202 hCI33 :) wd).2 wz hn69).2.2.2
        have rb71 := ((CInv_RB hCI33 :) wd wz hk_wd hn69).1
        have gzw : (c33_G 203) wd = (G 203) wd := fG33 203 wd (by omega) (fun _ => show (la wd < la bk ∨ la bk + 2 < la wd) ∧ (la wd < la tn ∨ la tn + 8 < la wd) from by omega)
        have gzwi := congrArg Int32.toInt gzw
        have hv0w : (c33_V 0) wl = (V 0) wl := fV33 0 wl (by omega) (fun _ => show (la wl < la bk ∨ la bk + 2 < la wl) ∧ (la wl < la tn ∨ la tn + 8 < la wl) from by omega)
        have hv1w : (c33_V 1) wz = (V 1) wz := fV33 1 wz (by omega) (fun _ => show (la wz < la bk ∨ la bk + 2 < la wz) ∧ (la wz < la tn ∨ la tn + 8 < la wz) from by omega)
        have hg2w : ((c33_G 200) wd).toInt = ((24 : Nat) : Int) := by rw [fG33 200 wd (by omega) (fun q => absurd q (by decide))]; exact hww
        have hWs9 : rwW ((c33_G 203) wd) ((c33_V 0) wl) ((c33_V 1) wz) 24 = Ws := by rw [gzw, hv0w, hv1w]; exact hWs
        have e1b : (c33_P 1) bk = some fa := (fP33 1 bk (by omega) (fun q => absurd q (by decide))).trans h1
        have e0b : (c33_P 0) bk = some wd := (fP33 0 bk (by omega) (fun q => absurd q (by decide))).trans h0
        have ewl : (c33_P 201) wd = some wl := (fP33 201 wd (by omega) (fun q => absurd q (by decide))).trans hwl
        have ewz : (c33_P 202) wd = some wz := (fP33 202 wd (by omega) (fun q => absurd q (by decide))).trans hwz
        have hWl : Ws.length = Int32.toNatClampNeg ((G 203) wd) := by rw [← hWs]; exact rw_len
        have hbw9 := (CInv_G203 hI :) wd
        have cbw := clampI (x := (G 203) wd) (by omega)
        have hp9 := p33_1 (Int32.toNatClampNeg p0) (by omega)
        rw [if_pos (by omega)] at hp9
        have hrw : ∀ w, w < Ws.length → ROWF c33_G c33_P c33_V la33 c33_cnt D ((c33_O 1) fa (100 * Int32.toNatClampNeg p0 + w)) (FMT d Ws (Int32.toNatClampNeg p0) w) := fun w hw => p33_0 (Int32.toNatClampNeg p0) w (by omega) (by show w < Int32.toNatClampNeg (c33_V 3 fl (Int32.toNatClampNeg p0)); rw [hp9]; omega)
        have hn74 : (c33_P 1) bk = some fa := e1b
        have hk_fa := (((CInv_P1 hCI33 :) bk).2 fa hn74).1
        have hl1_fa := (((CInv_P1 hCI33 :) bk).2 fa hn74).2.1
        have hl2_fa := (((CInv_P1 hCI33 :) bk).2 fa hn74).2.2.1
        have hw_fa : id _ := (((CInv_P1 hCI33 :) bk).2 fa hn74).2.2.2
        have hn75 : (c33_P 0) bk = some wd := e0b
        have hk_wd := (((CInv_P0 hCI33 :) bk).2 wd hn75).1
        have hl1_wd := (((CInv_P0 hCI33 :) bk).2 wd hn75).2.1
        have hl2_wd := (((CInv_P0 hCI33 :) bk).2 wd hn75).2.2.1
        have hw_wd : id _ := (((CInv_P0 hCI33 :) bk).2 wd hn75).2.2.2
        have hn76 : (c33_P 201) wd = some wl := ewl
        have hk_wl := (((CInv_P201 hCI33 :) wd).2 wl hn76).1
        have hl1_wl := (((CInv_P201 hCI33 :) wd).2 wl hn76).2.1
        have hl2_wl := (((CInv_P201 hCI33 :) wd).2 wl hn76).2.2.1
        have hw_wl : id _ := (((CInv_P201 hCI33 :) wd).2 wl hn76).2.2.2
        have hn80 : (c33_P 202) wd = some wz := ewz
        have hk_wz := (((CInv_P202 hCI33 :) wd).2 wz hn80).1
        have hl1_wz := (((CInv_P202 hCI33 :) wd).2 wz hn80).2.1
        have hl2_wz := (((CInv_P202 hCI33 :) wd).2 wz hn80).2.2.1
        have hw_wz : id _ := (((CInv_P202 hCI33 :) wd).2 wz hn80).2.2.2
        have lp41 : ∀ (n41 : Nat) (y41_3 : Int32) (y41_4 : Int32), (0 ≤ y41_4.toInt ∧ y41_4.toInt ≤ 100) → (0 ≤ y41_3.toInt ∧ y41_3.toInt ≤ y41_4.toInt) → y41_4.toInt ≤ ((G 203) wd).toInt → (y41_3.toInt = ((cnB (fun w => tlB (FMT d Ws (Int32.toNatClampNeg p0) w) (Ws.getD w []) p1.toInt) (Int32.toNatClampNeg y41_4) : Nat) : Int)) → pw (L_X11_tell_41 this p0 p1 c33_G c33_P c33_U c33_V c33_X c33_O c33_kd c33_ln c33_cnt n41 y41_3 y41_4) (sp1 (QF_X11_tell κ wd la G P U V X O kd ln cnt this p0 p1 ra tn bk nw nx wh pg fi pa pk sz cl fa fl sp lsp ssp wl wz D d Ws)) := by
          intro n41
          clear fG33 fP33 fV33
          induction n41 with
          | zero => intros; exact pw_none
          | succ n41 ih41 =>
            intro y41_3 y41_4 f84 f85 f86 io41
            show pw (B_X11_tell_41 this p0 p1 c33_G c33_P c33_U c33_V c33_X c33_O c33_kd c33_ln c33_cnt (L_X11_tell_41 this p0 p1 c33_G c33_P c33_U c33_V c33_X c33_O c33_kd c33_ln c33_cnt n41) y41_3 y41_4) _
            unfold B_X11_tell_41
            refine pw_nne hn59 ?_
            refine pw_nne hn75 ?_
            have b87 := (CInv_G203 hCI33 :) wd
            refine pw_ite (fun c53 => ?_) (fun c53 => ?_)
            · have c53 := (z_le _ _).mp c53
              have qq0 : id ((¬ ((0 ≤ p0.toInt ∧ p0.toInt ≤ ((G 222) this).toInt) ∧ 0 ≤ p1.toInt ∧ p1.toInt ≤ 2) → y41_3.toInt = -2)) := show (¬ ((0 ≤ p0.toInt ∧ p0.toInt ≤ ((G 222) this).toInt) ∧ 0 ≤ p1.toInt ∧ p1.toInt ≤ 2) → y41_3.toInt = -2) from by intro h; exfalso; exact h ⟨st9, st8⟩
              have qq1 : id (((0 ≤ p0.toInt ∧ p0.toInt ≤ ((G 222) this).toInt) ∧ 0 ≤ p1.toInt ∧ p1.toInt ≤ 2 → y41_3.toInt = ((cnB (fun w => tlB (FMT d Ws (Int32.toNatClampNeg p0) w) (Ws.getD w []) p1.toInt) Ws.length : Nat) : Int))) := show ((0 ≤ p0.toInt ∧ p0.toInt ≤ ((G 222) this).toInt) ∧ 0 ≤ p1.toInt ∧ p1.toInt ≤ 2 → y41_3.toInt = ((cnB (fun w => tlB (FMT d Ws (Int32.toNatClampNeg p0) w) (Ws.getD w []) p1.toInt) Ws.length : Nat) : Int)) from by intro _; have k4 := clampI (x := y41_4) (by omega); have h9 := io41; rw [show Int32.toNatClampNeg y41_4 = Ws.length by omega] at h9; exact h9
              have qq2 : BKR c33_G c33_P c33_V la33 c33_cnt D ((c33_O 1) fa) (fun s => Int32.toNatClampNeg ((c33_V 3) fl s)) (FMT d Ws) := by exact BKR_fr p33_0 hB33 (fun _ => rfl) (fun _ _ => ⟨rfl, rfl, rfl⟩) (fun _ _ _ _ => ⟨rfl, rfl, rfl⟩) (Nat.le_refl _) (fun _ _ => rfl) (fun _ _ h => h)
              have qq3 : id ((∀ s : Nat, s < 7 → ((G 222) this).toInt < (s : Int) → (c33_V 3) fl s = (V 3) fl s)) := show (∀ s : Nat, s < 7 → ((G 222) this).toInt < (s : Int) → (c33_V 3) fl s = (V 3) fl s) from by intro s hs h9; have z9 := p33_1 s hs; rw [if_neg (by omega)] at z9; exact z9
              exact pw_some ⟨la33, hag33, hB33, qq0, qq1, qq2, qq3⟩
            · have c53 := z_nle c53
              have k4 := clampI (x := y41_4) (by omega)
              have hg4 : Ws.getD (Int32.toNatClampNeg y41_4) [] = wdl ((c33_V 0) wl) (24 * Int32.toNatClampNeg y41_4) (Int32.toNatClampNeg ((c33_V 1) wz (Int32.toNatClampNeg y41_4))) := by rw [List.getD_eq_getElem?_getD, show Ws[Int32.toNatClampNeg y41_4]? = some (wdl ((c33_V 0) wl) (24 * Int32.toNatClampNeg y41_4) (Int32.toNatClampNeg ((c33_V 1) wz (Int32.toNatClampNeg y41_4)))) by rw [← hWs9]; exact rw_at (by rw [gzw]; omega)]; rfl
              refine pw_nne hn59 ?_
              have hpr64_0 : (0 ≤ p0.toInt ∧ p0.toInt ≤ 6) := by first | assumption | omega
              have hpr64_1 : (0 ≤ y41_4.toInt ∧ y41_4.toInt < ((c33_G 203) wd).toInt) := by first | assumption | omega
              refine pw_b1 (fun r64 hc64 => ?_)
              have hq64 := wp_at (ok_X0_isSuch κ33_21 wd c33_G c33_P c33_U c33_V c33_X c33_O c33_kd c33_ln c33_cnt bk p0 y41_4 p1 (CInv_G200 hCI33 :) (CInv_G203 hCI33 :) (CInv_P0 hCI33 :) (CInv_P1 hCI33 :) (CInv_P5 hCI33 :) (CInv_P201 hCI33 :) (CInv_P202 hCI33 :) (CInv_V1 hCI33 :) (CInv_O1 hCI33 :) (CInv_RA hCI33 :) (CInv_RB hCI33 :) (CInv_RI hCI33 :) (CInv_LN hCI33 :) (CInv_W0 hCI33 :) hk_bk hpr64_0 hpr64_1) hc64
              have f91 : (0 ≤ r64.toInt ∧ r64.toInt ≤ 1) := hq64
              clear hq64
              have h864_h1 : (c33_P 1) bk = some fa := by exact hn74
              have h864_h0 : (c33_P 0) bk = some wd := by exact e0b
              have h864_hwl : (c33_P 201) wd = some wl := by exact ewl
              have h864_hwz : (c33_P 202) wd = some wz := by exact ewz
              have h864_hww : ((c33_G 200) wd).toInt = ((24 : Nat) : Int) := by exact hg2w
              have h864_hr1 : ROWF c33_G c33_P c33_V la33 c33_cnt D ((c33_O 1) fa (100 * Int32.toNatClampNeg p0 + Int32.toNatClampNeg y41_4)) (FMT d Ws (Int32.toNatClampNeg p0) (Int32.toNatClampNeg y41_4)) := by exact hrw _ (by omega)
              have h864_hx : wdl ((c33_V 0) wl) (24 * Int32.toNatClampNeg y41_4) (Int32.toNatClampNeg ((c33_V 1) wz (Int32.toNatClampNeg y41_4))) = (Ws.getD (Int32.toNatClampNeg y41_4) []) := by exact hg4.symm
              have h864_hp2 : 0 ≤ p1.toInt ∧ p1.toInt ≤ 2 := by exact st8
              have hx64 := pwq (fn_X0_isSuch κ33_21 wd la33 c33_G c33_P c33_U c33_V c33_X c33_O c33_kd c33_ln c33_cnt bk p0 y41_4 p1 (fa) (D) (wl) (wz) (FMT d Ws (Int32.toNatClampNeg p0) (Int32.toNatClampNeg y41_4)) (Ws.getD (Int32.toNatClampNeg y41_4) []) (CInv_G200 hCI33 :) (CInv_G203 hCI33 :) (CInv_P0 hCI33 :) (CInv_P1 hCI33 :) (CInv_P5 hCI33 :) (CInv_P201 hCI33 :) (CInv_P202 hCI33 :) (CInv_V1 hCI33 :) (CInv_O1 hCI33 :) (CInv_RA hCI33 :) (CInv_RB hCI33 :) (CInv_RI hCI33 :) (CInv_LN hCI33 :) (CInv_W0 hCI33 :) hk_bk hpr64_0 hpr64_1 hB33 lt_bk60 h864_h1 h864_h0 h864_hwl h864_hwz h864_hww h864_hr1 h864_hx h864_hp2) hc64
              obtain ⟨p64_0, p64_1⟩ : (id ((r64.toInt ≠ 0 → tlB (FMT d Ws (Int32.toNatClampNeg p0) (Int32.toNatClampNeg y41_4)) (Ws.getD (Int32.toNatClampNeg y41_4) []) p1.toInt = true))) ∧ (id ((r64.toInt = 0 → tlB (FMT d Ws (Int32.toNatClampNeg p0) (Int32.toNatClampNeg y41_4)) (Ws.getD (Int32.toNatClampNeg y41_4) []) p1.toInt = false))) := hx64
              clear h864_h1 h864_h0 h864_hwl h864_hwz h864_hww h864_hr1 h864_hx h864_hp2
              refine pw_jE (fun j73 ej73 => ?_)
              refine pw_ite (fun c67 => ?_) (fun c67 => ?_)
              · have c67 := congrArg Int32.toInt c67
                refine pw_j1 ej73 (fun x73_3 ex73_3 => ?_)
                have ex73_3 := ex73_3.symm
                have f_x73_3 : x73_3.toInt = y41_3.toInt := by rw [ex73_3]
                have f92 : (y41_4 + 1).toInt = y41_4.toInt + (1) := z_addc (by decide +kernel) (by omega) (by omega)
                have iv41_0 : (0 ≤ (y41_4 + 1).toInt ∧ (y41_4 + 1).toInt ≤ 100) := by omega
                have iv41_1 : (0 ≤ x73_3.toInt ∧ x73_3.toInt ≤ (y41_4 + 1).toInt) := by omega
                have iv41_2 : (y41_4 + 1).toInt ≤ ((G 203) wd).toInt := by omega
                have iv41_3 : (x73_3.toInt = ((cnB (fun w => tlB (FMT d Ws (Int32.toNatClampNeg p0) w) (Ws.getD w []) p1.toInt) (Int32.toNatClampNeg (y41_4 + 1)) : Nat) : Int)) := by have k5 := clampI (x := y41_4 + 1) (by omega); rw [cnB_n (k := Int32.toNatClampNeg y41_4) (p64_1 (by omega)) (by omega)]; have h9 := io41; omega
                exact ih41 x73_3 (y41_4 + 1) iv41_0 iv41_1 iv41_2 iv41_3
              · have c67 : r64.toInt = 1 := by have z9 := z_ne c67; omega
                have f93 : (y41_3 + 1).toInt = y41_3.toInt + (1) := z_addc (by decide +kernel) (by omega) (by omega)
                refine pw_j1 ej73 (fun x73_3 ex73_3 => ?_)
                have ex73_3 := ex73_3.symm
                have f_x73_3 : x73_3.toInt = (y41_3 + 1).toInt := by rw [ex73_3]
                have f94 : (y41_4 + 1).toInt = y41_4.toInt + (1) := z_addc (by decide +kernel) (by omega) (by omega)
                have iv41_0 : (0 ≤ (y41_4 + 1).toInt ∧ (y41_4 + 1).toInt ≤ 100) := by omega
                have iv41_1 : (0 ≤ x73_3.toInt ∧ x73_3.toInt ≤ (y41_4 + 1).toInt) := by omega
                have iv41_2 : (y41_4 + 1).toInt ≤ ((G 203) wd).toInt := by omega
                have iv41_3 : (x73_3.toInt = ((cnB (fun w => tlB (FMT d Ws (Int32.toNatClampNeg p0) w) (Ws.getD w []) p1.toInt) (Int32.toNatClampNeg (y41_4 + 1)) : Nat) : Int)) := by have k5 := clampI (x := y41_4 + 1) (by omega); rw [cnB_y (k := Int32.toNatClampNeg y41_4) (p64_0 (by omega)) (by omega)]; have h9 := io41; omega
                exact ih41 x73_3 (y41_4 + 1) iv41_0 iv41_1 iv41_2 iv41_3
        exact lp41 NN (0 : Int32) (0 : Int32) (show (0 ≤ (0 : Int32).toInt ∧ (0 : Int32).toInt ≤ 100) from by omega) (show (0 ≤ (0 : Int32).toInt ∧ (0 : Int32).toInt ≤ (0 : Int32).toInt) from by omega) (show (0 : Int32).toInt ≤ ((G 203) wd).toInt from by omega) (show ((0 : Int32).toInt = ((cnB (fun w => tlB (FMT d Ws (Int32.toNatClampNeg p0) w) (Ws.getD w []) p1.toInt) (Int32.toNatClampNeg (0 : Int32)) : Nat) : Int)) from by rfl)
      · have c14 := z_nle c14
        refine pw_j0 ej17 ?_
        have qq0 : id ((¬ ((0 ≤ p0.toInt ∧ p0.toInt ≤ ((G 222) this).toInt) ∧ 0 ≤ p1.toInt ∧ p1.toInt ≤ 2) → (-2 : Int32).toInt = -2)) := show (¬ ((0 ≤ p0.toInt ∧ p0.toInt ≤ ((G 222) this).toInt) ∧ 0 ≤ p1.toInt ∧ p1.toInt ≤ 2) → (-2 : Int32).toInt = -2) from by intro _; omega
        have qq1 : id (((0 ≤ p0.toInt ∧ p0.toInt ≤ ((G 222) this).toInt) ∧ 0 ≤ p1.toInt ∧ p1.toInt ≤ 2 → (-2 : Int32).toInt = ((cnB (fun w => tlB (FMT d Ws (Int32.toNatClampNeg p0) w) (Ws.getD w []) p1.toInt) Ws.length : Nat) : Int))) := show ((0 ≤ p0.toInt ∧ p0.toInt ≤ ((G 222) this).toInt) ∧ 0 ≤ p1.toInt ∧ p1.toInt ≤ 2 → (-2 : Int32).toInt = ((cnB (fun w => tlB (FMT d Ws (Int32.toNatClampNeg p0) w) (Ws.getD w []) p1.toInt) Ws.length : Nat) : Int)) from by intro h; exfalso; have h2 := h.2; omega
        have qq2 : BKR G P V la cnt D ((O 1) fa) (fun s => Int32.toNatClampNeg ((V 3) fl s)) (FMT d Ws) := by exact BKR_fr hbk hB (fun _ => rfl) (fun _ _ => ⟨rfl, rfl, rfl⟩) (fun _ _ _ _ => ⟨rfl, rfl, rfl⟩) (Nat.le_refl _) (fun _ _ => rfl) (fun _ _ h => h)
        have qq3 : id ((∀ s : Nat, s < 7 → ((G 222) this).toInt < (s : Int) → (V 3) fl s = (V 3) fl s)) := show (∀ s : Nat, s < 7 → ((G 222) this).toInt < (s : Int) → (V 3) fl s = (V 3) fl s) from by exact fun _ _ _ => rfl
        exact pw_some ⟨la, (fun _ _ => rfl), hB, qq0, qq1, qq2, qq3⟩
