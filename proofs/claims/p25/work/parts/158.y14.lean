abbrev QF_X9_turnWord (κ : Nat → Nat) (wd : Nat) (la : Nat → Nat) (G : Nat → Nat → Int32) (P : Nat → Nat → Option Nat) (U : Nat → Nat → Int64) (V : Nat → Nat → Nat → Int32) (X : Nat → Nat → Nat → Int64) (O : Nat → Nat → Nat → Option Nat) (kd : Nat → Nat) (ln : Nat → Nat) (cnt : Nat) (this : Nat) (p0 : Nat) (p1 : Nat) (p2 : Int32) (p3 : Nat) (nw : Nat) (nx : Nat) (wh : Nat) (pg : Nat) (fi : Nat) (pa : Nat) (pk : Nat) (sz : Nat) (cl : Nat) (lo : Nat) (so : Nat) (l : Nat) (s : Nat) (d : Dr) (fw : List Wd) (ws : List Wd) (W : Wd) : (Int64 × (Nat → Int32) × (Nat → Int32) × (Nat → Int32) × (Nat → Option Nat) × (Nat → Option Nat) × (Nat → Option Nat) × (Nat → Int64) × (Nat → Nat → Int32) × (Nat → Nat → Int32) × (Nat → Nat → Int32) × (Nat → Nat → Int32)) → Prop := (fun t => (rwW ((t.2.2.2.1) p3) ((t.2.2.2.2.2.2.2.2.1) l) ((t.2.2.2.2.2.2.2.2.2.1) s) 24 = (cdF d W).foldl (addF (ln s)) ws) ∧ ((∃ nwb nxb, (t.2.2.2.2.2.1) this = some nwb ∧ (t.2.2.2.2.2.2.1) this = some nxb ∧ ((nwb = nw ∧ nxb = nx) ∨ (nwb = nx ∧ nxb = nw)))) ∧ ((∀ z, (la z = 94 ∨ la z = 95) → la z ≠ la p3 → (t.2.2.2.2.2.2.2.2.1) z = (V 0) z ∧ (t.2.2.2.2.2.2.2.2.2.1) z = (V 1) z ∧ (t.2.2.2.1) z = (G 203) z)))
set_option maxHeartbeats 4000000 in
set_option maxRecDepth 100000 in
theorem fn_X9_turnWord (κ : Nat → Nat) (wd : Nat) (la : Nat → Nat) (G : Nat → Nat → Int32) (P : Nat → Nat → Option Nat) (U : Nat → Nat → Int64) (V : Nat → Nat → Nat → Int32) (X : Nat → Nat → Nat → Int64) (O : Nat → Nat → Nat → Option Nat) (kd : Nat → Nat) (ln : Nat → Nat) (cnt : Nat) (this : Nat) (p0 : Nat) (p1 : Nat) (p2 : Int32) (p3 : Nat) (nw : Nat) (nx : Nat) (wh : Nat) (pg : Nat) (fi : Nat) (pa : Nat) (pk : Nat) (sz : Nat) (cl : Nat) (lo : Nat) (so : Nat) (l : Nat) (s : Nat) (d : Dr) (fw : List Wd) (ws : List Wd) (W : Wd) (hzG60 : rng (0) 30 (G 60)) (hzG102 : rng (0) 40 (G 102)) (hzG183 : rng (0) 40 (G 183)) (hzG200 : rng (0) 24 (G 200)) (hzG203 : rng (0) 100 (G 203)) (hzP20 : PB κ ln wd 2 100 0 16 0 (P 20)) (hzP21 : PB κ ln wd 2 100 0 16 0 (P 21)) (hzP22 : PB κ ln wd 2 100 0 16 0 (P 22)) (hzP23 : PB κ ln wd 2 100 0 16 0 (P 23)) (hzP61 : PB κ ln wd 4 102 30 30 0 (P 61)) (hzP62 : PB κ ln wd 4 100 720 720 0 (P 62)) (hzP63 : PB κ ln wd 4 100 408 408 0 (P 63)) (hzP64 : PB κ ln wd 4 112 25 25 0 (P 64)) (hzP65 : PB κ ln wd 4 100 24 24 0 (P 65)) (hzP66 : PB κ ln wd 4 11 0 2500 0 (P 66)) (hzP101 : PB κ ln wd 6 300 40 40 0 (P 101)) (hzP103 : PB κ ln wd 6 11 0 2500 1 (P 103)) (hzP104 : PB κ ln wd 6 11 0 2500 1 (P 104)) (hzP105 : PB κ ln wd 6 11 0 2500 1 (P 105)) (hzP106 : PB κ ln wd 6 110 40 40 0 (P 106)) (hzP108 : PB κ ln wd 6 11 0 2500 1 (P 108)) (hzP109 : PB κ ln wd 6 111 40 40 0 (P 109)) (hzP110 : PB κ ln wd 6 200 40 40 0 (P 110)) (hzP180 : PB κ ln wd 10 4 0 2500 0 (P 180)) (hzP181 : PB κ ln wd 10 100 40 40 0 (P 181)) (hzP182 : PB κ ln wd 10 100 40 40 0 (P 182)) (hzP185 : PB κ ln wd 10 100 24 24 0 (P 185)) (hzP201 : PB κ ln wd 11 100 0 2400 0 (P 201)) (hzP202 : PB κ ln wd 11 101 0 100 0 (P 202)) (hzV1 : rng2 (0) 24 (V 1)) (hzV2 : rng2 (0) 24 (V 2)) (hzO0 : OB κ 2 (O 0)) (hzRA : RA κ ln (G 200) (P 201) (P 202)) (hzRB : RB κ ln (G 200) (G 203) (P 202) (V 1)) (hzRI : RI (P 202)) (hzRM103 : RM ln 40 (P 103) (P 202)) (hzRM104 : RM ln 40 (P 104) (P 202)) (hzRM108 : RM ln 40 (P 108) (P 202)) (hzLN : LN κ ln) (hk_this : κ this = 10) (hk_p0 : κ p0 = 6) (hk_p1 : κ p1 = 11) (hk_p3 : κ p3 = 11) (hp0 : (0 ≤ p2.toInt ∧ p2.toInt < ((G 203) p1).toInt)) (hB : LB la cnt P) (hlt_this : this < cnt) (hlt_p0 : p0 < cnt) (hlt_p1 : p1 < cnt) (hlt_p3 : p3 < cnt) (h181 : (P 181) this = some nw) (h182 : (P 182) this = some nx) (hnn : nw ≠ nx) (h185 : (P 185) this = some wh) (h180 : (P 180) this = some pg) (hfi : (P 63) pg = some fi) (hpa : (P 65) pg = some pa) (hpk : (P 62) pg = some pk) (hsz : (P 61) pg = some sz) (hcl : (P 64) pg = some cl) (hlt9 : la this = 90) (hlo : (P 201) p1 = some lo) (hso : (P 202) p1 = some so) (hwo : ((G 200) p1).toInt = ((24 : Nat) : Int)) (hfw : rwW ((G 203) p1) ((V 0) lo) ((V 1) so) 24 = fw) (hfW : fw[Int32.toNatClampNeg p2]? = some W) (hWw : 1 ≤ W.length ∧ W.length ≤ 24 ∧ BW W) (hl : (P 201) p3 = some l) (hs : (P 202) p3 = some s) (hw : ((G 200) p3).toInt = ((24 : Nat) : Int)) (hws : rwW ((G 203) p3) ((V 0) l) ((V 1) s) 24 = ws) (hrf : RFX G P V O ln la cnt p0 d) (hld : 100000 ≤ la p0) (hl1 : (la p1 < 90 ∨ 98 < la p1 ∨ la p1 = 94 ∨ la p1 = 95)) (hl3 : (la p3 < 90 ∨ 98 < la p3 ∨ la p3 = 94 ∨ la p3 = 95)) (hl13 : la p1 ≠ la p3) (hl3d : la p3 < la p0 ∨ la p0 + 5 < la p3) : pw (f_X9_turnWord G P U V X O kd ln cnt this p0 p1 p2 p3) (QF_X9_turnWord κ wd la G P U V X O kd ln cnt this p0 p1 p2 p3 nw nx wh pg fi pa pk sz cl lo so l s d fw ws W) := by
  unfold f_X9_turnWord
  have zkm1 : (-1 : Int32).toInt = -1 := by decide +kernel
  have zk0 : (0 : Int32).toInt = 0 := by decide +kernel
  have r_p2 := i32r p2
  replace hnn : id _ := hnn
  replace hl1 : id _ := hl1
  replace hl3 : id _ := hl3
  replace hl13 : id _ := hl13
  replace hl3d : id _ := hl3d
  have hn1 : (P 181) this = some nw := h181
  obtain ⟨_, lt_nw2, lb_nw2⟩ := (hB.1 181 fl_181) this nw hn1
  have lb_nw2 : 91 ≤ la nw ∧ la nw ≤ 92 := by have z9 := lk_181.mp lb_nw2; rw [hlt9] at z9; exact or_bd z9 (by decide)
  have hk_nw := ((hzP181 this).2 nw hn1).1
  have hl1_nw := ((hzP181 this).2 nw hn1).2.1
  have hl2_nw := ((hzP181 this).2 nw hn1).2.2.1
  have hw_nw : id _ := ((hzP181 this).2 nw hn1).2.2.2
  have hz_nw : (Int32.ofNat (ln nw)).toInt = ((ln nw : Nat) : Int) := ofN_eq (by first | exact Nat.le_trans hl2_nw (by decide) | omega)
  replace hk_nw : id _ := hk_nw
  replace hl1_nw : id _ := hl1_nw
  replace hl2_nw : id _ := hl2_nw
  replace lt_nw2 : id _ := lt_nw2
  have hn3 : (P 182) this = some nx := h182
  obtain ⟨_, lt_nx4, lb_nx4⟩ := (hB.1 182 fl_182) this nx hn3
  have lb_nx4 : 91 ≤ la nx ∧ la nx ≤ 92 := by have z9 := lk_182.mp lb_nx4; rw [hlt9] at z9; exact or_bd z9 (by decide)
  have hk_nx := ((hzP182 this).2 nx hn3).1
  have hl1_nx := ((hzP182 this).2 nx hn3).2.1
  have hl2_nx := ((hzP182 this).2 nx hn3).2.2.1
  have hw_nx : id _ := ((hzP182 this).2 nx hn3).2.2.2
  have hz_nx : (Int32.ofNat (ln nx)).toInt = ((ln nx : Nat) : Int) := ofN_eq (by first | exact Nat.le_trans hl2_nx (by decide) | omega)
  replace hk_nx : id _ := hk_nx
  replace hl1_nx : id _ := hl1_nx
  replace hl2_nx : id _ := hl2_nx
  replace lt_nx4 : id _ := lt_nx4
  have hn5 : (P 185) this = some wh := h185
  obtain ⟨_, lt_wh6, lb_wh6⟩ := (hB.1 185 fl_185) this wh hn5
  have lb_wh6 : la wh = 93 := (lk_185.mp lb_wh6).trans (congrArg (fun z9 => z9 + 3) hlt9)
  have hk_wh := ((hzP185 this).2 wh hn5).1
  have hl1_wh := ((hzP185 this).2 wh hn5).2.1
  have hl2_wh := ((hzP185 this).2 wh hn5).2.2.1
  have hw_wh : id _ := ((hzP185 this).2 wh hn5).2.2.2
  have hz_wh : (Int32.ofNat (ln wh)).toInt = ((ln wh : Nat) : Int) := ofN_eq (by first | exact Nat.le_trans hl2_wh (by decide) | omega)
  replace hk_wh : id _ := hk_wh
  replace hl1_wh : id _ := hl1_wh
  replace hl2_wh : id _ := hl2_wh
  replace lt_wh6 : id _ := lt_wh6
  have hn7 : (P 180) this = some pg := h180
  obtain ⟨_, lt_pg8, lb_pg8⟩ := (hB.1 180 fl_180) this pg hn7
  have lb_pg8 : la pg = 96 := (lk_180.mp lb_pg8).trans (congrArg (fun z9 => z9 + 6) hlt9)
  have hk_pg := ((hzP180 this).2 pg hn7).1
  have hl1_pg := ((hzP180 this).2 pg hn7).2.1
  have hl2_pg := ((hzP180 this).2 pg hn7).2.2.1
  have hw_pg : id _ := ((hzP180 this).2 pg hn7).2.2.2
  replace hk_pg : id _ := hk_pg
  replace hl1_pg : id _ := hl1_pg
  replace hl2_pg : id _ := hl2_pg
  replace lt_pg8 : id _ := lt_pg8
  have hn9 : (P 63) pg = some fi := hfi
  obtain ⟨_, lt_fi10, lb_fi10⟩ := (hB.1 63 fl_63) pg fi hn9
  have lb_fi10 : la fi = 97 := (lk_63.mp lb_fi10).trans (congrArg (fun z9 => z9 + 1) lb_pg8)
  have hk_fi := ((hzP63 pg).2 fi hn9).1
  have hl1_fi := ((hzP63 pg).2 fi hn9).2.1
  have hl2_fi := ((hzP63 pg).2 fi hn9).2.2.1
  have hw_fi : id _ := ((hzP63 pg).2 fi hn9).2.2.2
  have hz_fi : (Int32.ofNat (ln fi)).toInt = ((ln fi : Nat) : Int) := ofN_eq (by first | exact Nat.le_trans hl2_fi (by decide) | omega)
  replace hk_fi : id _ := hk_fi
  replace hl1_fi : id _ := hl1_fi
  replace hl2_fi : id _ := hl2_fi
  replace lt_fi10 : id _ := lt_fi10
  have hn11 : (P 65) pg = some pa := hpa
  obtain ⟨_, lt_pa12, lb_pa12⟩ := (hB.1 65 fl_65) pg pa hn11
  have lb_pa12 : la pa = 98 := (lk_65.mp lb_pa12).trans (congrArg (fun z9 => z9 + 2) lb_pg8)
  have hk_pa := ((hzP65 pg).2 pa hn11).1
  have hl1_pa := ((hzP65 pg).2 pa hn11).2.1
  have hl2_pa := ((hzP65 pg).2 pa hn11).2.2.1
  have hw_pa : id _ := ((hzP65 pg).2 pa hn11).2.2.2
  have hz_pa : (Int32.ofNat (ln pa)).toInt = ((ln pa : Nat) : Int) := ofN_eq (by first | exact Nat.le_trans hl2_pa (by decide) | omega)
  replace hk_pa : id _ := hk_pa
  replace hl1_pa : id _ := hl1_pa
  replace hl2_pa : id _ := hl2_pa
  replace lt_pa12 : id _ := lt_pa12
  have hn13 : (P 62) pg = some pk := hpk
  obtain ⟨_, lt_pk14, lb_pk14⟩ := (hB.1 62 fl_62) pg pk hn13
  have lb_pk14 : la pk = 96 := (lk_62.mp lb_pk14).trans (congrArg (fun z9 => z9 + 0) lb_pg8)
  have hk_pk := ((hzP62 pg).2 pk hn13).1
  have hl1_pk := ((hzP62 pg).2 pk hn13).2.1
  have hl2_pk := ((hzP62 pg).2 pk hn13).2.2.1
  have hw_pk : id _ := ((hzP62 pg).2 pk hn13).2.2.2
  have hz_pk : (Int32.ofNat (ln pk)).toInt = ((ln pk : Nat) : Int) := ofN_eq (by first | exact Nat.le_trans hl2_pk (by decide) | omega)
  replace hk_pk : id _ := hk_pk
  replace hl1_pk : id _ := hl1_pk
  replace hl2_pk : id _ := hl2_pk
  replace lt_pk14 : id _ := lt_pk14
  have hn15 : (P 61) pg = some sz := hsz
  obtain ⟨_, lt_sz16, lb_sz16⟩ := (hB.1 61 fl_61) pg sz hn15
  have lb_sz16 : la sz = 96 := (lk_61.mp lb_sz16).trans (congrArg (fun z9 => z9 + 0) lb_pg8)
  have hk_sz := ((hzP61 pg).2 sz hn15).1
  have hl1_sz := ((hzP61 pg).2 sz hn15).2.1
  have hl2_sz := ((hzP61 pg).2 sz hn15).2.2.1
  have hw_sz : id _ := ((hzP61 pg).2 sz hn15).2.2.2
  have hz_sz : (Int32.ofNat (ln sz)).toInt = ((ln sz : Nat) : Int) := ofN_eq (by first | exact Nat.le_trans hl2_sz (by decide) | omega)
  replace hk_sz : id _ := hk_sz
  replace hl1_sz : id _ := hl1_sz
  replace hl2_sz : id _ := hl2_sz
  replace lt_sz16 : id _ := lt_sz16
  have hn17 : (P 64) pg = some cl := hcl
  obtain ⟨_, lt_cl18, lb_cl18⟩ := (hB.1 64 fl_64) pg cl hn17
  have lb_cl18 : la cl = 96 := (lk_64.mp lb_cl18).trans (congrArg (fun z9 => z9 + 0) lb_pg8)
  have hk_cl := ((hzP64 pg).2 cl hn17).1
  have hl1_cl := ((hzP64 pg).2 cl hn17).2.1
  have hl2_cl := ((hzP64 pg).2 cl hn17).2.2.1
  have hw_cl : id _ := ((hzP64 pg).2 cl hn17).2.2.2
  have hz_cl : (Int32.ofNat (ln cl)).toInt = ((ln cl : Nat) : Int) := ofN_eq (by first | exact Nat.le_trans hl2_cl (by decide) | omega)
  replace hk_cl : id _ := hk_cl
  replace hl1_cl : id _ := hl1_cl
  replace hl2_cl : id _ := hl2_cl
  replace lt_cl18 : id _ := lt_cl18
  have hn19 : (P 201) p1 = some lo := hlo
  have lt_lo20 := ((hB.1 201 fl_201) p1 lo hn19).2.1
  have lb_lo20 : la lo = la p1 + 0 := lk_201.mp ((hB.1 201 fl_201) p1 lo hn19).2.2
  have hk_lo := ((hzP201 p1).2 lo hn19).1
  have hl1_lo := ((hzP201 p1).2 lo hn19).2.1
  have hl2_lo := ((hzP201 p1).2 lo hn19).2.2.1
  have hw_lo : id _ := ((hzP201 p1).2 lo hn19).2.2.2
  have hz_lo : (Int32.ofNat (ln lo)).toInt = ((ln lo : Nat) : Int) := ofN_eq (by first | exact Nat.le_trans hl2_lo (by decide) | omega)
  have hn21 : (P 202) p1 = some so := hso
  have lt_so22 := ((hB.1 202 fl_202) p1 so hn21).2.1
  have lb_so22 : la so = la p1 + 0 := lk_202.mp ((hB.1 202 fl_202) p1 so hn21).2.2
  have hk_so := ((hzP202 p1).2 so hn21).1
  have hl1_so := ((hzP202 p1).2 so hn21).2.1
  have hl2_so := ((hzP202 p1).2 so hn21).2.2.1
  have hw_so : id _ := ((hzP202 p1).2 so hn21).2.2.2
  have hz_so : (Int32.ofNat (ln so)).toInt = ((ln so : Nat) : Int) := ofN_eq (by first | exact Nat.le_trans hl2_so (by decide) | omega)
  have rb23 := (hzRB p1 so hk_p1 hn21).1
  have ra24 := hzRA p1 lo so hk_p1 hn19 hn21
  have bw25 := hzG200 p1
  have hn26 : (P 201) p3 = some l := hl
  have lt_l27 := ((hB.1 201 fl_201) p3 l hn26).2.1
  have lb_l27 : la l = la p3 + 0 := lk_201.mp ((hB.1 201 fl_201) p3 l hn26).2.2
  have hk_l := ((hzP201 p3).2 l hn26).1
  have hl1_l := ((hzP201 p3).2 l hn26).2.1
  have hl2_l := ((hzP201 p3).2 l hn26).2.2.1
  have hw_l : id _ := ((hzP201 p3).2 l hn26).2.2.2
  have hz_l : (Int32.ofNat (ln l)).toInt = ((ln l : Nat) : Int) := ofN_eq (by first | exact Nat.le_trans hl2_l (by decide) | omega)
  have hn28 : (P 202) p3 = some s := hs
  have lt_s29 := ((hB.1 202 fl_202) p3 s hn28).2.1
  have lb_s29 : la s = la p3 + 0 := lk_202.mp ((hB.1 202 fl_202) p3 s hn28).2.2
  have hk_s := ((hzP202 p3).2 s hn28).1
  have hl1_s := ((hzP202 p3).2 s hn28).2.1
  have hl2_s := ((hzP202 p3).2 s hn28).2.2.1
  have hw_s : id _ := ((hzP202 p3).2 s hn28).2.2.2
  have hz_s : (Int32.ofNat (ln s)).toInt = ((ln s : Nat) : Int) := ofN_eq (by first | exact Nat.le_trans hl2_s (by decide) | omega)
  have rb30 := (hzRB p3 s hk_p3 hn28).1
  have ra31 := hzRA p3 l s hk_p3 hn26 hn28
  have bw32 := hzG200 p3
  obtain ⟨⟨dy, hRC⟩, hTC, hWF⟩ := id hrf
  obtain ⟨er, br, pr, kp, lr, le, lb, lpp, se, sb, sp, hpt, hd, hlw, hcb, _, _⟩ := id hRC
  obtain ⟨⟨t104, t105, t103, t106, t101⟩, ⟨u1, u2, u3⟩, ⟨v1, v2, v3⟩, ⟨w1, w2, w3⟩, ⟨x1, x2, x3⟩⟩ := id hpt
  have hd1 : d.1 = entV ((G 203) er) ((V 0) le) ((V 1) se) ((V 0) lb) ((V 1) sb) ((V 10) kp) := by rw [← hd]
  have hd2 : d.2.1 = rwW ((G 203) pr) ((V 0) lpp) ((V 1) sp) 16 := by rw [← hd]
  have hd3 : d.2.2 = lwsV ((G 102) p0) ((O 0) lr) (P 20) (P 21) (P 22) (P 23) (G 24) (G 25) (V 0) ln := by rw [← hd]
  obtain ⟨tr, ph, tl, ts, ⟨t108, t109, t201, t202⟩, tw, hTV⟩ := hTC
  have cp2 := clampI (x := p2) (by omega)
  have hb1 := hzG203 p1
  have c1 := clampI (x := (G 203) p1) (by omega)
  obtain ⟨hm1, hm2, hm3⟩ := mulW (x := p2) (g := (G 200) p1) (w := 24) (by omega) hwo (by decide)
  have hWe : W = wdl ((V 0) lo) (24 * Int32.toNatClampNeg p2) (Int32.toNatClampNeg ((V 1) so (Int32.toNatClampNeg p2))) := by rw [← hfw, rw_at (by omega)] at hfW; exact (Option.some.inj hfW).symm
  have hra := hzRA p1 lo so hk_p1 hlo hso
  have hrb := hzRB p1 so hk_p1 hso
  have hrb1 := hrb.1
  have hri := rowix (x := p2) (w := (G 200) p1) hra (by omega) (by omega)
  have hlv := hzV1 so (Int32.toNatClampNeg p2)
  have clv := clampI (x := (V 1) so (Int32.toNatClampNeg p2)) (by omega)
  have hWl : W.length = Int32.toNatClampNeg ((V 1) so (Int32.toNatClampNeg p2)) := by rw [hWe]; exact wdl_len
  have hn33 : (P 104) p0 = some er := t104
  obtain ⟨_, lt_er34, lb_er34⟩ := (hB.1 104 fl_104) p0 er hn33
  have lb_er34 : la p0 ≤ la er ∧ la er ≤ la p0 + 5 := by rw [lk_104.mp lb_er34]; exact ⟨Nat.le_add_right _ _, Nat.add_le_add_left (by decide) _⟩
  have hk_er := ((hzP104 p0).2 er hn33).1
  have hl1_er := ((hzP104 p0).2 er hn33).2.1
  have hl2_er := ((hzP104 p0).2 er hn33).2.2.1
  have hw_er : id _ := ((hzP104 p0).2 er hn33).2.2.2
  replace hk_er : id _ := hk_er
  replace hl1_er : id _ := hl1_er
  replace hl2_er : id _ := hl2_er
  replace lt_er34 : id _ := lt_er34
  have hn35 : (P 105) p0 = some br := t105
  obtain ⟨_, lt_br36, lb_br36⟩ := (hB.1 105 fl_105) p0 br hn35
  have lb_br36 : la p0 ≤ la br ∧ la br ≤ la p0 + 5 := by rw [lk_105.mp lb_br36]; exact ⟨Nat.le_add_right _ _, Nat.add_le_add_left (by decide) _⟩
  have hk_br := ((hzP105 p0).2 br hn35).1
  have hl1_br := ((hzP105 p0).2 br hn35).2.1
  have hl2_br := ((hzP105 p0).2 br hn35).2.2.1
  have hw_br : id _ := ((hzP105 p0).2 br hn35).2.2.2
  replace hk_br : id _ := hk_br
  replace hl1_br : id _ := hl1_br
  replace hl2_br : id _ := hl2_br
  replace lt_br36 : id _ := lt_br36
  have hn37 : (P 103) p0 = some pr := t103
  obtain ⟨_, lt_pr38, lb_pr38⟩ := (hB.1 103 fl_103) p0 pr hn37
  have lb_pr38 : la p0 ≤ la pr ∧ la pr ≤ la p0 + 5 := by rw [lk_103.mp lb_pr38]; exact ⟨Nat.le_add_right _ _, Nat.add_le_add_left (by decide) _⟩
  have hk_pr := ((hzP103 p0).2 pr hn37).1
  have hl1_pr := ((hzP103 p0).2 pr hn37).2.1
  have hl2_pr := ((hzP103 p0).2 pr hn37).2.2.1
  have hw_pr : id _ := ((hzP103 p0).2 pr hn37).2.2.2
  replace hk_pr : id _ := hk_pr
  replace hl1_pr : id _ := hl1_pr
  replace hl2_pr : id _ := hl2_pr
  replace lt_pr38 : id _ := lt_pr38
  have hn39 : (P 106) p0 = some kp := t106
  obtain ⟨_, lt_kp40, lb_kp40⟩ := (hB.1 106 fl_106) p0 kp hn39
  have lb_kp40 : la p0 ≤ la kp ∧ la kp ≤ la p0 + 5 := by rw [lk_106.mp lb_kp40]; exact ⟨Nat.le_add_right _ _, Nat.add_le_add_left (by decide) _⟩
  have hk_kp := ((hzP106 p0).2 kp hn39).1
  have hl1_kp := ((hzP106 p0).2 kp hn39).2.1
  have hl2_kp := ((hzP106 p0).2 kp hn39).2.2.1
  have hw_kp : id _ := ((hzP106 p0).2 kp hn39).2.2.2
  have hz_kp : (Int32.ofNat (ln kp)).toInt = ((ln kp : Nat) : Int) := ofN_eq (by first | exact Nat.le_trans hl2_kp (by decide) | omega)
  replace hk_kp : id _ := hk_kp
  replace hl1_kp : id _ := hl1_kp
  replace hl2_kp : id _ := hl2_kp
  replace lt_kp40 : id _ := lt_kp40
  have hn41 : (P 101) p0 = some lr := t101
  obtain ⟨_, lt_lr42, lb_lr42⟩ := (hB.1 101 fl_101) p0 lr hn41
  have lb_lr42 : la p0 ≤ la lr ∧ la lr ≤ la p0 + 5 := by rw [lk_101.mp lb_lr42]; exact ⟨Nat.le_add_right _ _, Nat.add_le_add_left (by decide) _⟩
  have hk_lr := ((hzP101 p0).2 lr hn41).1
  have hl1_lr := ((hzP101 p0).2 lr hn41).2.1
  have hl2_lr := ((hzP101 p0).2 lr hn41).2.2.1
  have hw_lr : id _ := ((hzP101 p0).2 lr hn41).2.2.2
  have hz_lr : (Int32.ofNat (ln lr)).toInt = ((ln lr : Nat) : Int) := ofN_eq (by first | exact Nat.le_trans hl2_lr (by decide) | omega)
  replace hk_lr : id _ := hk_lr
  replace hl1_lr : id _ := hl1_lr
  replace hl2_lr : id _ := hl2_lr
  replace lt_lr42 : id _ := lt_lr42
  have hn43 : (P 201) er = some le := u1
  obtain ⟨_, lt_le44, lb_le44⟩ := (hB.1 201 fl_201) er le hn43
  have lb_le44 : la p0 ≤ la le ∧ la le ≤ la p0 + 5 := by rw [lk_201.mp lb_le44]; exact lb_er34
  have hk_le := ((hzP201 er).2 le hn43).1
  have hl1_le := ((hzP201 er).2 le hn43).2.1
  have hl2_le := ((hzP201 er).2 le hn43).2.2.1
  have hw_le : id _ := ((hzP201 er).2 le hn43).2.2.2
  have hz_le : (Int32.ofNat (ln le)).toInt = ((ln le : Nat) : Int) := ofN_eq (by first | exact Nat.le_trans hl2_le (by decide) | omega)
  replace hk_le : id _ := hk_le
  replace hl1_le : id _ := hl1_le
  replace hl2_le : id _ := hl2_le
  replace lt_le44 : id _ := lt_le44
  have hn45 : (P 202) er = some se := v1
  obtain ⟨_, lt_se46, lb_se46⟩ := (hB.1 202 fl_202) er se hn45
  have lb_se46 : la p0 ≤ la se ∧ la se ≤ la p0 + 5 := by rw [lk_202.mp lb_se46]; exact lb_er34
  have hk_se := ((hzP202 er).2 se hn45).1
  have hl1_se := ((hzP202 er).2 se hn45).2.1
  have hl2_se := ((hzP202 er).2 se hn45).2.2.1
  have hw_se : id _ := ((hzP202 er).2 se hn45).2.2.2
  have hz_se : (Int32.ofNat (ln se)).toInt = ((ln se : Nat) : Int) := ofN_eq (by first | exact Nat.le_trans hl2_se (by decide) | omega)
  have rb47 := (hzRB er se hk_er hn45).1
  have ra48 := hzRA er le se hk_er hn43 hn45
  have bw49 := hzG200 er
  replace hk_se : id _ := hk_se
  replace hl1_se : id _ := hl1_se
  replace hl2_se : id _ := hl2_se
  replace lt_se46 : id _ := lt_se46
  have hn50 : (P 201) br = some lb := u2
  obtain ⟨_, lt_lb51, lb_lb51⟩ := (hB.1 201 fl_201) br lb hn50
  have lb_lb51 : la p0 ≤ la lb ∧ la lb ≤ la p0 + 5 := by rw [lk_201.mp lb_lb51]; exact lb_br36
  have hk_lb := ((hzP201 br).2 lb hn50).1
  have hl1_lb := ((hzP201 br).2 lb hn50).2.1
  have hl2_lb := ((hzP201 br).2 lb hn50).2.2.1
  have hw_lb : id _ := ((hzP201 br).2 lb hn50).2.2.2
  have hz_lb : (Int32.ofNat (ln lb)).toInt = ((ln lb : Nat) : Int) := ofN_eq (by first | exact Nat.le_trans hl2_lb (by decide) | omega)
  replace hk_lb : id _ := hk_lb
  replace hl1_lb : id _ := hl1_lb
  replace hl2_lb : id _ := hl2_lb
  replace lt_lb51 : id _ := lt_lb51
  have hn52 : (P 202) br = some sb := v2
  obtain ⟨_, lt_sb53, lb_sb53⟩ := (hB.1 202 fl_202) br sb hn52
  have lb_sb53 : la p0 ≤ la sb ∧ la sb ≤ la p0 + 5 := by rw [lk_202.mp lb_sb53]; exact lb_br36
  have hk_sb := ((hzP202 br).2 sb hn52).1
  have hl1_sb := ((hzP202 br).2 sb hn52).2.1
  have hl2_sb := ((hzP202 br).2 sb hn52).2.2.1
  have hw_sb : id _ := ((hzP202 br).2 sb hn52).2.2.2
  have hz_sb : (Int32.ofNat (ln sb)).toInt = ((ln sb : Nat) : Int) := ofN_eq (by first | exact Nat.le_trans hl2_sb (by decide) | omega)
  have rb54 := (hzRB br sb hk_br hn52).1
  have ra55 := hzRA br lb sb hk_br hn50 hn52
  have bw56 := hzG200 br
  replace hk_sb : id _ := hk_sb
  replace hl1_sb : id _ := hl1_sb
  replace hl2_sb : id _ := hl2_sb
  replace lt_sb53 : id _ := lt_sb53
  have hn57 : (P 201) pr = some lpp := u3
  obtain ⟨_, lt_lpp58, lb_lpp58⟩ := (hB.1 201 fl_201) pr lpp hn57
  have lb_lpp58 : la p0 ≤ la lpp ∧ la lpp ≤ la p0 + 5 := by rw [lk_201.mp lb_lpp58]; exact lb_pr38
  have hk_lpp := ((hzP201 pr).2 lpp hn57).1
  have hl1_lpp := ((hzP201 pr).2 lpp hn57).2.1
  have hl2_lpp := ((hzP201 pr).2 lpp hn57).2.2.1
  have hw_lpp : id _ := ((hzP201 pr).2 lpp hn57).2.2.2
  have hz_lpp : (Int32.ofNat (ln lpp)).toInt = ((ln lpp : Nat) : Int) := ofN_eq (by first | exact Nat.le_trans hl2_lpp (by decide) | omega)
  replace hk_lpp : id _ := hk_lpp
  replace hl1_lpp : id _ := hl1_lpp
  replace hl2_lpp : id _ := hl2_lpp
  replace lt_lpp58 : id _ := lt_lpp58
  have hn59 : (P 202) pr = some sp := v3
  obtain ⟨_, lt_sp60, lb_sp60⟩ := (hB.1 202 fl_202) pr sp hn59
  have lb_sp60 : la p0 ≤ la sp ∧ la sp ≤ la p0 + 5 := by rw [lk_202.mp lb_sp60]; exact lb_pr38
  have hk_sp := ((hzP202 pr).2 sp hn59).1
  have hl1_sp := ((hzP202 pr).2 sp hn59).2.1
  have hl2_sp := ((hzP202 pr).2 sp hn59).2.2.1
  have hw_sp : id _ := ((hzP202 pr).2 sp hn59).2.2.2
  have hz_sp : (Int32.ofNat (ln sp)).toInt = ((ln sp : Nat) : Int) := ofN_eq (by first | exact Nat.le_trans hl2_sp (by decide) | omega)
  have rb61 := (hzRB pr sp hk_pr hn59).1
  have ra62 := hzRA pr lpp sp hk_pr hn57 hn59
  have bw63 := hzG200 pr
  replace hk_sp : id _ := hk_sp
  replace hl1_sp : id _ := hl1_sp
  replace hl2_sp : id _ := hl2_sp
  replace lt_sp60 : id _ := lt_sp60
  have hn64 : (P 108) p0 = some tr := t108
  obtain ⟨_, lt_tr65, lb_tr65⟩ := (hB.1 108 fl_108) p0 tr hn64
  have lb_tr65 : la p0 ≤ la tr ∧ la tr ≤ la p0 + 5 := by rw [lk_108.mp lb_tr65]; exact ⟨Nat.le_add_right _ _, Nat.add_le_add_left (by decide) _⟩
  have hk_tr := ((hzP108 p0).2 tr hn64).1
  have hl1_tr := ((hzP108 p0).2 tr hn64).2.1
  have hl2_tr := ((hzP108 p0).2 tr hn64).2.2.1
  have hw_tr : id _ := ((hzP108 p0).2 tr hn64).2.2.2
  replace hk_tr : id _ := hk_tr
  replace hl1_tr : id _ := hl1_tr
  replace hl2_tr : id _ := hl2_tr
  replace lt_tr65 : id _ := lt_tr65
  have hn66 : (P 109) p0 = some ph := t109
  obtain ⟨_, lt_ph67, lb_ph67⟩ := (hB.1 109 fl_109) p0 ph hn66
  have lb_ph67 : la p0 ≤ la ph ∧ la ph ≤ la p0 + 5 := by rw [lk_109.mp lb_ph67]; exact ⟨Nat.le_add_right _ _, Nat.add_le_add_left (by decide) _⟩
  have hk_ph := ((hzP109 p0).2 ph hn66).1
  have hl1_ph := ((hzP109 p0).2 ph hn66).2.1
  have hl2_ph := ((hzP109 p0).2 ph hn66).2.2.1
  have hw_ph : id _ := ((hzP109 p0).2 ph hn66).2.2.2
  have hz_ph : (Int32.ofNat (ln ph)).toInt = ((ln ph : Nat) : Int) := ofN_eq (by first | exact Nat.le_trans hl2_ph (by decide) | omega)
  replace hk_ph : id _ := hk_ph
  replace hl1_ph : id _ := hl1_ph
  replace hl2_ph : id _ := hl2_ph
  replace lt_ph67 : id _ := lt_ph67
  have hn68 : (P 201) tr = some tl := t201
  obtain ⟨_, lt_tl69, lb_tl69⟩ := (hB.1 201 fl_201) tr tl hn68
  have lb_tl69 : la p0 ≤ la tl ∧ la tl ≤ la p0 + 5 := by rw [lk_201.mp lb_tl69]; exact lb_tr65
  have hk_tl := ((hzP201 tr).2 tl hn68).1
  have hl1_tl := ((hzP201 tr).2 tl hn68).2.1
  have hl2_tl := ((hzP201 tr).2 tl hn68).2.2.1
  have hw_tl : id _ := ((hzP201 tr).2 tl hn68).2.2.2
  have hz_tl : (Int32.ofNat (ln tl)).toInt = ((ln tl : Nat) : Int) := ofN_eq (by first | exact Nat.le_trans hl2_tl (by decide) | omega)
  replace hk_tl : id _ := hk_tl
  replace hl1_tl : id _ := hl1_tl
  replace hl2_tl : id _ := hl2_tl
  replace lt_tl69 : id _ := lt_tl69
  have hn70 : (P 202) tr = some ts := t202
  obtain ⟨_, lt_ts71, lb_ts71⟩ := (hB.1 202 fl_202) tr ts hn70
  have lb_ts71 : la p0 ≤ la ts ∧ la ts ≤ la p0 + 5 := by rw [lk_202.mp lb_ts71]; exact lb_tr65
  have hk_ts := ((hzP202 tr).2 ts hn70).1
  have hl1_ts := ((hzP202 tr).2 ts hn70).2.1
  have hl2_ts := ((hzP202 tr).2 ts hn70).2.2.1
  have hw_ts : id _ := ((hzP202 tr).2 ts hn70).2.2.2
  have hz_ts : (Int32.ofNat (ln ts)).toInt = ((ln ts : Nat) : Int) := ofN_eq (by first | exact Nat.le_trans hl2_ts (by decide) | omega)
  have rb72 := (hzRB tr ts hk_tr hn70).1
  have ra73 := hzRA tr tl ts hk_tr hn68 hn70
  have bw74 := hzG200 tr
  replace hk_ts : id _ := hk_ts
  replace hl1_ts : id _ := hl1_ts
  replace hl2_ts : id _ := hl2_ts
  replace lt_ts71 : id _ := lt_ts71
  have b75 := hzG200 p1
  have f76 := zmw (x := p2) (y := ((G 200) p1)) (by omega) (by omega) (by omega) (by omega)
  have ix77 := rowix (x := p2) (hzRA p1 lo so hk_p1 hn19 hn21) (hzG200 p1).1
  refine pw_vl (fun x6 ex6 => ?_)
  have f78 : x6.toInt = (p2 * ((G 200) p1)).toInt := congrArg Int32.toInt ex6
  refine pw_nne hn21 ?_
  refine pw_if (fun hb13 => ?_)
  obtain ⟨hbl13, hbr13⟩ := hb13
  have b79 := hzV1 so (Int32.toNatClampNeg p2)
  have rl80 := (hzRB p1 so hk_p1 hn21).2 (Int32.toNatClampNeg p2)
  refine pw_vl (fun x14 ex14 => ?_)
  have f81 : x14.toInt = (((V 1) so) (Int32.toNatClampNeg p2)).toInt := congrArg Int32.toInt ex14
  refine pw_nne hn33 ?_
  refine pw_nne hn19 ?_
  refine pw_b1 (fun r28 hc28 => ?_)
  have hq28 := wp_at (ok_X10_find κ wd G P U V X O kd ln cnt er lo x6 x14 hzG200 hzG203 hzP201 hzP202 hzV1 hzRA hzRB hzRI hzLN hk_er hk_lo) hc28
  obtain ⟨f82, f83⟩ : (((-1) ≤ r28.toInt ∧ r28.toInt < 100)) ∧ ((r28.toInt = -1 ∨ r28.toInt < ((G 203) er).toInt)) := hq28
  have h828_hl : (P 201) er = some (le) := by exact u1
  have h828_hs : (P 202) er = some (se) := by exact v1
  have h828_hw : ((G 200) er).toInt = ((16) : Int) := by omega
  have h828_hws : rwW ((G 203) er) ((V 0) (le)) ((V 1) (se)) (16) = (rwW ((G 203) er) ((V 0) le) ((V 1) se) 16) := by rfl
  have h828_hst : 0 ≤ x6.toInt := by omega
  have h828_hm : 0 ≤ x14.toInt := by omega
  have h828_hlf : x6.toInt + x14.toInt ≤ ((ln lo : Nat) : Int) := by omega
  have hx28 := pwq (fn_X10_find κ wd la G P U V X O kd ln cnt er lo x6 x14 (le) (se) (16) (rwW ((G 203) er) ((V 0) le) ((V 1) se) 16) hzG200 hzG203 hzP201 hzP202 hzV1 hzRA hzRB hzRI hzLN hk_er hk_lo hB lt_er34 lt_lo20 h828_hl h828_hs h828_hw h828_hws h828_hst h828_hm h828_hlf) hc28
  have p28_0 : FIX (rwW ((G 203) er) ((V 0) le) ((V 1) se) 16) (wdl ((V 0) lo) (Int32.toNatClampNeg x6) (Int32.toNatClampNeg x14)) r28.toInt := hx28
  clear hx28
  clear h828_hl h828_hs h828_hw h828_hws h828_hst h828_hm h828_hlf
  rw [show Int32.toNatClampNeg x6 = 24 * Int32.toNatClampNeg p2 by rw [ex6]; exact hm1, show Int32.toNatClampNeg x14 = Int32.toNatClampNeg ((V 1) so (Int32.toNatClampNeg p2)) by rw [ex14], ← hWe] at p28_0
  have hes : d.1.map Prod.fst = rwW ((G 203) er) ((V 0) le) ((V 1) se) 16 := by rw [hd1]; exact ent_fst
  rw [← hes] at p28_0
  obtain ⟨lk1, lk2⟩ := lk_fix p28_0
  replace lk1 : id _ := lk1
  replace lk2 : id _ := lk2
  refine pw_ite (fun c36 => ?_) (fun c36 => ?_)
  · have c36 := congrArg Int32.toInt c36
    refine pw_nne hn7 ?_
    refine pw_nne hn37 ?_
    refine pw_nne hn19 ?_
    have hpr66_0 : (0 ≤ x6.toInt ∧ x6.toInt ≤ 2500) := by first | assumption | omega
    refine pw_b5 (fun c66_G60 c66_P66 c66_V0 c66_V2 c66_V12 hc66 => ?_)
    have hq66 := wp_at (ok_X3_find κ wd G P U V X O kd ln cnt pg pr lo x6 x14 hzG60 hzG200 hzG203 hzP61 hzP62 hzP63 hzP64 hzP65 hzP66 hzP201 hzP202 hzV1 hzV2 hzRA hzRB hzRI hzLN hk_pg hk_pr hk_lo hpr66_0) hc66
    obtain ⟨hg84, hg85, hg86⟩ : (rng (0) 30 c66_G60) ∧ (PB κ ln wd 4 11 0 2500 0 c66_P66) ∧ (rng2 (0) 24 c66_V2) := hq66
    have hq66 := pwq (fr_X3_find la G P U V X O kd ln cnt pg pr lo x6 x14 hB lt_pg8 lt_pr38) hc66
    obtain ⟨q66_G60, q66_P66, q66_V0, q66_V2, q66_V12, ql66_66⟩ : (∀ z, (la z < la pg ∨ la pg + 2 < la z) → c66_G60 z = (G 60) z) ∧ (∀ z, (la z < la pg ∨ la pg + 2 < la z) → c66_P66 z = (P 66) z) ∧ (∀ z, (la z < la pg ∨ la pg + 2 < la z) → c66_V0 z = (V 0) z) ∧ (∀ z, (la z < la pg ∨ la pg + 2 < la z) → c66_V2 z = (V 2) z) ∧ (∀ z, (la z < la pg ∨ la pg + 2 < la z) → c66_V12 z = (V 12) z) ∧ LC 66 la cnt c66_P66 := hq66
    have tz66 : ∀ z, ((la z < la this ∨ la this + 8 < la z) ∧ (la z < la p3 ∨ la p3 < la z)) → ((la z < la pg ∨ la pg + 2 < la z)) := fun z hz => by omega
    have hfr87 : ∀ z, ((la z < la this ∨ la this + 8 < la z) ∧ (la z < la p3 ∨ la p3 < la z)) → c66_G60 z = (G 60) z := fun z hz => (q66_G60 z (tz66 z hz)).trans ((fun _ _ => rfl) z hz)
    have hfr88 : ∀ z, ((la z < la this ∨ la this + 8 < la z) ∧ (la z < la p3 ∨ la p3 < la z)) → c66_P66 z = (P 66) z := fun z hz => (q66_P66 z (tz66 z hz)).trans ((fun _ _ => rfl) z hz)
    have hfr89 : ∀ z, ((la z < la this ∨ la this + 8 < la z) ∧ (la z < la p3 ∨ la p3 < la z)) → c66_V0 z = (V 0) z := fun z hz => (q66_V0 z (tz66 z hz)).trans ((fun _ _ => rfl) z hz)
    have hfr90 : ∀ z, ((la z < la this ∨ la this + 8 < la z) ∧ (la z < la p3 ∨ la p3 < la z)) → c66_V2 z = (V 2) z := fun z hz => (q66_V2 z (tz66 z hz)).trans ((fun _ _ => rfl) z hz)
    have hfr91 : ∀ z, ((la z < la this ∨ la this + 8 < la z) ∧ (la z < la p3 ∨ la p3 < la z)) → c66_V12 z = (V 12) z := fun z hz => (q66_V12 z (tz66 z hz)).trans ((fun _ _ => rfl) z hz)
    have h866_hfi : (P 63) pg = some fi := by first | assumption | omega
    have h866_hpa : (P 65) pg = some pa := by first | assumption | omega
    have h866_hpk : (P 62) pg = some pk := by first | assumption | omega
    have h866_hsz : (P 61) pg = some sz := by first | assumption | omega
    have h866_hcl : (P 64) pg = some cl := by first | assumption | omega
    have h866_hl : (P 201) pr = some (lpp) := by exact u3
    have h866_hs : (P 202) pr = some (sp) := by exact v3
    have h866_hw : ((G 200) pr).toInt = ((16 : Nat) : Int) := by omega
    have h866_hps : rwW ((G 203) pr) ((V 0) (lpp)) ((V 1) (sp)) 16 = (d.2.1) := by exact hd2.symm
    have h866_hW : wdl ((V 0) lo) (Int32.toNatClampNeg x6) (Int32.toNatClampNeg x14) = W := by rw [show Int32.toNatClampNeg x6 = 24 * Int32.toNatClampNeg p2 by rw [ex6]; exact hm1, show Int32.toNatClampNeg x14 = Int32.toNatClampNeg ((V 1) so (Int32.toNatClampNeg p2)) by rw [ex14], ← hWe]
    have h866_hlx : x6.toInt + x14.toInt ≤ ((ln lo : Nat) : Int) := by omega
    have h866_hne : id (∀ x, x ∈ (d.2.1) → x ≠ [] ∧ x.length ≤ 16) := show ∀ x, x ∈ (d.2.1) → x ≠ [] ∧ x.length ≤ 16 from by exact fun x hx => ⟨(hWF.2.1 x hx).1, (hWF.2.1 x hx).2.2⟩
    have h866_h13 : 1 ≤ x14.toInt ∧ x14.toInt ≤ 24 := by omega
    have h866_hdl : (la (lpp) < la pg ∨ la pg + 2 < la (lpp)) := by omega
    have h866_hdp : (la lo < la pg ∨ la pg + 2 < la lo) := by have o1 : (la p1 < 90 ∨ 98 < la p1 ∨ la p1 = 94 ∨ la p1 = 95) := hl1; omega
    have hx66 := pwq (fn_X3_find κ wd la G P U V X O kd ln cnt pg pr lo x6 x14 (fi) (pa) (pk) (sz) (cl) (lpp) (sp) (d.2.1) (W) hzG60 hzG200 hzG203 hzP61 hzP62 hzP63 hzP64 hzP65 hzP66 hzP201 hzP202 hzV1 hzV2 hzRA hzRB hzRI hzLN hk_pg hk_pr hk_lo hpr66_0 hB lt_pg8 lt_pr38 lt_lo20 h866_hfi h866_hpa h866_hpk h866_hsz h866_hcl h866_hl h866_hs h866_hw h866_hps h866_hW h866_hlx h866_hne h866_h13 h866_hdl h866_hdp) hc66
    obtain ⟨p66_0, p66_1⟩ : (RWS (idxP (d.2.1)) (c66_G60 pg).toInt (c66_V2 sz) (c66_V0 pk) ((wy (d.2.1) W 0).take 30)) ∧ (c66_P66 pg = some pr) := hx66
    clear h866_hfi h866_hpa h866_hpk h866_hsz h866_hcl h866_hl h866_hs h866_hw h866_hps h866_hW h866_hlx h866_hne h866_h13 h866_hdl h866_hdp
    have hcw : cwF d W = (wy d.2.1 W 0).take 30 := rfl
    rw [← hcw] at p66_0
    have hcwl := p66_0.1.1
    have f66 : ∀ z, (la z < 96 ∨ 98 < la z) → c66_V0 z = (V 0) z := fun z hz => q66_V0 z (by omega)
    refine pw_nne hn7 ?_
    have b92 := hg84 pg
    refine pw_ite (fun c76 => ?_) (fun c76 => ?_)
    · have c76 := congrArg Int32.toInt c76
      have hls66 : lwsV ((G 102) p0) ((O 0) lr) (P 20) (P 21) (P 22) (P 23) (G 24) (G 25) c66_V0 ln = d.2.2 := by rw [hd3]; exact lws_eq hB hlw (fun z hz => f66 z (by omega))
      have hcn : cwF d W = [] := List.length_eq_zero_iff.mp (by omega)
      refine pw_nne hn19 ?_
      have hpr89_0 : (0 ≤ x6.toInt ∧ 0 ≤ x14.toInt ∧ x6.toInt + x14.toInt ≤ ((ln lo : Nat) : Int)) := by first | assumption | omega
      refine pw_b6 (fun r89 c89_G183 c89_P181 c89_P182 c89_U184 c89_V0 hc89 => ?_)
      have hq89 := wp_at (ok_X9_runLaws κ wd (va_up G 60 c66_G60) (va_up P 66 c66_P66) U (va_up (va_up (va_up V 0 c66_V0) 2 c66_V2) 12 c66_V12) X O kd ln cnt this p0 lo x6 x14 hzG102 hzG183 hzP20 hzP21 hzP22 hzP23 hzP101 hzP181 hzP182 hzO0 hzLN hk_this hk_p0 hk_lo hpr89_0) hc89
      obtain ⟨hg93, hg94, hg95, f96⟩ : (rng (0) 40 c89_G183) ∧ (PB κ ln wd 10 100 40 40 0 c89_P181) ∧ (PB κ ln wd 10 100 40 40 0 c89_P182) ∧ ((0 ≤ r89.toInt ∧ r89.toInt ≤ 1)) := hq89
      have hq89 := pwq (fr_X9_runLaws la (va_up G 60 c66_G60) (va_up P 66 c66_P66) U (va_up (va_up (va_up V 0 c66_V0) 2 c66_V2) 12 c66_V12) X O kd ln cnt this p0 lo x6 x14 (LB_set hB ql66_66) hlt_this) hc89
      obtain ⟨q89_G183, q89_P181, q89_P182, q89_U184, q89_V0, ql89_181, ql89_182⟩ : (∀ z, (la z < la this ∨ la this + 8 < la z) → c89_G183 z = (G 183) z) ∧ (∀ z, (la z < la this ∨ la this + 8 < la z) → c89_P181 z = (P 181) z) ∧ (∀ z, (la z < la this ∨ la this + 8 < la z) → c89_P182 z = (P 182) z) ∧ (∀ z, (la z < la this ∨ la this + 8 < la z) → c89_U184 z = (U 184) z) ∧ (∀ z, (la z < la this ∨ la this + 8 < la z) → c89_V0 z = c66_V0 z) ∧ LC 181 la cnt c89_P181 ∧ LC 182 la cnt c89_P182 := hq89
      have tz89 : ∀ z, ((la z < la this ∨ la this + 8 < la z) ∧ (la z < la p3 ∨ la p3 < la z)) → ((la z < la this ∨ la this + 8 < la z)) := fun z hz => by omega
      have hfr97 : ∀ z, ((la z < la this ∨ la this + 8 < la z) ∧ (la z < la p3 ∨ la p3 < la z)) → c89_G183 z = (G 183) z := fun z hz => (q89_G183 z (tz89 z hz)).trans ((fun _ _ => rfl) z hz)
      have hfr98 : ∀ z, ((la z < la this ∨ la this + 8 < la z) ∧ (la z < la p3 ∨ la p3 < la z)) → c89_P181 z = (P 181) z := fun z hz => (q89_P181 z (tz89 z hz)).trans ((fun _ _ => rfl) z hz)
      have hfr99 : ∀ z, ((la z < la this ∨ la this + 8 < la z) ∧ (la z < la p3 ∨ la p3 < la z)) → c89_P182 z = (P 182) z := fun z hz => (q89_P182 z (tz89 z hz)).trans ((fun _ _ => rfl) z hz)
      have hfr100 : ∀ z, ((la z < la this ∨ la this + 8 < la z) ∧ (la z < la p3 ∨ la p3 < la z)) → c89_U184 z = (U 184) z := fun z hz => (q89_U184 z (tz89 z hz)).trans ((fun _ _ => rfl) z hz)
      have hfr101 : ∀ z, ((la z < la this ∨ la this + 8 < la z) ∧ (la z < la p3 ∨ la p3 < la z)) → c89_V0 z = (V 0) z := fun z hz => (q89_V0 z (tz89 z hz)).trans (hfr89 z hz)
      have h889_h181 : (P 181) this = some nw := by exact h181
      have h889_h182 : (P 182) this = some nx := by exact h182
      have h889_hne : nw ≠ nx := by exact hnn
      have h889_hW : wdl (c66_V0 lo) (Int32.toNatClampNeg x6) (Int32.toNatClampNeg x14) = W := by rw [f66 lo (by have o1 : (la p1 < 90 ∨ 98 < la p1 ∨ la p1 = 94 ∨ la p1 = 95) := hl1; omega)]; rw [show Int32.toNatClampNeg x6 = 24 * Int32.toNatClampNeg p2 by rw [ex6]; exact hm1, show Int32.toNatClampNeg x14 = Int32.toNatClampNeg ((V 1) so (Int32.toNatClampNeg p2)) by rw [ex14], ← hWe]
      have h889_hp3 : x14.toInt ≤ 24 := by omega
      have h889_hlr : (P 101) p0 = some lr := by exact t101
      have h889_hls : lwsV ((G 102) p0) ((O 0) lr) (P 20) (P 21) (P 22) (P 23) (G 24) (G 25) c66_V0 ln = (d.2.2) := by exact hls66
      have h889_hLW : LWL ((G 102) p0) ((O 0) lr) la cnt (la p0 + 5) := by exact hlw
      have h889_hld : 100000 ≤ la p0 := by exact hld
      have h889_hlt9 : la this = 90 := by exact hlt9
      have h889_hwf : ∀ L ∈ (d.2.2), 1 ≤ L.1.length ∧ BW L.2.1 := by exact fun L hL => ⟨Nat.pos_of_ne_zero (fun q => (hWF.2.2 L hL).1 (List.length_eq_zero_iff.mp q)), (hWF.2.2 L hL).2.2.1.1⟩
      have h889_hbw : BW W := by exact hWw.2.2
      have hx89 := pwq (fn_X9_runLaws κ wd la (va_up G 60 c66_G60) (va_up P 66 c66_P66) U (va_up (va_up (va_up V 0 c66_V0) 2 c66_V2) 12 c66_V12) X O kd ln cnt this p0 lo x6 x14 (nw) (nx) (W) (lr) (d.2.2) hzG102 hzG183 hzP20 hzP21 hzP22 hzP23 hzP101 hzP181 hzP182 hzO0 hzLN hk_this hk_p0 hk_lo hpr89_0 (LB_set hB ql66_66) hlt_this hlt_p0 lt_lo20 h889_h181 h889_h182 h889_hne h889_hW h889_hp3 h889_hlr h889_hls h889_hLW h889_hld h889_hlt9 h889_hwf h889_hbw) hc89
      obtain ⟨p89_0, p89_1, p89_2⟩ : (id ((r89.toInt = 0 → runL (d.2.2) W = none))) ∧ (id ((∃ nwr nxr, c89_P181 this = some nwr ∧ c89_P182 this = some nxr ∧ nwr ≠ nxr ∧ ((nwr = nw ∧ nxr = nx) ∨ (nwr = nx ∧ nxr = nw)) ∧ (r89.toInt ≠ 0 → ∃ Wr, runL (d.2.2) W = some Wr ∧ BW Wr ∧ wdl (c89_V0 nwr) 0 (Int32.toNatClampNeg (c89_G183 this)) = Wr)))) ∧ (id ((∀ z, z ≠ nw → z ≠ nx → c89_V0 z = c66_V0 z))) := hx89
      clear h889_h181 h889_h182 h889_hne h889_hW h889_hp3 h889_hlr h889_hls h889_hLW h889_hld h889_hlt9 h889_hwf h889_hbw
      obtain ⟨nw1, nx1, e181, e182, hne1, hsw, hrun⟩ := p89_1
      replace hne1 : id _ := hne1
      replace hsw : id _ := hsw
      replace hrun : id _ := hrun
      have hn102 : c89_P181 this = some nw1 := e181
      obtain ⟨_, lt_nw1103, lb_nw1103⟩ := ql89_181 this nw1 hn102
      have lb_nw1103 : 91 ≤ la nw1 ∧ la nw1 ≤ 92 := by have z9 := lk_181.mp lb_nw1103; rw [hlt9] at z9; exact or_bd z9 (by decide)
      have hk_nw1 := ((hg94 this).2 nw1 hn102).1
      have hl1_nw1 := ((hg94 this).2 nw1 hn102).2.1
      have hl2_nw1 := ((hg94 this).2 nw1 hn102).2.2.1
      have hw_nw1 : id _ := ((hg94 this).2 nw1 hn102).2.2.2
      have hz_nw1 : (Int32.ofNat (ln nw1)).toInt = ((ln nw1 : Nat) : Int) := ofN_eq (by first | exact Nat.le_trans hl2_nw1 (by decide) | omega)
      replace hk_nw1 : id _ := hk_nw1
      replace hl1_nw1 : id _ := hl1_nw1
      replace hl2_nw1 : id _ := hl2_nw1
      replace lt_nw1103 : id _ := lt_nw1103
      refine pw_jE (fun j109 ej109 => ?_)
      refine pw_ite (fun c92 => ?_) (fun c92 => ?_)
      · have c92 := congrArg Int32.toInt c92
        refine pw_j3 ej109 (fun z109_0 ez109_0 z109_1 ez109_1 z109_2 ez109_2 => ?_)
        subst ez109_0 ez109_1 ez109_2
        have qq0 : rwW ((G 203) p3) (c89_V0 l) ((V 1) s) 24 = (cdF d W).foldl (addF (ln s)) ws := by rw [cdF_one (lk1 (by omega)) hcn]; rw [p89_0 (by omega)]; show _ = ws; rw [p89_2 l (fun q => by have q9 := congrArg la q; have o3 : (la p3 < 90 ∨ 98 < la p3 ∨ la p3 = 94 ∨ la p3 = 95) := hl3; omega) (fun q => by have q9 := congrArg la q; have o3 : (la p3 < 90 ∨ 98 < la p3 ∨ la p3 = 94 ∨ la p3 = 95) := hl3; omega), f66 l (by have o3 : (la p3 < 90 ∨ 98 < la p3 ∨ la p3 = 94 ∨ la p3 = 95) := hl3; omega)]; exact hws
        have qq1 : id ((∃ nwb nxb, c89_P181 this = some nwb ∧ c89_P182 this = some nxb ∧ ((nwb = nw ∧ nxb = nx) ∨ (nwb = nx ∧ nxb = nw)))) := show (∃ nwb nxb, c89_P181 this = some nwb ∧ c89_P182 this = some nxb ∧ ((nwb = nw ∧ nxb = nx) ∨ (nwb = nx ∧ nxb = nw))) from by exact ⟨nw1, nx1, hn102, e182, hsw⟩
        have qq2 : id ((∀ z, (la z = 94 ∨ la z = 95) → la z ≠ la p3 → c89_V0 z = (V 0) z ∧ (V 1) z = (V 1) z ∧ (G 203) z = (G 203) z)) := show (∀ z, (la z = 94 ∨ la z = 95) → la z ≠ la p3 → c89_V0 z = (V 0) z ∧ (V 1) z = (V 1) z ∧ (G 203) z = (G 203) z) from by intro z h1 h2; exact ⟨(p89_2 z (fun q => by have q9 := congrArg la q; omega) (fun q => by have q9 := congrArg la q; omega)).trans (f66 z (by omega)), rfl, rfl⟩
        exact pw_some ⟨qq0, qq1, qq2⟩
      · have c92 : r89.toInt = 1 := by have z9 := z_ne c92; omega
        obtain ⟨W1, r1, r2, r3⟩ := hrun (by omega)
        have hb183 := hg93 this
        have c183 := clampI (x := c89_G183 this) (by omega)
        have hW1 : W1.length = Int32.toNatClampNeg (c89_G183 this) := by rw [← r3]; exact wdl_len
        have hW24 := runL_le _ _ hWw.2.1 r1
        refine pw_nne hn102 ?_
        have b104 := hg93 this
        refine pw_b3 (fun c106_G203 c106_V0 c106_V1 hc106 => ?_)
        have hq106 := wp_at (ok_X10_addForm κ wd (va_up (va_up G 60 c66_G60) 183 c89_G183) (va_up (va_up (va_up P 66 c66_P66) 181 c89_P181) 182 c89_P182) (va_up U 184 c89_U184) (va_up (va_up (va_up (va_up V 0 c66_V0) 2 c66_V2) 12 c66_V12) 0 c89_V0) X O kd ln cnt p3 nw1 (0 : Int32) (c89_G183 this) hzG200 hzG203 hzP201 hzP202 hzV1 hzRA hzRB hzRI hzLN hk_p3 hk_nw1) hc106
        obtain ⟨hg105, hg106, hRB107, f108, f109⟩ : (rng (0) 100 c106_G203) ∧ (rng2 (0) 24 c106_V1) ∧ (RB κ ln (G 200) c106_G203 (P 202) c106_V1) ∧ (id ((p3 ≠ wd → c106_G203 wd = (G 203) wd))) ∧ (((G 203) p3).toInt ≤ (c106_G203 p3).toInt) := hq106
        have hq106 := pwq (fr_X10_addForm la (va_up (va_up G 60 c66_G60) 183 c89_G183) (va_up (va_up (va_up P 66 c66_P66) 181 c89_P181) 182 c89_P182) (va_up U 184 c89_U184) (va_up (va_up (va_up (va_up V 0 c66_V0) 2 c66_V2) 12 c66_V12) 0 c89_V0) X O kd ln cnt p3 nw1 (0 : Int32) (c89_G183 this) (LB_set (LB_set (LB_set hB ql66_66) ql89_181) ql89_182)) hc106
        obtain ⟨q106_G203, q106_V0, q106_V1⟩ : (∀ z, (la z < la p3 ∨ la p3 < la z) → c106_G203 z = (G 203) z) ∧ (∀ z, (la z < la p3 ∨ la p3 < la z) → c106_V0 z = c89_V0 z) ∧ (∀ z, (la z < la p3 ∨ la p3 < la z) → c106_V1 z = (V 1) z) := hq106
        have tz106 : ∀ z, ((la z < la this ∨ la this + 8 < la z) ∧ (la z < la p3 ∨ la p3 < la z)) → ((la z < la p3 ∨ la p3 < la z)) := fun z hz => by omega
        have hfr110 : ∀ z, ((la z < la this ∨ la this + 8 < la z) ∧ (la z < la p3 ∨ la p3 < la z)) → c106_G203 z = (G 203) z := fun z hz => (q106_G203 z (tz106 z hz)).trans ((fun _ _ => rfl) z hz)
        have hfr111 : ∀ z, ((la z < la this ∨ la this + 8 < la z) ∧ (la z < la p3 ∨ la p3 < la z)) → c106_V0 z = (V 0) z := fun z hz => (q106_V0 z (tz106 z hz)).trans (hfr101 z hz)
        have hfr112 : ∀ z, ((la z < la this ∨ la this + 8 < la z) ∧ (la z < la p3 ∨ la p3 < la z)) → c106_V1 z = (V 1) z := fun z hz => (q106_V1 z (tz106 z hz)).trans ((fun _ _ => rfl) z hz)
        have h8106_hl : (P 201) p3 = some l := by exact hl
        have h8106_hs : (P 202) p3 = some s := by exact hs
        have h8106_hw : ((G 200) p3).toInt = ((24) : Int) := by exact hw
        have h8106_hws : rwW ((G 203) p3) (c89_V0 l) ((V 1) s) (24) = ws := by rw [p89_2 l (fun q => by have q9 := congrArg la q; have o3 : (la p3 < 90 ∨ 98 < la p3 ∨ la p3 = 94 ∨ la p3 = 95) := hl3; omega) (fun q => by have q9 := congrArg la q; have o3 : (la p3 < 90 ∨ 98 < la p3 ∨ la p3 = 94 ∨ la p3 = 95) := hl3; omega), f66 l (by have o3 : (la p3 < 90 ∨ 98 < la p3 ∨ la p3 = 94 ∨ la p3 = 95) := hl3; omega)]; exact hws
        have h8106_hst : 0 ≤ (0 : Int32).toInt := by first | assumption | omega
        have h8106_hm : 0 ≤ (c89_G183 this).toInt := by first | assumption | omega
        have h8106_hmw : (c89_G183 this).toInt ≤ ((24) : Int) := by first | assumption | omega
        have h8106_hlf : (0 : Int32).toInt + (c89_G183 this).toInt ≤ ((ln nw1 : Nat) : Int) := by have q41 : 40 ≤ ln nw1 := hl1_nw1; omega
        have h8106_hw24 : (24) ≤ 24 := by decide
        have hx106 := pwq (fn_X10_addForm κ wd la (va_up (va_up G 60 c66_G60) 183 c89_G183) (va_up (va_up (va_up P 66 c66_P66) 181 c89_P181) 182 c89_P182) (va_up U 184 c89_U184) (va_up (va_up (va_up (va_up V 0 c66_V0) 2 c66_V2) 12 c66_V12) 0 c89_V0) X O kd ln cnt p3 nw1 (0 : Int32) (c89_G183 this) (l) (s) (24) (ws) hzG200 hzG203 hzP201 hzP202 hzV1 hzRA hzRB hzRI hzLN hk_p3 hk_nw1 (LB_set (LB_set (LB_set hB ql66_66) ql89_181) ql89_182) hlt_p3 lt_nw1103 h8106_hl h8106_hs h8106_hw h8106_hws h8106_hst h8106_hm h8106_hmw h8106_hlf h8106_hw24) hc106
        obtain ⟨p106_0, p106_1, p106_2, p106_3⟩ : (rwW (c106_G203 p3) (c106_V0 l) (c106_V1 s) (24) = (gdF (some (wdl (c89_V0 nw1) (Int32.toNatClampNeg (0 : Int32)) (Int32.toNatClampNeg (c89_G183 this))))).foldl (addF (ln s)) ws) ∧ (id ((∀ z, z ≠ l → c106_V0 z = c89_V0 z))) ∧ (id ((∀ z, z ≠ s → c106_V1 z = (V 1) z))) ∧ (id ((∀ z, z ≠ p3 → c106_G203 z = (G 203) z))) := hx106
        clear h8106_hl h8106_hs h8106_hw h8106_hws h8106_hst h8106_hm h8106_hmw h8106_hlf h8106_hw24
        refine pw_j3 ej109 (fun z109_0 ez109_0 z109_1 ez109_1 z109_2 ez109_2 => ?_)
        subst ez109_0 ez109_1 ez109_2
        have qq0 : rwW (c106_G203 p3) (c106_V0 l) (c106_V1 s) 24 = (cdF d W).foldl (addF (ln s)) ws := by rw [cdF_one (lk1 (by omega)) hcn]; rw [p106_0, show Int32.toNatClampNeg (0 : Int32) = 0 from rfl, r3, r1]
        have qq1 : id ((∃ nwb nxb, c89_P181 this = some nwb ∧ c89_P182 this = some nxb ∧ ((nwb = nw ∧ nxb = nx) ∨ (nwb = nx ∧ nxb = nw)))) := show (∃ nwb nxb, c89_P181 this = some nwb ∧ c89_P182 this = some nxb ∧ ((nwb = nw ∧ nxb = nx) ∨ (nwb = nx ∧ nxb = nw))) from by exact ⟨nw1, nx1, hn102, e182, hsw⟩
        have qq2 : id ((∀ z, (la z = 94 ∨ la z = 95) → la z ≠ la p3 → c106_V0 z = (V 0) z ∧ c106_V1 z = (V 1) z ∧ c106_G203 z = (G 203) z)) := show (∀ z, (la z = 94 ∨ la z = 95) → la z ≠ la p3 → c106_V0 z = (V 0) z ∧ c106_V1 z = (V 1) z ∧ c106_G203 z = (G 203) z) from by intro z h1 h2; exact ⟨(p106_1 z (fun q => by have q9 := congrArg la q; omega)).trans ((p89_2 z (fun q => by have q9 := congrArg la q; omega) (fun q => by have q9 := congrArg la q; omega)).trans (f66 z (by omega))), p106_2 z (fun q => by have q9 := congrArg la q; omega), p106_3 z (fun q => by have q9 := congrArg la q; omega)⟩
        exact pw_some ⟨qq0, qq1, qq2⟩
    · have c76 := z_ne c76
      have hcn : cwF d W ≠ [] := fun q => by rw [q] at hcwl; have z9 : (([] : List (List Wd)).length : Int) = 0 := rfl; omega
      have hV1 := hTV
      have hlkn := lk1 (by omega)
      have lp120 : ∀ (n120 : Nat) (y120_8 : Int64) (y120_10 : Int32) (d120_G203 : Nat → Int32) (d120_V0 : Nat → Nat → Int32) (d120_V1 : Nat → Nat → Int32), rng (0) 100 d120_G203 → rng2 (0) 24 d120_V1 → RB κ ln (G 200) d120_G203 (P 202) d120_V1 → (∀ z, ((la z < la this ∨ la this + 8 < la z) ∧ (la z < la p3 ∨ la p3 < la z)) → d120_G203 z = (G 203) z) → (∀ z, ((la z < la this ∨ la this + 8 < la z) ∧ (la z < la p3 ∨ la p3 < la z)) → d120_V0 z = (V 0) z) → (∀ z, ((la z < la this ∨ la this + 8 < la z) ∧ (la z < la p3 ∨ la p3 < la z)) → d120_V1 z = (V 1) z) → (0 ≤ y120_10.toInt ∧ y120_10.toInt ≤ 30) → y120_10.toInt ≤ (((cwF d W).length : Nat) : Int) → (∀ z, z ≠ wh → z ≠ l → d120_V0 z = (c66_V0) z) → (∀ z, z ≠ s → d120_V1 z = (V 1) z) → (∀ z, z ≠ p3 → d120_G203 z = (G 203) z) → (rwW (d120_G203 p3) (d120_V0 l) (d120_V1 s) 24 = (cpre d (cwF d W) (Int32.toNatClampNeg y120_10)).foldl (addF (ln s)) ws) → pw (L_X9_turnWord_120 G P U V X O kd ln cnt this p0 p3 c66_G60 c66_P66 c66_V2 c66_V12 n120 y120_8 y120_10 d120_G203 d120_V0 d120_V1) (QF_X9_turnWord κ wd la G P U V X O kd ln cnt this p0 p1 p2 p3 nw nx wh pg fi pa pk sz cl lo so l s d fw ws W) := by
        intro n120
        clear hV1 c76 b92 hcwl hcw p66_1 hfr91 hfr90 hfr89 hfr88 hfr87 tz66 q66_G60 q66_P66 q66_V0 q66_V2 q66_V12 hg85 hc66 hpr66_0 c36 lk1 lk2 hes p28_0 f82 f83 hc28 f81 rl80 b79 hbl13 hbr13 f78
        induction n120 with
        | zero => intros; exact pw_none
        | succ n120 ih120 =>
          intro y120_8 y120_10 d120_G203 d120_V0 d120_V1 hg113 hg114 hRB115 hfr116 hfr117 hfr118 f119 f120 iz120 iy120 ix120 ir120
          show pw (B_X9_turnWord_120 G P U V X O kd ln cnt this p0 p3 c66_G60 c66_P66 c66_V2 c66_V12 (L_X9_turnWord_120 G P U V X O kd ln cnt this p0 p3 c66_G60 c66_P66 c66_V2 c66_V12 n120) y120_8 y120_10 d120_G203 d120_V0 d120_V1) _
          unfold B_X9_turnWord_120
          refine pw_nne hn7 ?_
          refine pw_ite (fun c129 => ?_) (fun c129 => ?_)
          · have c129 := (z_le _ _).mp c129
            have qq0 : rwW (d120_G203 p3) (d120_V0 l) (d120_V1 s) 24 = (cdF d W).foldl (addF (ln s)) ws := by have hcw9 := p66_0.1.1; have k10 := clampI (x := y120_10) (by omega); rw [ir120, cdF_ways hlkn hcn, cpre_all (by omega)]
            have qq1 : id ((∃ nwb nxb, (P 181) this = some nwb ∧ (P 182) this = some nxb ∧ ((nwb = nw ∧ nxb = nx) ∨ (nwb = nx ∧ nxb = nw)))) := show (∃ nwb nxb, (P 181) this = some nwb ∧ (P 182) this = some nxb ∧ ((nwb = nw ∧ nxb = nx) ∨ (nwb = nx ∧ nxb = nw))) from by exact ⟨nw, nx, h181, h182, Or.inl ⟨rfl, rfl⟩⟩
            have qq2 : id ((∀ z, (la z = 94 ∨ la z = 95) → la z ≠ la p3 → d120_V0 z = (V 0) z ∧ d120_V1 z = (V 1) z ∧ d120_G203 z = (G 203) z)) := show (∀ z, (la z = 94 ∨ la z = 95) → la z ≠ la p3 → d120_V0 z = (V 0) z ∧ d120_V1 z = (V 1) z ∧ d120_G203 z = (G 203) z) from by intro z h1 h2; exact ⟨(iz120 z (fun q => by have q9 := congrArg la q; omega) (fun q => by have q9 := congrArg la q; omega)).trans (f66 z (by omega)), iy120 z (fun q => by have q9 := congrArg la q; omega), ix120 z (fun q => by have q9 := congrArg la q; omega)⟩
            exact pw_some ⟨qq0, qq1, qq2⟩
          · have c129 := z_nle c129
            have hcw9 := p66_0.1.1
            have hb60 := hg84 pg
            have k10 := clampI (x := y120_10) (by omega)
            obtain ⟨wk, hwk⟩ := get_ex (l := cwF d W) (i := Int32.toNatClampNeg y120_10) (by omega)
            have hpr140_0 : (0 ≤ y120_10.toInt ∧ y120_10.toInt < 30) := by first | assumption | omega
            refine pw_b4 (fun r140 c140_G203 c140_V0 c140_V1 hc140 => ?_)
            have hq140 := wp_at (ok_X9_turnParting κ wd (va_up (va_up G 60 c66_G60) 203 d120_G203) (va_up P 66 c66_P66) U (va_up (va_up (va_up (va_up V 0 d120_V0) 1 d120_V1) 2 c66_V2) 12 c66_V12) X O kd ln cnt this p0 y120_10 p3 hg84 hzG200 hg113 hzP61 hzP62 hzP108 hzP109 hzP110 hzP180 hzP185 hzP201 hzP202 hg114 hg86 hzRA hRB115 hzRI hzRM108 hzLN hk_this hk_p0 hk_p3 hpr140_0) hc140
            obtain ⟨hg122, hg123, hRB124, f125⟩ : (rng (0) 100 c140_G203) ∧ (rng2 (0) 24 c140_V1) ∧ (RB κ ln (G 200) c140_G203 (P 202) c140_V1) ∧ (id ((p3 ≠ wd → c140_G203 wd = d120_G203 wd))) := hq140
            have hq140 := pwq (fr_X9_turnParting la (va_up (va_up G 60 c66_G60) 203 d120_G203) (va_up P 66 c66_P66) U (va_up (va_up (va_up (va_up V 0 d120_V0) 1 d120_V1) 2 c66_V2) 12 c66_V12) X O kd ln cnt this p0 y120_10 p3 (LB_set hB ql66_66)) hc140
            obtain ⟨q140_G203, q140_V0, q140_V1⟩ : (∀ z, (la z < la this ∨ la this + 8 < la z) ∧ (la z < la p3 ∨ la p3 < la z) → c140_G203 z = d120_G203 z) ∧ (∀ z, (la z < la this ∨ la this + 8 < la z) ∧ (la z < la p3 ∨ la p3 < la z) → c140_V0 z = d120_V0 z) ∧ (∀ z, (la z < la this ∨ la this + 8 < la z) ∧ (la z < la p3 ∨ la p3 < la z) → c140_V1 z = d120_V1 z) := hq140
            have tz140 : ∀ z, ((la z < la this ∨ la this + 8 < la z) ∧ (la z < la p3 ∨ la p3 < la z)) → ((la z < la this ∨ la this + 8 < la z) ∧ (la z < la p3 ∨ la p3 < la z)) := fun z hz => by omega
            have hfr126 : ∀ z, ((la z < la this ∨ la this + 8 < la z) ∧ (la z < la p3 ∨ la p3 < la z)) → c140_G203 z = (G 203) z := fun z hz => (q140_G203 z (tz140 z hz)).trans (hfr116 z hz)
            have hfr127 : ∀ z, ((la z < la this ∨ la this + 8 < la z) ∧ (la z < la p3 ∨ la p3 < la z)) → c140_V0 z = (V 0) z := fun z hz => (q140_V0 z (tz140 z hz)).trans (hfr117 z hz)
            have hfr128 : ∀ z, ((la z < la this ∨ la this + 8 < la z) ∧ (la z < la p3 ∨ la p3 < la z)) → c140_V1 z = (V 1) z := fun z hz => (q140_V1 z (tz140 z hz)).trans (hfr118 z hz)
            have h8140_h180 : (P 180) this = some pg := by exact h180
            have h8140_hpk : (P 62) pg = some pk := by exact hpk
            have h8140_hsz : (P 61) pg = some sz := by exact hsz
            have h8140_hR : RWS (idxP (d.2.1)) (c66_G60 pg).toInt (c66_V2 sz) (d120_V0 pk) (cwF d W) := by rw [iz120 pk (fun q => by have q9 := congrArg la q; omega) (fun q => by have q9 := congrArg la q; have o3 : (la p3 < 90 ∨ 98 < la p3 ∨ la p3 = 94 ∨ la p3 = 95) := hl3; omega)]; exact p66_0
            have h8140_hRw : (cwF d W)[Int32.toNatClampNeg y120_10]? = some (wk) := by exact hwk
            have h8140_h108 : (P 108) p0 = some tr := by exact t108
            have h8140_h109 : (P 109) p0 = some ph := by exact t109
            have h8140_htl : (P 201) tr = some tl := by exact t201
            have h8140_hts : (P 202) tr = some ts := by exact t202
            have h8140_hwt : ((G 200) tr).toInt = ((24 : Nat) : Int) := by omega
            have h8140_hTP : TPV (d120_G203 tr) (d120_V0 tl) (d120_V1 ts) ((V 11) ph) (d.2.1) (d.2.2) := by rw [ix120 tr (fun q => by have q9 := congrArg la q; have o3d : la p3 < la p0 ∨ la p0 + 5 < la p3 := hl3d; omega), iz120 tl (fun q => by have q9 := congrArg la q; omega) (fun q => by have q9 := congrArg la q; have o3d : la p3 < la p0 ∨ la p0 + 5 < la p3 := hl3d; omega), iy120 ts (fun q => by have q9 := congrArg la q; have o3d : la p3 < la p0 ∨ la p0 + 5 < la p3 := hl3d; omega), f66 tl (by omega)]; exact hTV
            have h8140_h185 : (P 185) this = some wh := by exact h185
            have h8140_hl : (P 201) p3 = some l := by exact hl
            have h8140_hs : (P 202) p3 = some s := by exact hs
            have h8140_hw : ((G 200) p3).toInt = ((24 : Nat) : Int) := by exact hw
            have h8140_hws : rwW (d120_G203 p3) (d120_V0 l) (d120_V1 s) 24 = ((cpre d (cwF d W) (Int32.toNatClampNeg y120_10)).foldl (addF (ln s)) ws) := by exact ir120
            have h8140_hlt9 : la this = 90 := by exact hlt9
            have h8140_hld : 100000 ≤ la p0 := by exact hld
            have h8140_hlp : la p3 ≠ 93 := by have o3 : (la p3 < 90 ∨ 98 < la p3 ∨ la p3 = 94 ∨ la p3 = 95) := hl3; omega
            have hx140 := pwq (fn_X9_turnParting κ wd la (va_up (va_up G 60 c66_G60) 203 d120_G203) (va_up P 66 c66_P66) U (va_up (va_up (va_up (va_up V 0 d120_V0) 1 d120_V1) 2 c66_V2) 12 c66_V12) X O kd ln cnt this p0 y120_10 p3 (pg) (pk) (sz) (tr) (ph) (tl) (ts) (wh) (l) (s) (d.2.1) (d.2.2) (cwF d W) (wk) ((cpre d (cwF d W) (Int32.toNatClampNeg y120_10)).foldl (addF (ln s)) ws) hg84 hzG200 hg113 hzP61 hzP62 hzP108 hzP109 hzP110 hzP180 hzP185 hzP201 hzP202 hg114 hg86 hzRA hRB115 hzRI hzRM108 hzLN hk_this hk_p0 hk_p3 hpr140_0 (LB_set hB ql66_66) hlt_this hlt_p0 hlt_p3 h8140_h180 h8140_hpk h8140_hsz h8140_hR h8140_hRw h8140_h108 h8140_h109 h8140_htl h8140_hts h8140_hwt h8140_hTP h8140_h185 h8140_hl h8140_hs h8140_hw h8140_hws h8140_hlt9 h8140_hld h8140_hlp) hc140
            obtain ⟨p140_0, p140_1, p140_2, p140_3⟩ : (rwW (c140_G203 p3) (c140_V0 l) (c140_V1 s) 24 = (gdF (mkA (d.2.2) [] (wk))).foldl (addF (ln s)) ((cpre d (cwF d W) (Int32.toNatClampNeg y120_10)).foldl (addF (ln s)) ws)) ∧ (id ((∀ z, z ≠ wh → z ≠ l → c140_V0 z = d120_V0 z))) ∧ (id ((∀ z, z ≠ s → c140_V1 z = d120_V1 z))) ∧ (id ((∀ z, z ≠ p3 → c140_G203 z = d120_G203 z))) := hx140
            clear h8140_h180 h8140_hpk h8140_hsz h8140_hR h8140_hRw h8140_h108 h8140_h109 h8140_htl h8140_hts h8140_hwt h8140_hTP h8140_h185 h8140_hl h8140_hs h8140_hw h8140_hws h8140_hlt9 h8140_hld h8140_hlp
            refine pw_vl (fun x144 ex144 => ?_)
            have f129 : (y120_10 + 1).toInt = y120_10.toInt + (1) := z_addc (by decide +kernel) (by omega) (by omega)
            have iv120_0 : (0 ≤ (y120_10 + 1).toInt ∧ (y120_10 + 1).toInt ≤ 30) := by first | omega | assumption | exact (fun _ => rfl) | exact frt (by assumption) (by assumption)
            have iv120_1 : (y120_10 + 1).toInt ≤ (((cwF d W).length : Nat) : Int) := by first | omega | assumption | exact (fun _ => rfl) | exact frt (by assumption) (by assumption)
            have iv120_2 : (∀ z, z ≠ wh → z ≠ l → c140_V0 z = (c66_V0) z) := by intro z h1 h2; exact (p140_1 z h1 h2).trans (iz120 z h1 h2)
            have iv120_3 : (∀ z, z ≠ s → c140_V1 z = (V 1) z) := by intro z h1; exact (p140_2 z h1).trans (iy120 z h1)
            have iv120_4 : (∀ z, z ≠ p3 → c140_G203 z = (G 203) z) := by intro z h1; exact (p140_3 z h1).trans (ix120 z h1)
            have iv120_5 : (rwW (c140_G203 p3) (c140_V0 l) (c140_V1 s) 24 = (cpre d (cwF d W) (Int32.toNatClampNeg (y120_10 + 1))).foldl (addF (ln s)) ws) := by have k11 := clampI (x := y120_10 + 1) (by omega); rw [show Int32.toNatClampNeg (y120_10 + 1) = Int32.toNatClampNeg y120_10 + 1 by omega, cpre_s hwk, List.foldl_append]; exact p140_0
            exact ih120 x144 (y120_10 + 1) c140_G203 c140_V0 c140_V1 hg122 hg123 hRB124 hfr126 hfr127 hfr128 iv120_0 iv120_1 iv120_2 iv120_3 iv120_4 iv120_5
      exact lp120 NN 0 (0 : Int32) (G 203) c66_V0 (V 1) hzG203 hzV1 hzRB (fun _ _ => rfl) hfr89 (fun _ _ => rfl) (show (0 ≤ (0 : Int32).toInt ∧ (0 : Int32).toInt ≤ 30) from by first | omega | assumption | exact (fun _ => rfl) | exact frt (by assumption) (by assumption)) (show (0 : Int32).toInt ≤ (((cwF d W).length : Nat) : Int) from by first | omega | assumption | exact (fun _ => rfl) | exact frt (by assumption) (by assumption)) (show (∀ z, z ≠ wh → z ≠ l → c66_V0 z = (c66_V0) z) from by exact fun _ _ _ => rfl) (show (∀ z, z ≠ s → (V 1) z = (V 1) z) from by exact fun _ _ => rfl) (show (∀ z, z ≠ p3 → (G 203) z = (G 203) z) from by exact fun _ _ => rfl) (show (rwW ((G 203) p3) (c66_V0 l) ((V 1) s) 24 = (cpre d (cwF d W) (Int32.toNatClampNeg (0 : Int32))).foldl (addF (ln s)) ws) from by rw [show Int32.toNatClampNeg (0 : Int32) = 0 from rfl]; show _ = ws; rw [f66 l (by have o3 : (la p3 < 90 ∨ 98 < la p3 ∨ la p3 = 94 ∨ la p3 = 95) := hl3; omega)]; exact hws)
  · have c36 := z_ne c36
    obtain ⟨e, e1, e2, e3, e4⟩ := lk2 (by omega)
    have cr := clampI (x := r28) (by omega)
    have hpr45_0 : (0 ≤ r28.toInt ∧ r28.toInt ≤ 100) := by first | assumption | omega
    refine pw_b3 (fun c45_G203 c45_V0 c45_V1 hc45 => ?_)
    have hq45 := wp_at (ok_X9_addEntry κ wd G P U V X O kd ln cnt this p0 r28 p3 hzG200 hzG203 hzP104 hzP105 hzP106 hzP201 hzP202 hzV1 hzRA hzRB hzRI hzRM104 hzLN hk_this hk_p0 hk_p3 hpr45_0) hc45
    obtain ⟨hg130, hg131, hRB132, f133⟩ : (rng (0) 100 c45_G203) ∧ (rng2 (0) 24 c45_V1) ∧ (RB κ ln (G 200) c45_G203 (P 202) c45_V1) ∧ (id ((p3 ≠ wd → c45_G203 wd = (G 203) wd))) := hq45
    have hq45 := pwq (fr_X9_addEntry la G P U V X O kd ln cnt this p0 r28 p3 hB) hc45
    obtain ⟨q45_G203, q45_V0, q45_V1⟩ : (∀ z, (la z < la p3 ∨ la p3 < la z) → c45_G203 z = (G 203) z) ∧ (∀ z, (la z < la p3 ∨ la p3 < la z) → c45_V0 z = (V 0) z) ∧ (∀ z, (la z < la p3 ∨ la p3 < la z) → c45_V1 z = (V 1) z) := hq45
    have tz45 : ∀ z, ((la z < la this ∨ la this + 8 < la z) ∧ (la z < la p3 ∨ la p3 < la z)) → ((la z < la p3 ∨ la p3 < la z)) := fun z hz => by omega
    have hfr134 : ∀ z, ((la z < la this ∨ la this + 8 < la z) ∧ (la z < la p3 ∨ la p3 < la z)) → c45_G203 z = (G 203) z := fun z hz => (q45_G203 z (tz45 z hz)).trans ((fun _ _ => rfl) z hz)
    have hfr135 : ∀ z, ((la z < la this ∨ la this + 8 < la z) ∧ (la z < la p3 ∨ la p3 < la z)) → c45_V0 z = (V 0) z := fun z hz => (q45_V0 z (tz45 z hz)).trans ((fun _ _ => rfl) z hz)
    have hfr136 : ∀ z, ((la z < la this ∨ la this + 8 < la z) ∧ (la z < la p3 ∨ la p3 < la z)) → c45_V1 z = (V 1) z := fun z hz => (q45_V1 z (tz45 z hz)).trans ((fun _ _ => rfl) z hz)
    have h845_h104 : (P 104) p0 = some er := by exact t104
    have h845_h105 : (P 105) p0 = some br := by exact t105
    have h845_h106 : (P 106) p0 = some kp := by exact t106
    have h845_hle : (P 201) er = some le := by exact u1
    have h845_hse : (P 202) er = some se := by exact v1
    have h845_hlb : (P 201) br = some lb := by exact u2
    have h845_hsb : (P 202) br = some sb := by exact v2
    have h845_hwe : ((G 200) er).toInt = ((16 : Nat) : Int) := by omega
    have h845_hwb : ((G 200) br).toInt = ((16 : Nat) : Int) := by omega
    have h845_hes : entV ((G 203) er) ((V 0) le) ((V 1) se) ((V 0) lb) ((V 1) sb) ((V 10) kp) = (d.1) := by exact hd1.symm
    have h845_he : (d.1)[Int32.toNatClampNeg r28]? = some e := by exact e2
    have h845_hcb : ((G 203) br).toInt = ((G 203) er).toInt := by exact hcb
    have h845_h40 : ((G 203) er).toInt ≤ 40 := by have h9 := hzRB er se hk_er v1; have h8 := h9.1; omega
    have h845_hl : (P 201) p3 = some l := by exact hl
    have h845_hs : (P 202) p3 = some s := by exact hs
    have h845_hw : ((G 200) p3).toInt = ((24 : Nat) : Int) := by exact hw
    have h845_hws : rwW ((G 203) p3) ((V 0) l) ((V 1) s) 24 = ws := by exact hws
    have hx45 := pwq (fn_X9_addEntry κ wd la G P U V X O kd ln cnt this p0 r28 p3 (er) (br) (kp) (le) (lb) (se) (sb) (l) (s) (d.1) (ws) (e) hzG200 hzG203 hzP104 hzP105 hzP106 hzP201 hzP202 hzV1 hzRA hzRB hzRI hzRM104 hzLN hk_this hk_p0 hk_p3 hpr45_0 hB hlt_this hlt_p0 hlt_p3 h845_h104 h845_h105 h845_h106 h845_hle h845_hse h845_hlb h845_hsb h845_hwe h845_hwb h845_hes h845_he h845_hcb h845_h40 h845_hl h845_hs h845_hw h845_hws) hc45
    obtain ⟨p45_0, p45_1, p45_2, p45_3⟩ : (rwW (c45_G203 p3) (c45_V0 l) (c45_V1 s) 24 = (gdF (some (e.2.getD e.1))).foldl (addF (ln s)) ws) ∧ (id ((∀ z, z ≠ l → c45_V0 z = (V 0) z))) ∧ (id ((∀ z, z ≠ s → c45_V1 z = (V 1) z))) ∧ (id ((∀ z, z ≠ p3 → c45_G203 z = (G 203) z))) := hx45
    clear h845_h104 h845_h105 h845_h106 h845_hle h845_hse h845_hlb h845_hsb h845_hwe h845_hwb h845_hes h845_he h845_hcb h845_h40 h845_hl h845_hs h845_hw h845_hws
    have qq0 : rwW (c45_G203 p3) (c45_V0 l) (c45_V1 s) 24 = (cdF d W).foldl (addF (ln s)) ws := by rw [p45_0]; cases he2 : e.2 with | none => (rw [cdF_kept (by rw [e4, he2]), e3]; show (gdF (some W)).foldl _ _ = _; rw [gdF_ok ⟨hWw.1, hWw.2.1⟩]) | some v => (rw [cdF_list (by rw [e4, he2])]; rfl)
    have qq1 : id ((∃ nwb nxb, (P 181) this = some nwb ∧ (P 182) this = some nxb ∧ ((nwb = nw ∧ nxb = nx) ∨ (nwb = nx ∧ nxb = nw)))) := show (∃ nwb nxb, (P 181) this = some nwb ∧ (P 182) this = some nxb ∧ ((nwb = nw ∧ nxb = nx) ∨ (nwb = nx ∧ nxb = nw))) from by exact ⟨nw, nx, h181, h182, Or.inl ⟨rfl, rfl⟩⟩
    have qq2 : id ((∀ z, (la z = 94 ∨ la z = 95) → la z ≠ la p3 → c45_V0 z = (V 0) z ∧ c45_V1 z = (V 1) z ∧ c45_G203 z = (G 203) z)) := show (∀ z, (la z = 94 ∨ la z = 95) → la z ≠ la p3 → c45_V0 z = (V 0) z ∧ c45_V1 z = (V 1) z ∧ c45_G203 z = (G 203) z) from by intro z h1 h2; exact ⟨p45_1 z (fun q => by have q9 := congrArg la q; omega), p45_2 z (fun q => by have q9 := congrArg la q; omega), p45_3 z (fun q => by have q9 := congrArg la q; omega)⟩
    exact pw_some ⟨qq0, qq1, qq2⟩
