abbrev QF_X11_turn (κ : Nat → Nat) (wd : Nat) (la : Nat → Nat) (G : Nat → Nat → Int32) (P : Nat → Nat → Option Nat) (U : Nat → Nat → Int64) (V : Nat → Nat → Nat → Int32) (X : Nat → Nat → Nat → Int64) (O : Nat → Nat → Nat → Option Nat) (kd : Nat → Nat) (ln : Nat → Nat) (cnt : Nat) (this : Nat) (p0 : Int32) (p1 : Int32) (f : Nat → Int32) (n : Nat) (tp : Nat) (tb : Nat) (ra : Nat) (tn : Nat) (nw : Nat) (nx : Nat) (wh : Nat) (pg : Nat) (fi : Nat) (pa : Nat) (pk : Nat) (sz : Nat) (cl : Nat) (ah : Nat) (bh : Nat) (lah : Nat) (sah : Nat) (lbh : Nat) (sbh : Nat) (lf : Nat) (lfl : Nat) (lfs : Nat) (d : Nat → Dr) : (Int32 × (Nat → Int32) × (Nat → Int32) × (Nat → Int32) × (Nat → Int32) × (Nat → Option Nat) × (Nat → Option Nat) × (Nat → Option Nat) × (Nat → Option Nat) × (Nat → Option Nat) × (Nat → Int64) × (Nat → Nat → Int32) × (Nat → Nat → Int32) × (Nat → Nat → Int32) × (Nat → Nat → Int32)) → Prop := (fun t => ((¬ (isw f ((G 141) tp).toInt ∧ 0 ≤ p0.toInt ∧ p0.toInt ≤ p1.toInt ∧ p1.toInt ≤ ((G 222) this).toInt) → (t.1).toInt = -2 ∧ (t.2.2.2.2.1) lf = (G 203) lf ∧ (t.2.2.2.2.2.2.2.2.2.2.2.1) lfl = (V 0) lfl ∧ (t.2.2.2.2.2.2.2.2.2.2.2.2.1) lfs = (V 1) lfs)) ∧ ((isw f ((G 141) tp).toInt ∧ 0 ≤ p0.toInt ∧ p0.toInt ≤ p1.toInt ∧ p1.toInt ≤ ((G 222) this).toInt → (t.1).toInt = (((thF d (Int32.toNatClampNeg p0) (Int32.toNatClampNeg p1 - Int32.toNatClampNeg p0) [wdl f 0 n]).length : Nat) : Int) ∧ rwW ((t.2.2.2.2.1) lf) ((t.2.2.2.2.2.2.2.2.2.2.2.1) lfl) ((t.2.2.2.2.2.2.2.2.2.2.2.2.1) lfs) 24 = thF d (Int32.toNatClampNeg p0) (Int32.toNatClampNeg p1 - Int32.toNatClampNeg p0) [wdl f 0 n])) ∧ ((∃ nwb nxb, (t.2.2.2.2.2.2.1) tn = some nwb ∧ (t.2.2.2.2.2.2.2.1) tn = some nxb ∧ ((nwb = nw ∧ nxb = nx) ∨ (nwb = nx ∧ nxb = nw)))) ∧ ((∃ ahb bhb, (t.2.2.2.2.2.2.2.2.1) tn = some ahb ∧ (t.2.2.2.2.2.2.2.2.2.1) tn = some bhb ∧ ((ahb = ah ∧ bhb = bh) ∨ (ahb = bh ∧ bhb = ah)))))
set_option maxHeartbeats 4000000 in
set_option maxRecDepth 100000 in
theorem fn_X11_turn (κ : Nat → Nat) (wd : Nat) (la : Nat → Nat) (G : Nat → Nat → Int32) (P : Nat → Nat → Option Nat) (U : Nat → Nat → Int64) (V : Nat → Nat → Nat → Int32) (X : Nat → Nat → Nat → Int64) (O : Nat → Nat → Nat → Option Nat) (kd : Nat → Nat) (ln : Nat → Nat) (cnt : Nat) (this : Nat) (p0 : Int32) (p1 : Int32) (f : Nat → Int32) (n : Nat) (tp : Nat) (tb : Nat) (ra : Nat) (tn : Nat) (nw : Nat) (nx : Nat) (wh : Nat) (pg : Nat) (fi : Nat) (pa : Nat) (pk : Nat) (sz : Nat) (cl : Nat) (ah : Nat) (bh : Nat) (lah : Nat) (sah : Nat) (lbh : Nat) (sbh : Nat) (lf : Nat) (lfl : Nat) (lfs : Nat) (d : Nat → Dr) (hzG60 : rng (0) 30 (G 60)) (hzG102 : rng (0) 40 (G 102)) (hzG141 : rng (0) 2000 (G 141)) (hzG183 : rng (0) 40 (G 183)) (hzG200 : rng (0) 24 (G 200)) (hzG203 : rng (0) 100 (G 203)) (hzG222 : rng (0) 6 (G 222)) (hzP20 : PB κ ln wd 2 100 0 16 0 (P 20)) (hzP21 : PB κ ln wd 2 100 0 16 0 (P 21)) (hzP22 : PB κ ln wd 2 100 0 16 0 (P 22)) (hzP23 : PB κ ln wd 2 100 0 16 0 (P 23)) (hzP61 : PB κ ln wd 4 102 30 30 0 (P 61)) (hzP62 : PB κ ln wd 4 100 720 720 0 (P 62)) (hzP63 : PB κ ln wd 4 100 408 408 0 (P 63)) (hzP64 : PB κ ln wd 4 112 25 25 0 (P 64)) (hzP65 : PB κ ln wd 4 100 24 24 0 (P 65)) (hzP66 : PB κ ln wd 4 11 0 2500 0 (P 66)) (hzP101 : PB κ ln wd 6 300 40 40 0 (P 101)) (hzP103 : PB κ ln wd 6 11 0 2500 1 (P 103)) (hzP104 : PB κ ln wd 6 11 0 2500 1 (P 104)) (hzP105 : PB κ ln wd 6 11 0 2500 1 (P 105)) (hzP106 : PB κ ln wd 6 110 40 40 0 (P 106)) (hzP108 : PB κ ln wd 6 11 0 2500 1 (P 108)) (hzP109 : PB κ ln wd 6 111 40 40 0 (P 109)) (hzP110 : PB κ ln wd 6 200 40 40 0 (P 110)) (hzP140 : PB κ ln wd 8 100 2000 2000 0 (P 140)) (hzP180 : PB κ ln wd 10 4 0 2500 0 (P 180)) (hzP181 : PB κ ln wd 10 100 40 40 0 (P 181)) (hzP182 : PB κ ln wd 10 100 40 40 0 (P 182)) (hzP185 : PB κ ln wd 10 100 24 24 0 (P 185)) (hzP186 : PB κ ln wd 10 11 0 2500 1 (P 186)) (hzP187 : PB κ ln wd 10 11 0 2500 1 (P 187)) (hzP201 : PB κ ln wd 11 100 0 2400 0 (P 201)) (hzP202 : PB κ ln wd 11 101 0 100 0 (P 202)) (hzP220 : PB κ ln wd 12 8 0 2500 0 (P 220)) (hzP221 : PB κ ln wd 12 302 6 6 0 (P 221)) (hzP226 : PB κ ln wd 12 10 0 2500 0 (P 226)) (hzP227 : PB κ ln wd 12 11 0 2500 1 (P 227)) (hzV1 : rng2 (0) 24 (V 1)) (hzV2 : rng2 (0) 24 (V 2)) (hzV3 : rng2 (0) 100 (V 3)) (hzO0 : OB κ 2 (O 0)) (hzO2 : OB κ 6 (O 2)) (hzRA : RA κ ln (G 200) (P 201) (P 202)) (hzRB : RB κ ln (G 200) (G 203) (P 202) (V 1)) (hzRI : RI (P 202)) (hzRM103 : RM ln 40 (P 103) (P 202)) (hzRM104 : RM ln 40 (P 104) (P 202)) (hzRM108 : RM ln 40 (P 108) (P 202)) (hzLN : LN κ ln) (hzFL : FL wd (G 203) (V 3)) (hk_this : κ this = 12) (hB : LB la cnt P) (hlt_this : this < cnt) (h220 : (P 220) this = some tp) (h140 : (P 140) tp = some tb) (h221 : (P 221) this = some ra) (hf : (V 0) tb = f) (hn : Int32.toNatClampNeg ((G 141) tp) = n) (h226 : (P 226) this = some tn) (h181 : (P 181) tn = some nw) (h182 : (P 182) tn = some nx) (hnn : nw ≠ nx) (h185 : (P 185) tn = some wh) (h180 : (P 180) tn = some pg) (hfi : (P 63) pg = some fi) (hpa : (P 65) pg = some pa) (hpk : (P 62) pg = some pk) (hsz : (P 61) pg = some sz) (hcl : (P 64) pg = some cl) (hlt9 : la tn = 90) (h186 : (P 186) tn = some ah) (h187 : (P 187) tn = some bh) (hxa : (P 201) ah = some lah) (hya : (P 202) ah = some sah) (hxb : (P 201) bh = some lbh) (hyb : (P 202) bh = some sbh) (hga : ((G 200) ah).toInt = ((24 : Nat) : Int)) (hgb : ((G 200) bh).toInt = ((24 : Nat) : Int)) (hna : ln sah = 12) (hnb : ln sbh = 12) (hab : (la ah = 94 ∧ la bh = 95) ∨ (la ah = 95 ∧ la bh = 94)) (h227 : (P 227) this = some lf) (hfl : (P 201) lf = some lfl) (hfs : (P 202) lf = some lfs) (hfw : ((G 200) lf).toInt = ((24 : Nat) : Int)) (hf12 : ln lfs = 12) (hl6 : ln ra = 6) (hfit : ∀ i, fits .byte (.int (f i)) = true) (hrf : ∀ q, q < Int32.toNatClampNeg ((G 222) this) → ∃ rf, (O 2) ra q = some rf ∧ rf < cnt ∧ 100000 ≤ la rf ∧ RFX G P V O ln la cnt rf (d q)) : pw (f_X11_turn G P U V X O kd ln cnt this p0 p1) (QF_X11_turn κ wd la G P U V X O kd ln cnt this p0 p1 f n tp tb ra tn nw nx wh pg fi pa pk sz cl ah bh lah sah lbh sbh lf lfl lfs d) := by
  unfold f_X11_turn
  have zkm2 : (-2 : Int32).toInt = -2 := by decide +kernel
  have zk0 : (0 : Int32).toInt = 0 := by decide +kernel
  have r_p0 := i32r p0
  have r_p1 := i32r p1
  replace hnn : id _ := hnn
  replace hab : id _ := hab
  have hn1 : (P 220) this = some tp := h220
  have lt_tp2 := ((hB.1 220 fl_220) this tp hn1).2.1
  have lb_tp2 : la tp = 10 := lk_220.mp ((hB.1 220 fl_220) this tp hn1).2.2
  have hk_tp := ((hzP220 this).2 tp hn1).1
  have hl1_tp := ((hzP220 this).2 tp hn1).2.1
  have hl2_tp := ((hzP220 this).2 tp hn1).2.2.1
  have hw_tp : id _ := ((hzP220 this).2 tp hn1).2.2.2
  have hn3 : (P 140) tp = some tb := h140
  obtain ⟨_, lt_tb4, lb_tb4⟩ := (hB.1 140 fl_140) tp tb hn3
  have lb_tb4 : la tb = 11 := (lk_140.mp lb_tb4).trans (congrArg (fun z9 => z9 + 1) lb_tp2)
  have hk_tb := ((hzP140 tp).2 tb hn3).1
  have hl1_tb := ((hzP140 tp).2 tb hn3).2.1
  have hl2_tb := ((hzP140 tp).2 tb hn3).2.2.1
  have hw_tb : id _ := ((hzP140 tp).2 tb hn3).2.2.2
  have hz_tb : (Int32.ofNat (ln tb)).toInt = ((ln tb : Nat) : Int) := ofN_eq (by first | exact Nat.le_trans hl2_tb (by decide) | omega)
  have hn5 : (P 221) this = some ra := h221
  have lt_ra6 := ((hB.1 221 fl_221) this ra hn5).2.1
  have lb_ra6 : la ra = la this + 3 := lk_221.mp ((hB.1 221 fl_221) this ra hn5).2.2
  have hk_ra := ((hzP221 this).2 ra hn5).1
  have hl1_ra := ((hzP221 this).2 ra hn5).2.1
  have hl2_ra := ((hzP221 this).2 ra hn5).2.2.1
  have hw_ra : id _ := ((hzP221 this).2 ra hn5).2.2.2
  have hz_ra : (Int32.ofNat (ln ra)).toInt = ((ln ra : Nat) : Int) := ofN_eq (by first | exact Nat.le_trans hl2_ra (by decide) | omega)
  have hn7 : (P 226) this = some tn := h226
  have lt_tn8 := ((hB.1 226 fl_226) this tn hn7).2.1
  have lb_tn8 : la tn = 90 := lk_226.mp ((hB.1 226 fl_226) this tn hn7).2.2
  have hk_tn := ((hzP226 this).2 tn hn7).1
  have hl1_tn := ((hzP226 this).2 tn hn7).2.1
  have hl2_tn := ((hzP226 this).2 tn hn7).2.2.1
  have hw_tn : id _ := ((hzP226 this).2 tn hn7).2.2.2
  have hn9 : (P 181) tn = some nw := h181
  obtain ⟨_, lt_nw10, lb_nw10⟩ := (hB.1 181 fl_181) tn nw hn9
  have lb_nw10 : 91 ≤ la nw ∧ la nw ≤ 92 := by have z9 := lk_181.mp lb_nw10; rw [lb_tn8] at z9; exact or_bd z9 (by decide)
  have hk_nw := ((hzP181 tn).2 nw hn9).1
  have hl1_nw := ((hzP181 tn).2 nw hn9).2.1
  have hl2_nw := ((hzP181 tn).2 nw hn9).2.2.1
  have hw_nw : id _ := ((hzP181 tn).2 nw hn9).2.2.2
  have hz_nw : (Int32.ofNat (ln nw)).toInt = ((ln nw : Nat) : Int) := ofN_eq (by first | exact Nat.le_trans hl2_nw (by decide) | omega)
  have hn11 : (P 182) tn = some nx := h182
  obtain ⟨_, lt_nx12, lb_nx12⟩ := (hB.1 182 fl_182) tn nx hn11
  have lb_nx12 : 91 ≤ la nx ∧ la nx ≤ 92 := by have z9 := lk_182.mp lb_nx12; rw [lb_tn8] at z9; exact or_bd z9 (by decide)
  have hk_nx := ((hzP182 tn).2 nx hn11).1
  have hl1_nx := ((hzP182 tn).2 nx hn11).2.1
  have hl2_nx := ((hzP182 tn).2 nx hn11).2.2.1
  have hw_nx : id _ := ((hzP182 tn).2 nx hn11).2.2.2
  have hz_nx : (Int32.ofNat (ln nx)).toInt = ((ln nx : Nat) : Int) := ofN_eq (by first | exact Nat.le_trans hl2_nx (by decide) | omega)
  have hn13 : (P 185) tn = some wh := h185
  obtain ⟨_, lt_wh14, lb_wh14⟩ := (hB.1 185 fl_185) tn wh hn13
  have lb_wh14 : la wh = 93 := (lk_185.mp lb_wh14).trans (congrArg (fun z9 => z9 + 3) lb_tn8)
  have hk_wh := ((hzP185 tn).2 wh hn13).1
  have hl1_wh := ((hzP185 tn).2 wh hn13).2.1
  have hl2_wh := ((hzP185 tn).2 wh hn13).2.2.1
  have hw_wh : id _ := ((hzP185 tn).2 wh hn13).2.2.2
  have hz_wh : (Int32.ofNat (ln wh)).toInt = ((ln wh : Nat) : Int) := ofN_eq (by first | exact Nat.le_trans hl2_wh (by decide) | omega)
  have hn15 : (P 180) tn = some pg := h180
  obtain ⟨_, lt_pg16, lb_pg16⟩ := (hB.1 180 fl_180) tn pg hn15
  have lb_pg16 : la pg = 96 := (lk_180.mp lb_pg16).trans (congrArg (fun z9 => z9 + 6) lb_tn8)
  have hk_pg := ((hzP180 tn).2 pg hn15).1
  have hl1_pg := ((hzP180 tn).2 pg hn15).2.1
  have hl2_pg := ((hzP180 tn).2 pg hn15).2.2.1
  have hw_pg : id _ := ((hzP180 tn).2 pg hn15).2.2.2
  have hn17 : (P 63) pg = some fi := hfi
  obtain ⟨_, lt_fi18, lb_fi18⟩ := (hB.1 63 fl_63) pg fi hn17
  have lb_fi18 : la fi = 97 := (lk_63.mp lb_fi18).trans (congrArg (fun z9 => z9 + 1) lb_pg16)
  have hk_fi := ((hzP63 pg).2 fi hn17).1
  have hl1_fi := ((hzP63 pg).2 fi hn17).2.1
  have hl2_fi := ((hzP63 pg).2 fi hn17).2.2.1
  have hw_fi : id _ := ((hzP63 pg).2 fi hn17).2.2.2
  have hz_fi : (Int32.ofNat (ln fi)).toInt = ((ln fi : Nat) : Int) := ofN_eq (by first | exact Nat.le_trans hl2_fi (by decide) | omega)
  have hn19 : (P 65) pg = some pa := hpa
  obtain ⟨_, lt_pa20, lb_pa20⟩ := (hB.1 65 fl_65) pg pa hn19
  have lb_pa20 : la pa = 98 := (lk_65.mp lb_pa20).trans (congrArg (fun z9 => z9 + 2) lb_pg16)
  have hk_pa := ((hzP65 pg).2 pa hn19).1
  have hl1_pa := ((hzP65 pg).2 pa hn19).2.1
  have hl2_pa := ((hzP65 pg).2 pa hn19).2.2.1
  have hw_pa : id _ := ((hzP65 pg).2 pa hn19).2.2.2
  have hz_pa : (Int32.ofNat (ln pa)).toInt = ((ln pa : Nat) : Int) := ofN_eq (by first | exact Nat.le_trans hl2_pa (by decide) | omega)
  have hn21 : (P 62) pg = some pk := hpk
  obtain ⟨_, lt_pk22, lb_pk22⟩ := (hB.1 62 fl_62) pg pk hn21
  have lb_pk22 : la pk = 96 := (lk_62.mp lb_pk22).trans (congrArg (fun z9 => z9 + 0) lb_pg16)
  have hk_pk := ((hzP62 pg).2 pk hn21).1
  have hl1_pk := ((hzP62 pg).2 pk hn21).2.1
  have hl2_pk := ((hzP62 pg).2 pk hn21).2.2.1
  have hw_pk : id _ := ((hzP62 pg).2 pk hn21).2.2.2
  have hz_pk : (Int32.ofNat (ln pk)).toInt = ((ln pk : Nat) : Int) := ofN_eq (by first | exact Nat.le_trans hl2_pk (by decide) | omega)
  have hn23 : (P 61) pg = some sz := hsz
  obtain ⟨_, lt_sz24, lb_sz24⟩ := (hB.1 61 fl_61) pg sz hn23
  have lb_sz24 : la sz = 96 := (lk_61.mp lb_sz24).trans (congrArg (fun z9 => z9 + 0) lb_pg16)
  have hk_sz := ((hzP61 pg).2 sz hn23).1
  have hl1_sz := ((hzP61 pg).2 sz hn23).2.1
  have hl2_sz := ((hzP61 pg).2 sz hn23).2.2.1
  have hw_sz : id _ := ((hzP61 pg).2 sz hn23).2.2.2
  have hz_sz : (Int32.ofNat (ln sz)).toInt = ((ln sz : Nat) : Int) := ofN_eq (by first | exact Nat.le_trans hl2_sz (by decide) | omega)
  have hn25 : (P 64) pg = some cl := hcl
  obtain ⟨_, lt_cl26, lb_cl26⟩ := (hB.1 64 fl_64) pg cl hn25
  have lb_cl26 : la cl = 96 := (lk_64.mp lb_cl26).trans (congrArg (fun z9 => z9 + 0) lb_pg16)
  have hk_cl := ((hzP64 pg).2 cl hn25).1
  have hl1_cl := ((hzP64 pg).2 cl hn25).2.1
  have hl2_cl := ((hzP64 pg).2 cl hn25).2.2.1
  have hw_cl : id _ := ((hzP64 pg).2 cl hn25).2.2.2
  have hz_cl : (Int32.ofNat (ln cl)).toInt = ((ln cl : Nat) : Int) := ofN_eq (by first | exact Nat.le_trans hl2_cl (by decide) | omega)
  have hn27 : (P 186) tn = some ah := h186
  obtain ⟨_, lt_ah28, lb_ah28⟩ := (hB.1 186 fl_186) tn ah hn27
  have lb_ah28 : 94 ≤ la ah ∧ la ah ≤ 95 := by have z9 := lk_186.mp lb_ah28; rw [lb_tn8] at z9; exact or_bd z9 (by decide)
  have hk_ah := ((hzP186 tn).2 ah hn27).1
  have hl1_ah := ((hzP186 tn).2 ah hn27).2.1
  have hl2_ah := ((hzP186 tn).2 ah hn27).2.2.1
  have hw_ah : id _ := ((hzP186 tn).2 ah hn27).2.2.2
  have hn29 : (P 187) tn = some bh := h187
  obtain ⟨_, lt_bh30, lb_bh30⟩ := (hB.1 187 fl_187) tn bh hn29
  have lb_bh30 : 94 ≤ la bh ∧ la bh ≤ 95 := by have z9 := lk_187.mp lb_bh30; rw [lb_tn8] at z9; exact or_bd z9 (by decide)
  have hk_bh := ((hzP187 tn).2 bh hn29).1
  have hl1_bh := ((hzP187 tn).2 bh hn29).2.1
  have hl2_bh := ((hzP187 tn).2 bh hn29).2.2.1
  have hw_bh : id _ := ((hzP187 tn).2 bh hn29).2.2.2
  have hn31 : (P 201) ah = some lah := hxa
  have lt_lah32 := ((hB.1 201 fl_201) ah lah hn31).2.1
  have lb_lah32 : la lah = la ah + 0 := lk_201.mp ((hB.1 201 fl_201) ah lah hn31).2.2
  have hk_lah := ((hzP201 ah).2 lah hn31).1
  have hl1_lah := ((hzP201 ah).2 lah hn31).2.1
  have hl2_lah := ((hzP201 ah).2 lah hn31).2.2.1
  have hw_lah : id _ := ((hzP201 ah).2 lah hn31).2.2.2
  have hz_lah : (Int32.ofNat (ln lah)).toInt = ((ln lah : Nat) : Int) := ofN_eq (by first | exact Nat.le_trans hl2_lah (by decide) | omega)
  have hn33 : (P 202) ah = some sah := hya
  have lt_sah34 := ((hB.1 202 fl_202) ah sah hn33).2.1
  have lb_sah34 : la sah = la ah + 0 := lk_202.mp ((hB.1 202 fl_202) ah sah hn33).2.2
  have hk_sah := ((hzP202 ah).2 sah hn33).1
  have hl1_sah := ((hzP202 ah).2 sah hn33).2.1
  have hl2_sah := ((hzP202 ah).2 sah hn33).2.2.1
  have hw_sah : id _ := ((hzP202 ah).2 sah hn33).2.2.2
  have hz_sah : (Int32.ofNat (ln sah)).toInt = ((ln sah : Nat) : Int) := ofN_eq (by first | exact Nat.le_trans hl2_sah (by decide) | omega)
  have rb35 := (hzRB ah sah hk_ah hn33).1
  have ra36 := hzRA ah lah sah hk_ah hn31 hn33
  have bw37 := hzG200 ah
  have hn38 : (P 201) bh = some lbh := hxb
  have lt_lbh39 := ((hB.1 201 fl_201) bh lbh hn38).2.1
  have lb_lbh39 : la lbh = la bh + 0 := lk_201.mp ((hB.1 201 fl_201) bh lbh hn38).2.2
  have hk_lbh := ((hzP201 bh).2 lbh hn38).1
  have hl1_lbh := ((hzP201 bh).2 lbh hn38).2.1
  have hl2_lbh := ((hzP201 bh).2 lbh hn38).2.2.1
  have hw_lbh : id _ := ((hzP201 bh).2 lbh hn38).2.2.2
  have hz_lbh : (Int32.ofNat (ln lbh)).toInt = ((ln lbh : Nat) : Int) := ofN_eq (by first | exact Nat.le_trans hl2_lbh (by decide) | omega)
  have hn40 : (P 202) bh = some sbh := hyb
  have lt_sbh41 := ((hB.1 202 fl_202) bh sbh hn40).2.1
  have lb_sbh41 : la sbh = la bh + 0 := lk_202.mp ((hB.1 202 fl_202) bh sbh hn40).2.2
  have hk_sbh := ((hzP202 bh).2 sbh hn40).1
  have hl1_sbh := ((hzP202 bh).2 sbh hn40).2.1
  have hl2_sbh := ((hzP202 bh).2 sbh hn40).2.2.1
  have hw_sbh : id _ := ((hzP202 bh).2 sbh hn40).2.2.2
  have hz_sbh : (Int32.ofNat (ln sbh)).toInt = ((ln sbh : Nat) : Int) := ofN_eq (by first | exact Nat.le_trans hl2_sbh (by decide) | omega)
  have rb42 := (hzRB bh sbh hk_bh hn40).1
  have ra43 := hzRA bh lbh sbh hk_bh hn38 hn40
  have bw44 := hzG200 bh
  have hn45 : (P 227) this = some lf := h227
  have lt_lf46 := ((hB.1 227 fl_227) this lf hn45).2.1
  have lb_lf46 : la lf = 50 := lk_227.mp ((hB.1 227 fl_227) this lf hn45).2.2
  have hk_lf := ((hzP227 this).2 lf hn45).1
  have hl1_lf := ((hzP227 this).2 lf hn45).2.1
  have hl2_lf := ((hzP227 this).2 lf hn45).2.2.1
  have hw_lf : id _ := ((hzP227 this).2 lf hn45).2.2.2
  have hn47 : (P 201) lf = some lfl := hfl
  obtain ⟨_, lt_lfl48, lb_lfl48⟩ := (hB.1 201 fl_201) lf lfl hn47
  have lb_lfl48 : la lfl = 50 := (lk_201.mp lb_lfl48).trans (congrArg (fun z9 => z9 + 0) lb_lf46)
  have hk_lfl := ((hzP201 lf).2 lfl hn47).1
  have hl1_lfl := ((hzP201 lf).2 lfl hn47).2.1
  have hl2_lfl := ((hzP201 lf).2 lfl hn47).2.2.1
  have hw_lfl : id _ := ((hzP201 lf).2 lfl hn47).2.2.2
  have hz_lfl : (Int32.ofNat (ln lfl)).toInt = ((ln lfl : Nat) : Int) := ofN_eq (by first | exact Nat.le_trans hl2_lfl (by decide) | omega)
  have hn49 : (P 202) lf = some lfs := hfs
  obtain ⟨_, lt_lfs50, lb_lfs50⟩ := (hB.1 202 fl_202) lf lfs hn49
  have lb_lfs50 : la lfs = 50 := (lk_202.mp lb_lfs50).trans (congrArg (fun z9 => z9 + 0) lb_lf46)
  have hk_lfs := ((hzP202 lf).2 lfs hn49).1
  have hl1_lfs := ((hzP202 lf).2 lfs hn49).2.1
  have hl2_lfs := ((hzP202 lf).2 lfs hn49).2.2.1
  have hw_lfs : id _ := ((hzP202 lf).2 lfs hn49).2.2.2
  have hz_lfs : (Int32.ofNat (ln lfs)).toInt = ((ln lfs : Nat) : Int) := ofN_eq (by first | exact Nat.le_trans hl2_lfs (by decide) | omega)
  have rb51 := (hzRB lf lfs hk_lf hn49).1
  have ra52 := hzRA lf lfl lfs hk_lf hn47 hn49
  have bw53 := hzG200 lf
  have hb141 := hzG141 tp
  have hb222 := hzG222 this
  have c222 := clampI (x := (G 222) this) (by omega)
  have c141 := clampI (x := (G 141) tp) (by omega)
  refine pw_nne hn1 ?_
  refine pw_b2 (fun r4 c4_G141 hc4 => ?_)
  have hq4 := wp_at (ok_X7_take κ wd G P U V X O kd ln cnt tp hzG141 hzLN hk_tp) hc4
  obtain ⟨hg54, f55, f56, f57⟩ : (rng (0) 2000 c4_G141) ∧ (r4.toInt = ((G 141) tp).toInt) ∧ ((c4_G141 tp).toInt = 0) ∧ ((0 ≤ r4.toInt ∧ r4.toInt ≤ 2000)) := hq4
  have hq4 := pwq (fr_X7_take la G P U V X O kd ln cnt tp hB) hc4
  have q4_G141 : (∀ z, (la z < la tp ∨ la tp < la z) → c4_G141 z = (G 141) z) := hq4
  clear hq4
  have tz4 : ∀ z, ((la z < 10 ∨ 10 < la z) ∧ (la z < 90 ∨ 90 + 8 < la z) ∧ (la z < 50 ∨ 50 < la z)) → ((la z < la tp ∨ la tp < la z)) := fun z hz => by omega
  have hfr58 : ∀ z, ((la z < 10 ∨ 10 < la z) ∧ (la z < 90 ∨ 90 + 8 < la z) ∧ (la z < 50 ∨ 50 < la z)) → c4_G141 z = (G 141) z := fun z hz => (q4_G141 z (tz4 z hz)).trans ((fun _ _ => rfl) z hz)
  have hx4 := pwq (fn_X7_take κ wd la G P U V X O kd ln cnt tp hzG141 hzLN hk_tp hB lt_tp2) hc4
  obtain ⟨p4_0, p4_1⟩ : (r4 = (G 141) tp) ∧ (c4_G141 tp = 0) := hx4
  have hr4 := congrArg Int32.toInt p4_0
  have hn4 : Int32.toNatClampNeg r4 = n := by rw [p4_0]; exact hn
  refine pw_b1 (fun r11 hc11 => ?_)
  have hq11 := wp_at (ok_X11_areStages κ wd (va_up G 141 c4_G141) P U V X O kd ln cnt this p0 p1 hzG222 hzLN hk_this) hc11
  have f59 : (0 ≤ r11.toInt ∧ r11.toInt ≤ 1) := hq11
  clear hq11
  have hx11 := pwq (fn_X11_areStages κ wd la (va_up G 141 c4_G141) P U V X O kd ln cnt this p0 p1 hzG222 hzLN hk_this hB hlt_this) hc11
  obtain ⟨p11_0, p11_1⟩ : (id ((r11.toInt ≠ 0 → 0 ≤ p0.toInt ∧ p0.toInt ≤ p1.toInt ∧ p1.toInt ≤ ((G 222) this).toInt))) ∧ (id ((r11.toInt = 0 → ¬ (0 ≤ p0.toInt ∧ p0.toInt ≤ p1.toInt ∧ p1.toInt ≤ ((G 222) this).toInt)))) := hx11
  refine pw_jE (fun j28 ej28 => ?_)
  refine pw_ite (fun c14 => ?_) (fun c14 => ?_)
  · have c14 := congrArg Int32.toInt c14
    refine pw_j0 ej28 ?_
    have qq0 : id ((¬ (isw f ((G 141) tp).toInt ∧ 0 ≤ p0.toInt ∧ p0.toInt ≤ p1.toInt ∧ p1.toInt ≤ ((G 222) this).toInt) → (-2 : Int32).toInt = -2 ∧ (G 203) lf = (G 203) lf ∧ (V 0) lfl = (V 0) lfl ∧ (V 1) lfs = (V 1) lfs)) := show (¬ (isw f ((G 141) tp).toInt ∧ 0 ≤ p0.toInt ∧ p0.toInt ≤ p1.toInt ∧ p1.toInt ≤ ((G 222) this).toInt) → (-2 : Int32).toInt = -2 ∧ (G 203) lf = (G 203) lf ∧ (V 0) lfl = (V 0) lfl ∧ (V 1) lfs = (V 1) lfs) from by intro _; exact ⟨by omega, rfl, rfl, rfl⟩
    have qq1 : id ((isw f ((G 141) tp).toInt ∧ 0 ≤ p0.toInt ∧ p0.toInt ≤ p1.toInt ∧ p1.toInt ≤ ((G 222) this).toInt → (-2 : Int32).toInt = (((thF d (Int32.toNatClampNeg p0) (Int32.toNatClampNeg p1 - Int32.toNatClampNeg p0) [wdl f 0 n]).length : Nat) : Int) ∧ rwW ((G 203) lf) ((V 0) lfl) ((V 1) lfs) 24 = thF d (Int32.toNatClampNeg p0) (Int32.toNatClampNeg p1 - Int32.toNatClampNeg p0) [wdl f 0 n])) := show (isw f ((G 141) tp).toInt ∧ 0 ≤ p0.toInt ∧ p0.toInt ≤ p1.toInt ∧ p1.toInt ≤ ((G 222) this).toInt → (-2 : Int32).toInt = (((thF d (Int32.toNatClampNeg p0) (Int32.toNatClampNeg p1 - Int32.toNatClampNeg p0) [wdl f 0 n]).length : Nat) : Int) ∧ rwW ((G 203) lf) ((V 0) lfl) ((V 1) lfs) 24 = thF d (Int32.toNatClampNeg p0) (Int32.toNatClampNeg p1 - Int32.toNatClampNeg p0) [wdl f 0 n]) from by intro h; exfalso; exact p11_1 (by omega) h.2
    have qq2 : id ((∃ nwb nxb, (P 181) tn = some nwb ∧ (P 182) tn = some nxb ∧ ((nwb = nw ∧ nxb = nx) ∨ (nwb = nx ∧ nxb = nw)))) := show (∃ nwb nxb, (P 181) tn = some nwb ∧ (P 182) tn = some nxb ∧ ((nwb = nw ∧ nxb = nx) ∨ (nwb = nx ∧ nxb = nw))) from by exact ⟨nw, nx, h181, h182, Or.inl ⟨rfl, rfl⟩⟩
    have qq3 : id ((∃ ahb bhb, (P 186) tn = some ahb ∧ (P 187) tn = some bhb ∧ ((ahb = ah ∧ bhb = bh) ∨ (ahb = bh ∧ bhb = ah)))) := show (∃ ahb bhb, (P 186) tn = some ahb ∧ (P 187) tn = some bhb ∧ ((ahb = ah ∧ bhb = bh) ∨ (ahb = bh ∧ bhb = ah))) from by exact ⟨ah, bh, h186, h187, Or.inl ⟨rfl, rfl⟩⟩
    exact pw_some ⟨qq0, qq1, qq2, qq3⟩
  · have c14 : r11.toInt = 1 := by have z9 := z_ne c14; omega
    refine pw_nne hn1 ?_
    refine pw_b1 (fun r22 hc22 => ?_)
    have hq22 := wp_at (ok_X7_isWord κ wd (va_up G 141 c4_G141) P U V X O kd ln cnt tp r4 hzP140 hzLN hk_tp) hc22
    obtain ⟨f60, f61⟩ : ((0 ≤ r22.toInt ∧ r22.toInt ≤ 1)) ∧ (id ((r22.toInt = 1 → 1 ≤ r4.toInt ∧ r4.toInt ≤ 24))) := hq22
    have h822_h140 : (P 140) tp = some tb := by exact h140
    have hx22 := pwq (fn_X7_isWord κ wd la (va_up G 141 c4_G141) P U V X O kd ln cnt tp r4 (tb) hzP140 hzLN hk_tp hB lt_tp2 h822_h140) hc22
    obtain ⟨p22_0, p22_1⟩ : (id ((r22.toInt ≠ 0 → isw ((V 0) tb) r4.toInt))) ∧ (id ((r22.toInt = 0 → ¬ isw ((V 0) tb) r4.toInt))) := hx22
    clear h822_h140
    rw [hf, hr4] at p22_0 p22_1
    refine pw_ite (fun c25 => ?_) (fun c25 => ?_)
    · have c25 := congrArg Int32.toInt c25
      refine pw_j0 ej28 ?_
      have qq0 : id ((¬ (isw f ((G 141) tp).toInt ∧ 0 ≤ p0.toInt ∧ p0.toInt ≤ p1.toInt ∧ p1.toInt ≤ ((G 222) this).toInt) → (-2 : Int32).toInt = -2 ∧ (G 203) lf = (G 203) lf ∧ (V 0) lfl = (V 0) lfl ∧ (V 1) lfs = (V 1) lfs)) := show (¬ (isw f ((G 141) tp).toInt ∧ 0 ≤ p0.toInt ∧ p0.toInt ≤ p1.toInt ∧ p1.toInt ≤ ((G 222) this).toInt) → (-2 : Int32).toInt = -2 ∧ (G 203) lf = (G 203) lf ∧ (V 0) lfl = (V 0) lfl ∧ (V 1) lfs = (V 1) lfs) from by intro _; exact ⟨by omega, rfl, rfl, rfl⟩
      have qq1 : id ((isw f ((G 141) tp).toInt ∧ 0 ≤ p0.toInt ∧ p0.toInt ≤ p1.toInt ∧ p1.toInt ≤ ((G 222) this).toInt → (-2 : Int32).toInt = (((thF d (Int32.toNatClampNeg p0) (Int32.toNatClampNeg p1 - Int32.toNatClampNeg p0) [wdl f 0 n]).length : Nat) : Int) ∧ rwW ((G 203) lf) ((V 0) lfl) ((V 1) lfs) 24 = thF d (Int32.toNatClampNeg p0) (Int32.toNatClampNeg p1 - Int32.toNatClampNeg p0) [wdl f 0 n])) := show (isw f ((G 141) tp).toInt ∧ 0 ≤ p0.toInt ∧ p0.toInt ≤ p1.toInt ∧ p1.toInt ≤ ((G 222) this).toInt → (-2 : Int32).toInt = (((thF d (Int32.toNatClampNeg p0) (Int32.toNatClampNeg p1 - Int32.toNatClampNeg p0) [wdl f 0 n]).length : Nat) : Int) ∧ rwW ((G 203) lf) ((V 0) lfl) ((V 1) lfs) 24 = thF d (Int32.toNatClampNeg p0) (Int32.toNatClampNeg p1 - Int32.toNatClampNeg p0) [wdl f 0 n]) from by intro h; exfalso; exact p22_1 (by omega) h.1
      have qq2 : id ((∃ nwb nxb, (P 181) tn = some nwb ∧ (P 182) tn = some nxb ∧ ((nwb = nw ∧ nxb = nx) ∨ (nwb = nx ∧ nxb = nw)))) := show (∃ nwb nxb, (P 181) tn = some nwb ∧ (P 182) tn = some nxb ∧ ((nwb = nw ∧ nxb = nx) ∨ (nwb = nx ∧ nxb = nw))) from by exact ⟨nw, nx, h181, h182, Or.inl ⟨rfl, rfl⟩⟩
      have qq3 : id ((∃ ahb bhb, (P 186) tn = some ahb ∧ (P 187) tn = some bhb ∧ ((ahb = ah ∧ bhb = bh) ∨ (ahb = bh ∧ bhb = ah)))) := show (∃ ahb bhb, (P 186) tn = some ahb ∧ (P 187) tn = some bhb ∧ ((ahb = ah ∧ bhb = bh) ∨ (ahb = bh ∧ bhb = ah))) from by exact ⟨ah, bh, h186, h187, Or.inl ⟨rfl, rfl⟩⟩
      exact pw_some ⟨qq0, qq1, qq2, qq3⟩
    · have c25 : r22.toInt = 1 := by have z9 := z_ne c25; omega
      have st9 := p11_0 (by omega)
      have iw9 := p22_0 (by omega)
      have iw1 := iw9.1
      have hw1 : (wdl f 0 n).length = n := wdl_len
      have hwb : BW (wdl f 0 n) := fun y hy => by unfold wdl at hy; obtain ⟨j, _, e9⟩ := List.mem_map.mp hy; rw [← e9]; exact fit_id (hfit _)
      refine pw_nne hn45 ?_
      refine pw_nne hn7 ?_
      refine pw_nne hn5 ?_
      refine pw_nne hn1 ?_
      refine pw_nne hn3 ?_
      refine pw_b14 (fun r54 c54_G60 c54_G183 c54_G203 c54_P66 c54_P181 c54_P182 c54_P186 c54_P187 c54_U184 c54_V0 c54_V1 c54_V2 c54_V12 hc54 => ?_)
      have hq54 := wp_at (ok_X9_through κ wd (va_up G 141 c4_G141) P U V X O kd ln cnt tn ra p0 p1 tb (0 : Int32) r4 hzG60 hzG102 hzG183 hzG200 hzG203 hzP20 hzP21 hzP22 hzP23 hzP61 hzP62 hzP63 hzP64 hzP65 hzP66 hzP101 hzP103 hzP104 hzP105 hzP106 hzP108 hzP109 hzP110 hzP180 hzP181 hzP182 hzP185 hzP186 hzP187 hzP201 hzP202 hzV1 hzV2 hzO0 hzO2 hzRA hzRB hzRI hzRM103 hzRM104 hzRM108 hzLN hk_tn hk_ra hk_tb) hc54
      obtain ⟨hg62, hg63, hg64, hg65, hg66, hg67, hg68, hg69, hg70, hg71, hRB72, hk73, f74⟩ : (rng (0) 30 c54_G60) ∧ (rng (0) 40 c54_G183) ∧ (rng (0) 100 c54_G203) ∧ (PB κ ln wd 4 11 0 2500 0 c54_P66) ∧ (PB κ ln wd 10 100 40 40 0 c54_P181) ∧ (PB κ ln wd 10 100 40 40 0 c54_P182) ∧ (PB κ ln wd 10 11 0 2500 1 c54_P186) ∧ (PB κ ln wd 10 11 0 2500 1 c54_P187) ∧ (rng2 (0) 24 c54_V1) ∧ (rng2 (0) 24 c54_V2) ∧ (RB κ ln (G 200) c54_G203 (P 202) c54_V1) ∧ (κ r54 = 11) ∧ (c54_G203 wd = (G 203) wd) := hq54
      have hq54 := pwq (fr_X9_through la (va_up G 141 c4_G141) P U V X O kd ln cnt tn ra p0 p1 tb (0 : Int32) r4 hB lt_tn8) hc54
      obtain ⟨q54_G60, q54_G183, q54_G203, q54_P66, q54_P181, q54_P182, q54_P186, q54_P187, q54_U184, q54_V0, q54_V1, q54_V2, q54_V12, ql54_66, ql54_181, ql54_182, ql54_186, ql54_187⟩ : (∀ z, (la z < la tn ∨ la tn + 8 < la z) → c54_G60 z = (G 60) z) ∧ (∀ z, (la z < la tn ∨ la tn + 8 < la z) → c54_G183 z = (G 183) z) ∧ (∀ z, (la z < la tn ∨ la tn + 8 < la z) → c54_G203 z = (G 203) z) ∧ (∀ z, (la z < la tn ∨ la tn + 8 < la z) → c54_P66 z = (P 66) z) ∧ (∀ z, (la z < la tn ∨ la tn + 8 < la z) → c54_P181 z = (P 181) z) ∧ (∀ z, (la z < la tn ∨ la tn + 8 < la z) → c54_P182 z = (P 182) z) ∧ (∀ z, (la z < la tn ∨ la tn + 8 < la z) → c54_P186 z = (P 186) z) ∧ (∀ z, (la z < la tn ∨ la tn + 8 < la z) → c54_P187 z = (P 187) z) ∧ (∀ z, (la z < la tn ∨ la tn + 8 < la z) → c54_U184 z = (U 184) z) ∧ (∀ z, (la z < la tn ∨ la tn + 8 < la z) → c54_V0 z = (V 0) z) ∧ (∀ z, (la z < la tn ∨ la tn + 8 < la z) → c54_V1 z = (V 1) z) ∧ (∀ z, (la z < la tn ∨ la tn + 8 < la z) → c54_V2 z = (V 2) z) ∧ (∀ z, (la z < la tn ∨ la tn + 8 < la z) → c54_V12 z = (V 12) z) ∧ LC 66 la cnt c54_P66 ∧ LC 181 la cnt c54_P181 ∧ LC 182 la cnt c54_P182 ∧ LC 186 la cnt c54_P186 ∧ LC 187 la cnt c54_P187 := hq54
      have tz54 : ∀ z, ((la z < 10 ∨ 10 < la z) ∧ (la z < 90 ∨ 90 + 8 < la z) ∧ (la z < 50 ∨ 50 < la z)) → ((la z < la tn ∨ la tn + 8 < la z)) := fun z hz => by omega
      have hfr75 : ∀ z, ((la z < 10 ∨ 10 < la z) ∧ (la z < 90 ∨ 90 + 8 < la z) ∧ (la z < 50 ∨ 50 < la z)) → c54_G60 z = (G 60) z := fun z hz => (q54_G60 z (tz54 z hz)).trans ((fun _ _ => rfl) z hz)
      have hfr76 : ∀ z, ((la z < 10 ∨ 10 < la z) ∧ (la z < 90 ∨ 90 + 8 < la z) ∧ (la z < 50 ∨ 50 < la z)) → c54_G183 z = (G 183) z := fun z hz => (q54_G183 z (tz54 z hz)).trans ((fun _ _ => rfl) z hz)
      have hfr77 : ∀ z, ((la z < 10 ∨ 10 < la z) ∧ (la z < 90 ∨ 90 + 8 < la z) ∧ (la z < 50 ∨ 50 < la z)) → c54_G203 z = (G 203) z := fun z hz => (q54_G203 z (tz54 z hz)).trans ((fun _ _ => rfl) z hz)
      have hfr78 : ∀ z, ((la z < 10 ∨ 10 < la z) ∧ (la z < 90 ∨ 90 + 8 < la z) ∧ (la z < 50 ∨ 50 < la z)) → c54_P66 z = (P 66) z := fun z hz => (q54_P66 z (tz54 z hz)).trans ((fun _ _ => rfl) z hz)
      have hfr79 : ∀ z, ((la z < 10 ∨ 10 < la z) ∧ (la z < 90 ∨ 90 + 8 < la z) ∧ (la z < 50 ∨ 50 < la z)) → c54_P181 z = (P 181) z := fun z hz => (q54_P181 z (tz54 z hz)).trans ((fun _ _ => rfl) z hz)
      have hfr80 : ∀ z, ((la z < 10 ∨ 10 < la z) ∧ (la z < 90 ∨ 90 + 8 < la z) ∧ (la z < 50 ∨ 50 < la z)) → c54_P182 z = (P 182) z := fun z hz => (q54_P182 z (tz54 z hz)).trans ((fun _ _ => rfl) z hz)
      have hfr81 : ∀ z, ((la z < 10 ∨ 10 < la z) ∧ (la z < 90 ∨ 90 + 8 < la z) ∧ (la z < 50 ∨ 50 < la z)) → c54_P186 z = (P 186) z := fun z hz => (q54_P186 z (tz54 z hz)).trans ((fun _ _ => rfl) z hz)
      have hfr82 : ∀ z, ((la z < 10 ∨ 10 < la z) ∧ (la z < 90 ∨ 90 + 8 < la z) ∧ (la z < 50 ∨ 50 < la z)) → c54_P187 z = (P 187) z := fun z hz => (q54_P187 z (tz54 z hz)).trans ((fun _ _ => rfl) z hz)
      have hfr83 : ∀ z, ((la z < 10 ∨ 10 < la z) ∧ (la z < 90 ∨ 90 + 8 < la z) ∧ (la z < 50 ∨ 50 < la z)) → c54_U184 z = (U 184) z := fun z hz => (q54_U184 z (tz54 z hz)).trans ((fun _ _ => rfl) z hz)
      have hfr84 : ∀ z, ((la z < 10 ∨ 10 < la z) ∧ (la z < 90 ∨ 90 + 8 < la z) ∧ (la z < 50 ∨ 50 < la z)) → c54_V0 z = (V 0) z := fun z hz => (q54_V0 z (tz54 z hz)).trans ((fun _ _ => rfl) z hz)
      have hfr85 : ∀ z, ((la z < 10 ∨ 10 < la z) ∧ (la z < 90 ∨ 90 + 8 < la z) ∧ (la z < 50 ∨ 50 < la z)) → c54_V1 z = (V 1) z := fun z hz => (q54_V1 z (tz54 z hz)).trans ((fun _ _ => rfl) z hz)
      have hfr86 : ∀ z, ((la z < 10 ∨ 10 < la z) ∧ (la z < 90 ∨ 90 + 8 < la z) ∧ (la z < 50 ∨ 50 < la z)) → c54_V2 z = (V 2) z := fun z hz => (q54_V2 z (tz54 z hz)).trans ((fun _ _ => rfl) z hz)
      have hfr87 : ∀ z, ((la z < 10 ∨ 10 < la z) ∧ (la z < 90 ∨ 90 + 8 < la z) ∧ (la z < 50 ∨ 50 < la z)) → c54_V12 z = (V 12) z := fun z hz => (q54_V12 z (tz54 z hz)).trans ((fun _ _ => rfl) z hz)
      have h854_h181 : (P 181) tn = some nw := by exact h181
      have h854_h182 : (P 182) tn = some nx := by exact h182
      have h854_hnn : nw ≠ nx := by exact hnn
      have h854_h185 : (P 185) tn = some wh := by exact h185
      have h854_h180 : (P 180) tn = some pg := by exact h180
      have h854_hfi : (P 63) pg = some fi := by exact hfi
      have h854_hpa : (P 65) pg = some pa := by exact hpa
      have h854_hpk : (P 62) pg = some pk := by exact hpk
      have h854_hsz : (P 61) pg = some sz := by exact hsz
      have h854_hcl : (P 64) pg = some cl := by exact hcl
      have h854_hlt9 : la tn = 90 := by exact hlt9
      have h854_h186 : (P 186) tn = some ah := by exact h186
      have h854_h187 : (P 187) tn = some bh := by exact h187
      have h854_hxa : (P 201) ah = some lah := by exact hxa
      have h854_hya : (P 202) ah = some sah := by exact hya
      have h854_hxb : (P 201) bh = some lbh := by exact hxb
      have h854_hyb : (P 202) bh = some sbh := by exact hyb
      have h854_hga : ((G 200) ah).toInt = ((24 : Nat) : Int) := by exact hga
      have h854_hgb : ((G 200) bh).toInt = ((24 : Nat) : Int) := by exact hgb
      have h854_hna : ln sah = 12 := by exact hna
      have h854_hnb : ln sbh = 12 := by exact hnb
      have h854_hab : (la ah = 94 ∧ la bh = 95) ∨ (la ah = 95 ∧ la bh = 94) := by exact hab
      have h854_hW : wdl ((V 0) tb) (Int32.toNatClampNeg (0 : Int32)) (Int32.toNatClampNeg r4) = (wdl f 0 n) := by rw [hf, hn4, show Int32.toNatClampNeg (0 : Int32) = 0 from rfl]
      have h854_hWw : 1 ≤ (wdl f 0 n).length ∧ (wdl f 0 n).length ≤ 24 ∧ BW (wdl f 0 n) := by exact ⟨by omega, by omega, hwb⟩
      have h854_hst : 0 ≤ (0 : Int32).toInt := by omega
      have h854_hm : 0 ≤ r4.toInt := by omega
      have h854_hlf : (0 : Int32).toInt + r4.toInt ≤ ((ln tb : Nat) : Int) := by omega
      have h854_hp1 : 0 ≤ p0.toInt := by omega
      have h854_hp2 : p1.toInt ≤ 6 := by omega
      have h854_hl6 : ln ra = 6 := by exact hl6
      have h854_hrf : id (∀ q : Nat, p0.toInt ≤ (q : Int) → (q : Int) < p1.toInt → ∃ rf, (O 2) ra q = some rf ∧ rf < cnt ∧ 100000 ≤ la rf ∧ RFX (va_up G 141 c4_G141) P V O ln la cnt rf (d q)) := show ∀ q : Nat, p0.toInt ≤ (q : Int) → (q : Int) < p1.toInt → ∃ rf, (O 2) ra q = some rf ∧ rf < cnt ∧ 100000 ≤ la rf ∧ RFX (va_up G 141 c4_G141) P V O ln la cnt rf (d q) from by exact fun q h1 h2 => (by obtain ⟨rf9, y1, y2, y3, y4⟩ := hrf q (by omega); exact ⟨rf9, y1, y2, y3, RFX_fr y4 hB y2 (fun z hz h3 h4 => ⟨rfl, rfl, rfl, rfl, rfl, rfl, rfl, rfl, rfl, rfl, rfl, rfl, rfl, rfl, rfl, rfl, rfl, rfl, rfl, rfl, rfl, rfl, rfl, rfl, rfl, rfl⟩) (Nat.le_refl _) (fun _ _ => rfl)⟩)
      have hx54 := pwq (fn_X9_through κ wd la (va_up G 141 c4_G141) P U V X O kd ln cnt tn ra p0 p1 tb (0 : Int32) r4 (nw) (nx) (wh) (pg) (fi) (pa) (pk) (sz) (cl) (ah) (bh) (lah) (sah) (lbh) (sbh) (d) (wdl f 0 n) hzG60 hzG102 hzG183 hzG200 hzG203 hzP20 hzP21 hzP22 hzP23 hzP61 hzP62 hzP63 hzP64 hzP65 hzP66 hzP101 hzP103 hzP104 hzP105 hzP106 hzP108 hzP109 hzP110 hzP180 hzP181 hzP182 hzP185 hzP186 hzP187 hzP201 hzP202 hzV1 hzV2 hzO0 hzO2 hzRA hzRB hzRI hzRM103 hzRM104 hzRM108 hzLN hk_tn hk_ra hk_tb hB lt_tn8 lt_ra6 lt_tb4 h854_h181 h854_h182 h854_hnn h854_h185 h854_h180 h854_hfi h854_hpa h854_hpk h854_hsz h854_hcl h854_hlt9 h854_h186 h854_h187 h854_hxa h854_hya h854_hxb h854_hyb h854_hga h854_hgb h854_hna h854_hnb h854_hab h854_hW h854_hWw h854_hst h854_hm h854_hlf h854_hp1 h854_hp2 h854_hl6 h854_hrf) hc54
      obtain ⟨p54_0, p54_1, p54_2, p54_3⟩ : (((r54 = ah ∧ rwW (c54_G203 ah) (c54_V0 lah) (c54_V1 sah) 24 = thF d (Int32.toNatClampNeg p0) (Int32.toNatClampNeg p1 - Int32.toNatClampNeg p0) [(wdl f 0 n)]) ∨ (r54 = bh ∧ rwW (c54_G203 bh) (c54_V0 lbh) (c54_V1 sbh) 24 = thF d (Int32.toNatClampNeg p0) (Int32.toNatClampNeg p1 - Int32.toNatClampNeg p0) [(wdl f 0 n)]))) ∧ (id ((∃ nwb nxb, c54_P181 tn = some nwb ∧ c54_P182 tn = some nxb ∧ ((nwb = nw ∧ nxb = nx) ∨ (nwb = nx ∧ nxb = nw))))) ∧ (id ((∃ ahb bhb, c54_P186 tn = some ahb ∧ c54_P187 tn = some bhb ∧ ((ahb = ah ∧ bhb = bh) ∨ (ahb = bh ∧ bhb = ah))))) ∧ (WDS (thF d (Int32.toNatClampNeg p0) (Int32.toNatClampNeg p1 - Int32.toNatClampNeg p0) [(wdl f 0 n)])) := hx54
      clear h854_h181 h854_h182 h854_hnn h854_h185 h854_h180 h854_hfi h854_hpa h854_hpk h854_hsz h854_hcl h854_hlt9 h854_h186 h854_h187 h854_hxa h854_hya h854_hxb h854_hyb h854_hga h854_hgb h854_hna h854_hnb h854_hab h854_hW h854_hWw h854_hst h854_hm h854_hlf h854_hp1 h854_hp2 h854_hl6 h854_hrf
      have hFL88 : FL wd c54_G203 (V 3) := by exact FL_eq hzFL f74
      obtain ⟨lr9, sr9, hr201, hr202, hr200, hrla, hrow9⟩ : ∃ lr9 sr9, P 201 r54 = some lr9 ∧ P 202 r54 = some sr9 ∧ ((G 200) r54).toInt = ((24 : Nat) : Int) ∧ (94 ≤ la r54 ∧ la r54 ≤ 95) ∧ rwW (c54_G203 r54) (c54_V0 lr9) (c54_V1 sr9) 24 = thF d (Int32.toNatClampNeg p0) (Int32.toNatClampNeg p1 - Int32.toNatClampNeg p0) [wdl f 0 n] := by rcases p54_0 with ⟨z1, z2⟩ | ⟨z1, z2⟩ <;> rw [z1]; (exact ⟨lah, sah, hxa, hya, hga, by have o9 : (la ah = 94 ∧ la bh = 95) ∨ (la ah = 95 ∧ la bh = 94) := hab; omega, z2⟩); (exact ⟨lbh, sbh, hxb, hyb, hgb, by have o9 : (la ah = 94 ∧ la bh = 95) ∨ (la ah = 95 ∧ la bh = 94) := hab; omega, z2⟩)
      have hrlt : r54 < cnt := by rcases p54_0 with ⟨z1, _⟩ | ⟨z1, _⟩ <;> rw [z1] <;> omega
      have hrlen := congrArg List.length hrow9
      rw [rw_len] at hrlen
      have hth12 := th_le (D := d) (a := Int32.toNatClampNeg p0) (fs := [wdl f 0 n]) (by show 1 ≤ 12; omega) (Int32.toNatClampNeg p1 - Int32.toNatClampNeg p0)
      have hbr := hg64 r54
      have cbr := clampI (x := c54_G203 r54) (by omega)
      have hn89 : (P 201) r54 = some lr9 := hr201
      have lt_lr990 := ((hB.1 201 fl_201) r54 lr9 hn89).2.1
      have lb_lr990 : la lr9 = la r54 + 0 := lk_201.mp ((hB.1 201 fl_201) r54 lr9 hn89).2.2
      have hk_lr9 := ((hzP201 r54).2 lr9 hn89).1
      have hl1_lr9 := ((hzP201 r54).2 lr9 hn89).2.1
      have hl2_lr9 := ((hzP201 r54).2 lr9 hn89).2.2.1
      have hw_lr9 : id _ := ((hzP201 r54).2 lr9 hn89).2.2.2
      have hz_lr9 : (Int32.ofNat (ln lr9)).toInt = ((ln lr9 : Nat) : Int) := ofN_eq (by first | exact Nat.le_trans hl2_lr9 (by decide) | omega)
      have hn91 : (P 202) r54 = some sr9 := hr202
      have lt_sr992 := ((hB.1 202 fl_202) r54 sr9 hn91).2.1
      have lb_sr992 : la sr9 = la r54 + 0 := lk_202.mp ((hB.1 202 fl_202) r54 sr9 hn91).2.2
      have hk_sr9 := ((hzP202 r54).2 sr9 hn91).1
      have hl1_sr9 := ((hzP202 r54).2 sr9 hn91).2.1
      have hl2_sr9 := ((hzP202 r54).2 sr9 hn91).2.2.1
      have hw_sr9 : id _ := ((hzP202 r54).2 sr9 hn91).2.2.2
      have hz_sr9 : (Int32.ofNat (ln sr9)).toInt = ((ln sr9 : Nat) : Int) := ofN_eq (by first | exact Nat.le_trans hl2_sr9 (by decide) | omega)
      have rb93 := (hRB72 r54 sr9 hk73 hn91).1
      have ra94 := hzRA r54 lr9 sr9 hk73 hn89 hn91
      have bw95 := hzG200 r54
      refine pw_b3 (fun c57_G203 c57_V0 c57_V1 hc57 => ?_)
      have hq57 := wp_at (ok_X10_copy κ wd (va_up (va_up (va_up (va_up G 141 c4_G141) 60 c54_G60) 183 c54_G183) 203 c54_G203) (va_up (va_up (va_up (va_up (va_up P 66 c54_P66) 181 c54_P181) 182 c54_P182) 186 c54_P186) 187 c54_P187) (va_up U 184 c54_U184) (va_up (va_up (va_up (va_up V 0 c54_V0) 1 c54_V1) 2 c54_V2) 12 c54_V12) X O kd ln cnt lf r54 hzG200 hg64 hzP201 hzP202 hg70 hzRA hRB72 hzRI hzLN hk_lf hk73) hc57
      obtain ⟨hg96, hg97, hRB98, f99⟩ : (rng (0) 100 c57_G203) ∧ (rng2 (0) 24 c57_V1) ∧ (RB κ ln (G 200) c57_G203 (P 202) c57_V1) ∧ (id ((lf ≠ wd → c57_G203 wd = c54_G203 wd))) := hq57
      have hq57 := pwq (fr_X10_copy la (va_up (va_up (va_up (va_up G 141 c4_G141) 60 c54_G60) 183 c54_G183) 203 c54_G203) (va_up (va_up (va_up (va_up (va_up P 66 c54_P66) 181 c54_P181) 182 c54_P182) 186 c54_P186) 187 c54_P187) (va_up U 184 c54_U184) (va_up (va_up (va_up (va_up V 0 c54_V0) 1 c54_V1) 2 c54_V2) 12 c54_V12) X O kd ln cnt lf r54 (LB_set (LB_set (LB_set (LB_set (LB_set hB ql54_66) ql54_181) ql54_182) ql54_186) ql54_187)) hc57
      obtain ⟨q57_G203, q57_V0, q57_V1⟩ : (∀ z, (la z < la lf ∨ la lf < la z) → c57_G203 z = c54_G203 z) ∧ (∀ z, (la z < la lf ∨ la lf < la z) → c57_V0 z = c54_V0 z) ∧ (∀ z, (la z < la lf ∨ la lf < la z) → c57_V1 z = c54_V1 z) := hq57
      have tz57 : ∀ z, ((la z < 10 ∨ 10 < la z) ∧ (la z < 90 ∨ 90 + 8 < la z) ∧ (la z < 50 ∨ 50 < la z)) → ((la z < la lf ∨ la lf < la z)) := fun z hz => by omega
      have hfr100 : ∀ z, ((la z < 10 ∨ 10 < la z) ∧ (la z < 90 ∨ 90 + 8 < la z) ∧ (la z < 50 ∨ 50 < la z)) → c57_G203 z = (G 203) z := fun z hz => (q57_G203 z (tz57 z hz)).trans (hfr77 z hz)
      have hfr101 : ∀ z, ((la z < 10 ∨ 10 < la z) ∧ (la z < 90 ∨ 90 + 8 < la z) ∧ (la z < 50 ∨ 50 < la z)) → c57_V0 z = (V 0) z := fun z hz => (q57_V0 z (tz57 z hz)).trans (hfr84 z hz)
      have hfr102 : ∀ z, ((la z < 10 ∨ 10 < la z) ∧ (la z < 90 ∨ 90 + 8 < la z) ∧ (la z < 50 ∨ 50 < la z)) → c57_V1 z = (V 1) z := fun z hz => (q57_V1 z (tz57 z hz)).trans (hfr85 z hz)
      have h857_hl : (P 201) lf = some (lfl) := by exact hfl
      have h857_hs : (P 202) lf = some (lfs) := by exact hfs
      have h857_hw : ((G 200) lf).toInt = ((24 : Nat) : Int) := by exact hfw
      have h857_hlo : (P 201) r54 = some (lr9) := by exact hr201
      have h857_hso : (P 202) r54 = some (sr9) := by exact hr202
      have h857_hwo : ((G 200) r54).toInt = ((24 : Nat) : Int) := by exact hr200
      have h857_hws : rwW (c54_G203 r54) (c54_V0 (lr9)) (c54_V1 (sr9)) 24 = (thF d (Int32.toNatClampNeg p0) (Int32.toNatClampNeg p1 - Int32.toNatClampNeg p0) [wdl f 0 n]) := by exact hrow9
      have h857_hcap : (c54_G203 r54).toInt ≤ ((ln (lfs) : Nat) : Int) := by omega
      have h857_hne : la lf ≠ la r54 := by omega
      have hx57 := pwq (fn_X10_copy κ wd la (va_up (va_up (va_up (va_up G 141 c4_G141) 60 c54_G60) 183 c54_G183) 203 c54_G203) (va_up (va_up (va_up (va_up (va_up P 66 c54_P66) 181 c54_P181) 182 c54_P182) 186 c54_P186) 187 c54_P187) (va_up U 184 c54_U184) (va_up (va_up (va_up (va_up V 0 c54_V0) 1 c54_V1) 2 c54_V2) 12 c54_V12) X O kd ln cnt lf r54 (lfl) (lfs) (lr9) (sr9) (thF d (Int32.toNatClampNeg p0) (Int32.toNatClampNeg p1 - Int32.toNatClampNeg p0) [wdl f 0 n]) hzG200 hg64 hzP201 hzP202 hg70 hzRA hRB72 hzRI hzLN hk_lf hk73 (LB_set (LB_set (LB_set (LB_set (LB_set hB ql54_66) ql54_181) ql54_182) ql54_186) ql54_187) lt_lf46 (by omega) h857_hl h857_hs h857_hw h857_hlo h857_hso h857_hwo h857_hws h857_hcap h857_hne) hc57
      have p57_0 : rwW (c57_G203 lf) (c57_V0 (lfl)) (c57_V1 (lfs)) 24 = (thF d (Int32.toNatClampNeg p0) (Int32.toNatClampNeg p1 - Int32.toNatClampNeg p0) [wdl f 0 n]) := hx57
      clear hx57
      clear h857_hl h857_hs h857_hw h857_hlo h857_hso h857_hwo h857_hws h857_hcap h857_hne
      have hFL103 : FL wd c57_G203 (V 3) := by exact FL_eq hFL88 (f99 (hw_lf rfl))
      refine pw_nne hn45 ?_
      have b104 := hg96 lf
      have rb105 := (hRB98 lf lfs hk_lf hn49).1
      have qq0 : id ((¬ (isw f ((G 141) tp).toInt ∧ 0 ≤ p0.toInt ∧ p0.toInt ≤ p1.toInt ∧ p1.toInt ≤ ((G 222) this).toInt) → (c57_G203 lf).toInt = -2 ∧ c57_G203 lf = (G 203) lf ∧ c57_V0 lfl = (V 0) lfl ∧ c57_V1 lfs = (V 1) lfs)) := show (¬ (isw f ((G 141) tp).toInt ∧ 0 ≤ p0.toInt ∧ p0.toInt ≤ p1.toInt ∧ p1.toInt ≤ ((G 222) this).toInt) → (c57_G203 lf).toInt = -2 ∧ c57_G203 lf = (G 203) lf ∧ c57_V0 lfl = (V 0) lfl ∧ c57_V1 lfs = (V 1) lfs) from by intro h; exfalso; exact h ⟨iw9, st9⟩
      have qq1 : id ((isw f ((G 141) tp).toInt ∧ 0 ≤ p0.toInt ∧ p0.toInt ≤ p1.toInt ∧ p1.toInt ≤ ((G 222) this).toInt → (c57_G203 lf).toInt = (((thF d (Int32.toNatClampNeg p0) (Int32.toNatClampNeg p1 - Int32.toNatClampNeg p0) [wdl f 0 n]).length : Nat) : Int) ∧ rwW (c57_G203 lf) (c57_V0 lfl) (c57_V1 lfs) 24 = thF d (Int32.toNatClampNeg p0) (Int32.toNatClampNeg p1 - Int32.toNatClampNeg p0) [wdl f 0 n])) := show (isw f ((G 141) tp).toInt ∧ 0 ≤ p0.toInt ∧ p0.toInt ≤ p1.toInt ∧ p1.toInt ≤ ((G 222) this).toInt → (c57_G203 lf).toInt = (((thF d (Int32.toNatClampNeg p0) (Int32.toNatClampNeg p1 - Int32.toNatClampNeg p0) [wdl f 0 n]).length : Nat) : Int) ∧ rwW (c57_G203 lf) (c57_V0 lfl) (c57_V1 lfs) 24 = thF d (Int32.toNatClampNeg p0) (Int32.toNatClampNeg p1 - Int32.toNatClampNeg p0) [wdl f 0 n]) from by intro _; refine ⟨?_, p57_0⟩; have h9 := congrArg List.length p57_0; rw [rw_len] at h9; have h8 := hg96 lf; have h7 := clampI (x := c57_G203 lf) (by omega); omega
      have qq2 : id ((∃ nwb nxb, c54_P181 tn = some nwb ∧ c54_P182 tn = some nxb ∧ ((nwb = nw ∧ nxb = nx) ∨ (nwb = nx ∧ nxb = nw)))) := show (∃ nwb nxb, c54_P181 tn = some nwb ∧ c54_P182 tn = some nxb ∧ ((nwb = nw ∧ nxb = nx) ∨ (nwb = nx ∧ nxb = nw))) from by exact p54_1
      have qq3 : id ((∃ ahb bhb, c54_P186 tn = some ahb ∧ c54_P187 tn = some bhb ∧ ((ahb = ah ∧ bhb = bh) ∨ (ahb = bh ∧ bhb = ah)))) := show (∃ ahb bhb, c54_P186 tn = some ahb ∧ c54_P187 tn = some bhb ∧ ((ahb = ah ∧ bhb = bh) ∨ (ahb = bh ∧ bhb = ah))) from by exact p54_2
      exact pw_some ⟨qq0, qq1, qq2, qq3⟩
