abbrev QF_X9_through (κ : Nat → Nat) (wd : Nat) (la : Nat → Nat) (G : Nat → Nat → Int32) (P : Nat → Nat → Option Nat) (U : Nat → Nat → Int64) (V : Nat → Nat → Nat → Int32) (X : Nat → Nat → Nat → Int64) (O : Nat → Nat → Nat → Option Nat) (kd : Nat → Nat) (ln : Nat → Nat) (cnt : Nat) (this : Nat) (p0 : Nat) (p1 : Int32) (p2 : Int32) (p3 : Nat) (p4 : Int32) (p5 : Int32) (nw : Nat) (nx : Nat) (wh : Nat) (pg : Nat) (fi : Nat) (pa : Nat) (pk : Nat) (sz : Nat) (cl : Nat) (ah : Nat) (bh : Nat) (lah : Nat) (sah : Nat) (lbh : Nat) (sbh : Nat) (d : Nat → Dr) (W : Wd) : (Nat × (Nat → Int32) × (Nat → Int32) × (Nat → Int32) × (Nat → Option Nat) × (Nat → Option Nat) × (Nat → Option Nat) × (Nat → Option Nat) × (Nat → Option Nat) × (Nat → Int64) × (Nat → Nat → Int32) × (Nat → Nat → Int32) × (Nat → Nat → Int32) × (Nat → Nat → Int32)) → Prop := (fun t => ((((t.1) = ah ∧ rwW ((t.2.2.2.1) ah) ((t.2.2.2.2.2.2.2.2.2.2.1) lah) ((t.2.2.2.2.2.2.2.2.2.2.2.1) sah) 24 = thF d (Int32.toNatClampNeg p1) (Int32.toNatClampNeg p2 - Int32.toNatClampNeg p1) [W]) ∨ ((t.1) = bh ∧ rwW ((t.2.2.2.1) bh) ((t.2.2.2.2.2.2.2.2.2.2.1) lbh) ((t.2.2.2.2.2.2.2.2.2.2.2.1) sbh) 24 = thF d (Int32.toNatClampNeg p1) (Int32.toNatClampNeg p2 - Int32.toNatClampNeg p1) [W]))) ∧ ((∃ nwb nxb, (t.2.2.2.2.2.1) this = some nwb ∧ (t.2.2.2.2.2.2.1) this = some nxb ∧ ((nwb = nw ∧ nxb = nx) ∨ (nwb = nx ∧ nxb = nw)))) ∧ ((∃ ahb bhb, (t.2.2.2.2.2.2.2.1) this = some ahb ∧ (t.2.2.2.2.2.2.2.2.1) this = some bhb ∧ ((ahb = ah ∧ bhb = bh) ∨ (ahb = bh ∧ bhb = ah)))) ∧ (WDS (thF d (Int32.toNatClampNeg p1) (Int32.toNatClampNeg p2 - Int32.toNatClampNeg p1) [W])))
set_option maxHeartbeats 4000000 in
set_option maxRecDepth 100000 in
theorem fn_X9_through (κ : Nat → Nat) (wd : Nat) (la : Nat → Nat) (G : Nat → Nat → Int32) (P : Nat → Nat → Option Nat) (U : Nat → Nat → Int64) (V : Nat → Nat → Nat → Int32) (X : Nat → Nat → Nat → Int64) (O : Nat → Nat → Nat → Option Nat) (kd : Nat → Nat) (ln : Nat → Nat) (cnt : Nat) (this : Nat) (p0 : Nat) (p1 : Int32) (p2 : Int32) (p3 : Nat) (p4 : Int32) (p5 : Int32) (nw : Nat) (nx : Nat) (wh : Nat) (pg : Nat) (fi : Nat) (pa : Nat) (pk : Nat) (sz : Nat) (cl : Nat) (ah : Nat) (bh : Nat) (lah : Nat) (sah : Nat) (lbh : Nat) (sbh : Nat) (d : Nat → Dr) (W : Wd) (hzG60 : rng (0) 30 (G 60)) (hzG102 : rng (0) 40 (G 102)) (hzG183 : rng (0) 40 (G 183)) (hzG200 : rng (0) 24 (G 200)) (hzG203 : rng (0) 100 (G 203)) (hzP20 : PB κ ln wd 2 100 0 16 0 (P 20)) (hzP21 : PB κ ln wd 2 100 0 16 0 (P 21)) (hzP22 : PB κ ln wd 2 100 0 16 0 (P 22)) (hzP23 : PB κ ln wd 2 100 0 16 0 (P 23)) (hzP61 : PB κ ln wd 4 102 30 30 0 (P 61)) (hzP62 : PB κ ln wd 4 100 720 720 0 (P 62)) (hzP63 : PB κ ln wd 4 100 408 408 0 (P 63)) (hzP64 : PB κ ln wd 4 112 25 25 0 (P 64)) (hzP65 : PB κ ln wd 4 100 24 24 0 (P 65)) (hzP66 : PB κ ln wd 4 11 0 2500 0 (P 66)) (hzP101 : PB κ ln wd 6 300 40 40 0 (P 101)) (hzP103 : PB κ ln wd 6 11 0 2500 1 (P 103)) (hzP104 : PB κ ln wd 6 11 0 2500 1 (P 104)) (hzP105 : PB κ ln wd 6 11 0 2500 1 (P 105)) (hzP106 : PB κ ln wd 6 110 40 40 0 (P 106)) (hzP108 : PB κ ln wd 6 11 0 2500 1 (P 108)) (hzP109 : PB κ ln wd 6 111 40 40 0 (P 109)) (hzP110 : PB κ ln wd 6 200 40 40 0 (P 110)) (hzP180 : PB κ ln wd 10 4 0 2500 0 (P 180)) (hzP181 : PB κ ln wd 10 100 40 40 0 (P 181)) (hzP182 : PB κ ln wd 10 100 40 40 0 (P 182)) (hzP185 : PB κ ln wd 10 100 24 24 0 (P 185)) (hzP186 : PB κ ln wd 10 11 0 2500 1 (P 186)) (hzP187 : PB κ ln wd 10 11 0 2500 1 (P 187)) (hzP201 : PB κ ln wd 11 100 0 2400 0 (P 201)) (hzP202 : PB κ ln wd 11 101 0 100 0 (P 202)) (hzV1 : rng2 (0) 24 (V 1)) (hzV2 : rng2 (0) 24 (V 2)) (hzO0 : OB κ 2 (O 0)) (hzO2 : OB κ 6 (O 2)) (hzRA : RA κ ln (G 200) (P 201) (P 202)) (hzRB : RB κ ln (G 200) (G 203) (P 202) (V 1)) (hzRI : RI (P 202)) (hzRM103 : RM ln 40 (P 103) (P 202)) (hzRM104 : RM ln 40 (P 104) (P 202)) (hzRM108 : RM ln 40 (P 108) (P 202)) (hzLN : LN κ ln) (hk_this : κ this = 10) (hk_p0 : κ p0 = 302) (hk_p3 : κ p3 = 100) (hB : LB la cnt P) (hlt_this : this < cnt) (hlt_p0 : p0 < cnt) (hlt_p3 : p3 < cnt) (h181 : (P 181) this = some nw) (h182 : (P 182) this = some nx) (hnn : nw ≠ nx) (h185 : (P 185) this = some wh) (h180 : (P 180) this = some pg) (hfi : (P 63) pg = some fi) (hpa : (P 65) pg = some pa) (hpk : (P 62) pg = some pk) (hsz : (P 61) pg = some sz) (hcl : (P 64) pg = some cl) (hlt9 : la this = 90) (h186 : (P 186) this = some ah) (h187 : (P 187) this = some bh) (hxa : (P 201) ah = some lah) (hya : (P 202) ah = some sah) (hxb : (P 201) bh = some lbh) (hyb : (P 202) bh = some sbh) (hga : ((G 200) ah).toInt = ((24 : Nat) : Int)) (hgb : ((G 200) bh).toInt = ((24 : Nat) : Int)) (hna : ln sah = 12) (hnb : ln sbh = 12) (hab : (la ah = 94 ∧ la bh = 95) ∨ (la ah = 95 ∧ la bh = 94)) (hW : wdl ((V 0) p3) (Int32.toNatClampNeg p4) (Int32.toNatClampNeg p5) = W) (hWw : 1 ≤ W.length ∧ W.length ≤ 24 ∧ BW W) (hst : 0 ≤ p4.toInt) (hm : 0 ≤ p5.toInt) (hlf : p4.toInt + p5.toInt ≤ ((ln p3 : Nat) : Int)) (hp1 : 0 ≤ p1.toInt) (hp2 : p2.toInt ≤ 6) (hl6 : ln p0 = 6) (hrf : ∀ q : Nat, p1.toInt ≤ (q : Int) → (q : Int) < p2.toInt → ∃ rf, (O 2) p0 q = some rf ∧ rf < cnt ∧ 100000 ≤ la rf ∧ RFX G P V O ln la cnt rf (d q)) : pw (f_X9_through G P U V X O kd ln cnt this p0 p1 p2 p3 p4 p5) (QF_X9_through κ wd la G P U V X O kd ln cnt this p0 p1 p2 p3 p4 p5 nw nx wh pg fi pa pk sz cl ah bh lah sah lbh sbh d W) := by
  unfold f_X9_through
  have zk0 : (0 : Int32).toInt = 0 := by decide +kernel
  have r_p1 := i32r p1
  have r_p2 := i32r p2
  have r_p4 := i32r p4
  have r_p5 := i32r p5
  replace hnn : id _ := hnn
  replace hab : id _ := hab
  have hn1 : (P 181) this = some nw := h181
  obtain ⟨_, lt_nw2, lb_nw2⟩ := (hB.1 181 fl_181) this nw hn1
  have lb_nw2 : 91 ≤ la nw ∧ la nw ≤ 92 := by have z9 := lk_181.mp lb_nw2; rw [hlt9] at z9; exact or_bd z9 (by decide)
  have hk_nw := ((hzP181 this).2 nw hn1).1
  have hl1_nw := ((hzP181 this).2 nw hn1).2.1
  have hl2_nw := ((hzP181 this).2 nw hn1).2.2.1
  have hw_nw : id _ := ((hzP181 this).2 nw hn1).2.2.2
  have hz_nw : (Int32.ofNat (ln nw)).toInt = ((ln nw : Nat) : Int) := ofN_eq (by first | exact Nat.le_trans hl2_nw (by decide) | omega)
  have hn3 : (P 182) this = some nx := h182
  obtain ⟨_, lt_nx4, lb_nx4⟩ := (hB.1 182 fl_182) this nx hn3
  have lb_nx4 : 91 ≤ la nx ∧ la nx ≤ 92 := by have z9 := lk_182.mp lb_nx4; rw [hlt9] at z9; exact or_bd z9 (by decide)
  have hk_nx := ((hzP182 this).2 nx hn3).1
  have hl1_nx := ((hzP182 this).2 nx hn3).2.1
  have hl2_nx := ((hzP182 this).2 nx hn3).2.2.1
  have hw_nx : id _ := ((hzP182 this).2 nx hn3).2.2.2
  have hz_nx : (Int32.ofNat (ln nx)).toInt = ((ln nx : Nat) : Int) := ofN_eq (by first | exact Nat.le_trans hl2_nx (by decide) | omega)
  have hn5 : (P 185) this = some wh := h185
  obtain ⟨_, lt_wh6, lb_wh6⟩ := (hB.1 185 fl_185) this wh hn5
  have lb_wh6 : la wh = 93 := (lk_185.mp lb_wh6).trans (congrArg (fun z9 => z9 + 3) hlt9)
  have hk_wh := ((hzP185 this).2 wh hn5).1
  have hl1_wh := ((hzP185 this).2 wh hn5).2.1
  have hl2_wh := ((hzP185 this).2 wh hn5).2.2.1
  have hw_wh : id _ := ((hzP185 this).2 wh hn5).2.2.2
  have hz_wh : (Int32.ofNat (ln wh)).toInt = ((ln wh : Nat) : Int) := ofN_eq (by first | exact Nat.le_trans hl2_wh (by decide) | omega)
  have hn7 : (P 180) this = some pg := h180
  obtain ⟨_, lt_pg8, lb_pg8⟩ := (hB.1 180 fl_180) this pg hn7
  have lb_pg8 : la pg = 96 := (lk_180.mp lb_pg8).trans (congrArg (fun z9 => z9 + 6) hlt9)
  have hk_pg := ((hzP180 this).2 pg hn7).1
  have hl1_pg := ((hzP180 this).2 pg hn7).2.1
  have hl2_pg := ((hzP180 this).2 pg hn7).2.2.1
  have hw_pg : id _ := ((hzP180 this).2 pg hn7).2.2.2
  have hn9 : (P 63) pg = some fi := hfi
  obtain ⟨_, lt_fi10, lb_fi10⟩ := (hB.1 63 fl_63) pg fi hn9
  have lb_fi10 : la fi = 97 := (lk_63.mp lb_fi10).trans (congrArg (fun z9 => z9 + 1) lb_pg8)
  have hk_fi := ((hzP63 pg).2 fi hn9).1
  have hl1_fi := ((hzP63 pg).2 fi hn9).2.1
  have hl2_fi := ((hzP63 pg).2 fi hn9).2.2.1
  have hw_fi : id _ := ((hzP63 pg).2 fi hn9).2.2.2
  have hz_fi : (Int32.ofNat (ln fi)).toInt = ((ln fi : Nat) : Int) := ofN_eq (by first | exact Nat.le_trans hl2_fi (by decide) | omega)
  have hn11 : (P 65) pg = some pa := hpa
  obtain ⟨_, lt_pa12, lb_pa12⟩ := (hB.1 65 fl_65) pg pa hn11
  have lb_pa12 : la pa = 98 := (lk_65.mp lb_pa12).trans (congrArg (fun z9 => z9 + 2) lb_pg8)
  have hk_pa := ((hzP65 pg).2 pa hn11).1
  have hl1_pa := ((hzP65 pg).2 pa hn11).2.1
  have hl2_pa := ((hzP65 pg).2 pa hn11).2.2.1
  have hw_pa : id _ := ((hzP65 pg).2 pa hn11).2.2.2
  have hz_pa : (Int32.ofNat (ln pa)).toInt = ((ln pa : Nat) : Int) := ofN_eq (by first | exact Nat.le_trans hl2_pa (by decide) | omega)
  have hn13 : (P 62) pg = some pk := hpk
  obtain ⟨_, lt_pk14, lb_pk14⟩ := (hB.1 62 fl_62) pg pk hn13
  have lb_pk14 : la pk = 96 := (lk_62.mp lb_pk14).trans (congrArg (fun z9 => z9 + 0) lb_pg8)
  have hk_pk := ((hzP62 pg).2 pk hn13).1
  have hl1_pk := ((hzP62 pg).2 pk hn13).2.1
  have hl2_pk := ((hzP62 pg).2 pk hn13).2.2.1
  have hw_pk : id _ := ((hzP62 pg).2 pk hn13).2.2.2
  have hz_pk : (Int32.ofNat (ln pk)).toInt = ((ln pk : Nat) : Int) := ofN_eq (by first | exact Nat.le_trans hl2_pk (by decide) | omega)
  have hn15 : (P 61) pg = some sz := hsz
  obtain ⟨_, lt_sz16, lb_sz16⟩ := (hB.1 61 fl_61) pg sz hn15
  have lb_sz16 : la sz = 96 := (lk_61.mp lb_sz16).trans (congrArg (fun z9 => z9 + 0) lb_pg8)
  have hk_sz := ((hzP61 pg).2 sz hn15).1
  have hl1_sz := ((hzP61 pg).2 sz hn15).2.1
  have hl2_sz := ((hzP61 pg).2 sz hn15).2.2.1
  have hw_sz : id _ := ((hzP61 pg).2 sz hn15).2.2.2
  have hz_sz : (Int32.ofNat (ln sz)).toInt = ((ln sz : Nat) : Int) := ofN_eq (by first | exact Nat.le_trans hl2_sz (by decide) | omega)
  have hn17 : (P 64) pg = some cl := hcl
  obtain ⟨_, lt_cl18, lb_cl18⟩ := (hB.1 64 fl_64) pg cl hn17
  have lb_cl18 : la cl = 96 := (lk_64.mp lb_cl18).trans (congrArg (fun z9 => z9 + 0) lb_pg8)
  have hk_cl := ((hzP64 pg).2 cl hn17).1
  have hl1_cl := ((hzP64 pg).2 cl hn17).2.1
  have hl2_cl := ((hzP64 pg).2 cl hn17).2.2.1
  have hw_cl : id _ := ((hzP64 pg).2 cl hn17).2.2.2
  have hz_cl : (Int32.ofNat (ln cl)).toInt = ((ln cl : Nat) : Int) := ofN_eq (by first | exact Nat.le_trans hl2_cl (by decide) | omega)
  have hn19 : (P 186) this = some ah := h186
  obtain ⟨_, lt_ah20, lb_ah20⟩ := (hB.1 186 fl_186) this ah hn19
  have lb_ah20 : 94 ≤ la ah ∧ la ah ≤ 95 := by have z9 := lk_186.mp lb_ah20; rw [hlt9] at z9; exact or_bd z9 (by decide)
  have hk_ah := ((hzP186 this).2 ah hn19).1
  have hl1_ah := ((hzP186 this).2 ah hn19).2.1
  have hl2_ah := ((hzP186 this).2 ah hn19).2.2.1
  have hw_ah : id _ := ((hzP186 this).2 ah hn19).2.2.2
  have hn21 : (P 187) this = some bh := h187
  obtain ⟨_, lt_bh22, lb_bh22⟩ := (hB.1 187 fl_187) this bh hn21
  have lb_bh22 : 94 ≤ la bh ∧ la bh ≤ 95 := by have z9 := lk_187.mp lb_bh22; rw [hlt9] at z9; exact or_bd z9 (by decide)
  have hk_bh := ((hzP187 this).2 bh hn21).1
  have hl1_bh := ((hzP187 this).2 bh hn21).2.1
  have hl2_bh := ((hzP187 this).2 bh hn21).2.2.1
  have hw_bh : id _ := ((hzP187 this).2 bh hn21).2.2.2
  have hn23 : (P 201) ah = some lah := hxa
  have lt_lah24 := ((hB.1 201 fl_201) ah lah hn23).2.1
  have lb_lah24 : la lah = la ah + 0 := lk_201.mp ((hB.1 201 fl_201) ah lah hn23).2.2
  have hk_lah := ((hzP201 ah).2 lah hn23).1
  have hl1_lah := ((hzP201 ah).2 lah hn23).2.1
  have hl2_lah := ((hzP201 ah).2 lah hn23).2.2.1
  have hw_lah : id _ := ((hzP201 ah).2 lah hn23).2.2.2
  have hz_lah : (Int32.ofNat (ln lah)).toInt = ((ln lah : Nat) : Int) := ofN_eq (by first | exact Nat.le_trans hl2_lah (by decide) | omega)
  have hn25 : (P 202) ah = some sah := hya
  have lt_sah26 := ((hB.1 202 fl_202) ah sah hn25).2.1
  have lb_sah26 : la sah = la ah + 0 := lk_202.mp ((hB.1 202 fl_202) ah sah hn25).2.2
  have hk_sah := ((hzP202 ah).2 sah hn25).1
  have hl1_sah := ((hzP202 ah).2 sah hn25).2.1
  have hl2_sah := ((hzP202 ah).2 sah hn25).2.2.1
  have hw_sah : id _ := ((hzP202 ah).2 sah hn25).2.2.2
  have hz_sah : (Int32.ofNat (ln sah)).toInt = ((ln sah : Nat) : Int) := ofN_eq (by first | exact Nat.le_trans hl2_sah (by decide) | omega)
  have rb27 := (hzRB ah sah hk_ah hn25).1
  have ra28 := hzRA ah lah sah hk_ah hn23 hn25
  have bw29 := hzG200 ah
  have hn30 : (P 201) bh = some lbh := hxb
  have lt_lbh31 := ((hB.1 201 fl_201) bh lbh hn30).2.1
  have lb_lbh31 : la lbh = la bh + 0 := lk_201.mp ((hB.1 201 fl_201) bh lbh hn30).2.2
  have hk_lbh := ((hzP201 bh).2 lbh hn30).1
  have hl1_lbh := ((hzP201 bh).2 lbh hn30).2.1
  have hl2_lbh := ((hzP201 bh).2 lbh hn30).2.2.1
  have hw_lbh : id _ := ((hzP201 bh).2 lbh hn30).2.2.2
  have hz_lbh : (Int32.ofNat (ln lbh)).toInt = ((ln lbh : Nat) : Int) := ofN_eq (by first | exact Nat.le_trans hl2_lbh (by decide) | omega)
  have hn32 : (P 202) bh = some sbh := hyb
  have lt_sbh33 := ((hB.1 202 fl_202) bh sbh hn32).2.1
  have lb_sbh33 : la sbh = la bh + 0 := lk_202.mp ((hB.1 202 fl_202) bh sbh hn32).2.2
  have hk_sbh := ((hzP202 bh).2 sbh hn32).1
  have hl1_sbh := ((hzP202 bh).2 sbh hn32).2.1
  have hl2_sbh := ((hzP202 bh).2 sbh hn32).2.2.1
  have hw_sbh : id _ := ((hzP202 bh).2 sbh hn32).2.2.2
  have hz_sbh : (Int32.ofNat (ln sbh)).toInt = ((ln sbh : Nat) : Int) := ofN_eq (by first | exact Nat.le_trans hl2_sbh (by decide) | omega)
  have rb34 := (hzRB bh sbh hk_bh hn32).1
  have ra35 := hzRA bh lbh sbh hk_bh hn30 hn32
  have bw36 := hzG200 bh
  have hab9 : 94 ≤ la ah ∧ la ah ≤ 95 ∧ la ah + la bh = 189 := by have o9 : (la ah = 94 ∧ la bh = 95) ∨ (la ah = 95 ∧ la bh = 94) := hab; omega
  have cp1 := clampI hp1
  have cp5 := clampI hm
  have hWl : W.length = Int32.toNatClampNeg p5 := by rw [← hW]; exact wdl_len
  have hW1 : WDS [W] := fun y hy => by rw [List.mem_singleton] at hy; rw [hy]; exact hWw
  refine pw_nne hn21 ?_
  refine pw_vl (fun m5 em5 => ?_)
  have hfr37 : ∀ z, ((la z < la this ∨ la this + 8 < la z)) → m5 z = (G 203) z := fr_up (e0 := (G 203)) (fun _ _ => rfl) em5 (show ¬ ((la bh < la this ∨ la this + 8 < la bh)) from by omega)
  have hg38 : rng (0) 100 m5 := by rw [em5]; exact rng_vup hzG203 (by omega) (by omega)
  have sm5 : (m5 bh).toInt = 0 := by rw [em5, va_up_self]; decide +kernel
  have b39 := hg38 bh
  have hRB40 : RB κ ln (G 200) m5 (P 202) (V 1) := by rw [em5]; exact RB_cnt hzRB (fun s hs => by omega)
  have em5z : ∀ z, z ≠ bh → m5 z = (G 203) z := fun z hz => by rw [em5, va_up_ne _ _ hz]
  refine pw_nne hn21 ?_
  refine pw_b3 (fun c18_G203 c18_V0 c18_V1 hc18 => ?_)
  have hq18 := wp_at (ok_X10_addForm κ wd (va_up G 203 m5) P U V X O kd ln cnt bh p3 p4 p5 hzG200 hg38 hzP201 hzP202 hzV1 hzRA hRB40 hzRI hzLN hk_bh hk_p3) hc18
  obtain ⟨hg41, hg42, hRB43, f44, f45⟩ : (rng (0) 100 c18_G203) ∧ (rng2 (0) 24 c18_V1) ∧ (RB κ ln (G 200) c18_G203 (P 202) c18_V1) ∧ (id ((bh ≠ wd → c18_G203 wd = m5 wd))) ∧ ((m5 bh).toInt ≤ (c18_G203 bh).toInt) := hq18
  have hq18 := pwq (fr_X10_addForm la (va_up G 203 m5) P U V X O kd ln cnt bh p3 p4 p5 hB) hc18
  obtain ⟨q18_G203, q18_V0, q18_V1⟩ : (∀ z, (la z < la bh ∨ la bh < la z) → c18_G203 z = m5 z) ∧ (∀ z, (la z < la bh ∨ la bh < la z) → c18_V0 z = (V 0) z) ∧ (∀ z, (la z < la bh ∨ la bh < la z) → c18_V1 z = (V 1) z) := hq18
  have tz18 : ∀ z, ((la z < la this ∨ la this + 8 < la z)) → ((la z < la bh ∨ la bh < la z)) := fun z hz => by omega
  have hfr46 : ∀ z, ((la z < la this ∨ la this + 8 < la z)) → c18_G203 z = (G 203) z := fun z hz => (q18_G203 z (tz18 z hz)).trans (hfr37 z hz)
  have hfr47 : ∀ z, ((la z < la this ∨ la this + 8 < la z)) → c18_V0 z = (V 0) z := fun z hz => (q18_V0 z (tz18 z hz)).trans ((fun _ _ => rfl) z hz)
  have hfr48 : ∀ z, ((la z < la this ∨ la this + 8 < la z)) → c18_V1 z = (V 1) z := fun z hz => (q18_V1 z (tz18 z hz)).trans ((fun _ _ => rfl) z hz)
  have h818_hl : (P 201) bh = some (lbh) := by exact hxb
  have h818_hs : (P 202) bh = some (sbh) := by exact hyb
  have h818_hw : ((G 200) bh).toInt = ((24) : Int) := by exact hgb
  have h818_hws : rwW (m5 bh) ((V 0) (lbh)) ((V 1) (sbh)) (24) = ([]) := by exact List.length_eq_zero_iff.mp (by rw [rw_len, em5, va_up_self]; rfl)
  have h818_hst : 0 ≤ p4.toInt := by exact hst
  have h818_hm : 0 ≤ p5.toInt := by exact hm
  have h818_hmw : p5.toInt ≤ ((24) : Int) := by omega
  have h818_hlf : p4.toInt + p5.toInt ≤ ((ln p3 : Nat) : Int) := by exact hlf
  have h818_hw24 : (24) ≤ 24 := by decide
  have hx18 := pwq (fn_X10_addForm κ wd la (va_up G 203 m5) P U V X O kd ln cnt bh p3 p4 p5 (lbh) (sbh) (24) ([]) hzG200 hg38 hzP201 hzP202 hzV1 hzRA hRB40 hzRI hzLN hk_bh hk_p3 hB lt_bh22 hlt_p3 h818_hl h818_hs h818_hw h818_hws h818_hst h818_hm h818_hmw h818_hlf h818_hw24) hc18
  obtain ⟨p18_0, p18_1, p18_2, p18_3⟩ : (rwW (c18_G203 bh) (c18_V0 (lbh)) (c18_V1 (sbh)) (24) = (gdF (some (wdl ((V 0) p3) (Int32.toNatClampNeg p4) (Int32.toNatClampNeg p5)))).foldl (addF (ln (sbh))) ([])) ∧ (id ((∀ z, z ≠ (lbh) → c18_V0 z = (V 0) z))) ∧ (id ((∀ z, z ≠ (sbh) → c18_V1 z = (V 1) z))) ∧ (id ((∀ z, z ≠ bh → c18_G203 z = m5 z))) := hx18
  clear h818_hl h818_hs h818_hw h818_hws h818_hst h818_hm h818_hmw h818_hlf h818_hw24
  have hgw18 := f44 (hw_bh rfl)
  have h18 : rwW (c18_G203 bh) (c18_V0 lbh) (c18_V1 sbh) 24 = [W] := by rw [p18_0, hW, gd_1 ⟨hWw.1, hWw.2.1⟩]; exact addF_new List.not_mem_nil (by show 0 < ln sbh; omega)
  have mm49 := z_max p1 0
  refine pw_vl (fun x26 ex26 => ?_)
  have f50 : x26.toInt = (if p1 < 0 then 0 else p1).toInt := congrArg Int32.toInt ex26
  have hg0 : c18_G203 wd = (G 203) wd := by rw [hgw18, em5, va_up_ne _ _ (fun q => hw_bh rfl q.symm)]
  refine pw_jE (fun k92 ek92 => ?_)
  have lp28 : ∀ (n28 : Nat) (y28_7 : Int32) (d28_G60 : Nat → Int32) (d28_G183 : Nat → Int32) (d28_G203 : Nat → Int32) (d28_P66 : Nat → Option Nat) (d28_P181 : Nat → Option Nat) (d28_P182 : Nat → Option Nat) (d28_P186 : Nat → Option Nat) (d28_P187 : Nat → Option Nat) (d28_U184 : Nat → Int64) (d28_V0 : Nat → Nat → Int32) (d28_V1 : Nat → Nat → Int32) (d28_V2 : Nat → Nat → Int32) (d28_V12 : Nat → Nat → Int32), rng (0) 30 d28_G60 → rng (0) 40 d28_G183 → rng (0) 100 d28_G203 → PB κ ln wd 4 11 0 2500 0 d28_P66 → PB κ ln wd 10 100 40 40 0 d28_P181 → PB κ ln wd 10 100 40 40 0 d28_P182 → PB κ ln wd 10 11 0 2500 1 d28_P186 → PB κ ln wd 10 11 0 2500 1 d28_P187 → rng2 (0) 24 d28_V1 → rng2 (0) 24 d28_V2 → RB κ ln (G 200) d28_G203 (P 202) d28_V1 → (∀ z, ((la z < la this ∨ la this + 8 < la z)) → d28_G60 z = (G 60) z) → (∀ z, ((la z < la this ∨ la this + 8 < la z)) → d28_G183 z = (G 183) z) → (∀ z, ((la z < la this ∨ la this + 8 < la z)) → d28_G203 z = (G 203) z) → (∀ z, ((la z < la this ∨ la this + 8 < la z)) → d28_P66 z = (P 66) z) → LC 66 la cnt d28_P66 → (∀ z, ((la z < la this ∨ la this + 8 < la z)) → d28_P181 z = (P 181) z) → LC 181 la cnt d28_P181 → (∀ z, ((la z < la this ∨ la this + 8 < la z)) → d28_P182 z = (P 182) z) → LC 182 la cnt d28_P182 → (∀ z, ((la z < la this ∨ la this + 8 < la z)) → d28_P186 z = (P 186) z) → LC 186 la cnt d28_P186 → (∀ z, ((la z < la this ∨ la this + 8 < la z)) → d28_P187 z = (P 187) z) → LC 187 la cnt d28_P187 → (∀ z, ((la z < la this ∨ la this + 8 < la z)) → d28_U184 z = (U 184) z) → (∀ z, ((la z < la this ∨ la this + 8 < la z)) → d28_V0 z = (V 0) z) → (∀ z, ((la z < la this ∨ la this + 8 < la z)) → d28_V1 z = (V 1) z) → (∀ z, ((la z < la this ∨ la this + 8 < la z)) → d28_V2 z = (V 2) z) → (∀ z, ((la z < la this ∨ la this + 8 < la z)) → d28_V12 z = (V 12) z) → 0 ≤ y28_7.toInt → d28_G203 wd = (G 203) wd → p1.toInt ≤ y28_7.toInt → (y28_7.toInt ≤ p2.toInt ∨ y28_7.toInt = p1.toInt) → (∃ nw1 nx1, d28_P181 this = some nw1 ∧ d28_P182 this = some nx1 ∧ ((nw1 = nw ∧ nx1 = nx) ∨ (nw1 = nx ∧ nx1 = nw))) → (∃ ah1 bh1 la1 sa1 lb1 sb1, d28_P186 this = some ah1 ∧ d28_P187 this = some bh1 ∧ ((ah1 = ah ∧ bh1 = bh ∧ la1 = lah ∧ sa1 = sah ∧ lb1 = lbh ∧ sb1 = sbh) ∨ (ah1 = bh ∧ bh1 = ah ∧ la1 = lbh ∧ sa1 = sbh ∧ lb1 = lah ∧ sb1 = sah)) ∧ rwW (d28_G203 bh1) (d28_V0 lb1) (d28_V1 sb1) 24 = thF d (Int32.toNatClampNeg p1) (Int32.toNatClampNeg y28_7 - Int32.toNatClampNeg p1) [W]) → (WDS (thF d (Int32.toNatClampNeg p1) (Int32.toNatClampNeg y28_7 - Int32.toNatClampNeg p1) [W])) → (∀ q : Nat, p1.toInt ≤ (q : Int) → (q : Int) < p2.toInt → ∃ rf, (O 2) p0 q = some rf ∧ rf < cnt ∧ 100000 ≤ la rf ∧ RFX (va_up (va_up (va_up G 60 d28_G60) 183 d28_G183) 203 d28_G203) (va_up (va_up (va_up (va_up (va_up P 66 d28_P66) 181 d28_P181) 182 d28_P182) 186 d28_P186) 187 d28_P187) (va_up (va_up (va_up (va_up V 0 d28_V0) 1 d28_V1) 2 d28_V2) 12 d28_V12) O ln la cnt rf (d q)) → pw (L_X9_through_28 G P U V X O kd ln cnt this p0 p2 k92 n28 y28_7 d28_G60 d28_G183 d28_G203 d28_P66 d28_P181 d28_P182 d28_P186 d28_P187 d28_U184 d28_V0 d28_V1 d28_V2 d28_V12) (QF_X9_through κ wd la G P U V X O kd ln cnt this p0 p1 p2 p3 p4 p5 nw nx wh pg fi pa pk sz cl ah bh lah sah lbh sbh d W) := by
    intro n28
    clear hg0 f50 mm49 h18 hgw18 p18_0 p18_1 p18_2 p18_3 hfr48 hfr47 hfr46 tz18 q18_G203 q18_V0 q18_V1 hg41 hg42 hRB43 f44 f45 hc18 em5z hRB40 b39 sm5 hg38 hfr37
    induction n28 with
    | zero => intros; exact pw_none
    | succ n28 ih28 =>
      intro y28_7 d28_G60 d28_G183 d28_G203 d28_P66 d28_P181 d28_P182 d28_P186 d28_P187 d28_U184 d28_V0 d28_V1 d28_V2 d28_V12 hg51 hg52 hg53 hg54 hg55 hg56 hg57 hg58 hg59 hg60 hRB61 hfr62 hfr63 hfr64 hfr65 hl66 hfr67 hl68 hfr69 hl70 hfr71 hl72 hfr73 hl74 hfr75 hfr76 hfr77 hfr78 hfr79 f80 f81 f82 f83 it28 is28 iw28 ix28
      replace it28 : id _ := it28
      replace is28 : id _ := is28
      replace ix28 : id _ := ix28
      show pw (B_X9_through_28 G P U V X O kd ln cnt this p0 p2 k92 (L_X9_through_28 G P U V X O kd ln cnt this p0 p2 k92 n28) y28_7 d28_G60 d28_G183 d28_G203 d28_P66 d28_P181 d28_P182 d28_P186 d28_P187 d28_U184 d28_V0 d28_V1 d28_V2 d28_V12) _
      unfold B_X9_through_28
      have hB28 := (LB_set (LB_set (LB_set (LB_set (LB_set hB hl66) hl68) hl70) hl72) hl74)
      obtain ⟨nw1, nx1, e181, e182, hsw⟩ := it28
      replace hsw : id _ := hsw
      obtain ⟨ah1, bh1, la1, sa1, lb1, sb1, e186, e187, hs6, hrow⟩ := is28
      have k7 := clampI (x := y28_7) (by omega)
      have e1x : P 201 ah1 = some la1 := by rcases hs6 with ⟨z1, z2, z3, z4, z5, z6⟩ | ⟨z1, z2, z3, z4, z5, z6⟩ <;> rw [z1, z3] <;> assumption
      have e1y : P 202 ah1 = some sa1 := by rcases hs6 with ⟨z1, z2, z3, z4, z5, z6⟩ | ⟨z1, z2, z3, z4, z5, z6⟩ <;> rw [z1, z4] <;> assumption
      have e2x : P 201 bh1 = some lb1 := by rcases hs6 with ⟨z1, z2, z3, z4, z5, z6⟩ | ⟨z1, z2, z3, z4, z5, z6⟩ <;> rw [z2, z5] <;> assumption
      have e2y : P 202 bh1 = some sb1 := by rcases hs6 with ⟨z1, z2, z3, z4, z5, z6⟩ | ⟨z1, z2, z3, z4, z5, z6⟩ <;> rw [z2, z6] <;> assumption
      have e1w : ((G 200) ah1).toInt = ((24 : Nat) : Int) := by rcases hs6 with ⟨z1, _⟩ | ⟨z1, _⟩ <;> rw [z1] <;> assumption
      have e2w : ((G 200) bh1).toInt = ((24 : Nat) : Int) := by rcases hs6 with ⟨_, z2, _⟩ | ⟨_, z2, _⟩ <;> rw [z2] <;> assumption
      have e1n : ln sa1 = 12 := by rcases hs6 with ⟨z1, z2, z3, z4, z5, z6⟩ | ⟨z1, z2, z3, z4, z5, z6⟩ <;> rw [z4] <;> assumption
      have elb9 : 94 ≤ la ah1 ∧ la ah1 ≤ 95 ∧ la ah1 + la bh1 = 189 := by rcases hs6 with ⟨z1, z2, _⟩ | ⟨z1, z2, _⟩ <;> rw [z1, z2] <;> omega
      replace hs6 : id _ := hs6
      have hn84 : d28_P181 this = some nw1 := e181
      obtain ⟨_, lt_nw185, lb_nw185⟩ := hl68 this nw1 hn84
      have lb_nw185 : 91 ≤ la nw1 ∧ la nw1 ≤ 92 := by have z9 := lk_181.mp lb_nw185; rw [hlt9] at z9; exact or_bd z9 (by decide)
      have hk_nw1 := ((hg55 this).2 nw1 hn84).1
      have hl1_nw1 := ((hg55 this).2 nw1 hn84).2.1
      have hl2_nw1 := ((hg55 this).2 nw1 hn84).2.2.1
      have hw_nw1 : id _ := ((hg55 this).2 nw1 hn84).2.2.2
      have hz_nw1 : (Int32.ofNat (ln nw1)).toInt = ((ln nw1 : Nat) : Int) := ofN_eq (by first | exact Nat.le_trans hl2_nw1 (by decide) | omega)
      have hn86 : d28_P182 this = some nx1 := e182
      obtain ⟨_, lt_nx187, lb_nx187⟩ := hl70 this nx1 hn86
      have lb_nx187 : 91 ≤ la nx1 ∧ la nx1 ≤ 92 := by have z9 := lk_182.mp lb_nx187; rw [hlt9] at z9; exact or_bd z9 (by decide)
      have hk_nx1 := ((hg56 this).2 nx1 hn86).1
      have hl1_nx1 := ((hg56 this).2 nx1 hn86).2.1
      have hl2_nx1 := ((hg56 this).2 nx1 hn86).2.2.1
      have hw_nx1 : id _ := ((hg56 this).2 nx1 hn86).2.2.2
      have hz_nx1 : (Int32.ofNat (ln nx1)).toInt = ((ln nx1 : Nat) : Int) := ofN_eq (by first | exact Nat.le_trans hl2_nx1 (by decide) | omega)
      have hn88 : d28_P186 this = some ah1 := e186
      obtain ⟨_, lt_ah189, lb_ah189⟩ := hl72 this ah1 hn88
      have lb_ah189 : 94 ≤ la ah1 ∧ la ah1 ≤ 95 := by have z9 := lk_186.mp lb_ah189; rw [hlt9] at z9; exact or_bd z9 (by decide)
      have hk_ah1 := ((hg57 this).2 ah1 hn88).1
      have hl1_ah1 := ((hg57 this).2 ah1 hn88).2.1
      have hl2_ah1 := ((hg57 this).2 ah1 hn88).2.2.1
      have hw_ah1 : id _ := ((hg57 this).2 ah1 hn88).2.2.2
      have hn90 : d28_P187 this = some bh1 := e187
      obtain ⟨_, lt_bh191, lb_bh191⟩ := hl74 this bh1 hn90
      have lb_bh191 : 94 ≤ la bh1 ∧ la bh1 ≤ 95 := by have z9 := lk_187.mp lb_bh191; rw [hlt9] at z9; exact or_bd z9 (by decide)
      have hk_bh1 := ((hg58 this).2 bh1 hn90).1
      have hl1_bh1 := ((hg58 this).2 bh1 hn90).2.1
      have hl2_bh1 := ((hg58 this).2 bh1 hn90).2.2.1
      have hw_bh1 : id _ := ((hg58 this).2 bh1 hn90).2.2.2
      have hn92 : (P 201) ah1 = some la1 := e1x
      have lt_la193 := ((hB.1 201 fl_201) ah1 la1 hn92).2.1
      have lb_la193 : la la1 = la ah1 + 0 := lk_201.mp ((hB.1 201 fl_201) ah1 la1 hn92).2.2
      have hk_la1 := ((hzP201 ah1).2 la1 hn92).1
      have hl1_la1 := ((hzP201 ah1).2 la1 hn92).2.1
      have hl2_la1 := ((hzP201 ah1).2 la1 hn92).2.2.1
      have hw_la1 : id _ := ((hzP201 ah1).2 la1 hn92).2.2.2
      have hz_la1 : (Int32.ofNat (ln la1)).toInt = ((ln la1 : Nat) : Int) := ofN_eq (by first | exact Nat.le_trans hl2_la1 (by decide) | omega)
      have hn94 : (P 202) ah1 = some sa1 := e1y
      have lt_sa195 := ((hB.1 202 fl_202) ah1 sa1 hn94).2.1
      have lb_sa195 : la sa1 = la ah1 + 0 := lk_202.mp ((hB.1 202 fl_202) ah1 sa1 hn94).2.2
      have hk_sa1 := ((hzP202 ah1).2 sa1 hn94).1
      have hl1_sa1 := ((hzP202 ah1).2 sa1 hn94).2.1
      have hl2_sa1 := ((hzP202 ah1).2 sa1 hn94).2.2.1
      have hw_sa1 : id _ := ((hzP202 ah1).2 sa1 hn94).2.2.2
      have hz_sa1 : (Int32.ofNat (ln sa1)).toInt = ((ln sa1 : Nat) : Int) := ofN_eq (by first | exact Nat.le_trans hl2_sa1 (by decide) | omega)
      have rb96 := (hRB61 ah1 sa1 hk_ah1 hn94).1
      have ra97 := hzRA ah1 la1 sa1 hk_ah1 hn92 hn94
      have bw98 := hzG200 ah1
      have hn99 : (P 201) bh1 = some lb1 := e2x
      have lt_lb1100 := ((hB.1 201 fl_201) bh1 lb1 hn99).2.1
      have lb_lb1100 : la lb1 = la bh1 + 0 := lk_201.mp ((hB.1 201 fl_201) bh1 lb1 hn99).2.2
      have hk_lb1 := ((hzP201 bh1).2 lb1 hn99).1
      have hl1_lb1 := ((hzP201 bh1).2 lb1 hn99).2.1
      have hl2_lb1 := ((hzP201 bh1).2 lb1 hn99).2.2.1
      have hw_lb1 : id _ := ((hzP201 bh1).2 lb1 hn99).2.2.2
      have hz_lb1 : (Int32.ofNat (ln lb1)).toInt = ((ln lb1 : Nat) : Int) := ofN_eq (by first | exact Nat.le_trans hl2_lb1 (by decide) | omega)
      have hn101 : (P 202) bh1 = some sb1 := e2y
      have lt_sb1102 := ((hB.1 202 fl_202) bh1 sb1 hn101).2.1
      have lb_sb1102 : la sb1 = la bh1 + 0 := lk_202.mp ((hB.1 202 fl_202) bh1 sb1 hn101).2.2
      have hk_sb1 := ((hzP202 bh1).2 sb1 hn101).1
      have hl1_sb1 := ((hzP202 bh1).2 sb1 hn101).2.1
      have hl2_sb1 := ((hzP202 bh1).2 sb1 hn101).2.2.1
      have hw_sb1 : id _ := ((hzP202 bh1).2 sb1 hn101).2.2.2
      have hz_sb1 : (Int32.ofNat (ln sb1)).toInt = ((ln sb1 : Nat) : Int) := ofN_eq (by first | exact Nat.le_trans hl2_sb1 (by decide) | omega)
      have rb103 := (hRB61 bh1 sb1 hk_bh1 hn101).1
      have ra104 := hzRA bh1 lb1 sb1 hk_bh1 hn99 hn101
      have bw105 := hzG200 bh1
      refine pw_ite (fun c31 => ?_) (fun c31 => ?_)
      · have c31 := (z_le _ _).mp c31
        refine pw_j13 ek92 (fun z92_0 ez92_0 z92_1 ez92_1 z92_2 ez92_2 z92_3 ez92_3 z92_4 ez92_4 z92_5 ez92_5 z92_6 ez92_6 z92_7 ez92_7 z92_8 ez92_8 z92_9 ez92_9 z92_10 ez92_10 z92_11 ez92_11 z92_12 ez92_12 => ?_)
        subst ez92_0 ez92_1 ez92_2 ez92_3 ez92_4 ez92_5 ez92_6 ez92_7 ez92_8 ez92_9 ez92_10 ez92_11 ez92_12
        refine pw_nne hn90 ?_
        have qq0 : id (((bh1 = ah ∧ rwW (d28_G203 ah) (d28_V0 lah) (d28_V1 sah) 24 = thF d (Int32.toNatClampNeg p1) (Int32.toNatClampNeg p2 - Int32.toNatClampNeg p1) [W]) ∨ (bh1 = bh ∧ rwW (d28_G203 bh) (d28_V0 lbh) (d28_V1 sbh) 24 = thF d (Int32.toNatClampNeg p1) (Int32.toNatClampNeg p2 - Int32.toNatClampNeg p1) [W]))) := show ((bh1 = ah ∧ rwW (d28_G203 ah) (d28_V0 lah) (d28_V1 sah) 24 = thF d (Int32.toNatClampNeg p1) (Int32.toNatClampNeg p2 - Int32.toNatClampNeg p1) [W]) ∨ (bh1 = bh ∧ rwW (d28_G203 bh) (d28_V0 lbh) (d28_V1 sbh) 24 = thF d (Int32.toNatClampNeg p1) (Int32.toNatClampNeg p2 - Int32.toNatClampNeg p1) [W])) from by have h9 : Int32.toNatClampNeg p2 - Int32.toNatClampNeg p1 = Int32.toNatClampNeg y28_7 - Int32.toNatClampNeg p1 := (by have h8 : Int32.toNatClampNeg p2 = p2.toInt.toNat := rfl; omega); rw [h9]; rcases hs6 with ⟨z1, z2, z3, z4, z5, z6⟩ | ⟨z1, z2, z3, z4, z5, z6⟩; (rw [z2, z5, z6] at hrow; exact Or.inr ⟨z2, hrow⟩); (rw [z2, z5, z6] at hrow; exact Or.inl ⟨z2, hrow⟩)
        have qq1 : id ((∃ nwb nxb, d28_P181 this = some nwb ∧ d28_P182 this = some nxb ∧ ((nwb = nw ∧ nxb = nx) ∨ (nwb = nx ∧ nxb = nw)))) := show (∃ nwb nxb, d28_P181 this = some nwb ∧ d28_P182 this = some nxb ∧ ((nwb = nw ∧ nxb = nx) ∨ (nwb = nx ∧ nxb = nw))) from by exact ⟨nw1, nx1, e181, e182, hsw⟩
        have qq2 : id ((∃ ahb bhb, d28_P186 this = some ahb ∧ d28_P187 this = some bhb ∧ ((ahb = ah ∧ bhb = bh) ∨ (ahb = bh ∧ bhb = ah)))) := show (∃ ahb bhb, d28_P186 this = some ahb ∧ d28_P187 this = some bhb ∧ ((ahb = ah ∧ bhb = bh) ∨ (ahb = bh ∧ bhb = ah))) from by exact ⟨ah1, bh1, e186, e187, by rcases hs6 with ⟨z1, z2, z3, z4, z5, z6⟩ | ⟨z1, z2, z3, z4, z5, z6⟩; (exact Or.inl ⟨z1, z2⟩); (exact Or.inr ⟨z1, z2⟩)⟩
        have qq3 : WDS (thF d (Int32.toNatClampNeg p1) (Int32.toNatClampNeg p2 - Int32.toNatClampNeg p1) [W]) := by have h9 : Int32.toNatClampNeg p2 - Int32.toNatClampNeg p1 = Int32.toNatClampNeg y28_7 - Int32.toNatClampNeg p1 := (by have h8 : Int32.toNatClampNeg p2 = p2.toInt.toNat := rfl; omega); rw [h9]; exact iw28
        exact pw_some ⟨qq0, qq1, qq2, qq3⟩
      · have c31 := z_nle c31
        have hz_p0 : (Int32.ofNat (ln p0)).toInt = ((ln p0 : Nat) : Int) := ofN_eq (hzLN p0 (by rw [hk_p0]; decide))
        have hzb_p0 := hzLN p0 (by rw [hk_p0]; decide)
        refine pw_ite (fun c38 => ?_) (fun c38 => ?_)
        · have c38 := (z_le _ _).mp c38
          refine pw_j13 ek92 (fun z92_0 ez92_0 z92_1 ez92_1 z92_2 ez92_2 z92_3 ez92_3 z92_4 ez92_4 z92_5 ez92_5 z92_6 ez92_6 z92_7 ez92_7 z92_8 ez92_8 z92_9 ez92_9 z92_10 ez92_10 z92_11 ez92_11 z92_12 ez92_12 => ?_)
          subst ez92_0 ez92_1 ez92_2 ez92_3 ez92_4 ez92_5 ez92_6 ez92_7 ez92_8 ez92_9 ez92_10 ez92_11 ez92_12
          refine pw_nne hn90 ?_
          have qq0 : id (((bh1 = ah ∧ rwW (d28_G203 ah) (d28_V0 lah) (d28_V1 sah) 24 = thF d (Int32.toNatClampNeg p1) (Int32.toNatClampNeg p2 - Int32.toNatClampNeg p1) [W]) ∨ (bh1 = bh ∧ rwW (d28_G203 bh) (d28_V0 lbh) (d28_V1 sbh) 24 = thF d (Int32.toNatClampNeg p1) (Int32.toNatClampNeg p2 - Int32.toNatClampNeg p1) [W]))) := show ((bh1 = ah ∧ rwW (d28_G203 ah) (d28_V0 lah) (d28_V1 sah) 24 = thF d (Int32.toNatClampNeg p1) (Int32.toNatClampNeg p2 - Int32.toNatClampNeg p1) [W]) ∨ (bh1 = bh ∧ rwW (d28_G203 bh) (d28_V0 lbh) (d28_V1 sbh) 24 = thF d (Int32.toNatClampNeg p1) (Int32.toNatClampNeg p2 - Int32.toNatClampNeg p1) [W])) from by have h9 : Int32.toNatClampNeg p2 - Int32.toNatClampNeg p1 = Int32.toNatClampNeg y28_7 - Int32.toNatClampNeg p1 := (by have h8 : Int32.toNatClampNeg p2 = p2.toInt.toNat := rfl; omega); rw [h9]; rcases hs6 with ⟨z1, z2, z3, z4, z5, z6⟩ | ⟨z1, z2, z3, z4, z5, z6⟩; (rw [z2, z5, z6] at hrow; exact Or.inr ⟨z2, hrow⟩); (rw [z2, z5, z6] at hrow; exact Or.inl ⟨z2, hrow⟩)
          have qq1 : id ((∃ nwb nxb, d28_P181 this = some nwb ∧ d28_P182 this = some nxb ∧ ((nwb = nw ∧ nxb = nx) ∨ (nwb = nx ∧ nxb = nw)))) := show (∃ nwb nxb, d28_P181 this = some nwb ∧ d28_P182 this = some nxb ∧ ((nwb = nw ∧ nxb = nx) ∨ (nwb = nx ∧ nxb = nw))) from by exact ⟨nw1, nx1, e181, e182, hsw⟩
          have qq2 : id ((∃ ahb bhb, d28_P186 this = some ahb ∧ d28_P187 this = some bhb ∧ ((ahb = ah ∧ bhb = bh) ∨ (ahb = bh ∧ bhb = ah)))) := show (∃ ahb bhb, d28_P186 this = some ahb ∧ d28_P187 this = some bhb ∧ ((ahb = ah ∧ bhb = bh) ∨ (ahb = bh ∧ bhb = ah))) from by exact ⟨ah1, bh1, e186, e187, by rcases hs6 with ⟨z1, z2, z3, z4, z5, z6⟩ | ⟨z1, z2, z3, z4, z5, z6⟩; (exact Or.inl ⟨z1, z2⟩); (exact Or.inr ⟨z1, z2⟩)⟩
          have qq3 : WDS (thF d (Int32.toNatClampNeg p1) (Int32.toNatClampNeg p2 - Int32.toNatClampNeg p1) [W]) := by have h9 : Int32.toNatClampNeg p2 - Int32.toNatClampNeg p1 = Int32.toNatClampNeg y28_7 - Int32.toNatClampNeg p1 := (by have h8 : Int32.toNatClampNeg p2 = p2.toInt.toNat := rfl; omega); rw [h9]; exact iw28
          exact pw_some ⟨qq0, qq1, qq2, qq3⟩
        · have c38 := z_nle c38
          obtain ⟨rf, hO, hrl, hld, hrx⟩ := ix28 (Int32.toNatClampNeg y28_7) (by omega) (by omega)
          refine pw_nne hn88 ?_
          refine pw_nne hn90 ?_
          refine pw_vl (fun m52 em52 => ?_)
          have hfr106 : ∀ z, ((la z < la this ∨ la this + 8 < la z)) → m52 z = (P 186) z := fr_up (e0 := (P 186)) hfr71 em52 (show ¬ ((la this < la this ∨ la this + 8 < la this)) from by omega)
          have hl107 : LC 186 la cnt m52 := LC_up hl72 em52 (by omega) (by omega) (lk_186.mpr (by omega))
          have hp108 : PB κ ln wd 10 11 0 2500 1 m52 := by rw [em52]; exact PB_up hg57 hk_bh1 (by omega) (by omega) (fun _ => hw_bh1 rfl)
          have sm52 : m52 this = some bh1 := by rw [em52]; exact va_up_self _ _ _
          refine pw_vl (fun m58 em58 => ?_)
          have hfr109 : ∀ z, ((la z < la this ∨ la this + 8 < la z)) → m58 z = (P 187) z := fr_up (e0 := (P 187)) hfr73 em58 (show ¬ ((la this < la this ∨ la this + 8 < la this)) from by omega)
          have hl110 : LC 187 la cnt m58 := LC_up hl74 em58 (by omega) (by omega) (lk_187.mpr (by omega))
          have hp111 : PB κ ln wd 10 11 0 2500 1 m58 := by rw [em58]; exact PB_up hg58 hk_ah1 (by omega) (by omega) (fun _ => hw_ah1 rfl)
          have sm58 : m58 this = some ah1 := by rw [em58]; exact va_up_self _ _ _
          refine pw_nne sm58 ?_
          refine pw_vl (fun m66 em66 => ?_)
          have hfr112 : ∀ z, ((la z < la this ∨ la this + 8 < la z)) → m66 z = (G 203) z := fr_up (e0 := (G 203)) hfr64 em66 (show ¬ ((la ah1 < la this ∨ la this + 8 < la ah1)) from by omega)
          have hg113 : rng (0) 100 m66 := by rw [em66]; exact rng_vup hg53 (by omega) (by omega)
          have sm66 : (m66 ah1).toInt = 0 := by rw [em66, va_up_self]; decide +kernel
          have b114 := hg113 ah1
          have hRB115 : RB κ ln (G 200) m66 (P 202) d28_V1 := by rw [em66]; exact RB_cnt hRB61 (fun s hs => by omega)
          have nba : bh1 ≠ ah1 := fun q => by have q9 := congrArg la q; omega
          have em66z : ∀ z, z ≠ ah1 → m66 z = d28_G203 z := fun z hz => by rw [em66, va_up_ne _ _ hz]
          refine pw_if (fun hb73 => ?_)
          obtain ⟨hbl73, hbr73⟩ := hb73
          refine pw_vl (fun o73 eo73 => ?_)
          have hk_o73 : ∀ b, o73 = some b → κ b = 6 := fun b hq => hzO2 _ _ b (eo73.symm.trans hq)
          refine pw_nne sm52 ?_
          refine pw_nne sm58 ?_
          refine pw_b12 (fun r82 c82_G60 c82_G183 c82_G203 c82_P66 c82_P181 c82_P182 c82_U184 c82_V0 c82_V1 c82_V2 c82_V12 hc82 => ?_)
          have hq82 := wp_at (ok_X9_turnForms κ wd (va_up (va_up (va_up (va_up G 60 d28_G60) 183 d28_G183) 203 d28_G203) 203 m66) (va_up (va_up (va_up (va_up (va_up (va_up (va_up P 66 d28_P66) 181 d28_P181) 182 d28_P182) 186 d28_P186) 187 d28_P187) 186 m52) 187 m58) (va_up U 184 d28_U184) (va_up (va_up (va_up (va_up V 0 d28_V0) 1 d28_V1) 2 d28_V2) 12 d28_V12) X O kd ln cnt this o73 bh1 ah1 hg51 hzG102 hg52 hzG200 hg113 hzP20 hzP21 hzP22 hzP23 hzP61 hzP62 hzP63 hzP64 hzP65 hg54 hzP101 hzP103 hzP104 hzP105 hzP106 hzP108 hzP109 hzP110 hzP180 hg55 hg56 hzP185 hzP201 hzP202 hg59 hg60 hzO0 hzRA hRB115 hzRI hzRM103 hzRM104 hzRM108 hzLN hk_this hk_o73 hk_bh1 hk_ah1) hc82
          obtain ⟨hg116, hg117, hg118, hg119, hg120, hg121, hg122, hg123, hRB124, f125⟩ : (rng (0) 30 c82_G60) ∧ (rng (0) 40 c82_G183) ∧ (rng (0) 100 c82_G203) ∧ (PB κ ln wd 4 11 0 2500 0 c82_P66) ∧ (PB κ ln wd 10 100 40 40 0 c82_P181) ∧ (PB κ ln wd 10 100 40 40 0 c82_P182) ∧ (rng2 (0) 24 c82_V1) ∧ (rng2 (0) 24 c82_V2) ∧ (RB κ ln (G 200) c82_G203 (P 202) c82_V1) ∧ (id ((ah1 ≠ wd → c82_G203 wd = m66 wd))) := hq82
          have hq82 := pwq (fr_X9_turnForms la (va_up (va_up (va_up (va_up G 60 d28_G60) 183 d28_G183) 203 d28_G203) 203 m66) (va_up (va_up (va_up (va_up (va_up (va_up (va_up P 66 d28_P66) 181 d28_P181) 182 d28_P182) 186 d28_P186) 187 d28_P187) 186 m52) 187 m58) (va_up U 184 d28_U184) (va_up (va_up (va_up (va_up V 0 d28_V0) 1 d28_V1) 2 d28_V2) 12 d28_V12) X O kd ln cnt this o73 bh1 ah1 (LB_set (LB_set (LB_set (LB_set (LB_set (LB_set (LB_set hB hl66) hl68) hl70) hl72) hl74) hl107) hl110) hlt_this) hc82
          obtain ⟨q82_G60, q82_G183, q82_G203, q82_P66, q82_P181, q82_P182, q82_U184, q82_V0, q82_V1, q82_V2, q82_V12, ql82_66, ql82_181, ql82_182⟩ : (∀ z, (la z < la this ∨ la this + 8 < la z) ∧ (la z < la ah1 ∨ la ah1 < la z) → c82_G60 z = d28_G60 z) ∧ (∀ z, (la z < la this ∨ la this + 8 < la z) ∧ (la z < la ah1 ∨ la ah1 < la z) → c82_G183 z = d28_G183 z) ∧ (∀ z, (la z < la this ∨ la this + 8 < la z) ∧ (la z < la ah1 ∨ la ah1 < la z) → c82_G203 z = m66 z) ∧ (∀ z, (la z < la this ∨ la this + 8 < la z) ∧ (la z < la ah1 ∨ la ah1 < la z) → c82_P66 z = d28_P66 z) ∧ (∀ z, (la z < la this ∨ la this + 8 < la z) ∧ (la z < la ah1 ∨ la ah1 < la z) → c82_P181 z = d28_P181 z) ∧ (∀ z, (la z < la this ∨ la this + 8 < la z) ∧ (la z < la ah1 ∨ la ah1 < la z) → c82_P182 z = d28_P182 z) ∧ (∀ z, (la z < la this ∨ la this + 8 < la z) ∧ (la z < la ah1 ∨ la ah1 < la z) → c82_U184 z = d28_U184 z) ∧ (∀ z, (la z < la this ∨ la this + 8 < la z) ∧ (la z < la ah1 ∨ la ah1 < la z) → c82_V0 z = d28_V0 z) ∧ (∀ z, (la z < la this ∨ la this + 8 < la z) ∧ (la z < la ah1 ∨ la ah1 < la z) → c82_V1 z = d28_V1 z) ∧ (∀ z, (la z < la this ∨ la this + 8 < la z) ∧ (la z < la ah1 ∨ la ah1 < la z) → c82_V2 z = d28_V2 z) ∧ (∀ z, (la z < la this ∨ la this + 8 < la z) ∧ (la z < la ah1 ∨ la ah1 < la z) → c82_V12 z = d28_V12 z) ∧ LC 66 la cnt c82_P66 ∧ LC 181 la cnt c82_P181 ∧ LC 182 la cnt c82_P182 := hq82
          have tz82 : ∀ z, ((la z < la this ∨ la this + 8 < la z)) → ((la z < la this ∨ la this + 8 < la z) ∧ (la z < la ah1 ∨ la ah1 < la z)) := fun z hz => by omega
          have hfr126 : ∀ z, ((la z < la this ∨ la this + 8 < la z)) → c82_G60 z = (G 60) z := fun z hz => (q82_G60 z (tz82 z hz)).trans (hfr62 z hz)
          have hfr127 : ∀ z, ((la z < la this ∨ la this + 8 < la z)) → c82_G183 z = (G 183) z := fun z hz => (q82_G183 z (tz82 z hz)).trans (hfr63 z hz)
          have hfr128 : ∀ z, ((la z < la this ∨ la this + 8 < la z)) → c82_G203 z = (G 203) z := fun z hz => (q82_G203 z (tz82 z hz)).trans (hfr112 z hz)
          have hfr129 : ∀ z, ((la z < la this ∨ la this + 8 < la z)) → c82_P66 z = (P 66) z := fun z hz => (q82_P66 z (tz82 z hz)).trans (hfr65 z hz)
          have hfr130 : ∀ z, ((la z < la this ∨ la this + 8 < la z)) → c82_P181 z = (P 181) z := fun z hz => (q82_P181 z (tz82 z hz)).trans (hfr67 z hz)
          have hfr131 : ∀ z, ((la z < la this ∨ la this + 8 < la z)) → c82_P182 z = (P 182) z := fun z hz => (q82_P182 z (tz82 z hz)).trans (hfr69 z hz)
          have hfr132 : ∀ z, ((la z < la this ∨ la this + 8 < la z)) → c82_U184 z = (U 184) z := fun z hz => (q82_U184 z (tz82 z hz)).trans (hfr75 z hz)
          have hfr133 : ∀ z, ((la z < la this ∨ la this + 8 < la z)) → c82_V0 z = (V 0) z := fun z hz => (q82_V0 z (tz82 z hz)).trans (hfr76 z hz)
          have hfr134 : ∀ z, ((la z < la this ∨ la this + 8 < la z)) → c82_V1 z = (V 1) z := fun z hz => (q82_V1 z (tz82 z hz)).trans (hfr77 z hz)
          have hfr135 : ∀ z, ((la z < la this ∨ la this + 8 < la z)) → c82_V2 z = (V 2) z := fun z hz => (q82_V2 z (tz82 z hz)).trans (hfr78 z hz)
          have hfr136 : ∀ z, ((la z < la this ∨ la this + 8 < la z)) → c82_V12 z = (V 12) z := fun z hz => (q82_V12 z (tz82 z hz)).trans (hfr79 z hz)
          have h882_h181 : d28_P181 this = some (nw1) := by exact e181
          have h882_h182 : d28_P182 this = some (nx1) := by exact e182
          have h882_hnn : (nw1) ≠ (nx1) := by exact sw_nn hsw hnn
          have h882_h185 : (P 185) this = some wh := by exact h185
          have h882_h180 : (P 180) this = some pg := by exact h180
          have h882_hfi : (P 63) pg = some fi := by exact hfi
          have h882_hpa : (P 65) pg = some pa := by exact hpa
          have h882_hpk : (P 62) pg = some pk := by exact hpk
          have h882_hsz : (P 61) pg = some sz := by exact hsz
          have h882_hcl : (P 64) pg = some cl := by exact hcl
          have h882_hlt9 : la this = 90 := by exact hlt9
          have h882_hlo : (P 201) bh1 = some (lb1) := by exact e2x
          have h882_hso : (P 202) bh1 = some (sb1) := by exact e2y
          have h882_hwo : ((G 200) bh1).toInt = ((24 : Nat) : Int) := by exact e2w
          have h882_hfw : rwW (m66 bh1) (d28_V0 (lb1)) (d28_V1 (sb1)) 24 = (thF d (Int32.toNatClampNeg p1) (Int32.toNatClampNeg y28_7 - Int32.toNatClampNeg p1) [W]) := by rw [em66z bh1 nba]; exact hrow
          have h882_hWw : id (∀ W9, W9 ∈ (thF d (Int32.toNatClampNeg p1) (Int32.toNatClampNeg y28_7 - Int32.toNatClampNeg p1) [W]) → 1 ≤ W9.length ∧ W9.length ≤ 24 ∧ BW W9) := show ∀ W9, W9 ∈ (thF d (Int32.toNatClampNeg p1) (Int32.toNatClampNeg y28_7 - Int32.toNatClampNeg p1) [W]) → 1 ≤ W9.length ∧ W9.length ≤ 24 ∧ BW W9 from by exact iw28
          have h882_hl : (P 201) ah1 = some (la1) := by exact e1x
          have h882_hs : (P 202) ah1 = some (sa1) := by exact e1y
          have h882_hw : ((G 200) ah1).toInt = ((24 : Nat) : Int) := by exact e1w
          have h882_hws : rwW (m66 ah1) (d28_V0 (la1)) (d28_V1 (sa1)) 24 = ([]) := by exact List.length_eq_zero_iff.mp (by rw [rw_len, em66, va_up_self]; rfl)
          have h882_hp0 : o73 = some rf := by first | exact hO | exact eo73.trans hO
          have h882_hrl : rf < cnt := by exact hrl
          have h882_hrf : RFX (va_up (va_up (va_up (va_up G 60 d28_G60) 183 d28_G183) 203 d28_G203) 203 m66) (va_up (va_up (va_up (va_up (va_up (va_up (va_up P 66 d28_P66) 181 d28_P181) 182 d28_P182) 186 d28_P186) 187 d28_P187) 186 m52) 187 m58) (va_up (va_up (va_up (va_up V 0 d28_V0) 1 d28_V1) 2 d28_V2) 12 d28_V12) O ln la cnt rf (d (Int32.toNatClampNeg y28_7)) := by refine RFX_fr hrx hB28 hrl (fun z hz h3 h4 => ?_) (Nat.le_refl _) (fun _ _ => rfl); have h8 : z ≠ ah1 := (fun q => by have q9 := congrArg la q; omega); exact ⟨rfl, rfl, rfl, rfl, em66z z h8, rfl, rfl, rfl, rfl, rfl, rfl, rfl, rfl, rfl, rfl, rfl, rfl, rfl, rfl, rfl, rfl, rfl, rfl, rfl, rfl, rfl⟩
          have h882_hld : 100000 ≤ la rf := by exact hld
          have h882_hl1 : (la bh1 < 90 ∨ 98 < la bh1 ∨ la bh1 = 94 ∨ la bh1 = 95) := by omega
          have h882_hl2 : (la ah1 < 90 ∨ 98 < la ah1 ∨ la ah1 = 94 ∨ la ah1 = 95) := by omega
          have h882_hl12 : la bh1 ≠ la ah1 := by omega
          have h882_hl2d : la ah1 < la rf ∨ la rf + 5 < la ah1 := by omega
          have hx82 := pwq (fn_X9_turnForms κ wd la (va_up (va_up (va_up (va_up G 60 d28_G60) 183 d28_G183) 203 d28_G203) 203 m66) (va_up (va_up (va_up (va_up (va_up (va_up (va_up P 66 d28_P66) 181 d28_P181) 182 d28_P182) 186 d28_P186) 187 d28_P187) 186 m52) 187 m58) (va_up U 184 d28_U184) (va_up (va_up (va_up (va_up V 0 d28_V0) 1 d28_V1) 2 d28_V2) 12 d28_V12) X O kd ln cnt this o73 bh1 ah1 (nw1) (nx1) (wh) (pg) (fi) (pa) (pk) (sz) (cl) (rf) (lb1) (sb1) (la1) (sa1) (d (Int32.toNatClampNeg y28_7)) (thF d (Int32.toNatClampNeg p1) (Int32.toNatClampNeg y28_7 - Int32.toNatClampNeg p1) [W]) ([]) hg51 hzG102 hg52 hzG200 hg113 hzP20 hzP21 hzP22 hzP23 hzP61 hzP62 hzP63 hzP64 hzP65 hg54 hzP101 hzP103 hzP104 hzP105 hzP106 hzP108 hzP109 hzP110 hzP180 hg55 hg56 hzP185 hzP201 hzP202 hg59 hg60 hzO0 hzRA hRB115 hzRI hzRM103 hzRM104 hzRM108 hzLN hk_this hk_o73 hk_bh1 hk_ah1 (LB_set (LB_set (LB_set (LB_set (LB_set (LB_set (LB_set hB hl66) hl68) hl70) hl72) hl74) hl107) hl110) hlt_this lt_bh191 lt_ah189 h882_h181 h882_h182 h882_hnn h882_h185 h882_h180 h882_hfi h882_hpa h882_hpk h882_hsz h882_hcl h882_hlt9 h882_hlo h882_hso h882_hwo h882_hfw h882_hWw h882_hl h882_hs h882_hw h882_hws h882_hp0 h882_hrl h882_hrf h882_hld h882_hl1 h882_hl2 h882_hl12 h882_hl2d) hc82
          obtain ⟨p82_0, p82_1, p82_2⟩ : (rwW (c82_G203 ah1) (c82_V0 (la1)) (c82_V1 (sa1)) 24 = (thF d (Int32.toNatClampNeg p1) (Int32.toNatClampNeg y28_7 - Int32.toNatClampNeg p1) [W]).foldl (fun a9 W9 => (cdF (d (Int32.toNatClampNeg y28_7)) W9).foldl (addF (ln (sa1))) a9) ([])) ∧ (id ((∃ nwb nxb, c82_P181 this = some nwb ∧ c82_P182 this = some nxb ∧ ((nwb = (nw1) ∧ nxb = (nx1)) ∨ (nwb = (nx1) ∧ nxb = (nw1)))))) ∧ (id ((∀ z, (la z = 94 ∨ la z = 95) → la z ≠ la ah1 → c82_V0 z = d28_V0 z ∧ c82_V1 z = d28_V1 z ∧ c82_G203 z = m66 z))) := hx82
          clear h882_h181 h882_h182 h882_hnn h882_h185 h882_h180 h882_hfi h882_hpa h882_hpk h882_hsz h882_hcl h882_hlt9 h882_hlo h882_hso h882_hwo h882_hfw h882_hWw h882_hl h882_hs h882_hw h882_hws h882_hp0 h882_hrl h882_hrf h882_hld h882_hl1 h882_hl2 h882_hl12 h882_hl2d
          have hgw82 := f125 (hw_ah1 rfl)
          have f137 : (y28_7 + 1).toInt = y28_7.toInt + (1) := z_addc (by decide +kernel) (by omega) (by omega)
          have hgA : c82_G203 wd = (G 203) wd := by rw [hgw82, em66, va_up_ne _ _ (fun q => hw_ah1 rfl q.symm)]; assumption
          have iv28_0 : 0 ≤ (y28_7 + 1).toInt := by first | omega | assumption
          have iv28_1 : c82_G203 wd = (G 203) wd := by first | assumption | omega
          have iv28_2 : p1.toInt ≤ (y28_7 + 1).toInt := by first | omega | assumption
          have iv28_3 : ((y28_7 + 1).toInt ≤ p2.toInt ∨ (y28_7 + 1).toInt = p1.toInt) := by first | omega | assumption
          have iv28_4 : id ((∃ nw1 nx1, c82_P181 this = some nw1 ∧ c82_P182 this = some nx1 ∧ ((nw1 = nw ∧ nx1 = nx) ∨ (nw1 = nx ∧ nx1 = nw)))) := show (∃ nw1 nx1, c82_P181 this = some nw1 ∧ c82_P182 this = some nx1 ∧ ((nw1 = nw ∧ nx1 = nx) ∨ (nw1 = nx ∧ nx1 = nw))) from by obtain ⟨nw2, nx2, b1, b2, b3⟩ := p82_1; exact ⟨nw2, nx2, b1, b2, sw_tr b3 hsw⟩
          have iv28_5 : id ((∃ ah1 bh1 la1 sa1 lb1 sb1, m52 this = some ah1 ∧ m58 this = some bh1 ∧ ((ah1 = ah ∧ bh1 = bh ∧ la1 = lah ∧ sa1 = sah ∧ lb1 = lbh ∧ sb1 = sbh) ∨ (ah1 = bh ∧ bh1 = ah ∧ la1 = lbh ∧ sa1 = sbh ∧ lb1 = lah ∧ sb1 = sah)) ∧ rwW (c82_G203 bh1) (c82_V0 lb1) (c82_V1 sb1) 24 = thF d (Int32.toNatClampNeg p1) (Int32.toNatClampNeg (y28_7 + 1) - Int32.toNatClampNeg p1) [W])) := show (∃ ah1 bh1 la1 sa1 lb1 sb1, m52 this = some ah1 ∧ m58 this = some bh1 ∧ ((ah1 = ah ∧ bh1 = bh ∧ la1 = lah ∧ sa1 = sah ∧ lb1 = lbh ∧ sb1 = sbh) ∨ (ah1 = bh ∧ bh1 = ah ∧ la1 = lbh ∧ sa1 = sbh ∧ lb1 = lah ∧ sb1 = sah)) ∧ rwW (c82_G203 bh1) (c82_V0 lb1) (c82_V1 sb1) 24 = thF d (Int32.toNatClampNeg p1) (Int32.toNatClampNeg (y28_7 + 1) - Int32.toNatClampNeg p1) [W]) from by have k8 := clampI (x := y28_7 + 1) (by omega); refine ⟨bh1, ah1, lb1, sb1, la1, sa1, sm52, sm58, by rcases hs6 with ⟨z1, z2, z3, z4, z5, z6⟩ | ⟨z1, z2, z3, z4, z5, z6⟩; (exact Or.inr ⟨z2, z1, z5, z6, z3, z4⟩); (exact Or.inl ⟨z2, z1, z5, z6, z3, z4⟩), ?_⟩; rw [th_s (n := Int32.toNatClampNeg y28_7 - Int32.toNatClampNeg p1) (by omega), show Int32.toNatClampNeg p1 + (Int32.toNatClampNeg y28_7 - Int32.toNatClampNeg p1) = Int32.toNatClampNeg y28_7 by omega]; rw [e1n] at p82_0; exact p82_0
          have iv28_6 : (WDS (thF d (Int32.toNatClampNeg p1) (Int32.toNatClampNeg (y28_7 + 1) - Int32.toNatClampNeg p1) [W])) := by have k8 := clampI (x := y28_7 + 1) (by omega); rw [th_s (n := Int32.toNatClampNeg y28_7 - Int32.toNatClampNeg p1) (by omega), show Int32.toNatClampNeg p1 + (Int32.toNatClampNeg y28_7 - Int32.toNatClampNeg p1) = Int32.toNatClampNeg y28_7 by omega]; exact tuFs_wds hrx.2.2 iw28
          have iv28_7 : id ((∀ q : Nat, p1.toInt ≤ (q : Int) → (q : Int) < p2.toInt → ∃ rf, (O 2) p0 q = some rf ∧ rf < cnt ∧ 100000 ≤ la rf ∧ RFX (va_up (va_up (va_up (va_up (va_up (va_up (va_up G 60 d28_G60) 183 d28_G183) 203 d28_G203) 203 m66) 60 c82_G60) 183 c82_G183) 203 c82_G203) (va_up (va_up (va_up (va_up (va_up (va_up (va_up (va_up (va_up (va_up P 66 d28_P66) 181 d28_P181) 182 d28_P182) 186 d28_P186) 187 d28_P187) 186 m52) 187 m58) 66 c82_P66) 181 c82_P181) 182 c82_P182) (va_up (va_up (va_up (va_up (va_up (va_up (va_up (va_up V 0 d28_V0) 1 d28_V1) 2 d28_V2) 12 d28_V12) 0 c82_V0) 1 c82_V1) 2 c82_V2) 12 c82_V12) O ln la cnt rf (d q))) := show (∀ q : Nat, p1.toInt ≤ (q : Int) → (q : Int) < p2.toInt → ∃ rf, (O 2) p0 q = some rf ∧ rf < cnt ∧ 100000 ≤ la rf ∧ RFX (va_up (va_up (va_up (va_up (va_up (va_up (va_up G 60 d28_G60) 183 d28_G183) 203 d28_G203) 203 m66) 60 c82_G60) 183 c82_G183) 203 c82_G203) (va_up (va_up (va_up (va_up (va_up (va_up (va_up (va_up (va_up (va_up P 66 d28_P66) 181 d28_P181) 182 d28_P182) 186 d28_P186) 187 d28_P187) 186 m52) 187 m58) 66 c82_P66) 181 c82_P181) 182 c82_P182) (va_up (va_up (va_up (va_up (va_up (va_up (va_up (va_up V 0 d28_V0) 1 d28_V1) 2 d28_V2) 12 d28_V12) 0 c82_V0) 1 c82_V1) 2 c82_V2) 12 c82_V12) O ln la cnt rf (d q)) from by intro q h1 h2; obtain ⟨rf9, y1, y2, y3, y4⟩ := ix28 q h1 h2; refine ⟨rf9, y1, y2, y3, RFX_fr y4 hB28 y2 (fun z hz h3 h4 => ?_) (Nat.le_refl _) (fun _ _ => rfl)⟩; have h7 : (la z < la this ∨ la this + 8 < la z) ∧ (la z < la ah1 ∨ la ah1 < la z) := (by omega); have h8 : z ≠ ah1 := (fun q => by have q9 := congrArg la q; omega); exact ⟨rfl, rfl, rfl, rfl, (q82_G203 z h7).trans (em66z z h8), rfl, rfl, rfl, rfl, rfl, rfl, rfl, rfl, rfl, rfl, rfl, rfl, rfl, q82_V0 z h7, q82_V1 z h7, rfl, rfl, rfl, rfl, rfl, rfl⟩
          exact ih28 (y28_7 + 1) c82_G60 c82_G183 c82_G203 c82_P66 c82_P181 c82_P182 m52 m58 c82_U184 c82_V0 c82_V1 c82_V2 c82_V12 hg116 hg117 hg118 hg119 hg120 hg121 hp108 hp111 hg122 hg123 hRB124 hfr126 hfr127 hfr128 hfr129 ql82_66 hfr130 ql82_181 hfr131 ql82_182 hfr106 hl107 hfr109 hl110 hfr132 hfr133 hfr134 hfr135 hfr136 iv28_0 iv28_1 iv28_2 iv28_3 iv28_4 iv28_5 iv28_6 iv28_7
  exact lp28 NN x26 (G 60) (G 183) c18_G203 (P 66) (P 181) (P 182) (P 186) (P 187) (U 184) c18_V0 c18_V1 (V 2) (V 12) hzG60 hzG183 hg41 hzP66 hzP181 hzP182 hzP186 hzP187 hg42 hzV2 hRB43 (fun _ _ => rfl) (fun _ _ => rfl) hfr46 (fun _ _ => rfl) (hB.1 66 fl_66) (fun _ _ => rfl) (hB.1 181 fl_181) (fun _ _ => rfl) (hB.1 182 fl_182) (fun _ _ => rfl) (hB.1 186 fl_186) (fun _ _ => rfl) (hB.1 187 fl_187) (fun _ _ => rfl) hfr47 hfr48 (fun _ _ => rfl) (fun _ _ => rfl) (show 0 ≤ x26.toInt from by first | omega | assumption) (show c18_G203 wd = (G 203) wd from by first | assumption | omega) (show p1.toInt ≤ x26.toInt from by first | omega | assumption) (show (x26.toInt ≤ p2.toInt ∨ x26.toInt = p1.toInt) from by first | omega | assumption) (show (∃ nw1 nx1, (P 181) this = some nw1 ∧ (P 182) this = some nx1 ∧ ((nw1 = nw ∧ nx1 = nx) ∨ (nw1 = nx ∧ nx1 = nw))) from by exact ⟨nw, nx, h181, h182, Or.inl ⟨rfl, rfl⟩⟩) (show (∃ ah1 bh1 la1 sa1 lb1 sb1, (P 186) this = some ah1 ∧ (P 187) this = some bh1 ∧ ((ah1 = ah ∧ bh1 = bh ∧ la1 = lah ∧ sa1 = sah ∧ lb1 = lbh ∧ sb1 = sbh) ∨ (ah1 = bh ∧ bh1 = ah ∧ la1 = lbh ∧ sa1 = sbh ∧ lb1 = lah ∧ sb1 = sah)) ∧ rwW (c18_G203 bh1) (c18_V0 lb1) (c18_V1 sb1) 24 = thF d (Int32.toNatClampNeg p1) (Int32.toNatClampNeg x26 - Int32.toNatClampNeg p1) [W]) from by have k26 := clampI (x := x26) (by omega); refine ⟨ah, bh, lah, sah, lbh, sbh, h186, h187, Or.inl ⟨rfl, rfl, rfl, rfl, rfl, rfl⟩, ?_⟩; rw [show Int32.toNatClampNeg x26 - Int32.toNatClampNeg p1 = 0 by omega]; exact h18) (show (WDS (thF d (Int32.toNatClampNeg p1) (Int32.toNatClampNeg x26 - Int32.toNatClampNeg p1) [W])) from by have k26 := clampI (x := x26) (by omega); rw [show Int32.toNatClampNeg x26 - Int32.toNatClampNeg p1 = 0 by omega]; exact hW1) (show (∀ q : Nat, p1.toInt ≤ (q : Int) → (q : Int) < p2.toInt → ∃ rf, (O 2) p0 q = some rf ∧ rf < cnt ∧ 100000 ≤ la rf ∧ RFX (va_up (va_up G 203 m5) 203 c18_G203) P (va_up (va_up V 0 c18_V0) 1 c18_V1) O ln la cnt rf (d q)) from by intro q h1 h2; obtain ⟨rf9, y1, y2, y3, y4⟩ := hrf q h1 h2; refine ⟨rf9, y1, y2, y3, RFX_fr y4 hB y2 (fun z hz h3 h4 => ?_) (Nat.le_refl _) (fun _ _ => rfl)⟩; have h7 : (la z < la bh ∨ la bh < la z) := (by omega); have h8 : z ≠ bh := (fun q => by have q9 := congrArg la q; omega); exact ⟨rfl, rfl, rfl, rfl, (q18_G203 z h7).trans (em5z z h8), rfl, rfl, rfl, rfl, rfl, rfl, rfl, rfl, rfl, rfl, rfl, rfl, rfl, q18_V0 z h7, q18_V1 z h7, rfl, rfl, rfl, rfl, rfl, rfl⟩)
