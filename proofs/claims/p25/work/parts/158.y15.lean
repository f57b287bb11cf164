abbrev QF_X9_turnForms (κ : Nat → Nat) (wd : Nat) (la : Nat → Nat) (G : Nat → Nat → Int32) (P : Nat → Nat → Option Nat) (U : Nat → Nat → Int64) (V : Nat → Nat → Nat → Int32) (X : Nat → Nat → Nat → Int64) (O : Nat → Nat → Nat → Option Nat) (kd : Nat → Nat) (ln : Nat → Nat) (cnt : Nat) (this : Nat) (p0 : Option Nat) (p1 : Nat) (p2 : Nat) (nw : Nat) (nx : Nat) (wh : Nat) (pg : Nat) (fi : Nat) (pa : Nat) (pk : Nat) (sz : Nat) (cl : Nat) (rf : Nat) (lo : Nat) (so : Nat) (l : Nat) (s : Nat) (d : Dr) (fw : List Wd) (ws : List Wd) : (Int64 × (Nat → Int32) × (Nat → Int32) × (Nat → Int32) × (Nat → Option Nat) × (Nat → Option Nat) × (Nat → Option Nat) × (Nat → Int64) × (Nat → Nat → Int32) × (Nat → Nat → Int32) × (Nat → Nat → Int32) × (Nat → Nat → Int32)) → Prop := (fun t => (rwW ((t.2.2.2.1) p2) ((t.2.2.2.2.2.2.2.2.1) l) ((t.2.2.2.2.2.2.2.2.2.1) s) 24 = fw.foldl (fun a9 W9 => (cdF d W9).foldl (addF (ln s)) a9) ws) ∧ ((∃ nwb nxb, (t.2.2.2.2.2.1) this = some nwb ∧ (t.2.2.2.2.2.2.1) this = some nxb ∧ ((nwb = nw ∧ nxb = nx) ∨ (nwb = nx ∧ nxb = nw)))) ∧ ((∀ z, (la z = 94 ∨ la z = 95) → la z ≠ la p2 → (t.2.2.2.2.2.2.2.2.1) z = (V 0) z ∧ (t.2.2.2.2.2.2.2.2.2.1) z = (V 1) z ∧ (t.2.2.2.1) z = (G 203) z)))
set_option maxHeartbeats 4000000 in
set_option maxRecDepth 100000 in
theorem fn_X9_turnForms (κ : Nat → Nat) (wd : Nat) (la : Nat → Nat) (G : Nat → Nat → Int32) (P : Nat → Nat → Option Nat) (U : Nat → Nat → Int64) (V : Nat → Nat → Nat → Int32) (X : Nat → Nat → Nat → Int64) (O : Nat → Nat → Nat → Option Nat) (kd : Nat → Nat) (ln : Nat → Nat) (cnt : Nat) (this : Nat) (p0 : Option Nat) (p1 : Nat) (p2 : Nat) (nw : Nat) (nx : Nat) (wh : Nat) (pg : Nat) (fi : Nat) (pa : Nat) (pk : Nat) (sz : Nat) (cl : Nat) (rf : Nat) (lo : Nat) (so : Nat) (l : Nat) (s : Nat) (d : Dr) (fw : List Wd) (ws : List Wd) (hzG60 : rng (0) 30 (G 60)) (hzG102 : rng (0) 40 (G 102)) (hzG183 : rng (0) 40 (G 183)) (hzG200 : rng (0) 24 (G 200)) (hzG203 : rng (0) 100 (G 203)) (hzP20 : PB κ ln wd 2 100 0 16 0 (P 20)) (hzP21 : PB κ ln wd 2 100 0 16 0 (P 21)) (hzP22 : PB κ ln wd 2 100 0 16 0 (P 22)) (hzP23 : PB κ ln wd 2 100 0 16 0 (P 23)) (hzP61 : PB κ ln wd 4 102 30 30 0 (P 61)) (hzP62 : PB κ ln wd 4 100 720 720 0 (P 62)) (hzP63 : PB κ ln wd 4 100 408 408 0 (P 63)) (hzP64 : PB κ ln wd 4 112 25 25 0 (P 64)) (hzP65 : PB κ ln wd 4 100 24 24 0 (P 65)) (hzP66 : PB κ ln wd 4 11 0 2500 0 (P 66)) (hzP101 : PB κ ln wd 6 300 40 40 0 (P 101)) (hzP103 : PB κ ln wd 6 11 0 2500 1 (P 103)) (hzP104 : PB κ ln wd 6 11 0 2500 1 (P 104)) (hzP105 : PB κ ln wd 6 11 0 2500 1 (P 105)) (hzP106 : PB κ ln wd 6 110 40 40 0 (P 106)) (hzP108 : PB κ ln wd 6 11 0 2500 1 (P 108)) (hzP109 : PB κ ln wd 6 111 40 40 0 (P 109)) (hzP110 : PB κ ln wd 6 200 40 40 0 (P 110)) (hzP180 : PB κ ln wd 10 4 0 2500 0 (P 180)) (hzP181 : PB κ ln wd 10 100 40 40 0 (P 181)) (hzP182 : PB κ ln wd 10 100 40 40 0 (P 182)) (hzP185 : PB κ ln wd 10 100 24 24 0 (P 185)) (hzP201 : PB κ ln wd 11 100 0 2400 0 (P 201)) (hzP202 : PB κ ln wd 11 101 0 100 0 (P 202)) (hzV1 : rng2 (0) 24 (V 1)) (hzV2 : rng2 (0) 24 (V 2)) (hzO0 : OB κ 2 (O 0)) (hzRA : RA κ ln (G 200) (P 201) (P 202)) (hzRB : RB κ ln (G 200) (G 203) (P 202) (V 1)) (hzRI : RI (P 202)) (hzRM103 : RM ln 40 (P 103) (P 202)) (hzRM104 : RM ln 40 (P 104) (P 202)) (hzRM108 : RM ln 40 (P 108) (P 202)) (hzLN : LN κ ln) (hk_this : κ this = 10) (hk_p0 : ∀ b, p0 = some b → κ b = 6) (hk_p1 : κ p1 = 11) (hk_p2 : κ p2 = 11) (hB : LB la cnt P) (hlt_this : this < cnt) (hlt_p1 : p1 < cnt) (hlt_p2 : p2 < cnt) (h181 : (P 181) this = some nw) (h182 : (P 182) this = some nx) (hnn : nw ≠ nx) (h185 : (P 185) this = some wh) (h180 : (P 180) this = some pg) (hfi : (P 63) pg = some fi) (hpa : (P 65) pg = some pa) (hpk : (P 62) pg = some pk) (hsz : (P 61) pg = some sz) (hcl : (P 64) pg = some cl) (hlt9 : la this = 90) (hlo : (P 201) p1 = some lo) (hso : (P 202) p1 = some so) (hwo : ((G 200) p1).toInt = ((24 : Nat) : Int)) (hfw : rwW ((G 203) p1) ((V 0) lo) ((V 1) so) 24 = fw) (hWw : ∀ W9, W9 ∈ fw → 1 ≤ W9.length ∧ W9.length ≤ 24 ∧ BW W9) (hl : (P 201) p2 = some l) (hs : (P 202) p2 = some s) (hw : ((G 200) p2).toInt = ((24 : Nat) : Int)) (hws : rwW ((G 203) p2) ((V 0) l) ((V 1) s) 24 = ws) (hp0 : p0 = some rf) (hrl : rf < cnt) (hrf : RFX G P V O ln la cnt rf d) (hld : 100000 ≤ la rf) (hl1 : (la p1 < 90 ∨ 98 < la p1 ∨ la p1 = 94 ∨ la p1 = 95)) (hl2 : (la p2 < 90 ∨ 98 < la p2 ∨ la p2 = 94 ∨ la p2 = 95)) (hl12 : la p1 ≠ la p2) (hl2d : la p2 < la rf ∨ la rf + 5 < la p2) : pw (f_X9_turnForms G P U V X O kd ln cnt this p0 p1 p2) (QF_X9_turnForms κ wd la G P U V X O kd ln cnt this p0 p1 p2 nw nx wh pg fi pa pk sz cl rf lo so l s d fw ws) := by
  unfold f_X9_turnForms
  have zk0 : (0 : Int32).toInt = 0 := by decide +kernel
  replace hnn : id _ := hnn
  replace hl1 : id _ := hl1
  replace hl2 : id _ := hl2
  replace hl12 : id _ := hl12
  replace hl2d : id _ := hl2d
  have hn1 : (P 181) this = some nw := h181
  obtain ⟨_, lt_nw2, lb_nw2⟩ := (hB.1 181 fl_181) this nw hn1
  have lb_nw2 : 91 ≤ la nw ∧ la nw ≤ 92 := by have z9 := lk_181.mp lb_nw2; rw [hlt9] at z9; exact or_bd z9 (by decide)
  have hk_nw := ((hzP181 this).2 nw hn1).1
  have hl1_nw := ((hzP181 this).2 nw hn1).2.1
  have hl2_nw := ((hzP181 this).2 nw hn1).2.2.1
  have hw_nw : id _ := ((hzP181 this).2 nw hn1).2.2.2
  have hz_nw : (Int32.ofNat (ln nw)).toInt = ((ln nw : Nat) : Int) := ofN_eq (by first | exact Nat.le_trans hl2_nw (by decide) | omega)
  have hn3 : (P 182) this = some nx := h182
  obtain ⟨_, lt_nx4, lb_nx4⟩ := (hB.1 182 fl_182) this nx hn3
  have lb_nx4 : 91 ≤ la nx ∧ la nx ≤ 92 := by have z9 := lk_182.mp lb_nx4; rw [hlt9] at z9; exact or_bd z9 (by decide)
  have hk_nx := ((hzP182 this).2 nx hn3).1
  have hl1_nx := ((hzP182 this).2 nx hn3).2.1
  have hl2_nx := ((hzP182 this).2 nx hn3).2.2.1
  have hw_nx : id _ := ((hzP182 this).2 nx hn3).2.2.2
  have hz_nx : (Int32.ofNat (ln nx)).toInt = ((ln nx : Nat) : Int) := ofN_eq (by first | exact Nat.le_trans hl2_nx (by decide) | omega)
  have hn5 : (P 185) this = some wh := h185
  obtain ⟨_, lt_wh6, lb_wh6⟩ := (hB.1 185 fl_185) this wh hn5
  have lb_wh6 : la wh = 93 := (lk_185.mp lb_wh6).trans (congrArg (fun z9 => z9 + 3) hlt9)
  have hk_wh := ((hzP185 this).2 wh hn5).1
  have hl1_wh := ((hzP185 this).2 wh hn5).2.1
  have hl2_wh := ((hzP185 this).2 wh hn5).2.2.1
  have hw_wh : id _ := ((hzP185 this).2 wh hn5).2.2.2
  have hz_wh : (Int32.ofNat (ln wh)).toInt = ((ln wh : Nat) : Int) := ofN_eq (by first | exact Nat.le_trans hl2_wh (by decide) | omega)
  have hn7 : (P 180) this = some pg := h180
  obtain ⟨_, lt_pg8, lb_pg8⟩ := (hB.1 180 fl_180) this pg hn7
  have lb_pg8 : la pg = 96 := (lk_180.mp lb_pg8).trans (congrArg (fun z9 => z9 + 6) hlt9)
  have hk_pg := ((hzP180 this).2 pg hn7).1
  have hl1_pg := ((hzP180 this).2 pg hn7).2.1
  have hl2_pg := ((hzP180 this).2 pg hn7).2.2.1
  have hw_pg : id _ := ((hzP180 this).2 pg hn7).2.2.2
  have hn9 : (P 63) pg = some fi := hfi
  obtain ⟨_, lt_fi10, lb_fi10⟩ := (hB.1 63 fl_63) pg fi hn9
  have lb_fi10 : la fi = 97 := (lk_63.mp lb_fi10).trans (congrArg (fun z9 => z9 + 1) lb_pg8)
  have hk_fi := ((hzP63 pg).2 fi hn9).1
  have hl1_fi := ((hzP63 pg).2 fi hn9).2.1
  have hl2_fi := ((hzP63 pg).2 fi hn9).2.2.1
  have hw_fi : id _ := ((hzP63 pg).2 fi hn9).2.2.2
  have hz_fi : (Int32.ofNat (ln fi)).toInt = ((ln fi : Nat) : Int) := ofN_eq (by first | exact Nat.le_trans hl2_fi (by decide) | omega)
  have hn11 : (P 65) pg = some pa := hpa
  obtain ⟨_, lt_pa12, lb_pa12⟩ := (hB.1 65 fl_65) pg pa hn11
  have lb_pa12 : la pa = 98 := (lk_65.mp lb_pa12).trans (congrArg (fun z9 => z9 + 2) lb_pg8)
  have hk_pa := ((hzP65 pg).2 pa hn11).1
  have hl1_pa := ((hzP65 pg).2 pa hn11).2.1
  have hl2_pa := ((hzP65 pg).2 pa hn11).2.2.1
  have hw_pa : id _ := ((hzP65 pg).2 pa hn11).2.2.2
  have hz_pa : (Int32.ofNat (ln pa)).toInt = ((ln pa : Nat) : Int) := ofN_eq (by first | exact Nat.le_trans hl2_pa (by decide) | omega)
  have hn13 : (P 62) pg = some pk := hpk
  obtain ⟨_, lt_pk14, lb_pk14⟩ := (hB.1 62 fl_62) pg pk hn13
  have lb_pk14 : la pk = 96 := (lk_62.mp lb_pk14).trans (congrArg (fun z9 => z9 + 0) lb_pg8)
  have hk_pk := ((hzP62 pg).2 pk hn13).1
  have hl1_pk := ((hzP62 pg).2 pk hn13).2.1
  have hl2_pk := ((hzP62 pg).2 pk hn13).2.2.1
  have hw_pk : id _ := ((hzP62 pg).2 pk hn13).2.2.2
  have hz_pk : (Int32.ofNat (ln pk)).toInt = ((ln pk : Nat) : Int) := ofN_eq (by first | exact Nat.le_trans hl2_pk (by decide) | omega)
  have hn15 : (P 61) pg = some sz := hsz
  obtain ⟨_, lt_sz16, lb_sz16⟩ := (hB.1 61 fl_61) pg sz hn15
  have lb_sz16 : la sz = 96 := (lk_61.mp lb_sz16).trans (congrArg (fun z9 => z9 + 0) lb_pg8)
  have hk_sz := ((hzP61 pg).2 sz hn15).1
  have hl1_sz := ((hzP61 pg).2 sz hn15).2.1
  have hl2_sz := ((hzP61 pg).2 sz hn15).2.2.1
  have hw_sz : id _ := ((hzP61 pg).2 sz hn15).2.2.2
  have hz_sz : (Int32.ofNat (ln sz)).toInt = ((ln sz : Nat) : Int) := ofN_eq (by first | exact Nat.le_trans hl2_sz (by decide) | omega)
  have hn17 : (P 64) pg = some cl := hcl
  obtain ⟨_, lt_cl18, lb_cl18⟩ := (hB.1 64 fl_64) pg cl hn17
  have lb_cl18 : la cl = 96 := (lk_64.mp lb_cl18).trans (congrArg (fun z9 => z9 + 0) lb_pg8)
  have hk_cl := ((hzP64 pg).2 cl hn17).1
  have hl1_cl := ((hzP64 pg).2 cl hn17).2.1
  have hl2_cl := ((hzP64 pg).2 cl hn17).2.2.1
  have hw_cl : id _ := ((hzP64 pg).2 cl hn17).2.2.2
  have hz_cl : (Int32.ofNat (ln cl)).toInt = ((ln cl : Nat) : Int) := ofN_eq (by first | exact Nat.le_trans hl2_cl (by decide) | omega)
  have hn19 : (P 201) p1 = some lo := hlo
  have lt_lo20 := ((hB.1 201 fl_201) p1 lo hn19).2.1
  have lb_lo20 : la lo = la p1 + 0 := lk_201.mp ((hB.1 201 fl_201) p1 lo hn19).2.2
  have hk_lo := ((hzP201 p1).2 lo hn19).1
  have hl1_lo := ((hzP201 p1).2 lo hn19).2.1
  have hl2_lo := ((hzP201 p1).2 lo hn19).2.2.1
  have hw_lo : id _ := ((hzP201 p1).2 lo hn19).2.2.2
  have hz_lo : (Int32.ofNat (ln lo)).toInt = ((ln lo : Nat) : Int) := ofN_eq (by first | exact Nat.le_trans hl2_lo (by decide) | omega)
  have hn21 : (P 202) p1 = some so := hso
  have lt_so22 := ((hB.1 202 fl_202) p1 so hn21).2.1
  have lb_so22 : la so = la p1 + 0 := lk_202.mp ((hB.1 202 fl_202) p1 so hn21).2.2
  have hk_so := ((hzP202 p1).2 so hn21).1
  have hl1_so := ((hzP202 p1).2 so hn21).2.1
  have hl2_so := ((hzP202 p1).2 so hn21).2.2.1
  have hw_so : id _ := ((hzP202 p1).2 so hn21).2.2.2
  have hz_so : (Int32.ofNat (ln so)).toInt = ((ln so : Nat) : Int) := ofN_eq (by first | exact Nat.le_trans hl2_so (by decide) | omega)
  have rb23 := (hzRB p1 so hk_p1 hn21).1
  have ra24 := hzRA p1 lo so hk_p1 hn19 hn21
  have bw25 := hzG200 p1
  have hn26 : (P 201) p2 = some l := hl
  have lt_l27 := ((hB.1 201 fl_201) p2 l hn26).2.1
  have lb_l27 : la l = la p2 + 0 := lk_201.mp ((hB.1 201 fl_201) p2 l hn26).2.2
  have hk_l := ((hzP201 p2).2 l hn26).1
  have hl1_l := ((hzP201 p2).2 l hn26).2.1
  have hl2_l := ((hzP201 p2).2 l hn26).2.2.1
  have hw_l : id _ := ((hzP201 p2).2 l hn26).2.2.2
  have hz_l : (Int32.ofNat (ln l)).toInt = ((ln l : Nat) : Int) := ofN_eq (by first | exact Nat.le_trans hl2_l (by decide) | omega)
  have hn28 : (P 202) p2 = some s := hs
  have lt_s29 := ((hB.1 202 fl_202) p2 s hn28).2.1
  have lb_s29 : la s = la p2 + 0 := lk_202.mp ((hB.1 202 fl_202) p2 s hn28).2.2
  have hk_s := ((hzP202 p2).2 s hn28).1
  have hl1_s := ((hzP202 p2).2 s hn28).2.1
  have hl2_s := ((hzP202 p2).2 s hn28).2.2.1
  have hw_s : id _ := ((hzP202 p2).2 s hn28).2.2.2
  have hz_s : (Int32.ofNat (ln s)).toInt = ((ln s : Nat) : Int) := ofN_eq (by first | exact Nat.le_trans hl2_s (by decide) | omega)
  have rb30 := (hzRB p2 s hk_p2 hn28).1
  have ra31 := hzRA p2 l s hk_p2 hn26 hn28
  have bw32 := hzG200 p2
  have hb1 := hzG203 p1
  have c1 := clampI (x := (G 203) p1) (by omega)
  have hfl : fw.length = Int32.toNatClampNeg ((G 203) p1) := by rw [← hfw]; exact rw_len
  refine pw_jE (fun k39 ek39 => ?_)
  have lp6 : ∀ (n6 : Nat) (y6_4 : Int64) (y6_6 : Int32) (d6_G60 : Nat → Int32) (d6_G183 : Nat → Int32) (d6_G203 : Nat → Int32) (d6_P66 : Nat → Option Nat) (d6_P181 : Nat → Option Nat) (d6_P182 : Nat → Option Nat) (d6_U184 : Nat → Int64) (d6_V0 : Nat → Nat → Int32) (d6_V1 : Nat → Nat → Int32) (d6_V2 : Nat → Nat → Int32) (d6_V12 : Nat → Nat → Int32), rng (0) 30 d6_G60 → rng (0) 40 d6_G183 → rng (0) 100 d6_G203 → PB κ ln wd 4 11 0 2500 0 d6_P66 → PB κ ln wd 10 100 40 40 0 d6_P181 → PB κ ln wd 10 100 40 40 0 d6_P182 → rng2 (0) 24 d6_V1 → rng2 (0) 24 d6_V2 → RB κ ln (G 200) d6_G203 (P 202) d6_V1 → (∀ z, ((la z < la this ∨ la this + 8 < la z) ∧ (la z < la p2 ∨ la p2 < la z)) → d6_G60 z = (G 60) z) → (∀ z, ((la z < la this ∨ la this + 8 < la z) ∧ (la z < la p2 ∨ la p2 < la z)) → d6_G183 z = (G 183) z) → (∀ z, ((la z < la this ∨ la this + 8 < la z) ∧ (la z < la p2 ∨ la p2 < la z)) → d6_G203 z = (G 203) z) → (∀ z, ((la z < la this ∨ la this + 8 < la z) ∧ (la z < la p2 ∨ la p2 < la z)) → d6_P66 z = (P 66) z) → LC 66 la cnt d6_P66 → (∀ z, ((la z < la this ∨ la this + 8 < la z) ∧ (la z < la p2 ∨ la p2 < la z)) → d6_P181 z = (P 181) z) → LC 181 la cnt d6_P181 → (∀ z, ((la z < la this ∨ la this + 8 < la z) ∧ (la z < la p2 ∨ la p2 < la z)) → d6_P182 z = (P 182) z) → LC 182 la cnt d6_P182 → (∀ z, ((la z < la this ∨ la this + 8 < la z) ∧ (la z < la p2 ∨ la p2 < la z)) → d6_U184 z = (U 184) z) → (∀ z, ((la z < la this ∨ la this + 8 < la z) ∧ (la z < la p2 ∨ la p2 < la z)) → d6_V0 z = (V 0) z) → (∀ z, ((la z < la this ∨ la this + 8 < la z) ∧ (la z < la p2 ∨ la p2 < la z)) → d6_V1 z = (V 1) z) → (∀ z, ((la z < la this ∨ la this + 8 < la z) ∧ (la z < la p2 ∨ la p2 < la z)) → d6_V2 z = (V 2) z) → (∀ z, ((la z < la this ∨ la this + 8 < la z) ∧ (la z < la p2 ∨ la p2 < la z)) → d6_V12 z = (V 12) z) → (0 ≤ y6_6.toInt ∧ y6_6.toInt ≤ 100) → (p2 ≠ wd → d6_G203 wd = (G 203) wd) → y6_6.toInt ≤ ((G 203) p1).toInt → (∃ nw1 nx1, d6_P181 this = some nw1 ∧ d6_P182 this = some nx1 ∧ ((nw1 = nw ∧ nx1 = nx) ∨ (nw1 = nx ∧ nx1 = nw))) → (∀ z, (la z = 94 ∨ la z = 95) → la z ≠ la p2 → d6_V0 z = (V 0) z ∧ d6_V1 z = (V 1) z ∧ d6_G203 z = (G 203) z) → (d6_V0 lo = (V 0) lo ∧ d6_V1 so = (V 1) so ∧ d6_G203 p1 = (G 203) p1) → (RFX (va_up (va_up (va_up G 60 d6_G60) 183 d6_G183) 203 d6_G203) (va_up (va_up (va_up P 66 d6_P66) 181 d6_P181) 182 d6_P182) (va_up (va_up (va_up (va_up V 0 d6_V0) 1 d6_V1) 2 d6_V2) 12 d6_V12) O ln la cnt rf d) → (rwW (d6_G203 p2) (d6_V0 l) (d6_V1 s) 24 = (fw.take (Int32.toNatClampNeg y6_6)).foldl (fun a9 W9 => (cdF d W9).foldl (addF (ln s)) a9) ws) → pw (L_X9_turnForms_6 G P U V X O kd ln cnt this p0 p1 p2 k39 n6 y6_4 y6_6 d6_G60 d6_G183 d6_G203 d6_P66 d6_P181 d6_P182 d6_U184 d6_V0 d6_V1 d6_V2 d6_V12) (QF_X9_turnForms κ wd la G P U V X O kd ln cnt this p0 p1 p2 nw nx wh pg fi pa pk sz cl rf lo so l s d fw ws) := by
    intro n6
    induction n6 with
    | zero => intros; exact pw_none
    | succ n6 ih6 =>
      intro y6_4 y6_6 d6_G60 d6_G183 d6_G203 d6_P66 d6_P181 d6_P182 d6_U184 d6_V0 d6_V1 d6_V2 d6_V12 hg33 hg34 hg35 hg36 hg37 hg38 hg39 hg40 hRB41 hfr42 hfr43 hfr44 hfr45 hl46 hfr47 hl48 hfr49 hl50 hfr51 hfr52 hfr53 hfr54 hfr55 f56 f57 f58 is6 ik6 io6 ix6 ir6
      replace f57 : id _ := f57
      replace is6 : id _ := is6
      show pw (B_X9_turnForms_6 G P U V X O kd ln cnt this p0 p1 p2 k39 (L_X9_turnForms_6 G P U V X O kd ln cnt this p0 p1 p2 k39 n6) y6_4 y6_6 d6_G60 d6_G183 d6_G203 d6_P66 d6_P181 d6_P182 d6_U184 d6_V0 d6_V1 d6_V2 d6_V12) _
      unfold B_X9_turnForms_6
      have hB6 := (LB_set (LB_set (LB_set hB hl46) hl48) hl50)
      obtain ⟨nw1, nx1, e181, e182, hsw⟩ := is6
      replace hsw : id _ := hsw
      have hg3 := congrArg Int32.toInt io6.2.2
      have hn59 : d6_P181 this = some nw1 := e181
      obtain ⟨_, lt_nw160, lb_nw160⟩ := hl48 this nw1 hn59
      have lb_nw160 : 91 ≤ la nw1 ∧ la nw1 ≤ 92 := by have z9 := lk_181.mp lb_nw160; rw [hlt9] at z9; exact or_bd z9 (by decide)
      have hk_nw1 := ((hg37 this).2 nw1 hn59).1
      have hl1_nw1 := ((hg37 this).2 nw1 hn59).2.1
      have hl2_nw1 := ((hg37 this).2 nw1 hn59).2.2.1
      have hw_nw1 : id _ := ((hg37 this).2 nw1 hn59).2.2.2
      have hz_nw1 : (Int32.ofNat (ln nw1)).toInt = ((ln nw1 : Nat) : Int) := ofN_eq (by first | exact Nat.le_trans hl2_nw1 (by decide) | omega)
      have hn61 : d6_P182 this = some nx1 := e182
      obtain ⟨_, lt_nx162, lb_nx162⟩ := hl50 this nx1 hn61
      have lb_nx162 : 91 ≤ la nx1 ∧ la nx1 ≤ 92 := by have z9 := lk_182.mp lb_nx162; rw [hlt9] at z9; exact or_bd z9 (by decide)
      have hk_nx1 := ((hg38 this).2 nx1 hn61).1
      have hl1_nx1 := ((hg38 this).2 nx1 hn61).2.1
      have hl2_nx1 := ((hg38 this).2 nx1 hn61).2.2.1
      have hw_nx1 : id _ := ((hg38 this).2 nx1 hn61).2.2.2
      have hz_nx1 : (Int32.ofNat (ln nx1)).toInt = ((ln nx1 : Nat) : Int) := ofN_eq (by first | exact Nat.le_trans hl2_nx1 (by decide) | omega)
      refine pw_oc (fun c7 => ?_) (fun b7 c7 => ?_)
      · skip
        exfalso; rw [hp0] at c7; cases c7
      · skip
        have hk_b7 := hk_p0 b7 c7
        have erf : rf = b7 := Option.some.inj (hp0.symm.trans c7)
        have b63 := hg35 p1
        have rb64 := (hRB41 p1 so hk_p1 hn21).1
        refine pw_ite (fun c16 => ?_) (fun c16 => ?_)
        · have c16 := (z_le _ _).mp c16
          refine pw_j12 ek39 (fun x39_4 ex39_4 z39_1 ez39_1 z39_2 ez39_2 z39_3 ez39_3 z39_4 ez39_4 z39_5 ez39_5 z39_6 ez39_6 z39_7 ez39_7 z39_8 ez39_8 z39_9 ez39_9 z39_10 ez39_10 z39_11 ez39_11 => ?_)
          subst ez39_1 ez39_2 ez39_3 ez39_4 ez39_5 ez39_6 ez39_7 ez39_8 ez39_9 ez39_10 ez39_11
          have ex39_4 := ex39_4.symm
          have qq0 : rwW (d6_G203 p2) (d6_V0 l) (d6_V1 s) 24 = fw.foldl (fun a9 W9 => (cdF d W9).foldl (addF (ln s)) a9) ws := by have k6 := clampI (x := y6_6) (by omega); rw [ir6, List.take_of_length_le (by omega)]
          have qq1 : id ((∃ nwb nxb, d6_P181 this = some nwb ∧ d6_P182 this = some nxb ∧ ((nwb = nw ∧ nxb = nx) ∨ (nwb = nx ∧ nxb = nw)))) := show (∃ nwb nxb, d6_P181 this = some nwb ∧ d6_P182 this = some nxb ∧ ((nwb = nw ∧ nxb = nx) ∨ (nwb = nx ∧ nxb = nw))) from by exact ⟨nw1, nx1, e181, e182, hsw⟩
          have qq2 : id ((∀ z, (la z = 94 ∨ la z = 95) → la z ≠ la p2 → d6_V0 z = (V 0) z ∧ d6_V1 z = (V 1) z ∧ d6_G203 z = (G 203) z)) := show (∀ z, (la z = 94 ∨ la z = 95) → la z ≠ la p2 → d6_V0 z = (V 0) z ∧ d6_V1 z = (V 1) z ∧ d6_G203 z = (G 203) z) from by exact ik6
          exact pw_some ⟨qq0, qq1, qq2⟩
        · have c16 := z_nle c16
          have k6 := clampI (x := y6_6) (by omega)
          obtain ⟨Wk, hWk⟩ := get_ex (l := fw) (i := Int32.toNatClampNeg y6_6) (by omega)
          have hpr27_0 : (0 ≤ y6_6.toInt ∧ y6_6.toInt < (d6_G203 p1).toInt) := by first | assumption | omega
          refine pw_b12 (fun r27 c27_G60 c27_G183 c27_G203 c27_P66 c27_P181 c27_P182 c27_U184 c27_V0 c27_V1 c27_V2 c27_V12 hc27 => ?_)
          have hq27 := wp_at (ok_X9_turnWord κ wd (va_up (va_up (va_up G 60 d6_G60) 183 d6_G183) 203 d6_G203) (va_up (va_up (va_up P 66 d6_P66) 181 d6_P181) 182 d6_P182) (va_up U 184 d6_U184) (va_up (va_up (va_up (va_up V 0 d6_V0) 1 d6_V1) 2 d6_V2) 12 d6_V12) X O kd ln cnt this b7 p1 y6_6 p2 hg33 hzG102 hg34 hzG200 hg35 hzP20 hzP21 hzP22 hzP23 hzP61 hzP62 hzP63 hzP64 hzP65 hg36 hzP101 hzP103 hzP104 hzP105 hzP106 hzP108 hzP109 hzP110 hzP180 hg37 hg38 hzP185 hzP201 hzP202 hg39 hg40 hzO0 hzRA hRB41 hzRI hzRM103 hzRM104 hzRM108 hzLN hk_this hk_b7 hk_p1 hk_p2 hpr27_0) hc27
          obtain ⟨hg67, hg68, hg69, hg70, hg71, hg72, hg73, hg74, hRB75, f76⟩ : (rng (0) 30 c27_G60) ∧ (rng (0) 40 c27_G183) ∧ (rng (0) 100 c27_G203) ∧ (PB κ ln wd 4 11 0 2500 0 c27_P66) ∧ (PB κ ln wd 10 100 40 40 0 c27_P181) ∧ (PB κ ln wd 10 100 40 40 0 c27_P182) ∧ (rng2 (0) 24 c27_V1) ∧ (rng2 (0) 24 c27_V2) ∧ (RB κ ln (G 200) c27_G203 (P 202) c27_V1) ∧ (id ((p2 ≠ wd → c27_G203 wd = d6_G203 wd))) := hq27
          have hq27 := pwq (fr_X9_turnWord la (va_up (va_up (va_up G 60 d6_G60) 183 d6_G183) 203 d6_G203) (va_up (va_up (va_up P 66 d6_P66) 181 d6_P181) 182 d6_P182) (va_up U 184 d6_U184) (va_up (va_up (va_up (va_up V 0 d6_V0) 1 d6_V1) 2 d6_V2) 12 d6_V12) X O kd ln cnt this b7 p1 y6_6 p2 (LB_set (LB_set (LB_set hB hl46) hl48) hl50) hlt_this) hc27
          obtain ⟨q27_G60, q27_G183, q27_G203, q27_P66, q27_P181, q27_P182, q27_U184, q27_V0, q27_V1, q27_V2, q27_V12, ql27_66, ql27_181, ql27_182⟩ : (∀ z, (la z < la this ∨ la this + 8 < la z) ∧ (la z < la p2 ∨ la p2 < la z) → c27_G60 z = d6_G60 z) ∧ (∀ z, (la z < la this ∨ la this + 8 < la z) ∧ (la z < la p2 ∨ la p2 < la z) → c27_G183 z = d6_G183 z) ∧ (∀ z, (la z < la this ∨ la this + 8 < la z) ∧ (la z < la p2 ∨ la p2 < la z) → c27_G203 z = d6_G203 z) ∧ (∀ z, (la z < la this ∨ la this + 8 < la z) ∧ (la z < la p2 ∨ la p2 < la z) → c27_P66 z = d6_P66 z) ∧ (∀ z, (la z < la this ∨ la this + 8 < la z) ∧ (la z < la p2 ∨ la p2 < la z) → c27_P181 z = d6_P181 z) ∧ (∀ z, (la z < la this ∨ la this + 8 < la z) ∧ (la z < la p2 ∨ la p2 < la z) → c27_P182 z = d6_P182 z) ∧ (∀ z, (la z < la this ∨ la this + 8 < la z) ∧ (la z < la p2 ∨ la p2 < la z) → c27_U184 z = d6_U184 z) ∧ (∀ z, (la z < la this ∨ la this + 8 < la z) ∧ (la z < la p2 ∨ la p2 < la z) → c27_V0 z = d6_V0 z) ∧ (∀ z, (la z < la this ∨ la this + 8 < la z) ∧ (la z < la p2 ∨ la p2 < la z) → c27_V1 z = d6_V1 z) ∧ (∀ z, (la z < la this ∨ la this + 8 < la z) ∧ (la z < la p2 ∨ la p2 < la z) → c27_V2 z = d6_V2 z) ∧ (∀ z, (la z < la this ∨ la this + 8 < la z) ∧ (la z < la p2 ∨ la p2 < la z) → c27_V12 z = d6_V12 z) ∧ LC 66 la cnt c27_P66 ∧ LC 181 la cnt c27_P181 ∧ LC 182 la cnt c27_P182 := hq27
          have tz27 : ∀ z, ((la z < la this ∨ la this + 8 < la z) ∧ (la z < la p2 ∨ la p2 < la z)) → ((la z < la this ∨ la this + 8 < la z) ∧ (la z < la p2 ∨ la p2 < la z)) := fun z hz => by omega
          have hfr77 : ∀ z, ((la z < la this ∨ la this + 8 < la z) ∧ (la z < la p2 ∨ la p2 < la z)) → c27_G60 z = (G 60) z := fun z hz => (q27_G60 z (tz27 z hz)).trans (hfr42 z hz)
          have hfr78 : ∀ z, ((la z < la this ∨ la this + 8 < la z) ∧ (la z < la p2 ∨ la p2 < la z)) → c27_G183 z = (G 183) z := fun z hz => (q27_G183 z (tz27 z hz)).trans (hfr43 z hz)
          have hfr79 : ∀ z, ((la z < la this ∨ la this + 8 < la z) ∧ (la z < la p2 ∨ la p2 < la z)) → c27_G203 z = (G 203) z := fun z hz => (q27_G203 z (tz27 z hz)).trans (hfr44 z hz)
          have hfr80 : ∀ z, ((la z < la this ∨ la this + 8 < la z) ∧ (la z < la p2 ∨ la p2 < la z)) → c27_P66 z = (P 66) z := fun z hz => (q27_P66 z (tz27 z hz)).trans (hfr45 z hz)
          have hfr81 : ∀ z, ((la z < la this ∨ la this + 8 < la z) ∧ (la z < la p2 ∨ la p2 < la z)) → c27_P181 z = (P 181) z := fun z hz => (q27_P181 z (tz27 z hz)).trans (hfr47 z hz)
          have hfr82 : ∀ z, ((la z < la this ∨ la this + 8 < la z) ∧ (la z < la p2 ∨ la p2 < la z)) → c27_P182 z = (P 182) z := fun z hz => (q27_P182 z (tz27 z hz)).trans (hfr49 z hz)
          have hfr83 : ∀ z, ((la z < la this ∨ la this + 8 < la z) ∧ (la z < la p2 ∨ la p2 < la z)) → c27_U184 z = (U 184) z := fun z hz => (q27_U184 z (tz27 z hz)).trans (hfr51 z hz)
          have hfr84 : ∀ z, ((la z < la this ∨ la this + 8 < la z) ∧ (la z < la p2 ∨ la p2 < la z)) → c27_V0 z = (V 0) z := fun z hz => (q27_V0 z (tz27 z hz)).trans (hfr52 z hz)
          have hfr85 : ∀ z, ((la z < la this ∨ la this + 8 < la z) ∧ (la z < la p2 ∨ la p2 < la z)) → c27_V1 z = (V 1) z := fun z hz => (q27_V1 z (tz27 z hz)).trans (hfr53 z hz)
          have hfr86 : ∀ z, ((la z < la this ∨ la this + 8 < la z) ∧ (la z < la p2 ∨ la p2 < la z)) → c27_V2 z = (V 2) z := fun z hz => (q27_V2 z (tz27 z hz)).trans (hfr54 z hz)
          have hfr87 : ∀ z, ((la z < la this ∨ la this + 8 < la z) ∧ (la z < la p2 ∨ la p2 < la z)) → c27_V12 z = (V 12) z := fun z hz => (q27_V12 z (tz27 z hz)).trans (hfr55 z hz)
          have h827_h181 : d6_P181 this = some (nw1) := by exact e181
          have h827_h182 : d6_P182 this = some (nx1) := by exact e182
          have h827_hnn : (nw1) ≠ (nx1) := by exact sw_nn hsw hnn
          have h827_h185 : (P 185) this = some wh := by exact h185
          have h827_h180 : (P 180) this = some pg := by exact h180
          have h827_hfi : (P 63) pg = some fi := by exact hfi
          have h827_hpa : (P 65) pg = some pa := by exact hpa
          have h827_hpk : (P 62) pg = some pk := by exact hpk
          have h827_hsz : (P 61) pg = some sz := by exact hsz
          have h827_hcl : (P 64) pg = some cl := by exact hcl
          have h827_hlt9 : la this = 90 := by exact hlt9
          have h827_hlo : (P 201) p1 = some lo := by exact hlo
          have h827_hso : (P 202) p1 = some so := by exact hso
          have h827_hwo : ((G 200) p1).toInt = ((24 : Nat) : Int) := by exact hwo
          have h827_hfw : rwW (d6_G203 p1) (d6_V0 lo) (d6_V1 so) 24 = fw := by rw [io6.1, io6.2.1, io6.2.2]; exact hfw
          have h827_hfW : fw[Int32.toNatClampNeg y6_6]? = some (Wk) := by exact hWk
          have h827_hWw : 1 ≤ (Wk).length ∧ (Wk).length ≤ 24 ∧ BW (Wk) := by exact hWw Wk (List.mem_of_getElem? hWk)
          have h827_hl : (P 201) p2 = some l := by exact hl
          have h827_hs : (P 202) p2 = some s := by exact hs
          have h827_hw : ((G 200) p2).toInt = ((24 : Nat) : Int) := by exact hw
          have h827_hws : rwW (d6_G203 p2) (d6_V0 l) (d6_V1 s) 24 = ((fw.take (Int32.toNatClampNeg y6_6)).foldl (fun a9 W9 => (cdF d W9).foldl (addF (ln s)) a9) ws) := by exact ir6
          have h827_hrf : RFX (va_up (va_up (va_up G 60 d6_G60) 183 d6_G183) 203 d6_G203) (va_up (va_up (va_up P 66 d6_P66) 181 d6_P181) 182 d6_P182) (va_up (va_up (va_up (va_up V 0 d6_V0) 1 d6_V1) 2 d6_V2) 12 d6_V12) O ln la cnt b7 d := by rw [← erf]; exact ix6
          have h827_hld : 100000 ≤ la b7 := by rw [← erf]; exact hld
          have h827_hl1 : (la p1 < 90 ∨ 98 < la p1 ∨ la p1 = 94 ∨ la p1 = 95) := by exact hl1
          have h827_hl3 : (la p2 < 90 ∨ 98 < la p2 ∨ la p2 = 94 ∨ la p2 = 95) := by exact hl2
          have h827_hl13 : la p1 ≠ la p2 := by exact hl12
          have h827_hl3d : la p2 < la b7 ∨ la b7 + 5 < la p2 := by rw [← erf]; exact hl2d
          have hx27 := pwq (fn_X9_turnWord κ wd la (va_up (va_up (va_up G 60 d6_G60) 183 d6_G183) 203 d6_G203) (va_up (va_up (va_up P 66 d6_P66) 181 d6_P181) 182 d6_P182) (va_up U 184 d6_U184) (va_up (va_up (va_up (va_up V 0 d6_V0) 1 d6_V1) 2 d6_V2) 12 d6_V12) X O kd ln cnt this b7 p1 y6_6 p2 (nw1) (nx1) (wh) (pg) (fi) (pa) (pk) (sz) (cl) (lo) (so) (l) (s) (d) (fw) ((fw.take (Int32.toNatClampNeg y6_6)).foldl (fun a9 W9 => (cdF d W9).foldl (addF (ln s)) a9) ws) (Wk) hg33 hzG102 hg34 hzG200 hg35 hzP20 hzP21 hzP22 hzP23 hzP61 hzP62 hzP63 hzP64 hzP65 hg36 hzP101 hzP103 hzP104 hzP105 hzP106 hzP108 hzP109 hzP110 hzP180 hg37 hg38 hzP185 hzP201 hzP202 hg39 hg40 hzO0 hzRA hRB41 hzRI hzRM103 hzRM104 hzRM108 hzLN hk_this hk_b7 hk_p1 hk_p2 hpr27_0 (LB_set (LB_set (LB_set hB hl46) hl48) hl50) hlt_this (by omega) hlt_p1 hlt_p2 h827_h181 h827_h182 h827_hnn h827_h185 h827_h180 h827_hfi h827_hpa h827_hpk h827_hsz h827_hcl h827_hlt9 h827_hlo h827_hso h827_hwo h827_hfw h827_hfW h827_hWw h827_hl h827_hs h827_hw h827_hws h827_hrf h827_hld h827_hl1 h827_hl3 h827_hl13 h827_hl3d) hc27
          obtain ⟨p27_0, p27_1, p27_2⟩ : (rwW (c27_G203 p2) (c27_V0 l) (c27_V1 s) 24 = (cdF d (Wk)).foldl (addF (ln s)) ((fw.take (Int32.toNatClampNeg y6_6)).foldl (fun a9 W9 => (cdF d W9).foldl (addF (ln s)) a9) ws)) ∧ (id ((∃ nwb nxb, c27_P181 this = some nwb ∧ c27_P182 this = some nxb ∧ ((nwb = (nw1) ∧ nxb = (nx1)) ∨ (nwb = (nx1) ∧ nxb = (nw1)))))) ∧ (id ((∀ z, (la z = 94 ∨ la z = 95) → la z ≠ la p2 → c27_V0 z = d6_V0 z ∧ c27_V1 z = d6_V1 z ∧ c27_G203 z = d6_G203 z))) := hx27
          clear h827_h181 h827_h182 h827_hnn h827_h185 h827_h180 h827_hfi h827_hpa h827_hpk h827_hsz h827_hcl h827_hlt9 h827_hlo h827_hso h827_hwo h827_hfw h827_hfW h827_hWw h827_hl h827_hs h827_hw h827_hws h827_hrf h827_hld h827_hl1 h827_hl3 h827_hl13 h827_hl3d
          refine pw_vl (fun x31 ex31 => ?_)
          have f88 : (y6_6 + 1).toInt = y6_6.toInt + (1) := z_addc (by decide +kernel) (by omega) (by omega)
          have iv6_0 : (0 ≤ (y6_6 + 1).toInt ∧ (y6_6 + 1).toInt ≤ 100) := by first | omega | assumption | exact (fun _ => rfl) | exact frt (by assumption) (by assumption)
          have iv6_1 : id ((p2 ≠ wd → c27_G203 wd = (G 203) wd)) := show (p2 ≠ wd → c27_G203 wd = (G 203) wd) from by first | assumption | exact (fun _ => rfl) | exact frt (by assumption) (by assumption) | omega
          have iv6_2 : (y6_6 + 1).toInt ≤ ((G 203) p1).toInt := by first | omega | assumption | exact (fun _ => rfl) | exact frt (by assumption) (by assumption)
          have iv6_3 : id ((∃ nw1 nx1, c27_P181 this = some nw1 ∧ c27_P182 this = some nx1 ∧ ((nw1 = nw ∧ nx1 = nx) ∨ (nw1 = nx ∧ nx1 = nw)))) := show (∃ nw1 nx1, c27_P181 this = some nw1 ∧ c27_P182 this = some nx1 ∧ ((nw1 = nw ∧ nx1 = nx) ∨ (nw1 = nx ∧ nx1 = nw))) from by obtain ⟨nw2, nx2, b1, b2, b3⟩ := p27_1; exact ⟨nw2, nx2, b1, b2, sw_tr b3 hsw⟩
          have iv6_4 : (∀ z, (la z = 94 ∨ la z = 95) → la z ≠ la p2 → c27_V0 z = (V 0) z ∧ c27_V1 z = (V 1) z ∧ c27_G203 z = (G 203) z) := by intro z h1 h2; obtain ⟨a1, a2, a3⟩ := p27_2 z h1 h2; obtain ⟨b1, b2, b3⟩ := ik6 z h1 h2; exact ⟨a1.trans b1, a2.trans b2, a3.trans b3⟩
          have iv6_5 : (c27_V0 lo = (V 0) lo ∧ c27_V1 so = (V 1) so ∧ c27_G203 p1 = (G 203) p1) := by have o1 : (la p1 < 90 ∨ 98 < la p1 ∨ la p1 = 94 ∨ la p1 = 95) := hl1; have o12 : la p1 ≠ la p2 := hl12; obtain ⟨b1, b2, b3⟩ := io6; by_cases q9 : la p1 = 94 ∨ la p1 = 95; (exact ⟨((p27_2 lo (by omega) (by omega)).1).trans b1, ((p27_2 so (by omega) (by omega)).2.1).trans b2, ((p27_2 p1 (by omega) (by omega)).2.2).trans b3⟩); (exact ⟨(q27_V0 lo (by omega)).trans b1, (q27_V1 so (by omega)).trans b2, (q27_G203 p1 (by omega)).trans b3⟩)
          have iv6_6 : (RFX (va_up (va_up (va_up (va_up (va_up (va_up G 60 d6_G60) 183 d6_G183) 203 d6_G203) 60 c27_G60) 183 c27_G183) 203 c27_G203) (va_up (va_up (va_up (va_up (va_up (va_up P 66 d6_P66) 181 d6_P181) 182 d6_P182) 66 c27_P66) 181 c27_P181) 182 c27_P182) (va_up (va_up (va_up (va_up (va_up (va_up (va_up (va_up V 0 d6_V0) 1 d6_V1) 2 d6_V2) 12 d6_V12) 0 c27_V0) 1 c27_V1) 2 c27_V2) 12 c27_V12) O ln la cnt rf d) := by refine RFX_fr ix6 hB6 hrl (fun z hz h1 h2 => ?_) (Nat.le_refl _) (fun _ _ => rfl); have h7 : (la z < la this ∨ la this + 8 < la z) ∧ (la z < la p2 ∨ la p2 < la z) := (by have o2 : la p2 < la rf ∨ la rf + 5 < la p2 := hl2d; omega); exact ⟨rfl, rfl, rfl, rfl, q27_G203 z h7, rfl, rfl, rfl, rfl, rfl, rfl, rfl, rfl, rfl, rfl, rfl, rfl, rfl, q27_V0 z h7, q27_V1 z h7, rfl, rfl, rfl, rfl, rfl, rfl⟩
          have iv6_7 : (rwW (c27_G203 p2) (c27_V0 l) (c27_V1 s) 24 = (fw.take (Int32.toNatClampNeg (y6_6 + 1))).foldl (fun a9 W9 => (cdF d W9).foldl (addF (ln s)) a9) ws) := by have k7 := clampI (x := y6_6 + 1) (by omega); rw [show Int32.toNatClampNeg (y6_6 + 1) = Int32.toNatClampNeg y6_6 + 1 by omega, take_s hWk, List.foldl_append]; exact p27_0
          exact ih6 x31 (y6_6 + 1) c27_G60 c27_G183 c27_G203 c27_P66 c27_P181 c27_P182 c27_U184 c27_V0 c27_V1 c27_V2 c27_V12 hg67 hg68 hg69 hg70 hg71 hg72 hg73 hg74 hRB75 hfr77 hfr78 hfr79 hfr80 ql27_66 hfr81 ql27_181 hfr82 ql27_182 hfr83 hfr84 hfr85 hfr86 hfr87 iv6_0 iv6_1 iv6_2 iv6_3 iv6_4 iv6_5 iv6_6 iv6_7
  exact lp6 NN 0 (0 : Int32) (G 60) (G 183) (G 203) (P 66) (P 181) (P 182) (U 184) (V 0) (V 1) (V 2) (V 12) hzG60 hzG183 hzG203 hzP66 hzP181 hzP182 hzV1 hzV2 hzRB (fun _ _ => rfl) (fun _ _ => rfl) (fun _ _ => rfl) (fun _ _ => rfl) (hB.1 66 fl_66) (fun _ _ => rfl) (hB.1 181 fl_181) (fun _ _ => rfl) (hB.1 182 fl_182) (fun _ _ => rfl) (fun _ _ => rfl) (fun _ _ => rfl) (fun _ _ => rfl) (fun _ _ => rfl) (show (0 ≤ (0 : Int32).toInt ∧ (0 : Int32).toInt ≤ 100) from by first | omega | assumption | exact (fun _ => rfl) | exact frt (by assumption) (by assumption)) (show (p2 ≠ wd → (G 203) wd = (G 203) wd) from by first | assumption | exact (fun _ => rfl) | exact frt (by assumption) (by assumption) | omega) (show (0 : Int32).toInt ≤ ((G 203) p1).toInt from by first | omega | assumption | exact (fun _ => rfl) | exact frt (by assumption) (by assumption)) (show (∃ nw1 nx1, (P 181) this = some nw1 ∧ (P 182) this = some nx1 ∧ ((nw1 = nw ∧ nx1 = nx) ∨ (nw1 = nx ∧ nx1 = nw))) from by exact ⟨nw, nx, h181, h182, Or.inl ⟨rfl, rfl⟩⟩) (show (∀ z, (la z = 94 ∨ la z = 95) → la z ≠ la p2 → (V 0) z = (V 0) z ∧ (V 1) z = (V 1) z ∧ (G 203) z = (G 203) z) from by exact fun _ _ _ => ⟨rfl, rfl, rfl⟩) (show ((V 0) lo = (V 0) lo ∧ (V 1) so = (V 1) so ∧ (G 203) p1 = (G 203) p1) from by exact ⟨rfl, rfl, rfl⟩) (show (RFX G P V O ln la cnt rf d) from by exact hrf) (show (rwW ((G 203) p2) ((V 0) l) ((V 1) s) 24 = (fw.take (Int32.toNatClampNeg (0 : Int32))).foldl (fun a9 W9 => (cdF d W9).foldl (addF (ln s)) a9) ws) from by rw [show Int32.toNatClampNeg (0 : Int32) = 0 from rfl]; exact hws)
