abbrev QF_X11_write (κ : Nat → Nat) (wd : Nat) (la : Nat → Nat) (G : Nat → Nat → Int32) (P : Nat → Nat → Option Nat) (U : Nat → Nat → Int64) (V : Nat → Nat → Nat → Int32) (X : Nat → Nat → Nat → Int64) (O : Nat → Nat → Nat → Option Nat) (kd : Nat → Nat) (ln : Nat → Nat) (cnt : Nat) (this : Nat) (p0 : Int32) (p1 : Int32) (f : Nat → Int32) (n : Nat) (tp : Nat) (tb : Nat) (ra : Nat) (tn : Nat) (nw : Nat) (nx : Nat) (wh : Nat) (pg : Nat) (fi : Nat) (pa : Nat) (pk : Nat) (sz : Nat) (cl : Nat) (ah : Nat) (bh : Nat) (lah : Nat) (sah : Nat) (lbh : Nat) (sbh : Nat) (tw : Nat) (sc : Nat) (tl : Nat) (pv : Nat) (tt : Nat) (tv : Nat) (d : Nat → Dr) : (Int32 × (Nat → Int32) × (Nat → Int32) × (Nat → Int32) × (Nat → Int32) × (Nat → Int32) × (Nat → Int32) × (Nat → Int32) × (Nat → Int32) × (Nat → Int32) × (Nat → Int32) × (Nat → Int32) × (Nat → Int32) × (Nat → Int32) × (Nat → Int32) × (Nat → Int32) × (Nat → Int32) × (Nat → Option Nat) × (Nat → Option Nat) × (Nat → Option Nat) × (Nat → Option Nat) × (Nat → Option Nat) × (Nat → Option Nat) × (Nat → Option Nat) × (Nat → Option Nat) × (Nat → Option Nat) × (Nat → Option Nat) × (Nat → Int64) × (Nat → Nat → Int32) × (Nat → Nat → Int32) × (Nat → Nat → Int32) × (Nat → Nat → Int32) × (Nat → Nat → Int32)) → Prop := (fun t => ((¬ (0 ≤ p0.toInt ∧ p0.toInt ≤ p1.toInt ∧ p1.toInt ≤ ((G 222) this).toInt) → (t.1).toInt = -2 ∧ (t.2.2.2.2.2.2.2.2.2.2.2.2.2.2.2.2.2.2.1) sc = some tl ∧ (t.2.2.2.2.2.2.2.2.2.2.2.2.2.2.2.2.2.2.2.1) sc = some pv ∧ (t.2.2.2.2.2.2.2.2.2.2.2.2.2.2.2.2.2.2.2.2.1) sc = some tt ∧ (t.2.2.2.2.2.2.2.2.2.2.2.2.2.2.2.2.2.2.2.2.2.1) sc = some tv ∧ (t.2.2.1) sc = (G 124) sc ∧ (t.2.2.2.1) sc = (G 125) sc ∧ (t.2.2.2.2.2.2.2.2.2.2.2.2.2.2.2.2.2.2.2.2.2.2.2.2.2.2.2.2.1) tl = (V 0) tl ∧ (t.2.2.2.2.2.2.2.2.2.2.2.2.2.2.2.2.2.2.2.2.2.2.2.2.2.2.2.2.2.2.2.1) tt = (V 6) tt)) ∧ (((0 ≤ p0.toInt ∧ p0.toInt ≤ p1.toInt ∧ p1.toInt ≤ ((G 222) this).toInt) → ¬ (NZR f n ∧ (wcR f n d (Int32.toNatClampNeg p0) (Int32.toNatClampNeg p1 - Int32.toNatClampNeg p0) 0 false ([], tz0)).1.length ≤ 2500) → (t.1).toInt = -1 ∧ (t.2.2.2.2.2.2.2.2.2.2.2.2.2.2.2.2.2.2.1) sc = some tl ∧ (t.2.2.2.2.2.2.2.2.2.2.2.2.2.2.2.2.2.2.2.1) sc = some pv ∧ (t.2.2.2.2.2.2.2.2.2.2.2.2.2.2.2.2.2.2.2.2.1) sc = some tt ∧ (t.2.2.2.2.2.2.2.2.2.2.2.2.2.2.2.2.2.2.2.2.2.1) sc = some tv ∧ (t.2.2.1) sc = (G 124) sc ∧ (t.2.2.2.1) sc = (G 125) sc ∧ (t.2.2.2.2.2.2.2.2.2.2.2.2.2.2.2.2.2.2.2.2.2.2.2.2.2.2.2.2.1) tl = (V 0) tl ∧ (t.2.2.2.2.2.2.2.2.2.2.2.2.2.2.2.2.2.2.2.2.2.2.2.2.2.2.2.2.2.2.2.1) tt = (V 6) tt)) ∧ (((0 ≤ p0.toInt ∧ p0.toInt ≤ p1.toInt ∧ p1.toInt ≤ ((G 222) this).toInt) → NZR f n → (wcR f n d (Int32.toNatClampNeg p0) (Int32.toNatClampNeg p1 - Int32.toNatClampNeg p0) 0 false ([], tz0)).1.length ≤ 2500 → (t.1).toInt = (((wcR f n d (Int32.toNatClampNeg p0) (Int32.toNatClampNeg p1 - Int32.toNatClampNeg p0) 0 false ([], tz0)).1.length : Nat) : Int) ∧ (t.2.2.2.2.2.2.2.2.2.2.2.2.2.2.2.2.2.2.1) sc = some pv ∧ (t.2.2.2.2.2.2.2.2.2.2.2.2.2.2.2.2.2.2.2.1) sc = some tl ∧ (t.2.2.2.2.2.2.2.2.2.2.2.2.2.2.2.2.2.2.2.2.1) sc = some tv ∧ (t.2.2.2.2.2.2.2.2.2.2.2.2.2.2.2.2.2.2.2.2.2.1) sc = some tt ∧ ((t.2.2.1) sc).toInt ≠ 0 ∧ (t.2.2.2.1) sc = (t.1) ∧ wdl ((t.2.2.2.2.2.2.2.2.2.2.2.2.2.2.2.2.2.2.2.2.2.2.2.2.2.2.2.2.1) pv) 0 (Int32.toNatClampNeg ((t.2.2.2.1) sc)) = (wcR f n d (Int32.toNatClampNeg p0) (Int32.toNatClampNeg p1 - Int32.toNatClampNeg p0) 0 false ([], tz0)).1 ∧ TYA ((t.2.2.2.2.2.2.2.2.2.2.2.2.2.2.2.2.2.2.2.2.2.2.2.2.2.2.2.2.2.2.2.1) tv) (wcR f n d (Int32.toNatClampNeg p0) (Int32.toNatClampNeg p1 - Int32.toNatClampNeg p0) 0 false ([], tz0)).2)) ∧ ((∃ nwb nxb, (t.2.2.2.2.2.2.2.2.2.2.2.2.2.2.2.2.2.2.2.2.2.2.2.1) tn = some nwb ∧ (t.2.2.2.2.2.2.2.2.2.2.2.2.2.2.2.2.2.2.2.2.2.2.2.2.1) tn = some nxb ∧ ((nwb = nw ∧ nxb = nx) ∨ (nwb = nx ∧ nxb = nw)))) ∧ ((∃ ahb bhb, (t.2.2.2.2.2.2.2.2.2.2.2.2.2.2.2.2.2.2.2.2.2.2.2.2.2.1) tn = some ahb ∧ (t.2.2.2.2.2.2.2.2.2.2.2.2.2.2.2.2.2.2.2.2.2.2.2.2.2.2.1) tn = some bhb ∧ ((ahb = ah ∧ bhb = bh) ∨ (ahb = bh ∧ bhb = ah)))))
set_option maxHeartbeats 4000000 in
set_option maxRecDepth 100000 in
theorem fn_X11_write (κ : Nat → Nat) (wd : Nat) (la : Nat → Nat) (G : Nat → Nat → Int32) (P : Nat → Nat → Option Nat) (U : Nat → Nat → Int64) (V : Nat → Nat → Nat → Int32) (X : Nat → Nat → Nat → Int64) (O : Nat → Nat → Nat → Option Nat) (kd : Nat → Nat) (ln : Nat → Nat) (cnt : Nat) (this : Nat) (p0 : Int32) (p1 : Int32) (f : Nat → Int32) (n : Nat) (tp : Nat) (tb : Nat) (ra : Nat) (tn : Nat) (nw : Nat) (nx : Nat) (wh : Nat) (pg : Nat) (fi : Nat) (pa : Nat) (pk : Nat) (sz : Nat) (cl : Nat) (ah : Nat) (bh : Nat) (lah : Nat) (sah : Nat) (lbh : Nat) (sbh : Nat) (tw : Nat) (sc : Nat) (tl : Nat) (pv : Nat) (tt : Nat) (tv : Nat) (d : Nat → Dr) (hzG60 : rng (0) 30 (G 60)) (hzG102 : rng (0) 40 (G 102)) (hzG125 : rng (0) 2500 (G 125)) (hzG126 : rng (0) 2500 (G 126)) (hzG127 : rng (0) 2000 (G 127)) (hzG141 : rng (0) 2000 (G 141)) (hzG160 : rng (0) 2000 (G 160)) (hzG161 : rng (0) 2000 (G 161)) (hzG162 : rng (0) 2000 (G 162)) (hzG165 : rng (0) 2000 (G 165)) (hzG166 : rng (0) 2000 (G 166)) (hzG183 : rng (0) 40 (G 183)) (hzG200 : rng (0) 24 (G 200)) (hzG203 : rng (0) 100 (G 203)) (hzG222 : rng (0) 6 (G 222)) (hzP20 : PB κ ln wd 2 100 0 16 0 (P 20)) (hzP21 : PB κ ln wd 2 100 0 16 0 (P 21)) (hzP22 : PB κ ln wd 2 100 0 16 0 (P 22)) (hzP23 : PB κ ln wd 2 100 0 16 0 (P 23)) (hzP61 : PB κ ln wd 4 102 30 30 0 (P 61)) (hzP62 : PB κ ln wd 4 100 720 720 0 (P 62)) (hzP63 : PB κ ln wd 4 100 408 408 0 (P 63)) (hzP64 : PB κ ln wd 4 112 25 25 0 (P 64)) (hzP65 : PB κ ln wd 4 100 24 24 0 (P 65)) (hzP66 : PB κ ln wd 4 11 0 2500 0 (P 66)) (hzP101 : PB κ ln wd 6 300 40 40 0 (P 101)) (hzP103 : PB κ ln wd 6 11 0 2500 1 (P 103)) (hzP104 : PB κ ln wd 6 11 0 2500 1 (P 104)) (hzP105 : PB κ ln wd 6 11 0 2500 1 (P 105)) (hzP106 : PB κ ln wd 6 110 40 40 0 (P 106)) (hzP108 : PB κ ln wd 6 11 0 2500 1 (P 108)) (hzP109 : PB κ ln wd 6 111 40 40 0 (P 109)) (hzP110 : PB κ ln wd 6 200 40 40 0 (P 110)) (hzP120 : PB κ ln wd 7 100 2500 2500 0 (P 120)) (hzP121 : PB κ ln wd 7 100 2500 2500 0 (P 121)) (hzP122 : PB κ ln wd 7 106 5 5 0 (P 122)) (hzP123 : PB κ ln wd 7 106 5 5 0 (P 123)) (hzP140 : PB κ ln wd 8 100 2000 2000 0 (P 140)) (hzP164 : PB κ ln wd 9 100 0 2000 0 (P 164)) (hzP180 : PB κ ln wd 10 4 0 2500 0 (P 180)) (hzP181 : PB κ ln wd 10 100 40 40 0 (P 181)) (hzP182 : PB κ ln wd 10 100 40 40 0 (P 182)) (hzP185 : PB κ ln wd 10 100 24 24 0 (P 185)) (hzP186 : PB κ ln wd 10 11 0 2500 1 (P 186)) (hzP187 : PB κ ln wd 10 11 0 2500 1 (P 187)) (hzP201 : PB κ ln wd 11 100 0 2400 0 (P 201)) (hzP202 : PB κ ln wd 11 101 0 100 0 (P 202)) (hzP220 : PB κ ln wd 12 8 0 2500 0 (P 220)) (hzP221 : PB κ ln wd 12 302 6 6 0 (P 221)) (hzP226 : PB κ ln wd 12 10 0 2500 0 (P 226)) (hzP234 : PB κ ln wd 12 9 0 2500 0 (P 234)) (hzP235 : PB κ ln wd 12 7 0 2500 0 (P 235)) (hzV1 : rng2 (0) 24 (V 1)) (hzV2 : rng2 (0) 24 (V 2)) (hzV3 : rng2 (0) 100 (V 3)) (hzO0 : OB κ 2 (O 0)) (hzO2 : OB κ 6 (O 2)) (hzRA : RA κ ln (G 200) (P 201) (P 202)) (hzRB : RB κ ln (G 200) (G 203) (P 202) (V 1)) (hzRI : RI (P 202)) (hzRM103 : RM ln 40 (P 103) (P 202)) (hzRM104 : RM ln 40 (P 104) (P 202)) (hzRM108 : RM ln 40 (P 108) (P 202)) (hzLN : LN κ ln) (hzFL : FL wd (G 203) (V 3)) (hk_this : κ this = 12) (hB : LB la cnt P) (hlt_this : this < cnt) (h220 : (P 220) this = some tp) (h140 : (P 140) tp = some tb) (h221 : (P 221) this = some ra) (hf : (V 0) tb = f) (hn : Int32.toNatClampNeg ((G 141) tp) = n) (h226 : (P 226) this = some tn) (h181 : (P 181) tn = some nw) (h182 : (P 182) tn = some nx) (hnn : nw ≠ nx) (h185 : (P 185) tn = some wh) (h180 : (P 180) tn = some pg) (hfi : (P 63) pg = some fi) (hpa : (P 65) pg = some pa) (hpk : (P 62) pg = some pk) (hsz : (P 61) pg = some sz) (hcl : (P 64) pg = some cl) (hlt9 : la tn = 90) (h186 : (P 186) tn = some ah) (h187 : (P 187) tn = some bh) (hxa : (P 201) ah = some lah) (hya : (P 202) ah = some sah) (hxb : (P 201) bh = some lbh) (hyb : (P 202) bh = some sbh) (hga : ((G 200) ah).toInt = ((24 : Nat) : Int)) (hgb : ((G 200) bh).toInt = ((24 : Nat) : Int)) (hna : ln sah = 12) (hnb : ln sbh = 12) (hab : (la ah = 94 ∧ la bh = 95) ∨ (la ah = 95 ∧ la bh = 94)) (h234 : (P 234) this = some tw) (h235 : (P 235) this = some sc) (h120 : (P 120) sc = some tl) (h121 : (P 121) sc = some pv) (h122 : (P 122) sc = some tt) (h123 : (P 123) sc = some tv) (hdt : tl ≠ pv) (hdy : tt ≠ tv) (hlr6 : ln ra = 6) (hfit : ∀ i, fits .byte (.int (f i)) = true) (hrf : ∀ q, q < Int32.toNatClampNeg ((G 222) this) → ∃ rf, (O 2) ra q = some rf ∧ rf < cnt ∧ 100000 ≤ la rf ∧ RFX G P V O ln la cnt rf (d q)) : pw (f_X11_write G P U V X O kd ln cnt this p0 p1) (QF_X11_write κ wd la G P U V X O kd ln cnt this p0 p1 f n tp tb ra tn nw nx wh pg fi pa pk sz cl ah bh lah sah lbh sbh tw sc tl pv tt tv d) := by
  unfold f_X11_write
  have zkm2 : (-2 : Int32).toInt = -2 := by decide +kernel
  have zkm1 : (-1 : Int32).toInt = -1 := by decide +kernel
  have zk0 : (0 : Int32).toInt = 0 := by decide +kernel
  have zk24 : (24 : Int32).toInt = 24 := by decide +kernel
  have r_p0 := i32r p0
  have r_p1 := i32r p1
  replace hnn : id _ := hnn
  have hn1 : (P 220) this = some tp := h220
  have lt_tp2 := ((hB.1 220 fl_220) this tp hn1).2.1
  have lb_tp2 : la tp = 10 := lk_220.mp ((hB.1 220 fl_220) this tp hn1).2.2
  have hk_tp := ((hzP220 this).2 tp hn1).1
  have hl1_tp := ((hzP220 this).2 tp hn1).2.1
  have hl2_tp := ((hzP220 this).2 tp hn1).2.2.1
  have hw_tp : id _ := ((hzP220 this).2 tp hn1).2.2.2
  have hn3 : (P 140) tp = some tb := h140
  obtain ⟨_, lt_tb4, lb_tb4⟩ := (hB.1 140 fl_140) tp tb hn3
  have lb_tb4 : la tb = 11 := (lk_140.mp lb_tb4).trans (congrArg (fun z9 => z9 + 1) lb_tp2)
  have hk_tb := ((hzP140 tp).2 tb hn3).1
  have hl1_tb := ((hzP140 tp).2 tb hn3).2.1
  have hl2_tb := ((hzP140 tp).2 tb hn3).2.2.1
  have hw_tb : id _ := ((hzP140 tp).2 tb hn3).2.2.2
  have hz_tb : (Int32.ofNat (ln tb)).toInt = ((ln tb : Nat) : Int) := ofN_eq (by first | exact Nat.le_trans hl2_tb (by decide) | omega)
  have hn5 : (P 221) this = some ra := h221
  have lt_ra6 := ((hB.1 221 fl_221) this ra hn5).2.1
  have lb_ra6 : la ra = la this + 3 := lk_221.mp ((hB.1 221 fl_221) this ra hn5).2.2
  have hk_ra := ((hzP221 this).2 ra hn5).1
  have hl1_ra := ((hzP221 this).2 ra hn5).2.1
  have hl2_ra := ((hzP221 this).2 ra hn5).2.2.1
  have hw_ra : id _ := ((hzP221 this).2 ra hn5).2.2.2
  have hz_ra : (Int32.ofNat (ln ra)).toInt = ((ln ra : Nat) : Int) := ofN_eq (by first | exact Nat.le_trans hl2_ra (by decide) | omega)
  have hn7 : (P 226) this = some tn := h226
  have lt_tn8 := ((hB.1 226 fl_226) this tn hn7).2.1
  have lb_tn8 : la tn = 90 := lk_226.mp ((hB.1 226 fl_226) this tn hn7).2.2
  have hk_tn := ((hzP226 this).2 tn hn7).1
  have hl1_tn := ((hzP226 this).2 tn hn7).2.1
  have hl2_tn := ((hzP226 this).2 tn hn7).2.2.1
  have hw_tn : id _ := ((hzP226 this).2 tn hn7).2.2.2
  have hn9 : (P 181) tn = some nw := h181
  obtain ⟨_, lt_nw10, lb_nw10⟩ := (hB.1 181 fl_181) tn nw hn9
  have lb_nw10 : 91 ≤ la nw ∧ la nw ≤ 92 := by have z9 := lk_181.mp lb_nw10; rw [lb_tn8] at z9; exact or_bd z9 (by decide)
  have hk_nw := ((hzP181 tn).2 nw hn9).1
  have hl1_nw := ((hzP181 tn).2 nw hn9).2.1
  have hl2_nw := ((hzP181 tn).2 nw hn9).2.2.1
  have hw_nw : id _ := ((hzP181 tn).2 nw hn9).2.2.2
  have hz_nw : (Int32.ofNat (ln nw)).toInt = ((ln nw : Nat) : Int) := ofN_eq (by first | exact Nat.le_trans hl2_nw (by decide) | omega)
  have hn11 : (P 182) tn = some nx := h182
  obtain ⟨_, lt_nx12, lb_nx12⟩ := (hB.1 182 fl_182) tn nx hn11
  have lb_nx12 : 91 ≤ la nx ∧ la nx ≤ 92 := by have z9 := lk_182.mp lb_nx12; rw [lb_tn8] at z9; exact or_bd z9 (by decide)
  have hk_nx := ((hzP182 tn).2 nx hn11).1
  have hl1_nx := ((hzP182 tn).2 nx hn11).2.1
  have hl2_nx := ((hzP182 tn).2 nx hn11).2.2.1
  have hw_nx : id _ := ((hzP182 tn).2 nx hn11).2.2.2
  have hz_nx : (Int32.ofNat (ln nx)).toInt = ((ln nx : Nat) : Int) := ofN_eq (by first | exact Nat.le_trans hl2_nx (by decide) | omega)
  have hn13 : (P 185) tn = some wh := h185
  obtain ⟨_, lt_wh14, lb_wh14⟩ := (hB.1 185 fl_185) tn wh hn13
  have lb_wh14 : la wh = 93 := (lk_185.mp lb_wh14).trans (congrArg (fun z9 => z9 + 3) lb_tn8)
  have hk_wh := ((hzP185 tn).2 wh hn13).1
  have hl1_wh := ((hzP185 tn).2 wh hn13).2.1
  have hl2_wh := ((hzP185 tn).2 wh hn13).2.2.1
  have hw_wh : id _ := ((hzP185 tn).2 wh hn13).2.2.2
  have hz_wh : (Int32.ofNat (ln wh)).toInt = ((ln wh : Nat) : Int) := ofN_eq (by first | exact Nat.le_trans hl2_wh (by decide) | omega)
  have hn15 : (P 180) tn = some pg := h180
  obtain ⟨_, lt_pg16, lb_pg16⟩ := (hB.1 180 fl_180) tn pg hn15
  have lb_pg16 : la pg = 96 := (lk_180.mp lb_pg16).trans (congrArg (fun z9 => z9 + 6) lb_tn8)
  have hk_pg := ((hzP180 tn).2 pg hn15).1
  have hl1_pg := ((hzP180 tn).2 pg hn15).2.1
  have hl2_pg := ((hzP180 tn).2 pg hn15).2.2.1
  have hw_pg : id _ := ((hzP180 tn).2 pg hn15).2.2.2
  have hn17 : (P 63) pg = some fi := hfi
  obtain ⟨_, lt_fi18, lb_fi18⟩ := (hB.1 63 fl_63) pg fi hn17
  have lb_fi18 : la fi = 97 := (lk_63.mp lb_fi18).trans (congrArg (fun z9 => z9 + 1) lb_pg16)
  have hk_fi := ((hzP63 pg).2 fi hn17).1
  have hl1_fi := ((hzP63 pg).2 fi hn17).2.1
  have hl2_fi := ((hzP63 pg).2 fi hn17).2.2.1
  have hw_fi : id _ := ((hzP63 pg).2 fi hn17).2.2.2
  have hz_fi : (Int32.ofNat (ln fi)).toInt = ((ln fi : Nat) : Int) := ofN_eq (by first | exact Nat.le_trans hl2_fi (by decide) | omega)
  have hn19 : (P 65) pg = some pa := hpa
  obtain ⟨_, lt_pa20, lb_pa20⟩ := (hB.1 65 fl_65) pg pa hn19
  have lb_pa20 : la pa = 98 := (lk_65.mp lb_pa20).trans (congrArg (fun z9 => z9 + 2) lb_pg16)
  have hk_pa := ((hzP65 pg).2 pa hn19).1
  have hl1_pa := ((hzP65 pg).2 pa hn19).2.1
  have hl2_pa := ((hzP65 pg).2 pa hn19).2.2.1
  have hw_pa : id _ := ((hzP65 pg).2 pa hn19).2.2.2
  have hz_pa : (Int32.ofNat (ln pa)).toInt = ((ln pa : Nat) : Int) := ofN_eq (by first | exact Nat.le_trans hl2_pa (by decide) | omega)
  have hn21 : (P 62) pg = some pk := hpk
  obtain ⟨_, lt_pk22, lb_pk22⟩ := (hB.1 62 fl_62) pg pk hn21
  have lb_pk22 : la pk = 96 := (lk_62.mp lb_pk22).trans (congrArg (fun z9 => z9 + 0) lb_pg16)
  have hk_pk := ((hzP62 pg).2 pk hn21).1
  have hl1_pk := ((hzP62 pg).2 pk hn21).2.1
  have hl2_pk := ((hzP62 pg).2 pk hn21).2.2.1
  have hw_pk : id _ := ((hzP62 pg).2 pk hn21).2.2.2
  have hz_pk : (Int32.ofNat (ln pk)).toInt = ((ln pk : Nat) : Int) := ofN_eq (by first | exact Nat.le_trans hl2_pk (by decide) | omega)
  have hn23 : (P 61) pg = some sz := hsz
  obtain ⟨_, lt_sz24, lb_sz24⟩ := (hB.1 61 fl_61) pg sz hn23
  have lb_sz24 : la sz = 96 := (lk_61.mp lb_sz24).trans (congrArg (fun z9 => z9 + 0) lb_pg16)
  have hk_sz := ((hzP61 pg).2 sz hn23).1
  have hl1_sz := ((hzP61 pg).2 sz hn23).2.1
  have hl2_sz := ((hzP61 pg).2 sz hn23).2.2.1
  have hw_sz : id _ := ((hzP61 pg).2 sz hn23).2.2.2
  have hz_sz : (Int32.ofNat (ln sz)).toInt = ((ln sz : Nat) : Int) := ofN_eq (by first | exact Nat.le_trans hl2_sz (by decide) | omega)
  have hn25 : (P 64) pg = some cl := hcl
  obtain ⟨_, lt_cl26, lb_cl26⟩ := (hB.1 64 fl_64) pg cl hn25
  have lb_cl26 : la cl = 96 := (lk_64.mp lb_cl26).trans (congrArg (fun z9 => z9 + 0) lb_pg16)
  have hk_cl := ((hzP64 pg).2 cl hn25).1
  have hl1_cl := ((hzP64 pg).2 cl hn25).2.1
  have hl2_cl := ((hzP64 pg).2 cl hn25).2.2.1
  have hw_cl : id _ := ((hzP64 pg).2 cl hn25).2.2.2
  have hz_cl : (Int32.ofNat (ln cl)).toInt = ((ln cl : Nat) : Int) := ofN_eq (by first | exact Nat.le_trans hl2_cl (by decide) | omega)
  have hn27 : (P 186) tn = some ah := h186
  obtain ⟨_, lt_ah28, lb_ah28⟩ := (hB.1 186 fl_186) tn ah hn27
  have lb_ah28 : 94 ≤ la ah ∧ la ah ≤ 95 := by have z9 := lk_186.mp lb_ah28; rw [lb_tn8] at z9; exact or_bd z9 (by decide)
  have hk_ah := ((hzP186 tn).2 ah hn27).1
  have hl1_ah := ((hzP186 tn).2 ah hn27).2.1
  have hl2_ah := ((hzP186 tn).2 ah hn27).2.2.1
  have hw_ah : id _ := ((hzP186 tn).2 ah hn27).2.2.2
  have hn29 : (P 187) tn = some bh := h187
  obtain ⟨_, lt_bh30, lb_bh30⟩ := (hB.1 187 fl_187) tn bh hn29
  have lb_bh30 : 94 ≤ la bh ∧ la bh ≤ 95 := by have z9 := lk_187.mp lb_bh30; rw [lb_tn8] at z9; exact or_bd z9 (by decide)
  have hk_bh := ((hzP187 tn).2 bh hn29).1
  have hl1_bh := ((hzP187 tn).2 bh hn29).2.1
  have hl2_bh := ((hzP187 tn).2 bh hn29).2.2.1
  have hw_bh : id _ := ((hzP187 tn).2 bh hn29).2.2.2
  have hn31 : (P 201) ah = some lah := hxa
  have lt_lah32 := ((hB.1 201 fl_201) ah lah hn31).2.1
  have lb_lah32 : la lah = la ah + 0 := lk_201.mp ((hB.1 201 fl_201) ah lah hn31).2.2
  have hk_lah := ((hzP201 ah).2 lah hn31).1
  have hl1_lah := ((hzP201 ah).2 lah hn31).2.1
  have hl2_lah := ((hzP201 ah).2 lah hn31).2.2.1
  have hw_lah : id _ := ((hzP201 ah).2 lah hn31).2.2.2
  have hz_lah : (Int32.ofNat (ln lah)).toInt = ((ln lah : Nat) : Int) := ofN_eq (by first | exact Nat.le_trans hl2_lah (by decide) | omega)
  have hn33 : (P 202) ah = some sah := hya
  have lt_sah34 := ((hB.1 202 fl_202) ah sah hn33).2.1
  have lb_sah34 : la sah = la ah + 0 := lk_202.mp ((hB.1 202 fl_202) ah sah hn33).2.2
  have hk_sah := ((hzP202 ah).2 sah hn33).1
  have hl1_sah := ((hzP202 ah).2 sah hn33).2.1
  have hl2_sah := ((hzP202 ah).2 sah hn33).2.2.1
  have hw_sah : id _ := ((hzP202 ah).2 sah hn33).2.2.2
  have hz_sah : (Int32.ofNat (ln sah)).toInt = ((ln sah : Nat) : Int) := ofN_eq (by first | exact Nat.le_trans hl2_sah (by decide) | omega)
  have rb35 := (hzRB ah sah hk_ah hn33).1
  have ra36 := hzRA ah lah sah hk_ah hn31 hn33
  have bw37 := hzG200 ah
  have hn38 : (P 201) bh = some lbh := hxb
  have lt_lbh39 := ((hB.1 201 fl_201) bh lbh hn38).2.1
  have lb_lbh39 : la lbh = la bh + 0 := lk_201.mp ((hB.1 201 fl_201) bh lbh hn38).2.2
  have hk_lbh := ((hzP201 bh).2 lbh hn38).1
  have hl1_lbh := ((hzP201 bh).2 lbh hn38).2.1
  have hl2_lbh := ((hzP201 bh).2 lbh hn38).2.2.1
  have hw_lbh : id _ := ((hzP201 bh).2 lbh hn38).2.2.2
  have hz_lbh : (Int32.ofNat (ln lbh)).toInt = ((ln lbh : Nat) : Int) := ofN_eq (by first | exact Nat.le_trans hl2_lbh (by decide) | omega)
  have hn40 : (P 202) bh = some sbh := hyb
  have lt_sbh41 := ((hB.1 202 fl_202) bh sbh hn40).2.1
  have lb_sbh41 : la sbh = la bh + 0 := lk_202.mp ((hB.1 202 fl_202) bh sbh hn40).2.2
  have hk_sbh := ((hzP202 bh).2 sbh hn40).1
  have hl1_sbh := ((hzP202 bh).2 sbh hn40).2.1
  have hl2_sbh := ((hzP202 bh).2 sbh hn40).2.2.1
  have hw_sbh : id _ := ((hzP202 bh).2 sbh hn40).2.2.2
  have hz_sbh : (Int32.ofNat (ln sbh)).toInt = ((ln sbh : Nat) : Int) := ofN_eq (by first | exact Nat.le_trans hl2_sbh (by decide) | omega)
  have rb42 := (hzRB bh sbh hk_bh hn40).1
  have ra43 := hzRA bh lbh sbh hk_bh hn38 hn40
  have bw44 := hzG200 bh
  have hn45 : (P 234) this = some tw := h234
  have lt_tw46 := ((hB.1 234 fl_234) this tw hn45).2.1
  have lb_tw46 : la tw = 310 := lk_234.mp ((hB.1 234 fl_234) this tw hn45).2.2
  have hk_tw := ((hzP234 this).2 tw hn45).1
  have hl1_tw := ((hzP234 this).2 tw hn45).2.1
  have hl2_tw := ((hzP234 this).2 tw hn45).2.2.1
  have hw_tw : id _ := ((hzP234 this).2 tw hn45).2.2.2
  have hn47 : (P 235) this = some sc := h235
  have lt_sc48 := ((hB.1 235 fl_235) this sc hn47).2.1
  have lb_sc48 : la sc = 320 := lk_235.mp ((hB.1 235 fl_235) this sc hn47).2.2
  have hk_sc := ((hzP235 this).2 sc hn47).1
  have hl1_sc := ((hzP235 this).2 sc hn47).2.1
  have hl2_sc := ((hzP235 this).2 sc hn47).2.2.1
  have hw_sc : id _ := ((hzP235 this).2 sc hn47).2.2.2
  have hn49 : (P 120) sc = some tl := h120
  obtain ⟨_, lt_tl50, lb_tl50⟩ := (hB.1 120 fl_120) sc tl hn49
  have lb_tl50 : 321 ≤ la tl ∧ la tl ≤ 322 := by have z9 := lk_120.mp lb_tl50; rw [lb_sc48] at z9; exact or_bd z9 (by decide)
  have hk_tl := ((hzP120 sc).2 tl hn49).1
  have hl1_tl := ((hzP120 sc).2 tl hn49).2.1
  have hl2_tl := ((hzP120 sc).2 tl hn49).2.2.1
  have hw_tl : id _ := ((hzP120 sc).2 tl hn49).2.2.2
  have hz_tl : (Int32.ofNat (ln tl)).toInt = ((ln tl : Nat) : Int) := ofN_eq (by first | exact Nat.le_trans hl2_tl (by decide) | omega)
  have hn51 : (P 121) sc = some pv := h121
  obtain ⟨_, lt_pv52, lb_pv52⟩ := (hB.1 121 fl_121) sc pv hn51
  have lb_pv52 : 321 ≤ la pv ∧ la pv ≤ 322 := by have z9 := lk_121.mp lb_pv52; rw [lb_sc48] at z9; exact or_bd z9 (by decide)
  have hk_pv := ((hzP121 sc).2 pv hn51).1
  have hl1_pv := ((hzP121 sc).2 pv hn51).2.1
  have hl2_pv := ((hzP121 sc).2 pv hn51).2.2.1
  have hw_pv : id _ := ((hzP121 sc).2 pv hn51).2.2.2
  have hz_pv : (Int32.ofNat (ln pv)).toInt = ((ln pv : Nat) : Int) := ofN_eq (by first | exact Nat.le_trans hl2_pv (by decide) | omega)
  have hn53 : (P 122) sc = some tt := h122
  obtain ⟨_, lt_tt54, lb_tt54⟩ := (hB.1 122 fl_122) sc tt hn53
  have lb_tt54 : 321 ≤ la tt ∧ la tt ≤ 322 := by have z9 := lk_122.mp lb_tt54; rw [lb_sc48] at z9; exact or_bd z9 (by decide)
  have hk_tt := ((hzP122 sc).2 tt hn53).1
  have hl1_tt := ((hzP122 sc).2 tt hn53).2.1
  have hl2_tt := ((hzP122 sc).2 tt hn53).2.2.1
  have hw_tt : id _ := ((hzP122 sc).2 tt hn53).2.2.2
  have hz_tt : (Int32.ofNat (ln tt)).toInt = ((ln tt : Nat) : Int) := ofN_eq (by first | exact Nat.le_trans hl2_tt (by decide) | omega)
  have hn55 : (P 123) sc = some tv := h123
  obtain ⟨_, lt_tv56, lb_tv56⟩ := (hB.1 123 fl_123) sc tv hn55
  have lb_tv56 : 321 ≤ la tv ∧ la tv ≤ 322 := by have z9 := lk_123.mp lb_tv56; rw [lb_sc48] at z9; exact or_bd z9 (by decide)
  have hk_tv := ((hzP123 sc).2 tv hn55).1
  have hl1_tv := ((hzP123 sc).2 tv hn55).2.1
  have hl2_tv := ((hzP123 sc).2 tv hn55).2.2.1
  have hw_tv : id _ := ((hzP123 sc).2 tv hn55).2.2.2
  have hz_tv : (Int32.ofNat (ln tv)).toInt = ((ln tv : Nat) : Int) := ofN_eq (by first | exact Nat.le_trans hl2_tv (by decide) | omega)
  have hb141 := hzG141 tp
  have hb222 := hzG222 this
  have c222 := clampI (x := (G 222) this) (by omega)
  have c141 := clampI (x := (G 141) tp) (by omega)
  refine pw_nne hn1 ?_
  refine pw_b2 (fun r4 c4_G141 hc4 => ?_)
  have hq4 := wp_at (ok_X7_take κ wd G P U V X O kd ln cnt tp hzG141 hzLN hk_tp) hc4
  obtain ⟨hg57, f58, f59, f60⟩ : (rng (0) 2000 c4_G141) ∧ (r4.toInt = ((G 141) tp).toInt) ∧ ((c4_G141 tp).toInt = 0) ∧ ((0 ≤ r4.toInt ∧ r4.toInt ≤ 2000)) := hq4
  have hq4 := pwq (fr_X7_take la G P U V X O kd ln cnt tp hB) hc4
  have q4_G141 : (∀ z, (la z < la tp ∨ la tp < la z) → c4_G141 z = (G 141) z) := hq4
  clear hq4
  have tz4 : ∀ z, ((la z < 10 ∨ 10 < la z) ∧ (la z < 310 ∨ 310 < la z) ∧ (la z < 320 ∨ 320 + 2 < la z) ∧ (la z < 90 ∨ 90 + 8 < la z)) → ((la z < la tp ∨ la tp < la z)) := fun z hz => by omega
  have hfr61 : ∀ z, ((la z < 10 ∨ 10 < la z) ∧ (la z < 310 ∨ 310 < la z) ∧ (la z < 320 ∨ 320 + 2 < la z) ∧ (la z < 90 ∨ 90 + 8 < la z)) → c4_G141 z = (G 141) z := fun z hz => (q4_G141 z (tz4 z hz)).trans ((fun _ _ => rfl) z hz)
  have hx4 := pwq (fn_X7_take κ wd la G P U V X O kd ln cnt tp hzG141 hzLN hk_tp hB lt_tp2) hc4
  obtain ⟨p4_0, p4_1⟩ : (r4 = (G 141) tp) ∧ (c4_G141 tp = 0) := hx4
  have hr4 := congrArg Int32.toInt p4_0
  have hn4 : Int32.toNatClampNeg r4 = n := by rw [p4_0]; exact hn
  have cr4 := clampI (x := r4) (by omega)
  refine pw_b1 (fun r11 hc11 => ?_)
  have hq11 := wp_at (ok_X11_areStages κ wd (va_up G 141 c4_G141) P U V X O kd ln cnt this p0 p1 hzG222 hzLN hk_this) hc11
  have f62 : (0 ≤ r11.toInt ∧ r11.toInt ≤ 1) := hq11
  clear hq11
  have hx11 := pwq (fn_X11_areStages κ wd la (va_up G 141 c4_G141) P U V X O kd ln cnt this p0 p1 hzG222 hzLN hk_this hB hlt_this) hc11
  obtain ⟨p11_0, p11_1⟩ : (id ((r11.toInt ≠ 0 → 0 ≤ p0.toInt ∧ p0.toInt ≤ p1.toInt ∧ p1.toInt ≤ ((G 222) this).toInt))) ∧ (id ((r11.toInt = 0 → ¬ (0 ≤ p0.toInt ∧ p0.toInt ≤ p1.toInt ∧ p1.toInt ≤ ((G 222) this).toInt)))) := hx11
  refine pw_ite (fun c14 => ?_) (fun c14 => ?_)
  · have c14 := congrArg Int32.toInt c14
    have qq0 : id ((¬ (0 ≤ p0.toInt ∧ p0.toInt ≤ p1.toInt ∧ p1.toInt ≤ ((G 222) this).toInt) → (-2 : Int32).toInt = -2 ∧ (P 120) sc = some tl ∧ (P 121) sc = some pv ∧ (P 122) sc = some tt ∧ (P 123) sc = some tv ∧ (G 124) sc = (G 124) sc ∧ (G 125) sc = (G 125) sc ∧ (V 0) tl = (V 0) tl ∧ (V 6) tt = (V 6) tt)) := show (¬ (0 ≤ p0.toInt ∧ p0.toInt ≤ p1.toInt ∧ p1.toInt ≤ ((G 222) this).toInt) → (-2 : Int32).toInt = -2 ∧ (P 120) sc = some tl ∧ (P 121) sc = some pv ∧ (P 122) sc = some tt ∧ (P 123) sc = some tv ∧ (G 124) sc = (G 124) sc ∧ (G 125) sc = (G 125) sc ∧ (V 0) tl = (V 0) tl ∧ (V 6) tt = (V 6) tt) from by intro _; exact ⟨by omega, h120, h121, h122, h123, rfl, rfl, rfl, rfl⟩
    have qq1 : id (((0 ≤ p0.toInt ∧ p0.toInt ≤ p1.toInt ∧ p1.toInt ≤ ((G 222) this).toInt) → ¬ (NZR f n ∧ (wcR f n d (Int32.toNatClampNeg p0) (Int32.toNatClampNeg p1 - Int32.toNatClampNeg p0) 0 false ([], tz0)).1.length ≤ 2500) → (-2 : Int32).toInt = -1 ∧ (P 120) sc = some tl ∧ (P 121) sc = some pv ∧ (P 122) sc = some tt ∧ (P 123) sc = some tv ∧ (G 124) sc = (G 124) sc ∧ (G 125) sc = (G 125) sc ∧ (V 0) tl = (V 0) tl ∧ (V 6) tt = (V 6) tt)) := show ((0 ≤ p0.toInt ∧ p0.toInt ≤ p1.toInt ∧ p1.toInt ≤ ((G 222) this).toInt) → ¬ (NZR f n ∧ (wcR f n d (Int32.toNatClampNeg p0) (Int32.toNatClampNeg p1 - Int32.toNatClampNeg p0) 0 false ([], tz0)).1.length ≤ 2500) → (-2 : Int32).toInt = -1 ∧ (P 120) sc = some tl ∧ (P 121) sc = some pv ∧ (P 122) sc = some tt ∧ (P 123) sc = some tv ∧ (G 124) sc = (G 124) sc ∧ (G 125) sc = (G 125) sc ∧ (V 0) tl = (V 0) tl ∧ (V 6) tt = (V 6) tt) from by intro h; exfalso; exact p11_1 (by omega) h
    have qq2 : id (((0 ≤ p0.toInt ∧ p0.toInt ≤ p1.toInt ∧ p1.toInt ≤ ((G 222) this).toInt) → NZR f n → (wcR f n d (Int32.toNatClampNeg p0) (Int32.toNatClampNeg p1 - Int32.toNatClampNeg p0) 0 false ([], tz0)).1.length ≤ 2500 → (-2 : Int32).toInt = (((wcR f n d (Int32.toNatClampNeg p0) (Int32.toNatClampNeg p1 - Int32.toNatClampNeg p0) 0 false ([], tz0)).1.length : Nat) : Int) ∧ (P 120) sc = some pv ∧ (P 121) sc = some tl ∧ (P 122) sc = some tv ∧ (P 123) sc = some tt ∧ ((G 124) sc).toInt ≠ 0 ∧ (G 125) sc = (-2 : Int32) ∧ wdl ((V 0) pv) 0 (Int32.toNatClampNeg ((G 125) sc)) = (wcR f n d (Int32.toNatClampNeg p0) (Int32.toNatClampNeg p1 - Int32.toNatClampNeg p0) 0 false ([], tz0)).1 ∧ TYA ((V 6) tv) (wcR f n d (Int32.toNatClampNeg p0) (Int32.toNatClampNeg p1 - Int32.toNatClampNeg p0) 0 false ([], tz0)).2)) := show ((0 ≤ p0.toInt ∧ p0.toInt ≤ p1.toInt ∧ p1.toInt ≤ ((G 222) this).toInt) → NZR f n → (wcR f n d (Int32.toNatClampNeg p0) (Int32.toNatClampNeg p1 - Int32.toNatClampNeg p0) 0 false ([], tz0)).1.length ≤ 2500 → (-2 : Int32).toInt = (((wcR f n d (Int32.toNatClampNeg p0) (Int32.toNatClampNeg p1 - Int32.toNatClampNeg p0) 0 false ([], tz0)).1.length : Nat) : Int) ∧ (P 120) sc = some pv ∧ (P 121) sc = some tl ∧ (P 122) sc = some tv ∧ (P 123) sc = some tt ∧ ((G 124) sc).toInt ≠ 0 ∧ (G 125) sc = (-2 : Int32) ∧ wdl ((V 0) pv) 0 (Int32.toNatClampNeg ((G 125) sc)) = (wcR f n d (Int32.toNatClampNeg p0) (Int32.toNatClampNeg p1 - Int32.toNatClampNeg p0) 0 false ([], tz0)).1 ∧ TYA ((V 6) tv) (wcR f n d (Int32.toNatClampNeg p0) (Int32.toNatClampNeg p1 - Int32.toNatClampNeg p0) 0 false ([], tz0)).2) from by intro h; exfalso; exact p11_1 (by omega) h
    have qq3 : id ((∃ nwb nxb, (P 181) tn = some nwb ∧ (P 182) tn = some nxb ∧ ((nwb = nw ∧ nxb = nx) ∨ (nwb = nx ∧ nxb = nw)))) := show (∃ nwb nxb, (P 181) tn = some nwb ∧ (P 182) tn = some nxb ∧ ((nwb = nw ∧ nxb = nx) ∨ (nwb = nx ∧ nxb = nw))) from by exact ⟨nw, nx, h181, h182, Or.inl ⟨rfl, rfl⟩⟩
    have qq4 : id ((∃ ahb bhb, (P 186) tn = some ahb ∧ (P 187) tn = some bhb ∧ ((ahb = ah ∧ bhb = bh) ∨ (ahb = bh ∧ bhb = ah)))) := show (∃ ahb bhb, (P 186) tn = some ahb ∧ (P 187) tn = some bhb ∧ ((ahb = ah ∧ bhb = bh) ∨ (ahb = bh ∧ bhb = ah))) from by exact ⟨ah, bh, h186, h187, Or.inl ⟨rfl, rfl⟩⟩
    exact pw_some ⟨qq0, qq1, qq2, qq3, qq4⟩
  · have c14 : r11.toInt = 1 := by have z9 := z_ne c14; omega
    have st9 := p11_0 (by omega)
    have cp0 := clampI (x := p0) (by omega)
    have cp1 := clampI (x := p1) (by omega)
    refine pw_nne hn1 ?_
    refine pw_b1 (fun r25 hc25 => ?_)
    have hq25 := wp_at (ok_X7_hasZero κ wd (va_up G 141 c4_G141) P U V X O kd ln cnt tp r4 hzP140 hzLN hk_tp) hc25
    have f63 : (0 ≤ r25.toInt ∧ r25.toInt ≤ 1) := hq25
    clear hq25
    have h825_h140 : (P 140) tp = some tb := by exact h140
    have h825_hf : (V 0) tb = f := by exact hf
    have h825_hl2 : r4.toInt ≤ 2000 := by omega
    have h825_hl0 : 0 ≤ r4.toInt := by omega
    have hx25 := pwq (fn_X7_hasZero κ wd la (va_up G 141 c4_G141) P U V X O kd ln cnt tp r4 (tb) (f) hzP140 hzLN hk_tp hB lt_tp2 h825_h140 h825_hf h825_hl2 h825_hl0) hc25
    obtain ⟨p25_0, p25_1⟩ : (id ((r25.toInt ≠ 0 → ¬ NZR f (Int32.toNatClampNeg r4)))) ∧ (id ((r25.toInt = 0 → NZR f (Int32.toNatClampNeg r4)))) := hx25
    clear h825_h140 h825_hf h825_hl2 h825_hl0
    rw [hn4] at p25_0 p25_1
    refine pw_ite (fun c28 => ?_) (fun c28 => ?_)
    · have c28 := congrArg Int32.toInt c28
      have hnz := p25_1 (by omega)
      refine pw_nne hn45 ?_
      refine pw_nne hn1 ?_
      refine pw_nne hn3 ?_
      have hpr45_0 : 0 ≤ r4.toInt := by first | assumption | omega
      have hpr45_1 : ((ln tb : Nat) : Int) ≤ 2000 := by first | assumption | omega
      refine pw_b5 (fun c45_G162 c45_G165 c45_G166 c45_G167 c45_P164 hc45 => ?_)
      have hq45 := wp_at (ok_X8_begin κ wd (va_up G 141 c4_G141) P U V X O kd ln cnt tw tb r4 hzG162 hzG165 hzG166 hzP164 hzLN hk_tw hk_tb hpr45_0 hpr45_1) hc45
      obtain ⟨hg64, hg65, hg66, hg67, f68, f69, f70, f71, f72⟩ : (rng (0) 2000 c45_G162) ∧ (rng (0) 2000 c45_G165) ∧ (rng (0) 2000 c45_G166) ∧ (PB κ ln wd 9 100 0 2000 0 c45_P164) ∧ ((c45_G166 tw).toInt = 0) ∧ ((c45_G165 tw).toInt ≤ r4.toInt) ∧ (c45_P164 tw = some tb) ∧ ((c45_G162 tw).toInt = 0) ∧ ((c45_G165 tw).toInt ≤ ((ln tb : Nat) : Int)) := hq45
      have hq45 := pwq (fr_X8_begin la (va_up G 141 c4_G141) P U V X O kd ln cnt tw tb r4 hB lt_tw46 lt_tb4) hc45
      obtain ⟨q45_G162, q45_G165, q45_G166, q45_G167, q45_P164, ql45_164⟩ : (∀ z, (la z < la tw ∨ la tw < la z) → c45_G162 z = (G 162) z) ∧ (∀ z, (la z < la tw ∨ la tw < la z) → c45_G165 z = (G 165) z) ∧ (∀ z, (la z < la tw ∨ la tw < la z) → c45_G166 z = (G 166) z) ∧ (∀ z, (la z < la tw ∨ la tw < la z) → c45_G167 z = (G 167) z) ∧ (∀ z, (la z < la tw ∨ la tw < la z) → c45_P164 z = (P 164) z) ∧ LC 164 la cnt c45_P164 := hq45
      have tz45 : ∀ z, ((la z < 10 ∨ 10 < la z) ∧ (la z < 310 ∨ 310 < la z) ∧ (la z < 320 ∨ 320 + 2 < la z) ∧ (la z < 90 ∨ 90 + 8 < la z)) → ((la z < la tw ∨ la tw < la z)) := fun z hz => by omega
      have hfr73 : ∀ z, ((la z < 10 ∨ 10 < la z) ∧ (la z < 310 ∨ 310 < la z) ∧ (la z < 320 ∨ 320 + 2 < la z) ∧ (la z < 90 ∨ 90 + 8 < la z)) → c45_G162 z = (G 162) z := fun z hz => (q45_G162 z (tz45 z hz)).trans ((fun _ _ => rfl) z hz)
      have hfr74 : ∀ z, ((la z < 10 ∨ 10 < la z) ∧ (la z < 310 ∨ 310 < la z) ∧ (la z < 320 ∨ 320 + 2 < la z) ∧ (la z < 90 ∨ 90 + 8 < la z)) → c45_G165 z = (G 165) z := fun z hz => (q45_G165 z (tz45 z hz)).trans ((fun _ _ => rfl) z hz)
      have hfr75 : ∀ z, ((la z < 10 ∨ 10 < la z) ∧ (la z < 310 ∨ 310 < la z) ∧ (la z < 320 ∨ 320 + 2 < la z) ∧ (la z < 90 ∨ 90 + 8 < la z)) → c45_G166 z = (G 166) z := fun z hz => (q45_G166 z (tz45 z hz)).trans ((fun _ _ => rfl) z hz)
      have hfr76 : ∀ z, ((la z < 10 ∨ 10 < la z) ∧ (la z < 310 ∨ 310 < la z) ∧ (la z < 320 ∨ 320 + 2 < la z) ∧ (la z < 90 ∨ 90 + 8 < la z)) → c45_G167 z = (G 167) z := fun z hz => (q45_G167 z (tz45 z hz)).trans ((fun _ _ => rfl) z hz)
      have hfr77 : ∀ z, ((la z < 10 ∨ 10 < la z) ∧ (la z < 310 ∨ 310 < la z) ∧ (la z < 320 ∨ 320 + 2 < la z) ∧ (la z < 90 ∨ 90 + 8 < la z)) → c45_P164 z = (P 164) z := fun z hz => (q45_P164 z (tz45 z hz)).trans ((fun _ _ => rfl) z hz)
      have hx45 := pwq (fn_X8_begin κ wd la (va_up G 141 c4_G141) P U V X O kd ln cnt tw tb r4 hzG162 hzG165 hzG166 hzP164 hzLN hk_tw hk_tb hpr45_0 hpr45_1 hB lt_tw46 lt_tb4) hc45
      obtain ⟨p45_0, p45_1⟩ : (id ((r4.toInt ≤ ((ln tb : Nat) : Int) → (c45_G165 tw).toInt = r4.toInt))) ∧ ((c45_G167 tw).toInt = 0) := hx45
      have htx := f70
      have hb45 := hg65 tw
      have h45n := p45_0 (by omega)
      have k45 := clampI (x := c45_G165 tw) (by omega)
      have hnq45 : Int32.toNatClampNeg (c45_G165 tw) = n := by omega
      refine pw_nne hn47 ?_
      refine pw_b4 (fun c52_G126 c52_G127 c52_G128 c52_V6 hc52 => ?_)
      have hq52 := wp_at (ok_X6_begin κ wd (va_up (va_up (va_up (va_up (va_up G 141 c4_G141) 162 c45_G162) 165 c45_G165) 166 c45_G166) 167 c45_G167) (va_up P 164 c45_P164) U V X O kd ln cnt sc hzG126 hzG127 hzP123 hzLN hk_sc) hc52
      obtain ⟨hg78, hg79, f80⟩ : (rng (0) 2500 c52_G126) ∧ (rng (0) 2000 c52_G127) ∧ ((c52_G127 sc).toInt = 0) := hq52
      have hq52 := pwq (fr_X6_begin la (va_up (va_up (va_up (va_up (va_up G 141 c4_G141) 162 c45_G162) 165 c45_G165) 166 c45_G166) 167 c45_G167) (va_up P 164 c45_P164) U V X O kd ln cnt sc (LB_set hB ql45_164)) hc52
      obtain ⟨q52_G126, q52_G127, q52_G128, q52_V6⟩ : (∀ z, (la z < la sc ∨ la sc + 2 < la z) → c52_G126 z = (G 126) z) ∧ (∀ z, (la z < la sc ∨ la sc + 2 < la z) → c52_G127 z = (G 127) z) ∧ (∀ z, (la z < la sc ∨ la sc + 2 < la z) → c52_G128 z = (G 128) z) ∧ (∀ z, (la z < la sc ∨ la sc + 2 < la z) → c52_V6 z = (V 6) z) := hq52
      have tz52 : ∀ z, ((la z < 10 ∨ 10 < la z) ∧ (la z < 310 ∨ 310 < la z) ∧ (la z < 320 ∨ 320 + 2 < la z) ∧ (la z < 90 ∨ 90 + 8 < la z)) → ((la z < la sc ∨ la sc + 2 < la z)) := fun z hz => by omega
      have hfr81 : ∀ z, ((la z < 10 ∨ 10 < la z) ∧ (la z < 310 ∨ 310 < la z) ∧ (la z < 320 ∨ 320 + 2 < la z) ∧ (la z < 90 ∨ 90 + 8 < la z)) → c52_G126 z = (G 126) z := fun z hz => (q52_G126 z (tz52 z hz)).trans ((fun _ _ => rfl) z hz)
      have hfr82 : ∀ z, ((la z < 10 ∨ 10 < la z) ∧ (la z < 310 ∨ 310 < la z) ∧ (la z < 320 ∨ 320 + 2 < la z) ∧ (la z < 90 ∨ 90 + 8 < la z)) → c52_G127 z = (G 127) z := fun z hz => (q52_G127 z (tz52 z hz)).trans ((fun _ _ => rfl) z hz)
      have hfr83 : ∀ z, ((la z < 10 ∨ 10 < la z) ∧ (la z < 310 ∨ 310 < la z) ∧ (la z < 320 ∨ 320 + 2 < la z) ∧ (la z < 90 ∨ 90 + 8 < la z)) → c52_G128 z = (G 128) z := fun z hz => (q52_G128 z (tz52 z hz)).trans ((fun _ _ => rfl) z hz)
      have hfr84 : ∀ z, ((la z < 10 ∨ 10 < la z) ∧ (la z < 310 ∨ 310 < la z) ∧ (la z < 320 ∨ 320 + 2 < la z) ∧ (la z < 90 ∨ 90 + 8 < la z)) → c52_V6 z = (V 6) z := fun z hz => (q52_V6 z (tz52 z hz)).trans ((fun _ _ => rfl) z hz)
      have h852_h123 : (P 123) sc = some tv := by exact h123
      have h852_hl5 : ln tv = 5 := by omega
      have hx52 := pwq (fn_X6_begin κ wd la (va_up (va_up (va_up (va_up (va_up G 141 c4_G141) 162 c45_G162) 165 c45_G165) 166 c45_G166) 167 c45_G167) (va_up P 164 c45_P164) U V X O kd ln cnt sc (tv) hzG126 hzG127 hzP123 hzLN hk_sc (LB_set hB ql45_164) lt_sc48 h852_h123 h852_hl5) hc52
      obtain ⟨p52_0, p52_1, p52_2⟩ : (TYA (c52_V6 tv) tz0) ∧ (id ((∀ z, z ≠ tv → c52_V6 z = (V 6) z))) ∧ (((c52_G126 sc).toInt = 0 ∧ (c52_G127 sc).toInt = 0 ∧ (c52_G128 sc).toInt = 1)) := hx52
      clear h852_h123 h852_hl5
      obtain ⟨z126, z127, z128⟩ := p52_2
      have f166 : (c45_G166 tw).toInt = 0 := by omega
      refine pw_jE (fun k167 ek167 => ?_)
      have lp58 : ∀ (n58 : Nat) (y58_4 : Int32) (d58_G60 : Nat → Int32) (d58_G126 : Nat → Int32) (d58_G127 : Nat → Int32) (d58_G128 : Nat → Int32) (d58_G160 : Nat → Int32) (d58_G161 : Nat → Int32) (d58_G162 : Nat → Int32) (d58_G163 : Nat → Int32) (d58_G166 : Nat → Int32) (d58_G167 : Nat → Int32) (d58_G183 : Nat → Int32) (d58_G203 : Nat → Int32) (d58_P66 : Nat → Option Nat) (d58_P181 : Nat → Option Nat) (d58_P182 : Nat → Option Nat) (d58_P186 : Nat → Option Nat) (d58_P187 : Nat → Option Nat) (d58_U184 : Nat → Int64) (d58_V0 : Nat → Nat → Int32) (d58_V1 : Nat → Nat → Int32) (d58_V2 : Nat → Nat → Int32) (d58_V6 : Nat → Nat → Int32) (d58_V12 : Nat → Nat → Int32), rng (0) 30 d58_G60 → rng (0) 2500 d58_G126 → rng (0) 2000 d58_G127 → rng (0) 2000 d58_G160 → rng (0) 2000 d58_G161 → rng (0) 2000 d58_G162 → rng (0) 2000 d58_G166 → rng (0) 40 d58_G183 → rng (0) 100 d58_G203 → PB κ ln wd 4 11 0 2500 0 d58_P66 → PB κ ln wd 10 100 40 40 0 d58_P181 → PB κ ln wd 10 100 40 40 0 d58_P182 → PB κ ln wd 10 11 0 2500 1 d58_P186 → PB κ ln wd 10 11 0 2500 1 d58_P187 → rng2 (0) 24 d58_V1 → rng2 (0) 24 d58_V2 → RB κ ln (G 200) d58_G203 (P 202) d58_V1 → FL wd d58_G203 (V 3) → (∀ z, ((la z < 10 ∨ 10 < la z) ∧ (la z < 310 ∨ 310 < la z) ∧ (la z < 320 ∨ 320 + 2 < la z) ∧ (la z < 90 ∨ 90 + 8 < la z)) → d58_G60 z = (G 60) z) → (∀ z, ((la z < 10 ∨ 10 < la z) ∧ (la z < 310 ∨ 310 < la z) ∧ (la z < 320 ∨ 320 + 2 < la z) ∧ (la z < 90 ∨ 90 + 8 < la z)) → d58_G126 z = (G 126) z) → (∀ z, ((la z < 10 ∨ 10 < la z) ∧ (la z < 310 ∨ 310 < la z) ∧ (la z < 320 ∨ 320 + 2 < la z) ∧ (la z < 90 ∨ 90 + 8 < la z)) → d58_G127 z = (G 127) z) → (∀ z, ((la z < 10 ∨ 10 < la z) ∧ (la z < 310 ∨ 310 < la z) ∧ (la z < 320 ∨ 320 + 2 < la z) ∧ (la z < 90 ∨ 90 + 8 < la z)) → d58_G128 z = (G 128) z) → (∀ z, ((la z < 10 ∨ 10 < la z) ∧ (la z < 310 ∨ 310 < la z) ∧ (la z < 320 ∨ 320 + 2 < la z) ∧ (la z < 90 ∨ 90 + 8 < la z)) → d58_G160 z = (G 160) z) → (∀ z, ((la z < 10 ∨ 10 < la z) ∧ (la z < 310 ∨ 310 < la z) ∧ (la z < 320 ∨ 320 + 2 < la z) ∧ (la z < 90 ∨ 90 + 8 < la z)) → d58_G161 z = (G 161) z) → (∀ z, ((la z < 10 ∨ 10 < la z) ∧ (la z < 310 ∨ 310 < la z) ∧ (la z < 320 ∨ 320 + 2 < la z) ∧ (la z < 90 ∨ 90 + 8 < la z)) → d58_G162 z = (G 162) z) → (∀ z, ((la z < 10 ∨ 10 < la z) ∧ (la z < 310 ∨ 310 < la z) ∧ (la z < 320 ∨ 320 + 2 < la z) ∧ (la z < 90 ∨ 90 + 8 < la z)) → d58_G163 z = (G 163) z) → (∀ z, ((la z < 10 ∨ 10 < la z) ∧ (la z < 310 ∨ 310 < la z) ∧ (la z < 320 ∨ 320 + 2 < la z) ∧ (la z < 90 ∨ 90 + 8 < la z)) → d58_G166 z = (G 166) z) → (∀ z, ((la z < 10 ∨ 10 < la z) ∧ (la z < 310 ∨ 310 < la z) ∧ (la z < 320 ∨ 320 + 2 < la z) ∧ (la z < 90 ∨ 90 + 8 < la z)) → d58_G167 z = (G 167) z) → (∀ z, ((la z < 10 ∨ 10 < la z) ∧ (la z < 310 ∨ 310 < la z) ∧ (la z < 320 ∨ 320 + 2 < la z) ∧ (la z < 90 ∨ 90 + 8 < la z)) → d58_G183 z = (G 183) z) → (∀ z, ((la z < 10 ∨ 10 < la z) ∧ (la z < 310 ∨ 310 < la z) ∧ (la z < 320 ∨ 320 + 2 < la z) ∧ (la z < 90 ∨ 90 + 8 < la z)) → d58_G203 z = (G 203) z) → (∀ z, ((la z < 10 ∨ 10 < la z) ∧ (la z < 310 ∨ 310 < la z) ∧ (la z < 320 ∨ 320 + 2 < la z) ∧ (la z < 90 ∨ 90 + 8 < la z)) → d58_P66 z = (P 66) z) → LC 66 la cnt d58_P66 → (∀ z, ((la z < 10 ∨ 10 < la z) ∧ (la z < 310 ∨ 310 < la z) ∧ (la z < 320 ∨ 320 + 2 < la z) ∧ (la z < 90 ∨ 90 + 8 < la z)) → d58_P181 z = (P 181) z) → LC 181 la cnt d58_P181 → (∀ z, ((la z < 10 ∨ 10 < la z) ∧ (la z < 310 ∨ 310 < la z) ∧ (la z < 320 ∨ 320 + 2 < la z) ∧ (la z < 90 ∨ 90 + 8 < la z)) → d58_P182 z = (P 182) z) → LC 182 la cnt d58_P182 → (∀ z, ((la z < 10 ∨ 10 < la z) ∧ (la z < 310 ∨ 310 < la z) ∧ (la z < 320 ∨ 320 + 2 < la z) ∧ (la z < 90 ∨ 90 + 8 < la z)) → d58_P186 z = (P 186) z) → LC 186 la cnt d58_P186 → (∀ z, ((la z < 10 ∨ 10 < la z) ∧ (la z < 310 ∨ 310 < la z) ∧ (la z < 320 ∨ 320 + 2 < la z) ∧ (la z < 90 ∨ 90 + 8 < la z)) → d58_P187 z = (P 187) z) → LC 187 la cnt d58_P187 → (∀ z, ((la z < 10 ∨ 10 < la z) ∧ (la z < 310 ∨ 310 < la z) ∧ (la z < 320 ∨ 320 + 2 < la z) ∧ (la z < 90 ∨ 90 + 8 < la z)) → d58_U184 z = (U 184) z) → (∀ z, ((la z < 10 ∨ 10 < la z) ∧ (la z < 310 ∨ 310 < la z) ∧ (la z < 320 ∨ 320 + 2 < la z) ∧ (la z < 90 ∨ 90 + 8 < la z)) → d58_V0 z = (V 0) z) → (∀ z, ((la z < 10 ∨ 10 < la z) ∧ (la z < 310 ∨ 310 < la z) ∧ (la z < 320 ∨ 320 + 2 < la z) ∧ (la z < 90 ∨ 90 + 8 < la z)) → d58_V1 z = (V 1) z) → (∀ z, ((la z < 10 ∨ 10 < la z) ∧ (la z < 310 ∨ 310 < la z) ∧ (la z < 320 ∨ 320 + 2 < la z) ∧ (la z < 90 ∨ 90 + 8 < la z)) → d58_V2 z = (V 2) z) → (∀ z, ((la z < 10 ∨ 10 < la z) ∧ (la z < 310 ∨ 310 < la z) ∧ (la z < 320 ∨ 320 + 2 < la z) ∧ (la z < 90 ∨ 90 + 8 < la z)) → d58_V6 z = (V 6) z) → (∀ z, ((la z < 10 ∨ 10 < la z) ∧ (la z < 310 ∨ 310 < la z) ∧ (la z < 320 ∨ 320 + 2 < la z) ∧ (la z < 90 ∨ 90 + 8 < la z)) → d58_V12 z = (V 12) z) → 0 ≤ y58_4.toInt → (d58_G127 sc).toInt ≤ (d58_G166 tw).toInt → (d58_G166 tw).toInt ≤ (c45_G165 tw).toInt → (d58_G162 tw).toInt ≤ (d58_G166 tw).toInt → y58_4.toInt ≤ (d58_G166 tw).toInt → (∃ nw1 nx1, d58_P181 tn = some nw1 ∧ d58_P182 tn = some nx1 ∧ ((nw1 = nw ∧ nx1 = nx) ∨ (nw1 = nx ∧ nx1 = nw))) → (∃ ah1 bh1, d58_P186 tn = some ah1 ∧ d58_P187 tn = some bh1 ∧ ((ah1 = ah ∧ bh1 = bh) ∨ (ah1 = bh ∧ bh1 = ah))) → (∀ q : Nat, q < Int32.toNatClampNeg ((G 222) this) → ∃ rf, (O 2) ra q = some rf ∧ rf < cnt ∧ 100000 ≤ la rf ∧ RFX (va_up (va_up (va_up (va_up (va_up (va_up (va_up (va_up (va_up (va_up (va_up (va_up (va_up (va_up G 60 d58_G60) 126 d58_G126) 127 d58_G127) 128 d58_G128) 141 c4_G141) 160 d58_G160) 161 d58_G161) 162 d58_G162) 163 d58_G163) 165 c45_G165) 166 d58_G166) 167 d58_G167) 183 d58_G183) 203 d58_G203) (va_up (va_up (va_up (va_up (va_up (va_up P 66 d58_P66) 164 c45_P164) 181 d58_P181) 182 d58_P182) 186 d58_P186) 187 d58_P187) (va_up (va_up (va_up (va_up (va_up V 0 d58_V0) 1 d58_V1) 2 d58_V2) 6 d58_V6) 12 d58_V12) O ln la cnt rf (d q)) → (d58_V0 tb = f) → (d58_V0 tl = (V 0) tl) → (d58_V6 tt = (V 6) tt) → (CIV f n d (Int32.toNatClampNeg p0) (Int32.toNatClampNeg p1 - Int32.toNatClampNeg p0) (Int32.toNatClampNeg (d58_G166 tw)) (decide ((d58_G167 tw).toInt ≠ 0)) (d58_V0 pv) (Int32.toNatClampNeg (d58_G126 sc)) (Int32.toNatClampNeg (d58_G127 sc)) (d58_G128 sc).toInt (d58_V6 tv)) → pw (L_X11_write_58 G P U V X O kd ln cnt this p0 p1 r4 c4_G141 c45_G165 c45_P164 k167 n58 y58_4 d58_G60 d58_G126 d58_G127 d58_G128 d58_G160 d58_G161 d58_G162 d58_G163 d58_G166 d58_G167 d58_G183 d58_G203 d58_P66 d58_P181 d58_P182 d58_P186 d58_P187 d58_U184 d58_V0 d58_V1 d58_V2 d58_V6 d58_V12) (QF_X11_write κ wd la G P U V X O kd ln cnt this p0 p1 f n tp tb ra tn nw nx wh pg fi pa pk sz cl ah bh lah sah lbh sbh tw sc tl pv tt tv d) := by
        intro n58
        clear hfr84 hfr83 hfr82 hfr81 tz52 q52_G126 q52_G127 q52_G128 q52_V6 hg78 hg79 hc52 hfr77 hfr76 hfr75 hfr74 hfr73 tz45 q45_G162 q45_G165 q45_G166 q45_G167 q45_P164 hg64 hg66 hc45 hpr45_1 hpr45_0 hc25 hc11 hfr61 tz4 q4_G141 hg57 hc4
        induction n58 with
        | zero => intros; exact pw_none
        | succ n58 ih58 =>
          intro y58_4 d58_G60 d58_G126 d58_G127 d58_G128 d58_G160 d58_G161 d58_G162 d58_G163 d58_G166 d58_G167 d58_G183 d58_G203 d58_P66 d58_P181 d58_P182 d58_P186 d58_P187 d58_U184 d58_V0 d58_V1 d58_V2 d58_V6 d58_V12 hg85 hg86 hg87 hg88 hg89 hg90 hg91 hg92 hg93 hg94 hg95 hg96 hg97 hg98 hg99 hg100 hRB101 hFL102 hfr103 hfr104 hfr105 hfr106 hfr107 hfr108 hfr109 hfr110 hfr111 hfr112 hfr113 hfr114 hfr115 hl116 hfr117 hl118 hfr119 hl120 hfr121 hl122 hfr123 hl124 hfr125 hfr126 hfr127 hfr128 hfr129 hfr130 f131 f132 f133 f134 f135 it58 iy58 ix58 ia58 ib58 ic58 iz58
          replace it58 : id _ := it58
          replace iy58 : id _ := iy58
          replace ix58 : id _ := ix58
          show pw (B_X11_write_58 G P U V X O kd ln cnt this p0 p1 r4 c4_G141 c45_G165 c45_P164 k167 (L_X11_write_58 G P U V X O kd ln cnt this p0 p1 r4 c4_G141 c45_G165 c45_P164 k167 n58) y58_4 d58_G60 d58_G126 d58_G127 d58_G128 d58_G160 d58_G161 d58_G162 d58_G163 d58_G166 d58_G167 d58_G183 d58_G203 d58_P66 d58_P181 d58_P182 d58_P186 d58_P187 d58_U184 d58_V0 d58_V1 d58_V2 d58_V6 d58_V12) _
          unfold B_X11_write_58
          have hB58 := (LB_set (LB_set (LB_set (LB_set (LB_set (LB_set hB hl116) ql45_164) hl118) hl120) hl122) hl124)
          obtain ⟨nw1, nx1, e181, e182, hsw⟩ := it58
          replace hsw : id _ := hsw
          obtain ⟨ah1, bh1, e186, e187, hsh⟩ := iy58
          have hb166 := hg91 tw
          have k166 := clampI (x := d58_G166 tw) (by omega)
          have ntb : tb ≠ pv := fun q => by have q9 := congrArg la q; omega
          obtain ⟨la1, sa1, e1x, e1y, e1w, e1n⟩ : ∃ la1 sa1, P 201 ah1 = some la1 ∧ P 202 ah1 = some sa1 ∧ ((G 200) ah1).toInt = ((24 : Nat) : Int) ∧ ln sa1 = 12 := by rcases hsh with ⟨z1, _⟩ | ⟨z1, _⟩ <;> rw [z1]; (exact ⟨lah, sah, hxa, hya, hga, hna⟩); (exact ⟨lbh, sbh, hxb, hyb, hgb, hnb⟩)
          obtain ⟨lb1, sb1, e2x, e2y, e2w, e2n⟩ : ∃ lb1 sb1, P 201 bh1 = some lb1 ∧ P 202 bh1 = some sb1 ∧ ((G 200) bh1).toInt = ((24 : Nat) : Int) ∧ ln sb1 = 12 := by rcases hsh with ⟨_, z1⟩ | ⟨_, z1⟩ <;> rw [z1]; (exact ⟨lbh, sbh, hxb, hyb, hgb, hnb⟩); (exact ⟨lah, sah, hxa, hya, hga, hna⟩)
          have elb9 : (la ah1 = 94 ∧ la bh1 = 95) ∨ (la ah1 = 95 ∧ la bh1 = 94) := by rcases hsh with ⟨z1, z2⟩ | ⟨z1, z2⟩ <;> rw [z1, z2] <;> omega
          have hn136 : d58_P181 tn = some nw1 := e181
          obtain ⟨_, lt_nw1137, lb_nw1137⟩ := hl118 tn nw1 hn136
          have lb_nw1137 : 91 ≤ la nw1 ∧ la nw1 ≤ 92 := by have z9 := lk_181.mp lb_nw1137; rw [lb_tn8] at z9; exact or_bd z9 (by decide)
          have hk_nw1 := ((hg95 tn).2 nw1 hn136).1
          have hl1_nw1 := ((hg95 tn).2 nw1 hn136).2.1
          have hl2_nw1 := ((hg95 tn).2 nw1 hn136).2.2.1
          have hw_nw1 : id _ := ((hg95 tn).2 nw1 hn136).2.2.2
          have hz_nw1 : (Int32.ofNat (ln nw1)).toInt = ((ln nw1 : Nat) : Int) := ofN_eq (by first | exact Nat.le_trans hl2_nw1 (by decide) | omega)
          have hn138 : d58_P182 tn = some nx1 := e182
          obtain ⟨_, lt_nx1139, lb_nx1139⟩ := hl120 tn nx1 hn138
          have lb_nx1139 : 91 ≤ la nx1 ∧ la nx1 ≤ 92 := by have z9 := lk_182.mp lb_nx1139; rw [lb_tn8] at z9; exact or_bd z9 (by decide)
          have hk_nx1 := ((hg96 tn).2 nx1 hn138).1
          have hl1_nx1 := ((hg96 tn).2 nx1 hn138).2.1
          have hl2_nx1 := ((hg96 tn).2 nx1 hn138).2.2.1
          have hw_nx1 : id _ := ((hg96 tn).2 nx1 hn138).2.2.2
          have hz_nx1 : (Int32.ofNat (ln nx1)).toInt = ((ln nx1 : Nat) : Int) := ofN_eq (by first | exact Nat.le_trans hl2_nx1 (by decide) | omega)
          have hn140 : d58_P186 tn = some ah1 := e186
          obtain ⟨_, lt_ah1141, lb_ah1141⟩ := hl122 tn ah1 hn140
          have lb_ah1141 : 94 ≤ la ah1 ∧ la ah1 ≤ 95 := by have z9 := lk_186.mp lb_ah1141; rw [lb_tn8] at z9; exact or_bd z9 (by decide)
          have hk_ah1 := ((hg97 tn).2 ah1 hn140).1
          have hl1_ah1 := ((hg97 tn).2 ah1 hn140).2.1
          have hl2_ah1 := ((hg97 tn).2 ah1 hn140).2.2.1
          have hw_ah1 : id _ := ((hg97 tn).2 ah1 hn140).2.2.2
          have hn142 : d58_P187 tn = some bh1 := e187
          obtain ⟨_, lt_bh1143, lb_bh1143⟩ := hl124 tn bh1 hn142
          have lb_bh1143 : 94 ≤ la bh1 ∧ la bh1 ≤ 95 := by have z9 := lk_187.mp lb_bh1143; rw [lb_tn8] at z9; exact or_bd z9 (by decide)
          have hk_bh1 := ((hg98 tn).2 bh1 hn142).1
          have hl1_bh1 := ((hg98 tn).2 bh1 hn142).2.1
          have hl2_bh1 := ((hg98 tn).2 bh1 hn142).2.2.1
          have hw_bh1 : id _ := ((hg98 tn).2 bh1 hn142).2.2.2
          have hn144 : (P 201) ah1 = some la1 := e1x
          have lt_la1145 := ((hB.1 201 fl_201) ah1 la1 hn144).2.1
          have lb_la1145 : la la1 = la ah1 + 0 := lk_201.mp ((hB.1 201 fl_201) ah1 la1 hn144).2.2
          have hk_la1 := ((hzP201 ah1).2 la1 hn144).1
          have hl1_la1 := ((hzP201 ah1).2 la1 hn144).2.1
          have hl2_la1 := ((hzP201 ah1).2 la1 hn144).2.2.1
          have hw_la1 : id _ := ((hzP201 ah1).2 la1 hn144).2.2.2
          have hz_la1 : (Int32.ofNat (ln la1)).toInt = ((ln la1 : Nat) : Int) := ofN_eq (by first | exact Nat.le_trans hl2_la1 (by decide) | omega)
          have hn146 : (P 202) ah1 = some sa1 := e1y
          have lt_sa1147 := ((hB.1 202 fl_202) ah1 sa1 hn146).2.1
          have lb_sa1147 : la sa1 = la ah1 + 0 := lk_202.mp ((hB.1 202 fl_202) ah1 sa1 hn146).2.2
          have hk_sa1 := ((hzP202 ah1).2 sa1 hn146).1
          have hl1_sa1 := ((hzP202 ah1).2 sa1 hn146).2.1
          have hl2_sa1 := ((hzP202 ah1).2 sa1 hn146).2.2.1
          have hw_sa1 : id _ := ((hzP202 ah1).2 sa1 hn146).2.2.2
          have hz_sa1 : (Int32.ofNat (ln sa1)).toInt = ((ln sa1 : Nat) : Int) := ofN_eq (by first | exact Nat.le_trans hl2_sa1 (by decide) | omega)
          have rb148 := (hRB101 ah1 sa1 hk_ah1 hn146).1
          have ra149 := hzRA ah1 la1 sa1 hk_ah1 hn144 hn146
          have bw150 := hzG200 ah1
          have hn151 : (P 201) bh1 = some lb1 := e2x
          have lt_lb1152 := ((hB.1 201 fl_201) bh1 lb1 hn151).2.1
          have lb_lb1152 : la lb1 = la bh1 + 0 := lk_201.mp ((hB.1 201 fl_201) bh1 lb1 hn151).2.2
          have hk_lb1 := ((hzP201 bh1).2 lb1 hn151).1
          have hl1_lb1 := ((hzP201 bh1).2 lb1 hn151).2.1
          have hl2_lb1 := ((hzP201 bh1).2 lb1 hn151).2.2.1
          have hw_lb1 : id _ := ((hzP201 bh1).2 lb1 hn151).2.2.2
          have hz_lb1 : (Int32.ofNat (ln lb1)).toInt = ((ln lb1 : Nat) : Int) := ofN_eq (by first | exact Nat.le_trans hl2_lb1 (by decide) | omega)
          have hn153 : (P 202) bh1 = some sb1 := e2y
          have lt_sb1154 := ((hB.1 202 fl_202) bh1 sb1 hn153).2.1
          have lb_sb1154 : la sb1 = la bh1 + 0 := lk_202.mp ((hB.1 202 fl_202) bh1 sb1 hn153).2.2
          have hk_sb1 := ((hzP202 bh1).2 sb1 hn153).1
          have hl1_sb1 := ((hzP202 bh1).2 sb1 hn153).2.1
          have hl2_sb1 := ((hzP202 bh1).2 sb1 hn153).2.2.1
          have hw_sb1 : id _ := ((hzP202 bh1).2 sb1 hn153).2.2.2
          have hz_sb1 : (Int32.ofNat (ln sb1)).toInt = ((ln sb1 : Nat) : Int) := ofN_eq (by first | exact Nat.le_trans hl2_sb1 (by decide) | omega)
          have rb155 := (hRB101 bh1 sb1 hk_bh1 hn153).1
          have ra156 := hzRA bh1 lb1 sb1 hk_bh1 hn151 hn153
          have bw157 := hzG200 bh1
          refine pw_ite (fun c61 => ?_) (fun c61 => ?_)
          · have c61 := (z_le _ _).mp c61
            have hfin : ∃ (o : Wd) (t : Ty), TYA (d58_V6 tv) t ∧ CWS f (d58_V0 pv) (Int32.toNatClampNeg (d58_G126 sc)) (Int32.toNatClampNeg (d58_G127 sc)) n (d58_G128 sc).toInt o ∧ (wcR f n d (Int32.toNatClampNeg p0) (Int32.toNatClampNeg p1 - Int32.toNatClampNeg p0) 0 false ([], tz0)) = (o, t) := civ_end iz58 (by have e9 : Int32.toNatClampNeg (d58_G166 tw) = n := (by omega); rw [e9]; exact ⟨_, NXT_0 (Nat.le_refl _)⟩)
            refine pw_j23 ek167 (fun z167_0 ez167_0 z167_1 ez167_1 z167_2 ez167_2 z167_3 ez167_3 z167_4 ez167_4 z167_5 ez167_5 z167_6 ez167_6 z167_7 ez167_7 z167_8 ez167_8 z167_9 ez167_9 z167_10 ez167_10 z167_11 ez167_11 z167_12 ez167_12 z167_13 ez167_13 z167_14 ez167_14 z167_15 ez167_15 z167_16 ez167_16 z167_17 ez167_17 z167_18 ez167_18 z167_19 ez167_19 z167_20 ez167_20 z167_21 ez167_21 z167_22 ez167_22 => ?_)
            subst ez167_0 ez167_1 ez167_2 ez167_3 ez167_4 ez167_5 ez167_6 ez167_7 ez167_8 ez167_9 ez167_10 ez167_11 ez167_12 ez167_13 ez167_14 ez167_15 ez167_16 ez167_17 ez167_18 ez167_19 ez167_20 ez167_21 ez167_22
            refine pw_nne hn47 ?_
            refine pw_nne hn1 ?_
            refine pw_nne hn3 ?_
            have hpr179_0 : (d58_G127 sc).toInt ≤ r4.toInt := by first | assumption | omega
            have hpr179_1 : r4.toInt ≤ ((ln tb : Nat) : Int) := by first | assumption | omega
            refine pw_b10 (fun r179 c179_G124 c179_G125 c179_G126 c179_G128 c179_P120 c179_P121 c179_P122 c179_P123 c179_V0 hc179 => ?_)
            have hq179 := wp_at (ok_X6_finish κ wd (va_up (va_up (va_up (va_up (va_up (va_up (va_up (va_up (va_up (va_up (va_up (va_up (va_up (va_up G 60 d58_G60) 126 d58_G126) 127 d58_G127) 128 d58_G128) 141 c4_G141) 160 d58_G160) 161 d58_G161) 162 d58_G162) 163 d58_G163) 165 c45_G165) 166 d58_G166) 167 d58_G167) 183 d58_G183) 203 d58_G203) (va_up (va_up (va_up (va_up (va_up (va_up P 66 d58_P66) 164 c45_P164) 181 d58_P181) 182 d58_P182) 186 d58_P186) 187 d58_P187) (va_up U 184 d58_U184) (va_up (va_up (va_up (va_up (va_up V 0 d58_V0) 1 d58_V1) 2 d58_V2) 6 d58_V6) 12 d58_V12) X O kd ln cnt sc tb r4 hzG125 hg86 hg87 hzP120 hzP121 hzP122 hzP123 hzLN hk_sc hk_tb hpr179_0 hpr179_1) hc179
            obtain ⟨hg158, hg159, hg160, hg161, hg162, hg163⟩ : (rng (0) 2500 c179_G125) ∧ (rng (0) 2500 c179_G126) ∧ (PB κ ln wd 7 100 2500 2500 0 c179_P120) ∧ (PB κ ln wd 7 100 2500 2500 0 c179_P121) ∧ (PB κ ln wd 7 106 5 5 0 c179_P122) ∧ (PB κ ln wd 7 106 5 5 0 c179_P123) := hq179
            have hq179 := pwq (fr_X6_finish la (va_up (va_up (va_up (va_up (va_up (va_up (va_up (va_up (va_up (va_up (va_up (va_up (va_up (va_up G 60 d58_G60) 126 d58_G126) 127 d58_G127) 128 d58_G128) 141 c4_G141) 160 d58_G160) 161 d58_G161) 162 d58_G162) 163 d58_G163) 165 c45_G165) 166 d58_G166) 167 d58_G167) 183 d58_G183) 203 d58_G203) (va_up (va_up (va_up (va_up (va_up (va_up P 66 d58_P66) 164 c45_P164) 181 d58_P181) 182 d58_P182) 186 d58_P186) 187 d58_P187) (va_up U 184 d58_U184) (va_up (va_up (va_up (va_up (va_up V 0 d58_V0) 1 d58_V1) 2 d58_V2) 6 d58_V6) 12 d58_V12) X O kd ln cnt sc tb r4 (LB_set (LB_set (LB_set (LB_set (LB_set (LB_set hB hl116) ql45_164) hl118) hl120) hl122) hl124) lt_sc48) hc179
            obtain ⟨q179_G124, q179_G125, q179_G126, q179_G128, q179_P120, q179_P121, q179_P122, q179_P123, q179_V0, ql179_120, ql179_121, ql179_122, ql179_123⟩ : (∀ z, (la z < la sc ∨ la sc + 2 < la z) → c179_G124 z = (G 124) z) ∧ (∀ z, (la z < la sc ∨ la sc + 2 < la z) → c179_G125 z = (G 125) z) ∧ (∀ z, (la z < la sc ∨ la sc + 2 < la z) → c179_G126 z = d58_G126 z) ∧ (∀ z, (la z < la sc ∨ la sc + 2 < la z) → c179_G128 z = d58_G128 z) ∧ (∀ z, (la z < la sc ∨ la sc + 2 < la z) → c179_P120 z = (P 120) z) ∧ (∀ z, (la z < la sc ∨ la sc + 2 < la z) → c179_P121 z = (P 121) z) ∧ (∀ z, (la z < la sc ∨ la sc + 2 < la z) → c179_P122 z = (P 122) z) ∧ (∀ z, (la z < la sc ∨ la sc + 2 < la z) → c179_P123 z = (P 123) z) ∧ (∀ z, (la z < la sc ∨ la sc + 2 < la z) → c179_V0 z = d58_V0 z) ∧ LC 120 la cnt c179_P120 ∧ LC 121 la cnt c179_P121 ∧ LC 122 la cnt c179_P122 ∧ LC 123 la cnt c179_P123 := hq179
            have tz179 : ∀ z, ((la z < 10 ∨ 10 < la z) ∧ (la z < 310 ∨ 310 < la z) ∧ (la z < 320 ∨ 320 + 2 < la z) ∧ (la z < 90 ∨ 90 + 8 < la z)) → ((la z < la sc ∨ la sc + 2 < la z)) := fun z hz => by omega
            have hfr164 : ∀ z, ((la z < 10 ∨ 10 < la z) ∧ (la z < 310 ∨ 310 < la z) ∧ (la z < 320 ∨ 320 + 2 < la z) ∧ (la z < 90 ∨ 90 + 8 < la z)) → c179_G124 z = (G 124) z := fun z hz => (q179_G124 z (tz179 z hz)).trans ((fun _ _ => rfl) z hz)
            have hfr165 : ∀ z, ((la z < 10 ∨ 10 < la z) ∧ (la z < 310 ∨ 310 < la z) ∧ (la z < 320 ∨ 320 + 2 < la z) ∧ (la z < 90 ∨ 90 + 8 < la z)) → c179_G125 z = (G 125) z := fun z hz => (q179_G125 z (tz179 z hz)).trans ((fun _ _ => rfl) z hz)
            have hfr166 : ∀ z, ((la z < 10 ∨ 10 < la z) ∧ (la z < 310 ∨ 310 < la z) ∧ (la z < 320 ∨ 320 + 2 < la z) ∧ (la z < 90 ∨ 90 + 8 < la z)) → c179_G126 z = (G 126) z := fun z hz => (q179_G126 z (tz179 z hz)).trans (hfr104 z hz)
            have hfr167 : ∀ z, ((la z < 10 ∨ 10 < la z) ∧ (la z < 310 ∨ 310 < la z) ∧ (la z < 320 ∨ 320 + 2 < la z) ∧ (la z < 90 ∨ 90 + 8 < la z)) → c179_G128 z = (G 128) z := fun z hz => (q179_G128 z (tz179 z hz)).trans (hfr106 z hz)
            have hfr168 : ∀ z, ((la z < 10 ∨ 10 < la z) ∧ (la z < 310 ∨ 310 < la z) ∧ (la z < 320 ∨ 320 + 2 < la z) ∧ (la z < 90 ∨ 90 + 8 < la z)) → c179_P120 z = (P 120) z := fun z hz => (q179_P120 z (tz179 z hz)).trans ((fun _ _ => rfl) z hz)
            have hfr169 : ∀ z, ((la z < 10 ∨ 10 < la z) ∧ (la z < 310 ∨ 310 < la z) ∧ (la z < 320 ∨ 320 + 2 < la z) ∧ (la z < 90 ∨ 90 + 8 < la z)) → c179_P121 z = (P 121) z := fun z hz => (q179_P121 z (tz179 z hz)).trans ((fun _ _ => rfl) z hz)
            have hfr170 : ∀ z, ((la z < 10 ∨ 10 < la z) ∧ (la z < 310 ∨ 310 < la z) ∧ (la z < 320 ∨ 320 + 2 < la z) ∧ (la z < 90 ∨ 90 + 8 < la z)) → c179_P122 z = (P 122) z := fun z hz => (q179_P122 z (tz179 z hz)).trans ((fun _ _ => rfl) z hz)
            have hfr171 : ∀ z, ((la z < 10 ∨ 10 < la z) ∧ (la z < 310 ∨ 310 < la z) ∧ (la z < 320 ∨ 320 + 2 < la z) ∧ (la z < 90 ∨ 90 + 8 < la z)) → c179_P123 z = (P 123) z := fun z hz => (q179_P123 z (tz179 z hz)).trans ((fun _ _ => rfl) z hz)
            have hfr172 : ∀ z, ((la z < 10 ∨ 10 < la z) ∧ (la z < 310 ∨ 310 < la z) ∧ (la z < 320 ∨ 320 + 2 < la z) ∧ (la z < 90 ∨ 90 + 8 < la z)) → c179_V0 z = (V 0) z := fun z hz => (q179_V0 z (tz179 z hz)).trans (hfr126 z hz)
            have h8179_hf : d58_V0 tb = f := by exact ia58
            have h8179_h120 : (P 120) sc = some tl := by exact h120
            have h8179_h121 : (P 121) sc = some pv := by exact h121
            have h8179_h122 : (P 122) sc = some tt := by exact h122
            have h8179_h123 : (P 123) sc = some tv := by exact h123
            have hx179 := pwq (fn_X6_finish κ wd la (va_up (va_up (va_up (va_up (va_up (va_up (va_up (va_up (va_up (va_up (va_up (va_up (va_up (va_up G 60 d58_G60) 126 d58_G126) 127 d58_G127) 128 d58_G128) 141 c4_G141) 160 d58_G160) 161 d58_G161) 162 d58_G162) 163 d58_G163) 165 c45_G165) 166 d58_G166) 167 d58_G167) 183 d58_G183) 203 d58_G203) (va_up (va_up (va_up (va_up (va_up (va_up P 66 d58_P66) 164 c45_P164) 181 d58_P181) 182 d58_P182) 186 d58_P186) 187 d58_P187) (va_up U 184 d58_U184) (va_up (va_up (va_up (va_up (va_up V 0 d58_V0) 1 d58_V1) 2 d58_V2) 6 d58_V6) 12 d58_V12) X O kd ln cnt sc tb r4 (f) (tl) (pv) (tt) (tv) hzG125 hg86 hg87 hzP120 hzP121 hzP122 hzP123 hzLN hk_sc hk_tb hpr179_0 hpr179_1 (LB_set (LB_set (LB_set (LB_set (LB_set (LB_set hB hl116) ql45_164) hl118) hl120) hl122) hl124) lt_sc48 lt_tb4 h8179_hf h8179_h120 h8179_h121 h8179_h122 h8179_h123) hc179
            obtain ⟨p179_0, p179_1⟩ : (id ((∀ o9, CWS f (d58_V0 pv) (Int32.toNatClampNeg (d58_G126 sc)) (Int32.toNatClampNeg (d58_G127 sc)) (Int32.toNatClampNeg r4) (d58_G128 sc).toInt o9 → (2500 < o9.length ∧ r179.toInt = -1 ∧ c179_P120 sc = some tl ∧ c179_P121 sc = some pv ∧ c179_P122 sc = some tt ∧ c179_P123 sc = some tv ∧ c179_G124 sc = (G 124) sc ∧ c179_G125 sc = (G 125) sc) ∨ (o9.length ≤ 2500 ∧ r179.toInt = ((o9.length : Nat) : Int) ∧ c179_P120 sc = some pv ∧ c179_P121 sc = some tl ∧ c179_P122 sc = some tv ∧ c179_P123 sc = some tt ∧ (c179_G124 sc).toInt ≠ 0 ∧ c179_G125 sc = r179 ∧ wdl (c179_V0 pv) 0 (Int32.toNatClampNeg (c179_G125 sc)) = o9)))) ∧ (id ((∀ z, z ≠ pv → c179_V0 z = d58_V0 z))) := hx179
            clear h8179_hf h8179_h120 h8179_h121 h8179_h122 h8179_h123
            rw [hn4] at p179_0
            obtain ⟨o9, t9, w1, w2, w3⟩ := hfin
            have w4 := p179_0 o9 w2
            have qq0 : id ((¬ (0 ≤ p0.toInt ∧ p0.toInt ≤ p1.toInt ∧ p1.toInt ≤ ((G 222) this).toInt) → r179.toInt = -2 ∧ c179_P120 sc = some tl ∧ c179_P121 sc = some pv ∧ c179_P122 sc = some tt ∧ c179_P123 sc = some tv ∧ c179_G124 sc = (G 124) sc ∧ c179_G125 sc = (G 125) sc ∧ c179_V0 tl = (V 0) tl ∧ d58_V6 tt = (V 6) tt)) := show (¬ (0 ≤ p0.toInt ∧ p0.toInt ≤ p1.toInt ∧ p1.toInt ≤ ((G 222) this).toInt) → r179.toInt = -2 ∧ c179_P120 sc = some tl ∧ c179_P121 sc = some pv ∧ c179_P122 sc = some tt ∧ c179_P123 sc = some tv ∧ c179_G124 sc = (G 124) sc ∧ c179_G125 sc = (G 125) sc ∧ c179_V0 tl = (V 0) tl ∧ d58_V6 tt = (V 6) tt) from by intro h; exfalso; exact h st9
            have qq1 : id (((0 ≤ p0.toInt ∧ p0.toInt ≤ p1.toInt ∧ p1.toInt ≤ ((G 222) this).toInt) → ¬ (NZR f n ∧ (wcR f n d (Int32.toNatClampNeg p0) (Int32.toNatClampNeg p1 - Int32.toNatClampNeg p0) 0 false ([], tz0)).1.length ≤ 2500) → r179.toInt = -1 ∧ c179_P120 sc = some tl ∧ c179_P121 sc = some pv ∧ c179_P122 sc = some tt ∧ c179_P123 sc = some tv ∧ c179_G124 sc = (G 124) sc ∧ c179_G125 sc = (G 125) sc ∧ c179_V0 tl = (V 0) tl ∧ d58_V6 tt = (V 6) tt)) := show ((0 ≤ p0.toInt ∧ p0.toInt ≤ p1.toInt ∧ p1.toInt ≤ ((G 222) this).toInt) → ¬ (NZR f n ∧ (wcR f n d (Int32.toNatClampNeg p0) (Int32.toNatClampNeg p1 - Int32.toNatClampNeg p0) 0 false ([], tz0)).1.length ≤ 2500) → r179.toInt = -1 ∧ c179_P120 sc = some tl ∧ c179_P121 sc = some pv ∧ c179_P122 sc = some tt ∧ c179_P123 sc = some tv ∧ c179_G124 sc = (G 124) sc ∧ c179_G125 sc = (G 125) sc ∧ c179_V0 tl = (V 0) tl ∧ d58_V6 tt = (V 6) tt) from by intro _ h; rcases w4 with ⟨v1, v2, v3⟩ | ⟨v1, v2, v3⟩; (obtain ⟨u1, u2, u3, u4, u5, u6⟩ := v3; exact ⟨v2, u1, u2, u3, u4, u5, u6, (p179_1 tl hdt).trans ib58, ic58⟩); (exfalso; exact h ⟨hnz, by rw [w3]; exact v1⟩)
            have qq2 : id (((0 ≤ p0.toInt ∧ p0.toInt ≤ p1.toInt ∧ p1.toInt ≤ ((G 222) this).toInt) → NZR f n → (wcR f n d (Int32.toNatClampNeg p0) (Int32.toNatClampNeg p1 - Int32.toNatClampNeg p0) 0 false ([], tz0)).1.length ≤ 2500 → r179.toInt = (((wcR f n d (Int32.toNatClampNeg p0) (Int32.toNatClampNeg p1 - Int32.toNatClampNeg p0) 0 false ([], tz0)).1.length : Nat) : Int) ∧ c179_P120 sc = some pv ∧ c179_P121 sc = some tl ∧ c179_P122 sc = some tv ∧ c179_P123 sc = some tt ∧ (c179_G124 sc).toInt ≠ 0 ∧ c179_G125 sc = r179 ∧ wdl (c179_V0 pv) 0 (Int32.toNatClampNeg (c179_G125 sc)) = (wcR f n d (Int32.toNatClampNeg p0) (Int32.toNatClampNeg p1 - Int32.toNatClampNeg p0) 0 false ([], tz0)).1 ∧ TYA (d58_V6 tv) (wcR f n d (Int32.toNatClampNeg p0) (Int32.toNatClampNeg p1 - Int32.toNatClampNeg p0) 0 false ([], tz0)).2)) := show ((0 ≤ p0.toInt ∧ p0.toInt ≤ p1.toInt ∧ p1.toInt ≤ ((G 222) this).toInt) → NZR f n → (wcR f n d (Int32.toNatClampNeg p0) (Int32.toNatClampNeg p1 - Int32.toNatClampNeg p0) 0 false ([], tz0)).1.length ≤ 2500 → r179.toInt = (((wcR f n d (Int32.toNatClampNeg p0) (Int32.toNatClampNeg p1 - Int32.toNatClampNeg p0) 0 false ([], tz0)).1.length : Nat) : Int) ∧ c179_P120 sc = some pv ∧ c179_P121 sc = some tl ∧ c179_P122 sc = some tv ∧ c179_P123 sc = some tt ∧ (c179_G124 sc).toInt ≠ 0 ∧ c179_G125 sc = r179 ∧ wdl (c179_V0 pv) 0 (Int32.toNatClampNeg (c179_G125 sc)) = (wcR f n d (Int32.toNatClampNeg p0) (Int32.toNatClampNeg p1 - Int32.toNatClampNeg p0) 0 false ([], tz0)).1 ∧ TYA (d58_V6 tv) (wcR f n d (Int32.toNatClampNeg p0) (Int32.toNatClampNeg p1 - Int32.toNatClampNeg p0) 0 false ([], tz0)).2) from by intro _ _ h; rw [w3] at h ⊢; rcases w4 with ⟨v1, v2, v3⟩ | ⟨v1, v2, v3⟩; (exfalso; exact absurd h (Nat.not_le.mpr v1)); (obtain ⟨u1, u2, u3, u4, u5, u6, u7⟩ := v3; exact ⟨v2, u1, u2, u3, u4, u5, u6, u7, w1⟩)
            have qq3 : id ((∃ nwb nxb, d58_P181 tn = some nwb ∧ d58_P182 tn = some nxb ∧ ((nwb = nw ∧ nxb = nx) ∨ (nwb = nx ∧ nxb = nw)))) := show (∃ nwb nxb, d58_P181 tn = some nwb ∧ d58_P182 tn = some nxb ∧ ((nwb = nw ∧ nxb = nx) ∨ (nwb = nx ∧ nxb = nw))) from by exact ⟨nw1, nx1, e181, e182, hsw⟩
            have qq4 : id ((∃ ahb bhb, d58_P186 tn = some ahb ∧ d58_P187 tn = some bhb ∧ ((ahb = ah ∧ bhb = bh) ∨ (ahb = bh ∧ bhb = ah)))) := show (∃ ahb bhb, d58_P186 tn = some ahb ∧ d58_P187 tn = some bhb ∧ ((ahb = ah ∧ bhb = bh) ∨ (ahb = bh ∧ bhb = ah))) from by exact ⟨ah1, bh1, e186, e187, hsh⟩
            exact pw_some ⟨qq0, qq1, qq2, qq3, qq4⟩
          · have c61 := z_nle c61
            refine pw_nne hn45 ?_
            have hpr68_0 : id ((∀ tx, c45_P164 tw = some tx → (c45_G165 tw).toInt ≤ ((ln tx : Nat) : Int))) := show (∀ tx, c45_P164 tw = some tx → (c45_G165 tw).toInt ≤ ((ln tx : Nat) : Int)) from by intro tx htx2; obtain rfl := Option.some.inj (htx.symm.trans htx2); omega
            have hpr68_1 : (d58_G166 tw).toInt ≤ (c45_G165 tw).toInt := by first | assumption | omega
            have hpr68_2 : (d58_G162 tw).toInt ≤ (d58_G166 tw).toInt := by first | assumption | omega
            refine pw_b7 (fun r68 c68_G160 c68_G161 c68_G162 c68_G163 c68_G166 c68_G167 hc68 => ?_)
            have hq68 := wp_at (ok_X8_next κ wd (va_up (va_up (va_up (va_up (va_up (va_up (va_up (va_up (va_up (va_up (va_up (va_up (va_up (va_up G 60 d58_G60) 126 d58_G126) 127 d58_G127) 128 d58_G128) 141 c4_G141) 160 d58_G160) 161 d58_G161) 162 d58_G162) 163 d58_G163) 165 c45_G165) 166 d58_G166) 167 d58_G167) 183 d58_G183) 203 d58_G203) (va_up (va_up (va_up (va_up (va_up (va_up P 66 d58_P66) 164 c45_P164) 181 d58_P181) 182 d58_P182) 186 d58_P186) 187 d58_P187) (va_up U 184 d58_U184) (va_up (va_up (va_up (va_up (va_up V 0 d58_V0) 1 d58_V1) 2 d58_V2) 6 d58_V6) 12 d58_V12) X O kd ln cnt tw hg88 hg89 hg90 hg65 hg91 hg67 hzLN hk_tw hpr68_0 hpr68_1 hpr68_2) hc68
            obtain ⟨hg173, hg174, hg175, hg176, f177, f178, f179, f180, f181⟩ : (rng (0) 2000 c68_G160) ∧ (rng (0) 2000 c68_G161) ∧ (rng (0) 2000 c68_G162) ∧ (rng (0) 2000 c68_G166) ∧ ((0 ≤ r68.toInt ∧ r68.toInt ≤ 1)) ∧ (id ((r68.toInt = 1 → (d58_G166 tw).toInt ≤ (c68_G160 tw).toInt ∧ (c68_G160 tw).toInt + (c68_G161 tw).toInt = (c68_G166 tw).toInt))) ∧ ((c68_G166 tw).toInt ≤ (c45_G165 tw).toInt) ∧ ((c68_G162 tw).toInt ≤ (c68_G166 tw).toInt) ∧ ((d58_G166 tw).toInt ≤ (c68_G166 tw).toInt) := hq68
            have hq68 := pwq (fr_X8_next la (va_up (va_up (va_up (va_up (va_up (va_up (va_up (va_up (va_up (va_up (va_up (va_up (va_up (va_up G 60 d58_G60) 126 d58_G126) 127 d58_G127) 128 d58_G128) 141 c4_G141) 160 d58_G160) 161 d58_G161) 162 d58_G162) 163 d58_G163) 165 c45_G165) 166 d58_G166) 167 d58_G167) 183 d58_G183) 203 d58_G203) (va_up (va_up (va_up (va_up (va_up (va_up P 66 d58_P66) 164 c45_P164) 181 d58_P181) 182 d58_P182) 186 d58_P186) 187 d58_P187) (va_up U 184 d58_U184) (va_up (va_up (va_up (va_up (va_up V 0 d58_V0) 1 d58_V1) 2 d58_V2) 6 d58_V6) 12 d58_V12) X O kd ln cnt tw (LB_set (LB_set (LB_set (LB_set (LB_set (LB_set hB hl116) ql45_164) hl118) hl120) hl122) hl124)) hc68
            obtain ⟨q68_G160, q68_G161, q68_G162, q68_G163, q68_G166, q68_G167⟩ : (∀ z, (la z < la tw ∨ la tw < la z) → c68_G160 z = d58_G160 z) ∧ (∀ z, (la z < la tw ∨ la tw < la z) → c68_G161 z = d58_G161 z) ∧ (∀ z, (la z < la tw ∨ la tw < la z) → c68_G162 z = d58_G162 z) ∧ (∀ z, (la z < la tw ∨ la tw < la z) → c68_G163 z = d58_G163 z) ∧ (∀ z, (la z < la tw ∨ la tw < la z) → c68_G166 z = d58_G166 z) ∧ (∀ z, (la z < la tw ∨ la tw < la z) → c68_G167 z = d58_G167 z) := hq68
            have tz68 : ∀ z, ((la z < 10 ∨ 10 < la z) ∧ (la z < 310 ∨ 310 < la z) ∧ (la z < 320 ∨ 320 + 2 < la z) ∧ (la z < 90 ∨ 90 + 8 < la z)) → ((la z < la tw ∨ la tw < la z)) := fun z hz => by omega
            have hfr182 : ∀ z, ((la z < 10 ∨ 10 < la z) ∧ (la z < 310 ∨ 310 < la z) ∧ (la z < 320 ∨ 320 + 2 < la z) ∧ (la z < 90 ∨ 90 + 8 < la z)) → c68_G160 z = (G 160) z := fun z hz => (q68_G160 z (tz68 z hz)).trans (hfr107 z hz)
            have hfr183 : ∀ z, ((la z < 10 ∨ 10 < la z) ∧ (la z < 310 ∨ 310 < la z) ∧ (la z < 320 ∨ 320 + 2 < la z) ∧ (la z < 90 ∨ 90 + 8 < la z)) → c68_G161 z = (G 161) z := fun z hz => (q68_G161 z (tz68 z hz)).trans (hfr108 z hz)
            have hfr184 : ∀ z, ((la z < 10 ∨ 10 < la z) ∧ (la z < 310 ∨ 310 < la z) ∧ (la z < 320 ∨ 320 + 2 < la z) ∧ (la z < 90 ∨ 90 + 8 < la z)) → c68_G162 z = (G 162) z := fun z hz => (q68_G162 z (tz68 z hz)).trans (hfr109 z hz)
            have hfr185 : ∀ z, ((la z < 10 ∨ 10 < la z) ∧ (la z < 310 ∨ 310 < la z) ∧ (la z < 320 ∨ 320 + 2 < la z) ∧ (la z < 90 ∨ 90 + 8 < la z)) → c68_G163 z = (G 163) z := fun z hz => (q68_G163 z (tz68 z hz)).trans (hfr110 z hz)
            have hfr186 : ∀ z, ((la z < 10 ∨ 10 < la z) ∧ (la z < 310 ∨ 310 < la z) ∧ (la z < 320 ∨ 320 + 2 < la z) ∧ (la z < 90 ∨ 90 + 8 < la z)) → c68_G166 z = (G 166) z := fun z hz => (q68_G166 z (tz68 z hz)).trans (hfr111 z hz)
            have hfr187 : ∀ z, ((la z < 10 ∨ 10 < la z) ∧ (la z < 310 ∨ 310 < la z) ∧ (la z < 320 ∨ 320 + 2 < la z) ∧ (la z < 90 ∨ 90 + 8 < la z)) → c68_G167 z = (G 167) z := fun z hz => (q68_G167 z (tz68 z hz)).trans (hfr112 z hz)
            have h868_h164 : c45_P164 tw = some (tb) := by exact htx
            have h868_hf : d58_V0 (tb) = f := by exact ia58
            have hx68 := pwq (fn_X8_next κ wd la (va_up (va_up (va_up (va_up (va_up (va_up (va_up (va_up (va_up (va_up (va_up (va_up (va_up (va_up G 60 d58_G60) 126 d58_G126) 127 d58_G127) 128 d58_G128) 141 c4_G141) 160 d58_G160) 161 d58_G161) 162 d58_G162) 163 d58_G163) 165 c45_G165) 166 d58_G166) 167 d58_G167) 183 d58_G183) 203 d58_G203) (va_up (va_up (va_up (va_up (va_up (va_up P 66 d58_P66) 164 c45_P164) 181 d58_P181) 182 d58_P182) 186 d58_P186) 187 d58_P187) (va_up U 184 d58_U184) (va_up (va_up (va_up (va_up (va_up V 0 d58_V0) 1 d58_V1) 2 d58_V2) 6 d58_V6) 12 d58_V12) X O kd ln cnt tw (tb) (f) hg88 hg89 hg90 hg65 hg91 hg67 hzLN hk_tw hpr68_0 hpr68_1 hpr68_2 (LB_set (LB_set (LB_set (LB_set (LB_set (LB_set hB hl116) ql45_164) hl118) hl120) hl122) hl124) lt_tw46 h868_h164 h868_hf) hc68
            obtain ⟨p68_0, p68_1⟩ : (id ((r68.toInt ≠ 0 → NXW f (Int32.toNatClampNeg (c45_G165 tw)) (Int32.toNatClampNeg (d58_G166 tw)) (decide ((d58_G167 tw).toInt ≠ 0)) (Int32.toNatClampNeg (c68_G160 tw)) (Int32.toNatClampNeg (c68_G166 tw)) (c68_G163 tw).toInt ∧ (c68_G167 tw).toInt = 0))) ∧ (id ((r68.toInt = 0 → NXE f (Int32.toNatClampNeg (c45_G165 tw)) (Int32.toNatClampNeg (d58_G166 tw)) (decide ((d58_G167 tw).toInt ≠ 0))))) := hx68
            clear h868_h164 h868_hf
            have hnl68 := f178
            rw [hnq45] at p68_0 p68_1
            refine pw_ite (fun c71 => ?_) (fun c71 => ?_)
            · have c71 := congrArg Int32.toInt c71
              have hfin : ∃ (o : Wd) (t : Ty), TYA (d58_V6 tv) t ∧ CWS f (d58_V0 pv) (Int32.toNatClampNeg (d58_G126 sc)) (Int32.toNatClampNeg (d58_G127 sc)) n (d58_G128 sc).toInt o ∧ (wcR f n d (Int32.toNatClampNeg p0) (Int32.toNatClampNeg p1 - Int32.toNatClampNeg p0) 0 false ([], tz0)) = (o, t) := civ_end iz58 (p68_1 (by omega))
              refine pw_j23 ek167 (fun z167_0 ez167_0 z167_1 ez167_1 z167_2 ez167_2 z167_3 ez167_3 z167_4 ez167_4 z167_5 ez167_5 z167_6 ez167_6 z167_7 ez167_7 z167_8 ez167_8 z167_9 ez167_9 z167_10 ez167_10 z167_11 ez167_11 z167_12 ez167_12 z167_13 ez167_13 z167_14 ez167_14 z167_15 ez167_15 z167_16 ez167_16 z167_17 ez167_17 z167_18 ez167_18 z167_19 ez167_19 z167_20 ez167_20 z167_21 ez167_21 z167_22 ez167_22 => ?_)
              subst ez167_0 ez167_1 ez167_2 ez167_3 ez167_4 ez167_5 ez167_6 ez167_7 ez167_8 ez167_9 ez167_10 ez167_11 ez167_12 ez167_13 ez167_14 ez167_15 ez167_16 ez167_17 ez167_18 ez167_19 ez167_20 ez167_21 ez167_22
              refine pw_nne hn47 ?_
              refine pw_nne hn1 ?_
              refine pw_nne hn3 ?_
              have hpr179_0 : (d58_G127 sc).toInt ≤ r4.toInt := by first | assumption | omega
              have hpr179_1 : r4.toInt ≤ ((ln tb : Nat) : Int) := by first | assumption | omega
              refine pw_b10 (fun r179 c179_G124 c179_G125 c179_G126 c179_G128 c179_P120 c179_P121 c179_P122 c179_P123 c179_V0 hc179 => ?_)
              have hq179 := wp_at (ok_X6_finish κ wd (va_up (va_up (va_up (va_up (va_up (va_up (va_up (va_up (va_up (va_up (va_up (va_up (va_up (va_up (va_up (va_up (va_up (va_up (va_up (va_up G 60 d58_G60) 126 d58_G126) 127 d58_G127) 128 d58_G128) 141 c4_G141) 160 d58_G160) 161 d58_G161) 162 d58_G162) 163 d58_G163) 165 c45_G165) 166 d58_G166) 167 d58_G167) 183 d58_G183) 203 d58_G203) 160 c68_G160) 161 c68_G161) 162 c68_G162) 163 c68_G163) 166 c68_G166) 167 c68_G167) (va_up (va_up (va_up (va_up (va_up (va_up P 66 d58_P66) 164 c45_P164) 181 d58_P181) 182 d58_P182) 186 d58_P186) 187 d58_P187) (va_up U 184 d58_U184) (va_up (va_up (va_up (va_up (va_up V 0 d58_V0) 1 d58_V1) 2 d58_V2) 6 d58_V6) 12 d58_V12) X O kd ln cnt sc tb r4 hzG125 hg86 hg87 hzP120 hzP121 hzP122 hzP123 hzLN hk_sc hk_tb hpr179_0 hpr179_1) hc179
              obtain ⟨hg188, hg189, hg190, hg191, hg192, hg193⟩ : (rng (0) 2500 c179_G125) ∧ (rng (0) 2500 c179_G126) ∧ (PB κ ln wd 7 100 2500 2500 0 c179_P120) ∧ (PB κ ln wd 7 100 2500 2500 0 c179_P121) ∧ (PB κ ln wd 7 106 5 5 0 c179_P122) ∧ (PB κ ln wd 7 106 5 5 0 c179_P123) := hq179
              have hq179 := pwq (fr_X6_finish la (va_up (va_up (va_up (va_up (va_up (va_up (va_up (va_up (va_up (va_up (va_up (va_up (va_up (va_up (va_up (va_up (va_up (va_up (va_up (va_up G 60 d58_G60) 126 d58_G126) 127 d58_G127) 128 d58_G128) 141 c4_G141) 160 d58_G160) 161 d58_G161) 162 d58_G162) 163 d58_G163) 165 c45_G165) 166 d58_G166) 167 d58_G167) 183 d58_G183) 203 d58_G203) 160 c68_G160) 161 c68_G161) 162 c68_G162) 163 c68_G163) 166 c68_G166) 167 c68_G167) (va_up (va_up (va_up (va_up (va_up (va_up P 66 d58_P66) 164 c45_P164) 181 d58_P181) 182 d58_P182) 186 d58_P186) 187 d58_P187) (va_up U 184 d58_U184) (va_up (va_up (va_up (va_up (va_up V 0 d58_V0) 1 d58_V1) 2 d58_V2) 6 d58_V6) 12 d58_V12) X O kd ln cnt sc tb r4 (LB_set (LB_set (LB_set (LB_set (LB_set (LB_set hB hl116) ql45_164) hl118) hl120) hl122) hl124) lt_sc48) hc179
              obtain ⟨q179_G124, q179_G125, q179_G126, q179_G128, q179_P120, q179_P121, q179_P122, q179_P123, q179_V0, ql179_120, ql179_121, ql179_122, ql179_123⟩ : (∀ z, (la z < la sc ∨ la sc + 2 < la z) → c179_G124 z = (G 124) z) ∧ (∀ z, (la z < la sc ∨ la sc + 2 < la z) → c179_G125 z = (G 125) z) ∧ (∀ z, (la z < la sc ∨ la sc + 2 < la z) → c179_G126 z = d58_G126 z) ∧ (∀ z, (la z < la sc ∨ la sc + 2 < la z) → c179_G128 z = d58_G128 z) ∧ (∀ z, (la z < la sc ∨ la sc + 2 < la z) → c179_P120 z = (P 120) z) ∧ (∀ z, (la z < la sc ∨ la sc + 2 < la z) → c179_P121 z = (P 121) z) ∧ (∀ z, (la z < la sc ∨ la sc + 2 < la z) → c179_P122 z = (P 122) z) ∧ (∀ z, (la z < la sc ∨ la sc + 2 < la z) → c179_P123 z = (P 123) z) ∧ (∀ z, (la z < la sc ∨ la sc + 2 < la z) → c179_V0 z = d58_V0 z) ∧ LC 120 la cnt c179_P120 ∧ LC 121 la cnt c179_P121 ∧ LC 122 la cnt c179_P122 ∧ LC 123 la cnt c179_P123 := hq179
              have tz179 : ∀ z, ((la z < 10 ∨ 10 < la z) ∧ (la z < 310 ∨ 310 < la z) ∧ (la z < 320 ∨ 320 + 2 < la z) ∧ (la z < 90 ∨ 90 + 8 < la z)) → ((la z < la sc ∨ la sc + 2 < la z)) := fun z hz => by omega
              have hfr194 : ∀ z, ((la z < 10 ∨ 10 < la z) ∧ (la z < 310 ∨ 310 < la z) ∧ (la z < 320 ∨ 320 + 2 < la z) ∧ (la z < 90 ∨ 90 + 8 < la z)) → c179_G124 z = (G 124) z := fun z hz => (q179_G124 z (tz179 z hz)).trans ((fun _ _ => rfl) z hz)
              have hfr195 : ∀ z, ((la z < 10 ∨ 10 < la z) ∧ (la z < 310 ∨ 310 < la z) ∧ (la z < 320 ∨ 320 + 2 < la z) ∧ (la z < 90 ∨ 90 + 8 < la z)) → c179_G125 z = (G 125) z := fun z hz => (q179_G125 z (tz179 z hz)).trans ((fun _ _ => rfl) z hz)
              have hfr196 : ∀ z, ((la z < 10 ∨ 10 < la z) ∧ (la z < 310 ∨ 310 < la z) ∧ (la z < 320 ∨ 320 + 2 < la z) ∧ (la z < 90 ∨ 90 + 8 < la z)) → c179_G126 z = (G 126) z := fun z hz => (q179_G126 z (tz179 z hz)).trans (hfr104 z hz)
              have hfr197 : ∀ z, ((la z < 10 ∨ 10 < la z) ∧ (la z < 310 ∨ 310 < la z) ∧ (la z < 320 ∨ 320 + 2 < la z) ∧ (la z < 90 ∨ 90 + 8 < la z)) → c179_G128 z = (G 128) z := fun z hz => (q179_G128 z (tz179 z hz)).trans (hfr106 z hz)
              have hfr198 : ∀ z, ((la z < 10 ∨ 10 < la z) ∧ (la z < 310 ∨ 310 < la z) ∧ (la z < 320 ∨ 320 + 2 < la z) ∧ (la z < 90 ∨ 90 + 8 < la z)) → c179_P120 z = (P 120) z := fun z hz => (q179_P120 z (tz179 z hz)).trans ((fun _ _ => rfl) z hz)
              have hfr199 : ∀ z, ((la z < 10 ∨ 10 < la z) ∧ (la z < 310 ∨ 310 < la z) ∧ (la z < 320 ∨ 320 + 2 < la z) ∧ (la z < 90 ∨ 90 + 8 < la z)) → c179_P121 z = (P 121) z := fun z hz => (q179_P121 z (tz179 z hz)).trans ((fun _ _ => rfl) z hz)
              have hfr200 : ∀ z, ((la z < 10 ∨ 10 < la z) ∧ (la z < 310 ∨ 310 < la z) ∧ (la z < 320 ∨ 320 + 2 < la z) ∧ (la z < 90 ∨ 90 + 8 < la z)) → c179_P122 z = (P 122) z := fun z hz => (q179_P122 z (tz179 z hz)).trans ((fun _ _ => rfl) z hz)
              have hfr201 : ∀ z, ((la z < 10 ∨ 10 < la z) ∧ (la z < 310 ∨ 310 < la z) ∧ (la z < 320 ∨ 320 + 2 < la z) ∧ (la z < 90 ∨ 90 + 8 < la z)) → c179_P123 z = (P 123) z := fun z hz => (q179_P123 z (tz179 z hz)).trans ((fun _ _ => rfl) z hz)
              have hfr202 : ∀ z, ((la z < 10 ∨ 10 < la z) ∧ (la z < 310 ∨ 310 < la z) ∧ (la z < 320 ∨ 320 + 2 < la z) ∧ (la z < 90 ∨ 90 + 8 < la z)) → c179_V0 z = (V 0) z := fun z hz => (q179_V0 z (tz179 z hz)).trans (hfr126 z hz)
              have h8179_hf : d58_V0 tb = f := by exact ia58
              have h8179_h120 : (P 120) sc = some tl := by exact h120
              have h8179_h121 : (P 121) sc = some pv := by exact h121
              have h8179_h122 : (P 122) sc = some tt := by exact h122
              have h8179_h123 : (P 123) sc = some tv := by exact h123
              have hx179 := pwq (fn_X6_finish κ wd la (va_up (va_up (va_up (va_up (va_up (va_up (va_up (va_up (va_up (va_up (va_up (va_up (va_up (va_up (va_up (va_up (va_up (va_up (va_up (va_up G 60 d58_G60) 126 d58_G126) 127 d58_G127) 128 d58_G128) 141 c4_G141) 160 d58_G160) 161 d58_G161) 162 d58_G162) 163 d58_G163) 165 c45_G165) 166 d58_G166) 167 d58_G167) 183 d58_G183) 203 d58_G203) 160 c68_G160) 161 c68_G161) 162 c68_G162) 163 c68_G163) 166 c68_G166) 167 c68_G167) (va_up (va_up (va_up (va_up (va_up (va_up P 66 d58_P66) 164 c45_P164) 181 d58_P181) 182 d58_P182) 186 d58_P186) 187 d58_P187) (va_up U 184 d58_U184) (va_up (va_up (va_up (va_up (va_up V 0 d58_V0) 1 d58_V1) 2 d58_V2) 6 d58_V6) 12 d58_V12) X O kd ln cnt sc tb r4 (f) (tl) (pv) (tt) (tv) hzG125 hg86 hg87 hzP120 hzP121 hzP122 hzP123 hzLN hk_sc hk_tb hpr179_0 hpr179_1 (LB_set (LB_set (LB_set (LB_set (LB_set (LB_set hB hl116) ql45_164) hl118) hl120) hl122) hl124) lt_sc48 lt_tb4 h8179_hf h8179_h120 h8179_h121 h8179_h122 h8179_h123) hc179
              obtain ⟨p179_0, p179_1⟩ : (id ((∀ o9, CWS f (d58_V0 pv) (Int32.toNatClampNeg (d58_G126 sc)) (Int32.toNatClampNeg (d58_G127 sc)) (Int32.toNatClampNeg r4) (d58_G128 sc).toInt o9 → (2500 < o9.length ∧ r179.toInt = -1 ∧ c179_P120 sc = some tl ∧ c179_P121 sc = some pv ∧ c179_P122 sc = some tt ∧ c179_P123 sc = some tv ∧ c179_G124 sc = (G 124) sc ∧ c179_G125 sc = (G 125) sc) ∨ (o9.length ≤ 2500 ∧ r179.toInt = ((o9.length : Nat) : Int) ∧ c179_P120 sc = some pv ∧ c179_P121 sc = some tl ∧ c179_P122 sc = some tv ∧ c179_P123 sc = some tt ∧ (c179_G124 sc).toInt ≠ 0 ∧ c179_G125 sc = r179 ∧ wdl (c179_V0 pv) 0 (Int32.toNatClampNeg (c179_G125 sc)) = o9)))) ∧ (id ((∀ z, z ≠ pv → c179_V0 z = d58_V0 z))) := hx179
              clear h8179_hf h8179_h120 h8179_h121 h8179_h122 h8179_h123
              rw [hn4] at p179_0
              obtain ⟨o9, t9, w1, w2, w3⟩ := hfin
              have w4 := p179_0 o9 w2
              have qq0 : id ((¬ (0 ≤ p0.toInt ∧ p0.toInt ≤ p1.toInt ∧ p1.toInt ≤ ((G 222) this).toInt) → r179.toInt = -2 ∧ c179_P120 sc = some tl ∧ c179_P121 sc = some pv ∧ c179_P122 sc = some tt ∧ c179_P123 sc = some tv ∧ c179_G124 sc = (G 124) sc ∧ c179_G125 sc = (G 125) sc ∧ c179_V0 tl = (V 0) tl ∧ d58_V6 tt = (V 6) tt)) := show (¬ (0 ≤ p0.toInt ∧ p0.toInt ≤ p1.toInt ∧ p1.toInt ≤ ((G 222) this).toInt) → r179.toInt = -2 ∧ c179_P120 sc = some tl ∧ c179_P121 sc = some pv ∧ c179_P122 sc = some tt ∧ c179_P123 sc = some tv ∧ c179_G124 sc = (G 124) sc ∧ c179_G125 sc = (G 125) sc ∧ c179_V0 tl = (V 0) tl ∧ d58_V6 tt = (V 6) tt) from by intro h; exfalso; exact h st9
              have qq1 : id (((0 ≤ p0.toInt ∧ p0.toInt ≤ p1.toInt ∧ p1.toInt ≤ ((G 222) this).toInt) → ¬ (NZR f n ∧ (wcR f n d (Int32.toNatClampNeg p0) (Int32.toNatClampNeg p1 - Int32.toNatClampNeg p0) 0 false ([], tz0)).1.length ≤ 2500) → r179.toInt = -1 ∧ c179_P120 sc = some tl ∧ c179_P121 sc = some pv ∧ c179_P122 sc = some tt ∧ c179_P123 sc = some tv ∧ c179_G124 sc = (G 124) sc ∧ c179_G125 sc = (G 125) sc ∧ c179_V0 tl = (V 0) tl ∧ d58_V6 tt = (V 6) tt)) := show ((0 ≤ p0.toInt ∧ p0.toInt ≤ p1.toInt ∧ p1.toInt ≤ ((G 222) this).toInt) → ¬ (NZR f n ∧ (wcR f n d (Int32.toNatClampNeg p0) (Int32.toNatClampNeg p1 - Int32.toNatClampNeg p0) 0 false ([], tz0)).1.length ≤ 2500) → r179.toInt = -1 ∧ c179_P120 sc = some tl ∧ c179_P121 sc = some pv ∧ c179_P122 sc = some tt ∧ c179_P123 sc = some tv ∧ c179_G124 sc = (G 124) sc ∧ c179_G125 sc = (G 125) sc ∧ c179_V0 tl = (V 0) tl ∧ d58_V6 tt = (V 6) tt) from by intro _ h; rcases w4 with ⟨v1, v2, v3⟩ | ⟨v1, v2, v3⟩; (obtain ⟨u1, u2, u3, u4, u5, u6⟩ := v3; exact ⟨v2, u1, u2, u3, u4, u5, u6, (p179_1 tl hdt).trans ib58, ic58⟩); (exfalso; exact h ⟨hnz, by rw [w3]; exact v1⟩)
              have qq2 : id (((0 ≤ p0.toInt ∧ p0.toInt ≤ p1.toInt ∧ p1.toInt ≤ ((G 222) this).toInt) → NZR f n → (wcR f n d (Int32.toNatClampNeg p0) (Int32.toNatClampNeg p1 - Int32.toNatClampNeg p0) 0 false ([], tz0)).1.length ≤ 2500 → r179.toInt = (((wcR f n d (Int32.toNatClampNeg p0) (Int32.toNatClampNeg p1 - Int32.toNatClampNeg p0) 0 false ([], tz0)).1.length : Nat) : Int) ∧ c179_P120 sc = some pv ∧ c179_P121 sc = some tl ∧ c179_P122 sc = some tv ∧ c179_P123 sc = some tt ∧ (c179_G124 sc).toInt ≠ 0 ∧ c179_G125 sc = r179 ∧ wdl (c179_V0 pv) 0 (Int32.toNatClampNeg (c179_G125 sc)) = (wcR f n d (Int32.toNatClampNeg p0) (Int32.toNatClampNeg p1 - Int32.toNatClampNeg p0) 0 false ([], tz0)).1 ∧ TYA (d58_V6 tv) (wcR f n d (Int32.toNatClampNeg p0) (Int32.toNatClampNeg p1 - Int32.toNatClampNeg p0) 0 false ([], tz0)).2)) := show ((0 ≤ p0.toInt ∧ p0.toInt ≤ p1.toInt ∧ p1.toInt ≤ ((G 222) this).toInt) → NZR f n → (wcR f n d (Int32.toNatClampNeg p0) (Int32.toNatClampNeg p1 - Int32.toNatClampNeg p0) 0 false ([], tz0)).1.length ≤ 2500 → r179.toInt = (((wcR f n d (Int32.toNatClampNeg p0) (Int32.toNatClampNeg p1 - Int32.toNatClampNeg p0) 0 false ([], tz0)).1.length : Nat) : Int) ∧ c179_P120 sc = some pv ∧ c179_P121 sc = some tl ∧ c179_P122 sc = some tv ∧ c179_P123 sc = some tt ∧ (c179_G124 sc).toInt ≠ 0 ∧ c179_G125 sc = r179 ∧ wdl (c179_V0 pv) 0 (Int32.toNatClampNeg (c179_G125 sc)) = (wcR f n d (Int32.toNatClampNeg p0) (Int32.toNatClampNeg p1 - Int32.toNatClampNeg p0) 0 false ([], tz0)).1 ∧ TYA (d58_V6 tv) (wcR f n d (Int32.toNatClampNeg p0) (Int32.toNatClampNeg p1 - Int32.toNatClampNeg p0) 0 false ([], tz0)).2) from by intro _ _ h; rw [w3] at h ⊢; rcases w4 with ⟨v1, v2, v3⟩ | ⟨v1, v2, v3⟩; (exfalso; exact absurd h (Nat.not_le.mpr v1)); (obtain ⟨u1, u2, u3, u4, u5, u6, u7⟩ := v3; exact ⟨v2, u1, u2, u3, u4, u5, u6, u7, w1⟩)
              have qq3 : id ((∃ nwb nxb, d58_P181 tn = some nwb ∧ d58_P182 tn = some nxb ∧ ((nwb = nw ∧ nxb = nx) ∨ (nwb = nx ∧ nxb = nw)))) := show (∃ nwb nxb, d58_P181 tn = some nwb ∧ d58_P182 tn = some nxb ∧ ((nwb = nw ∧ nxb = nx) ∨ (nwb = nx ∧ nxb = nw))) from by exact ⟨nw1, nx1, e181, e182, hsw⟩
              have qq4 : id ((∃ ahb bhb, d58_P186 tn = some ahb ∧ d58_P187 tn = some bhb ∧ ((ahb = ah ∧ bhb = bh) ∨ (ahb = bh ∧ bhb = ah)))) := show (∃ ahb bhb, d58_P186 tn = some ahb ∧ d58_P187 tn = some bhb ∧ ((ahb = ah ∧ bhb = bh) ∨ (ahb = bh ∧ bhb = ah))) from by exact ⟨ah1, bh1, e186, e187, hsh⟩
              exact pw_some ⟨qq0, qq1, qq2, qq3, qq4⟩
            · have c71 : r68.toInt = 1 := by have z9 := z_ne c71; omega
              have hnl := hnl68 (by omega)
              have hnl1 := hnl.1
              have hnl2 := hnl.2
              obtain ⟨hnw, hq68⟩ := p68_0 (by omega)
              have hnb9 := NXW_b hnw
              have hb160 := hg173 tw
              have k160 := clampI (x := c68_G160 tw) (by omega)
              have hb161 := hg174 tw
              have k161 := clampI (x := c68_G161 tw) (by omega)
              have hb166b := hg176 tw
              have k166b := clampI (x := c68_G166 tw) (by omega)
              refine pw_nne hn45 ?_
              refine pw_jE (fun j161 ej161 => ?_)
              refine pw_ite (fun c81 => ?_) (fun c81 => ?_)
              · have c81 := congrArg Int32.toInt c81
                refine pw_nne hn45 ?_
                have b203 := hg174 tw
                refine pw_ite (fun c103 => ?_) (fun c103 => ?_)
                · have c103 := (z_le _ _).mp c103
                  refine pw_nne hn47 ?_
                  refine pw_nne hn45 ?_
                  refine pw_nne hn7 ?_
                  refine pw_nne hn5 ?_
                  refine pw_nne hn1 ?_
                  refine pw_nne hn3 ?_
                  refine pw_nne hn45 ?_
                  have b204 := hg173 tw
                  refine pw_nne hn45 ?_
                  refine pw_b14 (fun r155 c155_G60 c155_G183 c155_G203 c155_P66 c155_P181 c155_P182 c155_P186 c155_P187 c155_U184 c155_V0 c155_V1 c155_V2 c155_V12 hc155 => ?_)
                  have hq155 := wp_at (ok_X9_through κ wd (va_up (va_up (va_up (va_up (va_up (va_up (va_up (va_up (va_up (va_up (va_up (va_up (va_up (va_up (va_up (va_up (va_up (va_up (va_up (va_up G 60 d58_G60) 126 d58_G126) 127 d58_G127) 128 d58_G128) 141 c4_G141) 160 d58_G160) 161 d58_G161) 162 d58_G162) 163 d58_G163) 165 c45_G165) 166 d58_G166) 167 d58_G167) 183 d58_G183) 203 d58_G203) 160 c68_G160) 161 c68_G161) 162 c68_G162) 163 c68_G163) 166 c68_G166) 167 c68_G167) (va_up (va_up (va_up (va_up (va_up (va_up P 66 d58_P66) 164 c45_P164) 181 d58_P181) 182 d58_P182) 186 d58_P186) 187 d58_P187) (va_up U 184 d58_U184) (va_up (va_up (va_up (va_up (va_up V 0 d58_V0) 1 d58_V1) 2 d58_V2) 6 d58_V6) 12 d58_V12) X O kd ln cnt tn ra p0 p1 tb (c68_G160 tw) (c68_G161 tw) hg85 hzG102 hg92 hzG200 hg93 hzP20 hzP21 hzP22 hzP23 hzP61 hzP62 hzP63 hzP64 hzP65 hg94 hzP101 hzP103 hzP104 hzP105 hzP106 hzP108 hzP109 hzP110 hzP180 hg95 hg96 hzP185 hg97 hg98 hzP201 hzP202 hg99 hg100 hzO0 hzO2 hzRA hRB101 hzRI hzRM103 hzRM104 hzRM108 hzLN hk_tn hk_ra hk_tb) hc155
                  obtain ⟨hg206, hg207, hg208, hg209, hg210, hg211, hg212, hg213, hg214, hg215, hRB216, hk217, f218⟩ : (rng (0) 30 c155_G60) ∧ (rng (0) 40 c155_G183) ∧ (rng (0) 100 c155_G203) ∧ (PB κ ln wd 4 11 0 2500 0 c155_P66) ∧ (PB κ ln wd 10 100 40 40 0 c155_P181) ∧ (PB κ ln wd 10 100 40 40 0 c155_P182) ∧ (PB κ ln wd 10 11 0 2500 1 c155_P186) ∧ (PB κ ln wd 10 11 0 2500 1 c155_P187) ∧ (rng2 (0) 24 c155_V1) ∧ (rng2 (0) 24 c155_V2) ∧ (RB κ ln (G 200) c155_G203 (P 202) c155_V1) ∧ (κ r155 = 11) ∧ (c155_G203 wd = d58_G203 wd) := hq155
                  have hq155 := pwq (fr_X9_through la (va_up (va_up (va_up (va_up (va_up (va_up (va_up (va_up (va_up (va_up (va_up (va_up (va_up (va_up (va_up (va_up (va_up (va_up (va_up (va_up G 60 d58_G60) 126 d58_G126) 127 d58_G127) 128 d58_G128) 141 c4_G141) 160 d58_G160) 161 d58_G161) 162 d58_G162) 163 d58_G163) 165 c45_G165) 166 d58_G166) 167 d58_G167) 183 d58_G183) 203 d58_G203) 160 c68_G160) 161 c68_G161) 162 c68_G162) 163 c68_G163) 166 c68_G166) 167 c68_G167) (va_up (va_up (va_up (va_up (va_up (va_up P 66 d58_P66) 164 c45_P164) 181 d58_P181) 182 d58_P182) 186 d58_P186) 187 d58_P187) (va_up U 184 d58_U184) (va_up (va_up (va_up (va_up (va_up V 0 d58_V0) 1 d58_V1) 2 d58_V2) 6 d58_V6) 12 d58_V12) X O kd ln cnt tn ra p0 p1 tb (c68_G160 tw) (c68_G161 tw) (LB_set (LB_set (LB_set (LB_set (LB_set (LB_set hB hl116) ql45_164) hl118) hl120) hl122) hl124) lt_tn8) hc155
                  obtain ⟨q155_G60, q155_G183, q155_G203, q155_P66, q155_P181, q155_P182, q155_P186, q155_P187, q155_U184, q155_V0, q155_V1, q155_V2, q155_V12, ql155_66, ql155_181, ql155_182, ql155_186, ql155_187⟩ : (∀ z, (la z < la tn ∨ la tn + 8 < la z) → c155_G60 z = d58_G60 z) ∧ (∀ z, (la z < la tn ∨ la tn + 8 < la z) → c155_G183 z = d58_G183 z) ∧ (∀ z, (la z < la tn ∨ la tn + 8 < la z) → c155_G203 z = d58_G203 z) ∧ (∀ z, (la z < la tn ∨ la tn + 8 < la z) → c155_P66 z = d58_P66 z) ∧ (∀ z, (la z < la tn ∨ la tn + 8 < la z) → c155_P181 z = d58_P181 z) ∧ (∀ z, (la z < la tn ∨ la tn + 8 < la z) → c155_P182 z = d58_P182 z) ∧ (∀ z, (la z < la tn ∨ la tn + 8 < la z) → c155_P186 z = d58_P186 z) ∧ (∀ z, (la z < la tn ∨ la tn + 8 < la z) → c155_P187 z = d58_P187 z) ∧ (∀ z, (la z < la tn ∨ la tn + 8 < la z) → c155_U184 z = d58_U184 z) ∧ (∀ z, (la z < la tn ∨ la tn + 8 < la z) → c155_V0 z = d58_V0 z) ∧ (∀ z, (la z < la tn ∨ la tn + 8 < la z) → c155_V1 z = d58_V1 z) ∧ (∀ z, (la z < la tn ∨ la tn + 8 < la z) → c155_V2 z = d58_V2 z) ∧ (∀ z, (la z < la tn ∨ la tn + 8 < la z) → c155_V12 z = d58_V12 z) ∧ LC 66 la cnt c155_P66 ∧ LC 181 la cnt c155_P181 ∧ LC 182 la cnt c155_P182 ∧ LC 186 la cnt c155_P186 ∧ LC 187 la cnt c155_P187 := hq155
                  have tz155 : ∀ z, ((la z < 10 ∨ 10 < la z) ∧ (la z < 310 ∨ 310 < la z) ∧ (la z < 320 ∨ 320 + 2 < la z) ∧ (la z < 90 ∨ 90 + 8 < la z)) → ((la z < la tn ∨ la tn + 8 < la z)) := fun z hz => by omega
                  have hfr219 : ∀ z, ((la z < 10 ∨ 10 < la z) ∧ (la z < 310 ∨ 310 < la z) ∧ (la z < 320 ∨ 320 + 2 < la z) ∧ (la z < 90 ∨ 90 + 8 < la z)) → c155_G60 z = (G 60) z := fun z hz => (q155_G60 z (tz155 z hz)).trans (hfr103 z hz)
                  have hfr220 : ∀ z, ((la z < 10 ∨ 10 < la z) ∧ (la z < 310 ∨ 310 < la z) ∧ (la z < 320 ∨ 320 + 2 < la z) ∧ (la z < 90 ∨ 90 + 8 < la z)) → c155_G183 z = (G 183) z := fun z hz => (q155_G183 z (tz155 z hz)).trans (hfr113 z hz)
                  have hfr221 : ∀ z, ((la z < 10 ∨ 10 < la z) ∧ (la z < 310 ∨ 310 < la z) ∧ (la z < 320 ∨ 320 + 2 < la z) ∧ (la z < 90 ∨ 90 + 8 < la z)) → c155_G203 z = (G 203) z := fun z hz => (q155_G203 z (tz155 z hz)).trans (hfr114 z hz)
                  have hfr222 : ∀ z, ((la z < 10 ∨ 10 < la z) ∧ (la z < 310 ∨ 310 < la z) ∧ (la z < 320 ∨ 320 + 2 < la z) ∧ (la z < 90 ∨ 90 + 8 < la z)) → c155_P66 z = (P 66) z := fun z hz => (q155_P66 z (tz155 z hz)).trans (hfr115 z hz)
                  have hfr223 : ∀ z, ((la z < 10 ∨ 10 < la z) ∧ (la z < 310 ∨ 310 < la z) ∧ (la z < 320 ∨ 320 + 2 < la z) ∧ (la z < 90 ∨ 90 + 8 < la z)) → c155_P181 z = (P 181) z := fun z hz => (q155_P181 z (tz155 z hz)).trans (hfr117 z hz)
                  have hfr224 : ∀ z, ((la z < 10 ∨ 10 < la z) ∧ (la z < 310 ∨ 310 < la z) ∧ (la z < 320 ∨ 320 + 2 < la z) ∧ (la z < 90 ∨ 90 + 8 < la z)) → c155_P182 z = (P 182) z := fun z hz => (q155_P182 z (tz155 z hz)).trans (hfr119 z hz)
                  have hfr225 : ∀ z, ((la z < 10 ∨ 10 < la z) ∧ (la z < 310 ∨ 310 < la z) ∧ (la z < 320 ∨ 320 + 2 < la z) ∧ (la z < 90 ∨ 90 + 8 < la z)) → c155_P186 z = (P 186) z := fun z hz => (q155_P186 z (tz155 z hz)).trans (hfr121 z hz)
                  have hfr226 : ∀ z, ((la z < 10 ∨ 10 < la z) ∧ (la z < 310 ∨ 310 < la z) ∧ (la z < 320 ∨ 320 + 2 < la z) ∧ (la z < 90 ∨ 90 + 8 < la z)) → c155_P187 z = (P 187) z := fun z hz => (q155_P187 z (tz155 z hz)).trans (hfr123 z hz)
                  have hfr227 : ∀ z, ((la z < 10 ∨ 10 < la z) ∧ (la z < 310 ∨ 310 < la z) ∧ (la z < 320 ∨ 320 + 2 < la z) ∧ (la z < 90 ∨ 90 + 8 < la z)) → c155_U184 z = (U 184) z := fun z hz => (q155_U184 z (tz155 z hz)).trans (hfr125 z hz)
                  have hfr228 : ∀ z, ((la z < 10 ∨ 10 < la z) ∧ (la z < 310 ∨ 310 < la z) ∧ (la z < 320 ∨ 320 + 2 < la z) ∧ (la z < 90 ∨ 90 + 8 < la z)) → c155_V0 z = (V 0) z := fun z hz => (q155_V0 z (tz155 z hz)).trans (hfr126 z hz)
                  have hfr229 : ∀ z, ((la z < 10 ∨ 10 < la z) ∧ (la z < 310 ∨ 310 < la z) ∧ (la z < 320 ∨ 320 + 2 < la z) ∧ (la z < 90 ∨ 90 + 8 < la z)) → c155_V1 z = (V 1) z := fun z hz => (q155_V1 z (tz155 z hz)).trans (hfr127 z hz)
                  have hfr230 : ∀ z, ((la z < 10 ∨ 10 < la z) ∧ (la z < 310 ∨ 310 < la z) ∧ (la z < 320 ∨ 320 + 2 < la z) ∧ (la z < 90 ∨ 90 + 8 < la z)) → c155_V2 z = (V 2) z := fun z hz => (q155_V2 z (tz155 z hz)).trans (hfr128 z hz)
                  have hfr231 : ∀ z, ((la z < 10 ∨ 10 < la z) ∧ (la z < 310 ∨ 310 < la z) ∧ (la z < 320 ∨ 320 + 2 < la z) ∧ (la z < 90 ∨ 90 + 8 < la z)) → c155_V12 z = (V 12) z := fun z hz => (q155_V12 z (tz155 z hz)).trans (hfr130 z hz)
                  have h8155_h181 : d58_P181 tn = some (nw1) := by exact e181
                  have h8155_h182 : d58_P182 tn = some (nx1) := by exact e182
                  have h8155_hnn : (nw1) ≠ (nx1) := by exact sw_nn hsw hnn
                  have h8155_h185 : (P 185) tn = some wh := by exact h185
                  have h8155_h180 : (P 180) tn = some pg := by exact h180
                  have h8155_hfi : (P 63) pg = some fi := by exact hfi
                  have h8155_hpa : (P 65) pg = some pa := by exact hpa
                  have h8155_hpk : (P 62) pg = some pk := by exact hpk
                  have h8155_hsz : (P 61) pg = some sz := by exact hsz
                  have h8155_hcl : (P 64) pg = some cl := by exact hcl
                  have h8155_hlt9 : la tn = 90 := by exact hlt9
                  have h8155_h186 : d58_P186 tn = some (ah1) := by exact e186
                  have h8155_h187 : d58_P187 tn = some (bh1) := by exact e187
                  have h8155_hxa : (P 201) (ah1) = some (la1) := by exact e1x
                  have h8155_hya : (P 202) (ah1) = some (sa1) := by exact e1y
                  have h8155_hxb : (P 201) (bh1) = some (lb1) := by exact e2x
                  have h8155_hyb : (P 202) (bh1) = some (sb1) := by exact e2y
                  have h8155_hga : ((G 200) (ah1)).toInt = ((24 : Nat) : Int) := by exact e1w
                  have h8155_hgb : ((G 200) (bh1)).toInt = ((24 : Nat) : Int) := by exact e2w
                  have h8155_hna : ln (sa1) = 12 := by exact e1n
                  have h8155_hnb : ln (sb1) = 12 := by exact e2n
                  have h8155_hab : (la (ah1) = 94 ∧ la (bh1) = 95) ∨ (la (ah1) = 95 ∧ la (bh1) = 94) := by exact elb9
                  have h8155_hW : wdl (d58_V0 tb) (Int32.toNatClampNeg (c68_G160 tw)) (Int32.toNatClampNeg (c68_G161 tw)) = ((wdl f (Int32.toNatClampNeg (c68_G160 tw)) (Int32.toNatClampNeg (c68_G161 tw)))) := by rw [ia58]
                  have h8155_hWw : 1 ≤ ((wdl f (Int32.toNatClampNeg (c68_G160 tw)) (Int32.toNatClampNeg (c68_G161 tw)))).length ∧ ((wdl f (Int32.toNatClampNeg (c68_G160 tw)) (Int32.toNatClampNeg (c68_G161 tw)))).length ≤ 24 ∧ BW ((wdl f (Int32.toNatClampNeg (c68_G160 tw)) (Int32.toNatClampNeg (c68_G161 tw)))) := by exact ⟨by rw [wdl_len]; omega, by rw [wdl_len]; omega, fun y hy => by unfold wdl at hy; obtain ⟨j, _, e9⟩ := List.mem_map.mp hy; rw [← e9]; exact fit_id (hfit _)⟩
                  have h8155_hst : 0 ≤ (c68_G160 tw).toInt := by omega
                  have h8155_hm : 0 ≤ (c68_G161 tw).toInt := by omega
                  have h8155_hlf : (c68_G160 tw).toInt + (c68_G161 tw).toInt ≤ ((ln tb : Nat) : Int) := by omega
                  have h8155_hp1 : 0 ≤ p0.toInt := by omega
                  have h8155_hp2 : p1.toInt ≤ 6 := by omega
                  have h8155_hl6 : ln ra = 6 := by exact hlr6
                  have h8155_hrf : id (∀ q : Nat, p0.toInt ≤ (q : Int) → (q : Int) < p1.toInt → ∃ rf, (O 2) ra q = some rf ∧ rf < cnt ∧ 100000 ≤ la rf ∧ RFX (va_up (va_up (va_up (va_up (va_up (va_up (va_up (va_up (va_up (va_up (va_up (va_up (va_up (va_up (va_up (va_up (va_up (va_up (va_up (va_up G 60 d58_G60) 126 d58_G126) 127 d58_G127) 128 d58_G128) 141 c4_G141) 160 d58_G160) 161 d58_G161) 162 d58_G162) 163 d58_G163) 165 c45_G165) 166 d58_G166) 167 d58_G167) 183 d58_G183) 203 d58_G203) 160 c68_G160) 161 c68_G161) 162 c68_G162) 163 c68_G163) 166 c68_G166) 167 c68_G167) (va_up (va_up (va_up (va_up (va_up (va_up P 66 d58_P66) 164 c45_P164) 181 d58_P181) 182 d58_P182) 186 d58_P186) 187 d58_P187) (va_up (va_up (va_up (va_up (va_up V 0 d58_V0) 1 d58_V1) 2 d58_V2) 6 d58_V6) 12 d58_V12) O ln la cnt rf (d q)) := show ∀ q : Nat, p0.toInt ≤ (q : Int) → (q : Int) < p1.toInt → ∃ rf, (O 2) ra q = some rf ∧ rf < cnt ∧ 100000 ≤ la rf ∧ RFX (va_up (va_up (va_up (va_up (va_up (va_up (va_up (va_up (va_up (va_up (va_up (va_up (va_up (va_up (va_up (va_up (va_up (va_up (va_up (va_up G 60 d58_G60) 126 d58_G126) 127 d58_G127) 128 d58_G128) 141 c4_G141) 160 d58_G160) 161 d58_G161) 162 d58_G162) 163 d58_G163) 165 c45_G165) 166 d58_G166) 167 d58_G167) 183 d58_G183) 203 d58_G203) 160 c68_G160) 161 c68_G161) 162 c68_G162) 163 c68_G163) 166 c68_G166) 167 c68_G167) (va_up (va_up (va_up (va_up (va_up (va_up P 66 d58_P66) 164 c45_P164) 181 d58_P181) 182 d58_P182) 186 d58_P186) 187 d58_P187) (va_up (va_up (va_up (va_up (va_up V 0 d58_V0) 1 d58_V1) 2 d58_V2) 6 d58_V6) 12 d58_V12) O ln la cnt rf (d q) from by exact fun q h1 h2 => (by obtain ⟨rf9, y1, y2, y3, y4⟩ := ix58 q (by omega); exact ⟨rf9, y1, y2, y3, RFX_fr y4 hB58 y2 (fun z hz h3 h4 => ⟨rfl, rfl, rfl, rfl, rfl, rfl, rfl, rfl, rfl, rfl, rfl, rfl, rfl, rfl, rfl, rfl, rfl, rfl, rfl, rfl, rfl, rfl, rfl, rfl, rfl, rfl⟩) (Nat.le_refl _) (fun _ _ => rfl)⟩)
                  have hx155 := pwq (fn_X9_through κ wd la (va_up (va_up (va_up (va_up (va_up (va_up (va_up (va_up (va_up (va_up (va_up (va_up (va_up (va_up (va_up (va_up (va_up (va_up (va_up (va_up G 60 d58_G60) 126 d58_G126) 127 d58_G127) 128 d58_G128) 141 c4_G141) 160 d58_G160) 161 d58_G161) 162 d58_G162) 163 d58_G163) 165 c45_G165) 166 d58_G166) 167 d58_G167) 183 d58_G183) 203 d58_G203) 160 c68_G160) 161 c68_G161) 162 c68_G162) 163 c68_G163) 166 c68_G166) 167 c68_G167) (va_up (va_up (va_up (va_up (va_up (va_up P 66 d58_P66) 164 c45_P164) 181 d58_P181) 182 d58_P182) 186 d58_P186) 187 d58_P187) (va_up U 184 d58_U184) (va_up (va_up (va_up (va_up (va_up V 0 d58_V0) 1 d58_V1) 2 d58_V2) 6 d58_V6) 12 d58_V12) X O kd ln cnt tn ra p0 p1 tb (c68_G160 tw) (c68_G161 tw) (nw1) (nx1) (wh) (pg) (fi) (pa) (pk) (sz) (cl) (ah1) (bh1) (la1) (sa1) (lb1) (sb1) (d) ((wdl f (Int32.toNatClampNeg (c68_G160 tw)) (Int32.toNatClampNeg (c68_G161 tw)))) hg85 hzG102 hg92 hzG200 hg93 hzP20 hzP21 hzP22 hzP23 hzP61 hzP62 hzP63 hzP64 hzP65 hg94 hzP101 hzP103 hzP104 hzP105 hzP106 hzP108 hzP109 hzP110 hzP180 hg95 hg96 hzP185 hg97 hg98 hzP201 hzP202 hg99 hg100 hzO0 hzO2 hzRA hRB101 hzRI hzRM103 hzRM104 hzRM108 hzLN hk_tn hk_ra hk_tb (LB_set (LB_set (LB_set (LB_set (LB_set (LB_set hB hl116) ql45_164) hl118) hl120) hl122) hl124) lt_tn8 lt_ra6 lt_tb4 h8155_h181 h8155_h182 h8155_hnn h8155_h185 h8155_h180 h8155_hfi h8155_hpa h8155_hpk h8155_hsz h8155_hcl h8155_hlt9 h8155_h186 h8155_h187 h8155_hxa h8155_hya h8155_hxb h8155_hyb h8155_hga h8155_hgb h8155_hna h8155_hnb h8155_hab h8155_hW h8155_hWw h8155_hst h8155_hm h8155_hlf h8155_hp1 h8155_hp2 h8155_hl6 h8155_hrf) hc155
                  obtain ⟨p155_0, p155_1, p155_2, p155_3⟩ : (((r155 = (ah1) ∧ rwW (c155_G203 (ah1)) (c155_V0 (la1)) (c155_V1 (sa1)) 24 = thF d (Int32.toNatClampNeg p0) (Int32.toNatClampNeg p1 - Int32.toNatClampNeg p0) [((wdl f (Int32.toNatClampNeg (c68_G160 tw)) (Int32.toNatClampNeg (c68_G161 tw))))]) ∨ (r155 = (bh1) ∧ rwW (c155_G203 (bh1)) (c155_V0 (lb1)) (c155_V1 (sb1)) 24 = thF d (Int32.toNatClampNeg p0) (Int32.toNatClampNeg p1 - Int32.toNatClampNeg p0) [((wdl f (Int32.toNatClampNeg (c68_G160 tw)) (Int32.toNatClampNeg (c68_G161 tw))))]))) ∧ (id ((∃ nwb nxb, c155_P181 tn = some nwb ∧ c155_P182 tn = some nxb ∧ ((nwb = (nw1) ∧ nxb = (nx1)) ∨ (nwb = (nx1) ∧ nxb = (nw1)))))) ∧ (id ((∃ ahb bhb, c155_P186 tn = some ahb ∧ c155_P187 tn = some bhb ∧ ((ahb = (ah1) ∧ bhb = (bh1)) ∨ (ahb = (bh1) ∧ bhb = (ah1)))))) ∧ (WDS (thF d (Int32.toNatClampNeg p0) (Int32.toNatClampNeg p1 - Int32.toNatClampNeg p0) [((wdl f (Int32.toNatClampNeg (c68_G160 tw)) (Int32.toNatClampNeg (c68_G161 tw))))])) := hx155
                  clear h8155_h181 h8155_h182 h8155_hnn h8155_h185 h8155_h180 h8155_hfi h8155_hpa h8155_hpk h8155_hsz h8155_hcl h8155_hlt9 h8155_h186 h8155_h187 h8155_hxa h8155_hya h8155_hxb h8155_hyb h8155_hga h8155_hgb h8155_hna h8155_hnb h8155_hab h8155_hW h8155_hWw h8155_hst h8155_hm h8155_hlf h8155_hp1 h8155_hp2 h8155_hl6 h8155_hrf
                  have hFL232 : FL wd c155_G203 (V 3) := by exact FL_eq hFL102 f218
                  obtain ⟨lr9, sr9, hr201, hr202, hr200, hrla, hrow9⟩ : ∃ lr9 sr9, P 201 r155 = some lr9 ∧ P 202 r155 = some sr9 ∧ ((G 200) r155).toInt = ((24 : Nat) : Int) ∧ (la r155 = 94 ∨ la r155 = 95) ∧ rwW (c155_G203 r155) (c155_V0 lr9) (c155_V1 sr9) 24 = thF d (Int32.toNatClampNeg p0) (Int32.toNatClampNeg p1 - Int32.toNatClampNeg p0) [(wdl f (Int32.toNatClampNeg (c68_G160 tw)) (Int32.toNatClampNeg (c68_G161 tw)))] := by rcases p155_0 with ⟨z1, z2⟩ | ⟨z1, z2⟩ <;> rw [z1]; (exact ⟨la1, sa1, e1x, e1y, e1w, by omega, z2⟩); (exact ⟨lb1, sb1, e2x, e2y, e2w, by omega, z2⟩)
                  have hrlt : r155 < cnt := by rcases p155_0 with ⟨z1, _⟩ | ⟨z1, _⟩ <;> rw [z1] <;> omega
                  have hse : Int32.toNatClampNeg (c68_G160 tw) + Int32.toNatClampNeg (c68_G161 tw) = Int32.toNatClampNeg (c68_G166 tw) := by omega
                  have hwe : Int32.toNatClampNeg (c68_G161 tw) = Int32.toNatClampNeg (c68_G166 tw) - Int32.toNatClampNeg (c68_G160 tw) := by omega
                  have hn233 : (P 201) r155 = some lr9 := hr201
                  have lt_lr9234 := ((hB.1 201 fl_201) r155 lr9 hn233).2.1
                  have lb_lr9234 : la lr9 = la r155 + 0 := lk_201.mp ((hB.1 201 fl_201) r155 lr9 hn233).2.2
                  have hk_lr9 := ((hzP201 r155).2 lr9 hn233).1
                  have hl1_lr9 := ((hzP201 r155).2 lr9 hn233).2.1
                  have hl2_lr9 := ((hzP201 r155).2 lr9 hn233).2.2.1
                  have hw_lr9 : id _ := ((hzP201 r155).2 lr9 hn233).2.2.2
                  have hz_lr9 : (Int32.ofNat (ln lr9)).toInt = ((ln lr9 : Nat) : Int) := ofN_eq (by first | exact Nat.le_trans hl2_lr9 (by decide) | omega)
                  have hn235 : (P 202) r155 = some sr9 := hr202
                  have lt_sr9236 := ((hB.1 202 fl_202) r155 sr9 hn235).2.1
                  have lb_sr9236 : la sr9 = la r155 + 0 := lk_202.mp ((hB.1 202 fl_202) r155 sr9 hn235).2.2
                  have hk_sr9 := ((hzP202 r155).2 sr9 hn235).1
                  have hl1_sr9 := ((hzP202 r155).2 sr9 hn235).2.1
                  have hl2_sr9 := ((hzP202 r155).2 sr9 hn235).2.2.1
                  have hw_sr9 : id _ := ((hzP202 r155).2 sr9 hn235).2.2.2
                  have hz_sr9 : (Int32.ofNat (ln sr9)).toInt = ((ln sr9 : Nat) : Int) := ofN_eq (by first | exact Nat.le_trans hl2_sr9 (by decide) | omega)
                  have rb237 := (hRB216 r155 sr9 hk217 hn235).1
                  have ra238 := hzRA r155 lr9 sr9 hk217 hn233 hn235
                  have bw239 := hzG200 r155
                  have hpr158_0 : (d58_G127 sc).toInt ≤ (c68_G160 tw).toInt := by first | assumption | omega
                  have hpr158_1 : id ((∀ tx, c45_P164 tw = some tx → (c68_G160 tw).toInt + (c68_G161 tw).toInt ≤ ((ln tx : Nat) : Int))) := show (∀ tx, c45_P164 tw = some tx → (c68_G160 tw).toInt + (c68_G161 tw).toInt ≤ ((ln tx : Nat) : Int)) from by intro tx htx2; obtain rfl := Option.some.inj (htx.symm.trans htx2); omega
                  refine pw_b5 (fun c158_G126 c158_G127 c158_G128 c158_V0 c158_V6 hc158 => ?_)
                  have hq158 := wp_at (ok_X6_put κ wd (va_up (va_up (va_up (va_up (va_up (va_up (va_up (va_up (va_up (va_up (va_up (va_up (va_up (va_up (va_up (va_up (va_up (va_up (va_up (va_up (va_up (va_up (va_up G 60 d58_G60) 126 d58_G126) 127 d58_G127) 128 d58_G128) 141 c4_G141) 160 d58_G160) 161 d58_G161) 162 d58_G162) 163 d58_G163) 165 c45_G165) 166 d58_G166) 167 d58_G167) 183 d58_G183) 203 d58_G203) 160 c68_G160) 161 c68_G161) 162 c68_G162) 163 c68_G163) 166 c68_G166) 167 c68_G167) 60 c155_G60) 183 c155_G183) 203 c155_G203) (va_up (va_up (va_up (va_up (va_up (va_up (va_up (va_up (va_up (va_up (va_up P 66 d58_P66) 164 c45_P164) 181 d58_P181) 182 d58_P182) 186 d58_P186) 187 d58_P187) 66 c155_P66) 181 c155_P181) 182 c155_P182) 186 c155_P186) 187 c155_P187) (va_up (va_up U 184 d58_U184) 184 c155_U184) (va_up (va_up (va_up (va_up (va_up (va_up (va_up (va_up (va_up V 0 d58_V0) 1 d58_V1) 2 d58_V2) 6 d58_V6) 12 d58_V12) 0 c155_V0) 1 c155_V1) 2 c155_V2) 12 c155_V12) X O kd ln cnt sc tw r155 hg86 hg87 hg173 hg174 hzG200 hg208 hzP121 hzP123 hg67 hzP201 hzP202 hg214 hzRA hRB216 hzRI hzLN hk_sc hk_tw hk217 hpr158_0 hpr158_1) hc158
                  obtain ⟨hg240, hg241, f242⟩ : (rng (0) 2500 c158_G126) ∧ (rng (0) 2000 c158_G127) ∧ ((c158_G127 sc).toInt ≤ (c68_G160 tw).toInt + (c68_G161 tw).toInt) := hq158
                  have hq158 := pwq (fr_X6_put la (va_up (va_up (va_up (va_up (va_up (va_up (va_up (va_up (va_up (va_up (va_up (va_up (va_up (va_up (va_up (va_up (va_up (va_up (va_up (va_up (va_up (va_up (va_up G 60 d58_G60) 126 d58_G126) 127 d58_G127) 128 d58_G128) 141 c4_G141) 160 d58_G160) 161 d58_G161) 162 d58_G162) 163 d58_G163) 165 c45_G165) 166 d58_G166) 167 d58_G167) 183 d58_G183) 203 d58_G203) 160 c68_G160) 161 c68_G161) 162 c68_G162) 163 c68_G163) 166 c68_G166) 167 c68_G167) 60 c155_G60) 183 c155_G183) 203 c155_G203) (va_up (va_up (va_up (va_up (va_up (va_up (va_up (va_up (va_up (va_up (va_up P 66 d58_P66) 164 c45_P164) 181 d58_P181) 182 d58_P182) 186 d58_P186) 187 d58_P187) 66 c155_P66) 181 c155_P181) 182 c155_P182) 186 c155_P186) 187 c155_P187) (va_up (va_up U 184 d58_U184) 184 c155_U184) (va_up (va_up (va_up (va_up (va_up (va_up (va_up (va_up (va_up V 0 d58_V0) 1 d58_V1) 2 d58_V2) 6 d58_V6) 12 d58_V12) 0 c155_V0) 1 c155_V1) 2 c155_V2) 12 c155_V12) X O kd ln cnt sc tw r155 (LB_set (LB_set (LB_set (LB_set (LB_set (LB_set (LB_set (LB_set (LB_set (LB_set (LB_set hB hl116) ql45_164) hl118) hl120) hl122) hl124) ql155_66) ql155_181) ql155_182) ql155_186) ql155_187)) hc158
                  obtain ⟨q158_G126, q158_G127, q158_G128, q158_V0, q158_V6⟩ : (∀ z, (la z < la sc ∨ la sc + 2 < la z) → c158_G126 z = d58_G126 z) ∧ (∀ z, (la z < la sc ∨ la sc + 2 < la z) → c158_G127 z = d58_G127 z) ∧ (∀ z, (la z < la sc ∨ la sc + 2 < la z) → c158_G128 z = d58_G128 z) ∧ (∀ z, (la z < la sc ∨ la sc + 2 < la z) → c158_V0 z = c155_V0 z) ∧ (∀ z, (la z < la sc ∨ la sc + 2 < la z) → c158_V6 z = d58_V6 z) := hq158
                  have tz158 : ∀ z, ((la z < 10 ∨ 10 < la z) ∧ (la z < 310 ∨ 310 < la z) ∧ (la z < 320 ∨ 320 + 2 < la z) ∧ (la z < 90 ∨ 90 + 8 < la z)) → ((la z < la sc ∨ la sc + 2 < la z)) := fun z hz => by omega
                  have hfr243 : ∀ z, ((la z < 10 ∨ 10 < la z) ∧ (la z < 310 ∨ 310 < la z) ∧ (la z < 320 ∨ 320 + 2 < la z) ∧ (la z < 90 ∨ 90 + 8 < la z)) → c158_G126 z = (G 126) z := fun z hz => (q158_G126 z (tz158 z hz)).trans (hfr104 z hz)
                  have hfr244 : ∀ z, ((la z < 10 ∨ 10 < la z) ∧ (la z < 310 ∨ 310 < la z) ∧ (la z < 320 ∨ 320 + 2 < la z) ∧ (la z < 90 ∨ 90 + 8 < la z)) → c158_G127 z = (G 127) z := fun z hz => (q158_G127 z (tz158 z hz)).trans (hfr105 z hz)
                  have hfr245 : ∀ z, ((la z < 10 ∨ 10 < la z) ∧ (la z < 310 ∨ 310 < la z) ∧ (la z < 320 ∨ 320 + 2 < la z) ∧ (la z < 90 ∨ 90 + 8 < la z)) → c158_G128 z = (G 128) z := fun z hz => (q158_G128 z (tz158 z hz)).trans (hfr106 z hz)
                  have hfr246 : ∀ z, ((la z < 10 ∨ 10 < la z) ∧ (la z < 310 ∨ 310 < la z) ∧ (la z < 320 ∨ 320 + 2 < la z) ∧ (la z < 90 ∨ 90 + 8 < la z)) → c158_V0 z = (V 0) z := fun z hz => (q158_V0 z (tz158 z hz)).trans (hfr228 z hz)
                  have hfr247 : ∀ z, ((la z < 10 ∨ 10 < la z) ∧ (la z < 310 ∨ 310 < la z) ∧ (la z < 320 ∨ 320 + 2 < la z) ∧ (la z < 90 ∨ 90 + 8 < la z)) → c158_V6 z = (V 6) z := fun z hz => (q158_V6 z (tz158 z hz)).trans (hfr129 z hz)
                  have h8158_h164 : c45_P164 tw = some (tb) := by exact htx
                  have h8158_hf : c155_V0 (tb) = f := by exact (q155_V0 tb (show (la tb < la tn ∨ la tn + 8 < la tb) from by omega)).trans ia58
                  have h8158_h121 : (P 121) sc = some pv := by exact h121
                  have h8158_h123 : (P 123) sc = some tv := by exact h123
                  have h8158_hl : (P 201) r155 = some (lr9) := by exact hr201
                  have h8158_hs : (P 202) r155 = some (sr9) := by exact hr202
                  have h8158_hw : ((G 200) r155).toInt = ((24 : Nat) : Int) := by exact hr200
                  have h8158_hT : rwW (c155_G203 r155) (c155_V0 (lr9)) (c155_V1 (sr9)) 24 = (thF d (Int32.toNatClampNeg p0) (Int32.toNatClampNeg p1 - Int32.toNatClampNeg p0) [(wdl f (Int32.toNatClampNeg (c68_G160 tw)) (Int32.toNatClampNeg (c68_G161 tw)))]) := by exact hrow9
                  have h8158_hTw : WDS (thF d (Int32.toNatClampNeg p0) (Int32.toNatClampNeg p1 - Int32.toNatClampNeg p0) [(wdl f (Int32.toNatClampNeg (c68_G160 tw)) (Int32.toNatClampNeg (c68_G161 tw)))]) := by exact p155_3
                  have h8158_hnt : (tb) ≠ pv := by exact ntb
                  have h8158_hnl : (lr9) ≠ pv := by exact fun q => by have q9 := congrArg la q; omega
                  have hx158 := pwq (fn_X6_put κ wd la (va_up (va_up (va_up (va_up (va_up (va_up (va_up (va_up (va_up (va_up (va_up (va_up (va_up (va_up (va_up (va_up (va_up (va_up (va_up (va_up (va_up (va_up (va_up G 60 d58_G60) 126 d58_G126) 127 d58_G127) 128 d58_G128) 141 c4_G141) 160 d58_G160) 161 d58_G161) 162 d58_G162) 163 d58_G163) 165 c45_G165) 166 d58_G166) 167 d58_G167) 183 d58_G183) 203 d58_G203) 160 c68_G160) 161 c68_G161) 162 c68_G162) 163 c68_G163) 166 c68_G166) 167 c68_G167) 60 c155_G60) 183 c155_G183) 203 c155_G203) (va_up (va_up (va_up (va_up (va_up (va_up (va_up (va_up (va_up (va_up (va_up P 66 d58_P66) 164 c45_P164) 181 d58_P181) 182 d58_P182) 186 d58_P186) 187 d58_P187) 66 c155_P66) 181 c155_P181) 182 c155_P182) 186 c155_P186) 187 c155_P187) (va_up (va_up U 184 d58_U184) 184 c155_U184) (va_up (va_up (va_up (va_up (va_up (va_up (va_up (va_up (va_up V 0 d58_V0) 1 d58_V1) 2 d58_V2) 6 d58_V6) 12 d58_V12) 0 c155_V0) 1 c155_V1) 2 c155_V2) 12 c155_V12) X O kd ln cnt sc tw r155 (tb) (f) (pv) (tv) (lr9) (sr9) (thF d (Int32.toNatClampNeg p0) (Int32.toNatClampNeg p1 - Int32.toNatClampNeg p0) [(wdl f (Int32.toNatClampNeg (c68_G160 tw)) (Int32.toNatClampNeg (c68_G161 tw)))]) hg86 hg87 hg173 hg174 hzG200 hg208 hzP121 hzP123 hg67 hzP201 hzP202 hg214 hzRA hRB216 hzRI hzLN hk_sc hk_tw hk217 hpr158_0 hpr158_1 (LB_set (LB_set (LB_set (LB_set (LB_set (LB_set (LB_set (LB_set (LB_set (LB_set (LB_set hB hl116) ql45_164) hl118) hl120) hl122) hl124) ql155_66) ql155_181) ql155_182) ql155_186) ql155_187) lt_sc48 lt_tw46 (by omega) h8158_h164 h8158_hf h8158_h121 h8158_h123 h8158_hl h8158_hs h8158_hw h8158_hT h8158_hTw h8158_hnt h8158_hnl) hc158
                  obtain ⟨p158_0, p158_1, p158_2⟩ : (id ((∀ o9 t9, CWS f (c155_V0 pv) (Int32.toNatClampNeg (d58_G126 sc)) (Int32.toNatClampNeg (d58_G127 sc)) (Int32.toNatClampNeg (c68_G160 tw)) (d58_G128 sc).toInt o9 → TYA (d58_V6 tv) t9 → CWS f (c158_V0 pv) (Int32.toNatClampNeg (c158_G126 sc)) (Int32.toNatClampNeg (c158_G127 sc)) ((Int32.toNatClampNeg (c68_G160 tw)) + (Int32.toNatClampNeg (c68_G161 tw))) (c158_G128 sc).toInt (wdT (thF d (Int32.toNatClampNeg p0) (Int32.toNatClampNeg p1 - Int32.toNatClampNeg p0) [(wdl f (Int32.toNatClampNeg (c68_G160 tw)) (Int32.toNatClampNeg (c68_G161 tw)))]) (wdl f (Int32.toNatClampNeg (c68_G160 tw)) (Int32.toNatClampNeg (c68_G161 tw))) (o9, t9)).1 ∧ TYA (c158_V6 tv) (wdT (thF d (Int32.toNatClampNeg p0) (Int32.toNatClampNeg p1 - Int32.toNatClampNeg p0) [(wdl f (Int32.toNatClampNeg (c68_G160 tw)) (Int32.toNatClampNeg (c68_G161 tw)))]) (wdl f (Int32.toNatClampNeg (c68_G160 tw)) (Int32.toNatClampNeg (c68_G161 tw))) (o9, t9)).2))) ∧ (id ((∀ z, z ≠ pv → c158_V0 z = c155_V0 z))) ∧ (id ((∀ z, z ≠ tv → c158_V6 z = d58_V6 z))) := hx158
                  clear h8158_h164 h8158_hf h8158_h121 h8158_h123 h8158_hl h8158_hs h8158_hw h8158_hT h8158_hTw h8158_hnt h8158_hnl
                  refine pw_j17 ej161 (fun z161_0 ez161_0 z161_1 ez161_1 z161_2 ez161_2 z161_3 ez161_3 z161_4 ez161_4 z161_5 ez161_5 z161_6 ez161_6 z161_7 ez161_7 z161_8 ez161_8 z161_9 ez161_9 z161_10 ez161_10 z161_11 ez161_11 z161_12 ez161_12 z161_13 ez161_13 z161_14 ez161_14 z161_15 ez161_15 z161_16 ez161_16 => ?_)
                  subst ez161_0 ez161_1 ez161_2 ez161_3 ez161_4 ez161_5 ez161_6 ez161_7 ez161_8 ez161_9 ez161_10 ez161_11 ez161_12 ez161_13 ez161_14 ez161_15 ez161_16
                  have f248 : (y58_4 + 1).toInt = y58_4.toInt + (1) := z_addc (by decide +kernel) (by omega) (by omega)
                  have iv58_0 : 0 ≤ (y58_4 + 1).toInt := by omega
                  have iv58_1 : (c158_G127 sc).toInt ≤ (c68_G166 tw).toInt := by omega
                  have iv58_2 : (c68_G166 tw).toInt ≤ (c45_G165 tw).toInt := by omega
                  have iv58_3 : (c68_G162 tw).toInt ≤ (c68_G166 tw).toInt := by omega
                  have iv58_4 : (y58_4 + 1).toInt ≤ (c68_G166 tw).toInt := by omega
                  have iv58_5 : id ((∃ nw1 nx1, c155_P181 tn = some nw1 ∧ c155_P182 tn = some nx1 ∧ ((nw1 = nw ∧ nx1 = nx) ∨ (nw1 = nx ∧ nx1 = nw)))) := show (∃ nw1 nx1, c155_P181 tn = some nw1 ∧ c155_P182 tn = some nx1 ∧ ((nw1 = nw ∧ nx1 = nx) ∨ (nw1 = nx ∧ nx1 = nw))) from by obtain ⟨nw2, nx2, b1, b2, b3⟩ := p155_1; exact ⟨nw2, nx2, b1, b2, sw_tr b3 hsw⟩
                  have iv58_6 : id ((∃ ah1 bh1, c155_P186 tn = some ah1 ∧ c155_P187 tn = some bh1 ∧ ((ah1 = ah ∧ bh1 = bh) ∨ (ah1 = bh ∧ bh1 = ah)))) := show (∃ ah1 bh1, c155_P186 tn = some ah1 ∧ c155_P187 tn = some bh1 ∧ ((ah1 = ah ∧ bh1 = bh) ∨ (ah1 = bh ∧ bh1 = ah))) from by obtain ⟨ah2, bh2, b1, b2, b3⟩ := p155_2; exact ⟨ah2, bh2, b1, b2, by omega⟩
                  have iv58_7 : id ((∀ q : Nat, q < Int32.toNatClampNeg ((G 222) this) → ∃ rf, (O 2) ra q = some rf ∧ rf < cnt ∧ 100000 ≤ la rf ∧ RFX (va_up (va_up (va_up (va_up (va_up (va_up (va_up (va_up (va_up (va_up (va_up (va_up (va_up (va_up (va_up (va_up (va_up (va_up (va_up (va_up (va_up (va_up (va_up (va_up (va_up (va_up G 60 d58_G60) 126 d58_G126) 127 d58_G127) 128 d58_G128) 141 c4_G141) 160 d58_G160) 161 d58_G161) 162 d58_G162) 163 d58_G163) 165 c45_G165) 166 d58_G166) 167 d58_G167) 183 d58_G183) 203 d58_G203) 160 c68_G160) 161 c68_G161) 162 c68_G162) 163 c68_G163) 166 c68_G166) 167 c68_G167) 60 c155_G60) 183 c155_G183) 203 c155_G203) 126 c158_G126) 127 c158_G127) 128 c158_G128) (va_up (va_up (va_up (va_up (va_up (va_up (va_up (va_up (va_up (va_up (va_up P 66 d58_P66) 164 c45_P164) 181 d58_P181) 182 d58_P182) 186 d58_P186) 187 d58_P187) 66 c155_P66) 181 c155_P181) 182 c155_P182) 186 c155_P186) 187 c155_P187) (va_up (va_up (va_up (va_up (va_up (va_up (va_up (va_up (va_up (va_up (va_up V 0 d58_V0) 1 d58_V1) 2 d58_V2) 6 d58_V6) 12 d58_V12) 0 c155_V0) 1 c155_V1) 2 c155_V2) 12 c155_V12) 0 c158_V0) 6 c158_V6) O ln la cnt rf (d q))) := show (∀ q : Nat, q < Int32.toNatClampNeg ((G 222) this) → ∃ rf, (O 2) ra q = some rf ∧ rf < cnt ∧ 100000 ≤ la rf ∧ RFX (va_up (va_up (va_up (va_up (va_up (va_up (va_up (va_up (va_up (va_up (va_up (va_up (va_up (va_up (va_up (va_up (va_up (va_up (va_up (va_up (va_up (va_up (va_up (va_up (va_up (va_up G 60 d58_G60) 126 d58_G126) 127 d58_G127) 128 d58_G128) 141 c4_G141) 160 d58_G160) 161 d58_G161) 162 d58_G162) 163 d58_G163) 165 c45_G165) 166 d58_G166) 167 d58_G167) 183 d58_G183) 203 d58_G203) 160 c68_G160) 161 c68_G161) 162 c68_G162) 163 c68_G163) 166 c68_G166) 167 c68_G167) 60 c155_G60) 183 c155_G183) 203 c155_G203) 126 c158_G126) 127 c158_G127) 128 c158_G128) (va_up (va_up (va_up (va_up (va_up (va_up (va_up (va_up (va_up (va_up (va_up P 66 d58_P66) 164 c45_P164) 181 d58_P181) 182 d58_P182) 186 d58_P186) 187 d58_P187) 66 c155_P66) 181 c155_P181) 182 c155_P182) 186 c155_P186) 187 c155_P187) (va_up (va_up (va_up (va_up (va_up (va_up (va_up (va_up (va_up (va_up (va_up V 0 d58_V0) 1 d58_V1) 2 d58_V2) 6 d58_V6) 12 d58_V12) 0 c155_V0) 1 c155_V1) 2 c155_V2) 12 c155_V12) 0 c158_V0) 6 c158_V6) O ln la cnt rf (d q)) from by intro q hq; obtain ⟨rf9, y1, y2, y3, y4⟩ := ix58 q hq; refine ⟨rf9, y1, y2, y3, RFX_fr y4 hB58 y2 (fun z hz h3 h4 => ?_) (Nat.le_refl _) (fun _ _ => rfl)⟩; have h7 : (la z < la tn ∨ la tn + 8 < la z) := (by omega); have h8 : z ≠ pv := (fun q => by have q9 := congrArg la q; omega); exact ⟨rfl, rfl, rfl, rfl, q155_G203 z h7, rfl, rfl, rfl, rfl, rfl, rfl, rfl, rfl, rfl, rfl, rfl, rfl, rfl, (p158_1 z h8).trans (q155_V0 z h7), q155_V1 z h7, rfl, rfl, rfl, rfl, rfl, rfl⟩
                  have iv58_8 : (c158_V0 tb = f) := by exact (p158_1 tb ntb).trans ((q155_V0 tb (show (la tb < la tn ∨ la tn + 8 < la tb) from by omega)).trans ia58)
                  have iv58_9 : (c158_V0 tl = (V 0) tl) := by exact (p158_1 tl hdt).trans ((q155_V0 tl (show (la tl < la tn ∨ la tn + 8 < la tl) from by omega)).trans ib58)
                  have iv58_10 : (c158_V6 tt = (V 6) tt) := by exact (p158_2 tt hdy).trans ic58
                  have iv58_11 : (CIV f n d (Int32.toNatClampNeg p0) (Int32.toNatClampNeg p1 - Int32.toNatClampNeg p0) (Int32.toNatClampNeg (c68_G166 tw)) (decide ((c68_G167 tw).toInt ≠ 0)) (c158_V0 pv) (Int32.toNatClampNeg (c158_G126 sc)) (Int32.toNatClampNeg (c158_G127 sc)) (c158_G128 sc).toInt (c158_V6 tv)) := by rw [show decide ((c68_G167 tw).toInt ≠ 0) = false from decide_eq_false (by have z9 := (p68_0 (by omega)).2; omega)]; refine CIV_p iz58 hnw (by omega) (by omega) ?_; intro o t h1 h2; have h9 := p158_0 o t (by rw [q155_V0 pv (show (la pv < la tn ∨ la tn + 8 < la pv) from by omega)]; exact h1) h2; rw [hse, hwe] at h9; exact h9
                  exact ih58 (y58_4 + 1) c155_G60 c158_G126 c158_G127 c158_G128 c68_G160 c68_G161 c68_G162 c68_G163 c68_G166 c68_G167 c155_G183 c155_G203 c155_P66 c155_P181 c155_P182 c155_P186 c155_P187 c155_U184 c158_V0 c155_V1 c155_V2 c158_V6 c155_V12 hg206 hg240 hg241 hg173 hg174 hg175 hg176 hg207 hg208 hg209 hg210 hg211 hg212 hg213 hg214 hg215 hRB216 hFL232 hfr219 hfr243 hfr244 hfr245 hfr182 hfr183 hfr184 hfr185 hfr186 hfr187 hfr220 hfr221 hfr222 ql155_66 hfr223 ql155_181 hfr224 ql155_182 hfr225 ql155_186 hfr226 ql155_187 hfr227 hfr246 hfr229 hfr230 hfr247 hfr231 iv58_0 iv58_1 iv58_2 iv58_3 iv58_4 iv58_5 iv58_6 iv58_7 iv58_8 iv58_9 iv58_10 iv58_11
                · have c103 := z_nle c103
                  refine pw_nne hn47 ?_
                  refine pw_b1 (fun c110_V6 hc110 => ?_)
                  have hq110 := pwq (fr_X6_leaveLost la (va_up (va_up (va_up (va_up (va_up (va_up (va_up (va_up (va_up (va_up (va_up (va_up (va_up (va_up (va_up (va_up (va_up (va_up (va_up (va_up G 60 d58_G60) 126 d58_G126) 127 d58_G127) 128 d58_G128) 141 c4_G141) 160 d58_G160) 161 d58_G161) 162 d58_G162) 163 d58_G163) 165 c45_G165) 166 d58_G166) 167 d58_G167) 183 d58_G183) 203 d58_G203) 160 c68_G160) 161 c68_G161) 162 c68_G162) 163 c68_G163) 166 c68_G166) 167 c68_G167) (va_up (va_up (va_up (va_up (va_up (va_up P 66 d58_P66) 164 c45_P164) 181 d58_P181) 182 d58_P182) 186 d58_P186) 187 d58_P187) (va_up U 184 d58_U184) (va_up (va_up (va_up (va_up (va_up V 0 d58_V0) 1 d58_V1) 2 d58_V2) 6 d58_V6) 12 d58_V12) X O kd ln cnt sc (LB_set (LB_set (LB_set (LB_set (LB_set (LB_set hB hl116) ql45_164) hl118) hl120) hl122) hl124)) hc110
                  have q110_V6 : (∀ z, (la z < la sc ∨ la sc + 2 < la z) → c110_V6 z = d58_V6 z) := hq110
                  clear hq110
                  have tz110 : ∀ z, ((la z < 10 ∨ 10 < la z) ∧ (la z < 310 ∨ 310 < la z) ∧ (la z < 320 ∨ 320 + 2 < la z) ∧ (la z < 90 ∨ 90 + 8 < la z)) → ((la z < la sc ∨ la sc + 2 < la z)) := fun z hz => by omega
                  have hfr249 : ∀ z, ((la z < 10 ∨ 10 < la z) ∧ (la z < 310 ∨ 310 < la z) ∧ (la z < 320 ∨ 320 + 2 < la z) ∧ (la z < 90 ∨ 90 + 8 < la z)) → c110_V6 z = (V 6) z := fun z hz => (q110_V6 z (tz110 z hz)).trans (hfr129 z hz)
                  have h8110_h123 : (P 123) sc = some tv := by exact h123
                  have hx110 := pwq (fn_X6_leaveLost κ wd la (va_up (va_up (va_up (va_up (va_up (va_up (va_up (va_up (va_up (va_up (va_up (va_up (va_up (va_up (va_up (va_up (va_up (va_up (va_up (va_up G 60 d58_G60) 126 d58_G126) 127 d58_G127) 128 d58_G128) 141 c4_G141) 160 d58_G160) 161 d58_G161) 162 d58_G162) 163 d58_G163) 165 c45_G165) 166 d58_G166) 167 d58_G167) 183 d58_G183) 203 d58_G203) 160 c68_G160) 161 c68_G161) 162 c68_G162) 163 c68_G163) 166 c68_G166) 167 c68_G167) (va_up (va_up (va_up (va_up (va_up (va_up P 66 d58_P66) 164 c45_P164) 181 d58_P181) 182 d58_P182) 186 d58_P186) 187 d58_P187) (va_up U 184 d58_U184) (va_up (va_up (va_up (va_up (va_up V 0 d58_V0) 1 d58_V1) 2 d58_V2) 6 d58_V6) 12 d58_V12) X O kd ln cnt sc (tv) hzP123 hzLN hk_sc (LB_set (LB_set (LB_set (LB_set (LB_set (LB_set hB hl116) ql45_164) hl118) hl120) hl122) hl124) lt_sc48 h8110_h123) hc110
                  obtain ⟨p110_0, p110_1⟩ : (id ((∀ t9, TYA (d58_V6 tv) t9 → TYA (c110_V6 tv) (upT (upT t9 0 1) 3 1)))) ∧ (id ((∀ z, z ≠ tv → c110_V6 z = d58_V6 z))) := hx110
                  clear h8110_h123
                  refine pw_j17 ej161 (fun z161_0 ez161_0 z161_1 ez161_1 z161_2 ez161_2 z161_3 ez161_3 z161_4 ez161_4 z161_5 ez161_5 z161_6 ez161_6 z161_7 ez161_7 z161_8 ez161_8 z161_9 ez161_9 z161_10 ez161_10 z161_11 ez161_11 z161_12 ez161_12 z161_13 ez161_13 z161_14 ez161_14 z161_15 ez161_15 z161_16 ez161_16 => ?_)
                  subst ez161_0 ez161_1 ez161_2 ez161_3 ez161_4 ez161_5 ez161_6 ez161_7 ez161_8 ez161_9 ez161_10 ez161_11 ez161_12 ez161_13 ez161_14 ez161_15 ez161_16
                  have f250 : (y58_4 + 1).toInt = y58_4.toInt + (1) := z_addc (by decide +kernel) (by omega) (by omega)
                  have iv58_0 : 0 ≤ (y58_4 + 1).toInt := by omega
                  have iv58_1 : (d58_G127 sc).toInt ≤ (c68_G166 tw).toInt := by omega
                  have iv58_2 : (c68_G166 tw).toInt ≤ (c45_G165 tw).toInt := by omega
                  have iv58_3 : (c68_G162 tw).toInt ≤ (c68_G166 tw).toInt := by omega
                  have iv58_4 : (y58_4 + 1).toInt ≤ (c68_G166 tw).toInt := by omega
                  have iv58_5 : id ((∃ nw1 nx1, d58_P181 tn = some nw1 ∧ d58_P182 tn = some nx1 ∧ ((nw1 = nw ∧ nx1 = nx) ∨ (nw1 = nx ∧ nx1 = nw)))) := show (∃ nw1 nx1, d58_P181 tn = some nw1 ∧ d58_P182 tn = some nx1 ∧ ((nw1 = nw ∧ nx1 = nx) ∨ (nw1 = nx ∧ nx1 = nw))) from by exact ⟨nw1, nx1, e181, e182, hsw⟩
                  have iv58_6 : id ((∃ ah1 bh1, d58_P186 tn = some ah1 ∧ d58_P187 tn = some bh1 ∧ ((ah1 = ah ∧ bh1 = bh) ∨ (ah1 = bh ∧ bh1 = ah)))) := show (∃ ah1 bh1, d58_P186 tn = some ah1 ∧ d58_P187 tn = some bh1 ∧ ((ah1 = ah ∧ bh1 = bh) ∨ (ah1 = bh ∧ bh1 = ah))) from by exact ⟨ah1, bh1, e186, e187, hsh⟩
                  have iv58_7 : id ((∀ q : Nat, q < Int32.toNatClampNeg ((G 222) this) → ∃ rf, (O 2) ra q = some rf ∧ rf < cnt ∧ 100000 ≤ la rf ∧ RFX (va_up (va_up (va_up (va_up (va_up (va_up (va_up (va_up (va_up (va_up (va_up (va_up (va_up (va_up (va_up (va_up (va_up (va_up (va_up (va_up G 60 d58_G60) 126 d58_G126) 127 d58_G127) 128 d58_G128) 141 c4_G141) 160 d58_G160) 161 d58_G161) 162 d58_G162) 163 d58_G163) 165 c45_G165) 166 d58_G166) 167 d58_G167) 183 d58_G183) 203 d58_G203) 160 c68_G160) 161 c68_G161) 162 c68_G162) 163 c68_G163) 166 c68_G166) 167 c68_G167) (va_up (va_up (va_up (va_up (va_up (va_up P 66 d58_P66) 164 c45_P164) 181 d58_P181) 182 d58_P182) 186 d58_P186) 187 d58_P187) (va_up (va_up (va_up (va_up (va_up (va_up V 0 d58_V0) 1 d58_V1) 2 d58_V2) 6 d58_V6) 12 d58_V12) 6 c110_V6) O ln la cnt rf (d q))) := show (∀ q : Nat, q < Int32.toNatClampNeg ((G 222) this) → ∃ rf, (O 2) ra q = some rf ∧ rf < cnt ∧ 100000 ≤ la rf ∧ RFX (va_up (va_up (va_up (va_up (va_up (va_up (va_up (va_up (va_up (va_up (va_up (va_up (va_up (va_up (va_up (va_up (va_up (va_up (va_up (va_up G 60 d58_G60) 126 d58_G126) 127 d58_G127) 128 d58_G128) 141 c4_G141) 160 d58_G160) 161 d58_G161) 162 d58_G162) 163 d58_G163) 165 c45_G165) 166 d58_G166) 167 d58_G167) 183 d58_G183) 203 d58_G203) 160 c68_G160) 161 c68_G161) 162 c68_G162) 163 c68_G163) 166 c68_G166) 167 c68_G167) (va_up (va_up (va_up (va_up (va_up (va_up P 66 d58_P66) 164 c45_P164) 181 d58_P181) 182 d58_P182) 186 d58_P186) 187 d58_P187) (va_up (va_up (va_up (va_up (va_up (va_up V 0 d58_V0) 1 d58_V1) 2 d58_V2) 6 d58_V6) 12 d58_V12) 6 c110_V6) O ln la cnt rf (d q)) from by intro q hq; obtain ⟨rf9, y1, y2, y3, y4⟩ := ix58 q hq; exact ⟨rf9, y1, y2, y3, RFX_fr y4 hB58 y2 (fun z hz h3 h4 => ⟨rfl, rfl, rfl, rfl, rfl, rfl, rfl, rfl, rfl, rfl, rfl, rfl, rfl, rfl, rfl, rfl, rfl, rfl, rfl, rfl, rfl, rfl, rfl, rfl, rfl, rfl⟩) (Nat.le_refl _) (fun _ _ => rfl)⟩
                  have iv58_8 : (d58_V0 tb = f) := by exact ia58
                  have iv58_9 : (d58_V0 tl = (V 0) tl) := by exact ib58
                  have iv58_10 : (c110_V6 tt = (V 6) tt) := by exact (p110_1 tt hdy).trans ic58
                  have iv58_11 : (CIV f n d (Int32.toNatClampNeg p0) (Int32.toNatClampNeg p1 - Int32.toNatClampNeg p0) (Int32.toNatClampNeg (c68_G166 tw)) (decide ((c68_G167 tw).toInt ≠ 0)) (d58_V0 pv) (Int32.toNatClampNeg (d58_G126 sc)) (Int32.toNatClampNeg (d58_G127 sc)) (d58_G128 sc).toInt (c110_V6 tv)) := by rw [show decide ((c68_G167 tw).toInt ≠ 0) = false from decide_eq_false (by have z9 := (p68_0 (by omega)).2; omega)]; exact CIV_l iz58 hnw (by omega) (by omega) p110_0
                  exact ih58 (y58_4 + 1) d58_G60 d58_G126 d58_G127 d58_G128 c68_G160 c68_G161 c68_G162 c68_G163 c68_G166 c68_G167 d58_G183 d58_G203 d58_P66 d58_P181 d58_P182 d58_P186 d58_P187 d58_U184 d58_V0 d58_V1 d58_V2 c110_V6 d58_V12 hg85 hg86 hg87 hg173 hg174 hg175 hg176 hg92 hg93 hg94 hg95 hg96 hg97 hg98 hg99 hg100 hRB101 hFL102 hfr103 hfr104 hfr105 hfr106 hfr182 hfr183 hfr184 hfr185 hfr186 hfr187 hfr113 hfr114 hfr115 hl116 hfr117 hl118 hfr119 hl120 hfr121 hl122 hfr123 hl124 hfr125 hfr126 hfr127 hfr128 hfr249 hfr130 iv58_0 iv58_1 iv58_2 iv58_3 iv58_4 iv58_5 iv58_6 iv58_7 iv58_8 iv58_9 iv58_10 iv58_11
              · have c81 := z_ne c81
                refine pw_nne hn47 ?_
                refine pw_b1 (fun c88_V6 hc88 => ?_)
                have hq88 := pwq (fr_X6_leaveName la (va_up (va_up (va_up (va_up (va_up (va_up (va_up (va_up (va_up (va_up (va_up (va_up (va_up (va_up (va_up (va_up (va_up (va_up (va_up (va_up G 60 d58_G60) 126 d58_G126) 127 d58_G127) 128 d58_G128) 141 c4_G141) 160 d58_G160) 161 d58_G161) 162 d58_G162) 163 d58_G163) 165 c45_G165) 166 d58_G166) 167 d58_G167) 183 d58_G183) 203 d58_G203) 160 c68_G160) 161 c68_G161) 162 c68_G162) 163 c68_G163) 166 c68_G166) 167 c68_G167) (va_up (va_up (va_up (va_up (va_up (va_up P 66 d58_P66) 164 c45_P164) 181 d58_P181) 182 d58_P182) 186 d58_P186) 187 d58_P187) (va_up U 184 d58_U184) (va_up (va_up (va_up (va_up (va_up V 0 d58_V0) 1 d58_V1) 2 d58_V2) 6 d58_V6) 12 d58_V12) X O kd ln cnt sc (LB_set (LB_set (LB_set (LB_set (LB_set (LB_set hB hl116) ql45_164) hl118) hl120) hl122) hl124)) hc88
                have q88_V6 : (∀ z, (la z < la sc ∨ la sc + 2 < la z) → c88_V6 z = d58_V6 z) := hq88
                clear hq88
                have tz88 : ∀ z, ((la z < 10 ∨ 10 < la z) ∧ (la z < 310 ∨ 310 < la z) ∧ (la z < 320 ∨ 320 + 2 < la z) ∧ (la z < 90 ∨ 90 + 8 < la z)) → ((la z < la sc ∨ la sc + 2 < la z)) := fun z hz => by omega
                have hfr251 : ∀ z, ((la z < 10 ∨ 10 < la z) ∧ (la z < 310 ∨ 310 < la z) ∧ (la z < 320 ∨ 320 + 2 < la z) ∧ (la z < 90 ∨ 90 + 8 < la z)) → c88_V6 z = (V 6) z := fun z hz => (q88_V6 z (tz88 z hz)).trans (hfr129 z hz)
                have h888_h123 : (P 123) sc = some tv := by exact h123
                have hx88 := pwq (fn_X6_leaveName κ wd la (va_up (va_up (va_up (va_up (va_up (va_up (va_up (va_up (va_up (va_up (va_up (va_up (va_up (va_up (va_up (va_up (va_up (va_up (va_up (va_up G 60 d58_G60) 126 d58_G126) 127 d58_G127) 128 d58_G128) 141 c4_G141) 160 d58_G160) 161 d58_G161) 162 d58_G162) 163 d58_G163) 165 c45_G165) 166 d58_G166) 167 d58_G167) 183 d58_G183) 203 d58_G203) 160 c68_G160) 161 c68_G161) 162 c68_G162) 163 c68_G163) 166 c68_G166) 167 c68_G167) (va_up (va_up (va_up (va_up (va_up (va_up P 66 d58_P66) 164 c45_P164) 181 d58_P181) 182 d58_P182) 186 d58_P186) 187 d58_P187) (va_up U 184 d58_U184) (va_up (va_up (va_up (va_up (va_up V 0 d58_V0) 1 d58_V1) 2 d58_V2) 6 d58_V6) 12 d58_V12) X O kd ln cnt sc (tv) hzP123 hzLN hk_sc (LB_set (LB_set (LB_set (LB_set (LB_set (LB_set hB hl116) ql45_164) hl118) hl120) hl122) hl124) lt_sc48 h888_h123) hc88
                obtain ⟨p88_0, p88_1⟩ : (id ((∀ t9, TYA (d58_V6 tv) t9 → TYA (c88_V6 tv) (upT t9 4 1)))) ∧ (id ((∀ z, z ≠ tv → c88_V6 z = d58_V6 z))) := hx88
                clear h888_h123
                refine pw_j17 ej161 (fun z161_0 ez161_0 z161_1 ez161_1 z161_2 ez161_2 z161_3 ez161_3 z161_4 ez161_4 z161_5 ez161_5 z161_6 ez161_6 z161_7 ez161_7 z161_8 ez161_8 z161_9 ez161_9 z161_10 ez161_10 z161_11 ez161_11 z161_12 ez161_12 z161_13 ez161_13 z161_14 ez161_14 z161_15 ez161_15 z161_16 ez161_16 => ?_)
                subst ez161_0 ez161_1 ez161_2 ez161_3 ez161_4 ez161_5 ez161_6 ez161_7 ez161_8 ez161_9 ez161_10 ez161_11 ez161_12 ez161_13 ez161_14 ez161_15 ez161_16
                have f252 : (y58_4 + 1).toInt = y58_4.toInt + (1) := z_addc (by decide +kernel) (by omega) (by omega)
                have iv58_0 : 0 ≤ (y58_4 + 1).toInt := by omega
                have iv58_1 : (d58_G127 sc).toInt ≤ (c68_G166 tw).toInt := by omega
                have iv58_2 : (c68_G166 tw).toInt ≤ (c45_G165 tw).toInt := by omega
                have iv58_3 : (c68_G162 tw).toInt ≤ (c68_G166 tw).toInt := by omega
                have iv58_4 : (y58_4 + 1).toInt ≤ (c68_G166 tw).toInt := by omega
                have iv58_5 : id ((∃ nw1 nx1, d58_P181 tn = some nw1 ∧ d58_P182 tn = some nx1 ∧ ((nw1 = nw ∧ nx1 = nx) ∨ (nw1 = nx ∧ nx1 = nw)))) := show (∃ nw1 nx1, d58_P181 tn = some nw1 ∧ d58_P182 tn = some nx1 ∧ ((nw1 = nw ∧ nx1 = nx) ∨ (nw1 = nx ∧ nx1 = nw))) from by exact ⟨nw1, nx1, e181, e182, hsw⟩
                have iv58_6 : id ((∃ ah1 bh1, d58_P186 tn = some ah1 ∧ d58_P187 tn = some bh1 ∧ ((ah1 = ah ∧ bh1 = bh) ∨ (ah1 = bh ∧ bh1 = ah)))) := show (∃ ah1 bh1, d58_P186 tn = some ah1 ∧ d58_P187 tn = some bh1 ∧ ((ah1 = ah ∧ bh1 = bh) ∨ (ah1 = bh ∧ bh1 = ah))) from by exact ⟨ah1, bh1, e186, e187, hsh⟩
                have iv58_7 : id ((∀ q : Nat, q < Int32.toNatClampNeg ((G 222) this) → ∃ rf, (O 2) ra q = some rf ∧ rf < cnt ∧ 100000 ≤ la rf ∧ RFX (va_up (va_up (va_up (va_up (va_up (va_up (va_up (va_up (va_up (va_up (va_up (va_up (va_up (va_up (va_up (va_up (va_up (va_up (va_up (va_up G 60 d58_G60) 126 d58_G126) 127 d58_G127) 128 d58_G128) 141 c4_G141) 160 d58_G160) 161 d58_G161) 162 d58_G162) 163 d58_G163) 165 c45_G165) 166 d58_G166) 167 d58_G167) 183 d58_G183) 203 d58_G203) 160 c68_G160) 161 c68_G161) 162 c68_G162) 163 c68_G163) 166 c68_G166) 167 c68_G167) (va_up (va_up (va_up (va_up (va_up (va_up P 66 d58_P66) 164 c45_P164) 181 d58_P181) 182 d58_P182) 186 d58_P186) 187 d58_P187) (va_up (va_up (va_up (va_up (va_up (va_up V 0 d58_V0) 1 d58_V1) 2 d58_V2) 6 d58_V6) 12 d58_V12) 6 c88_V6) O ln la cnt rf (d q))) := show (∀ q : Nat, q < Int32.toNatClampNeg ((G 222) this) → ∃ rf, (O 2) ra q = some rf ∧ rf < cnt ∧ 100000 ≤ la rf ∧ RFX (va_up (va_up (va_up (va_up (va_up (va_up (va_up (va_up (va_up (va_up (va_up (va_up (va_up (va_up (va_up (va_up (va_up (va_up (va_up (va_up G 60 d58_G60) 126 d58_G126) 127 d58_G127) 128 d58_G128) 141 c4_G141) 160 d58_G160) 161 d58_G161) 162 d58_G162) 163 d58_G163) 165 c45_G165) 166 d58_G166) 167 d58_G167) 183 d58_G183) 203 d58_G203) 160 c68_G160) 161 c68_G161) 162 c68_G162) 163 c68_G163) 166 c68_G166) 167 c68_G167) (va_up (va_up (va_up (va_up (va_up (va_up P 66 d58_P66) 164 c45_P164) 181 d58_P181) 182 d58_P182) 186 d58_P186) 187 d58_P187) (va_up (va_up (va_up (va_up (va_up (va_up V 0 d58_V0) 1 d58_V1) 2 d58_V2) 6 d58_V6) 12 d58_V12) 6 c88_V6) O ln la cnt rf (d q)) from by intro q hq; obtain ⟨rf9, y1, y2, y3, y4⟩ := ix58 q hq; exact ⟨rf9, y1, y2, y3, RFX_fr y4 hB58 y2 (fun z hz h3 h4 => ⟨rfl, rfl, rfl, rfl, rfl, rfl, rfl, rfl, rfl, rfl, rfl, rfl, rfl, rfl, rfl, rfl, rfl, rfl, rfl, rfl, rfl, rfl, rfl, rfl, rfl, rfl⟩) (Nat.le_refl _) (fun _ _ => rfl)⟩
                have iv58_8 : (d58_V0 tb = f) := by exact ia58
                have iv58_9 : (d58_V0 tl = (V 0) tl) := by exact ib58
                have iv58_10 : (c88_V6 tt = (V 6) tt) := by exact (p88_1 tt hdy).trans ic58
                have iv58_11 : (CIV f n d (Int32.toNatClampNeg p0) (Int32.toNatClampNeg p1 - Int32.toNatClampNeg p0) (Int32.toNatClampNeg (c68_G166 tw)) (decide ((c68_G167 tw).toInt ≠ 0)) (d58_V0 pv) (Int32.toNatClampNeg (d58_G126 sc)) (Int32.toNatClampNeg (d58_G127 sc)) (d58_G128 sc).toInt (c88_V6 tv)) := by rw [show decide ((c68_G167 tw).toInt ≠ 0) = false from decide_eq_false (by have z9 := (p68_0 (by omega)).2; omega)]; exact CIV_n iz58 hnw (by omega) p88_0
                exact ih58 (y58_4 + 1) d58_G60 d58_G126 d58_G127 d58_G128 c68_G160 c68_G161 c68_G162 c68_G163 c68_G166 c68_G167 d58_G183 d58_G203 d58_P66 d58_P181 d58_P182 d58_P186 d58_P187 d58_U184 d58_V0 d58_V1 d58_V2 c88_V6 d58_V12 hg85 hg86 hg87 hg173 hg174 hg175 hg176 hg92 hg93 hg94 hg95 hg96 hg97 hg98 hg99 hg100 hRB101 hFL102 hfr103 hfr104 hfr105 hfr106 hfr182 hfr183 hfr184 hfr185 hfr186 hfr187 hfr113 hfr114 hfr115 hl116 hfr117 hl118 hfr119 hl120 hfr121 hl122 hfr123 hl124 hfr125 hfr126 hfr127 hfr128 hfr251 hfr130 iv58_0 iv58_1 iv58_2 iv58_3 iv58_4 iv58_5 iv58_6 iv58_7 iv58_8 iv58_9 iv58_10 iv58_11
      exact lp58 NN (0 : Int32) (G 60) c52_G126 c52_G127 c52_G128 (G 160) (G 161) c45_G162 (G 163) c45_G166 c45_G167 (G 183) (G 203) (P 66) (P 181) (P 182) (P 186) (P 187) (U 184) (V 0) (V 1) (V 2) c52_V6 (V 12) hzG60 hg78 hg79 hzG160 hzG161 hg64 hg66 hzG183 hzG203 hzP66 hzP181 hzP182 hzP186 hzP187 hzV1 hzV2 hzRB hzFL (fun _ _ => rfl) hfr81 hfr82 hfr83 (fun _ _ => rfl) (fun _ _ => rfl) hfr73 (fun _ _ => rfl) hfr75 hfr76 (fun _ _ => rfl) (fun _ _ => rfl) (fun _ _ => rfl) (hB.1 66 fl_66) (fun _ _ => rfl) (hB.1 181 fl_181) (fun _ _ => rfl) (hB.1 182 fl_182) (fun _ _ => rfl) (hB.1 186 fl_186) (fun _ _ => rfl) (hB.1 187 fl_187) (fun _ _ => rfl) (fun _ _ => rfl) (fun _ _ => rfl) (fun _ _ => rfl) hfr84 (fun _ _ => rfl) (show 0 ≤ (0 : Int32).toInt from by omega) (show (c52_G127 sc).toInt ≤ (c45_G166 tw).toInt from by omega) (show (c45_G166 tw).toInt ≤ (c45_G165 tw).toInt from by omega) (show (c45_G162 tw).toInt ≤ (c45_G166 tw).toInt from by omega) (show (0 : Int32).toInt ≤ (c45_G166 tw).toInt from by omega) (show (∃ nw1 nx1, (P 181) tn = some nw1 ∧ (P 182) tn = some nx1 ∧ ((nw1 = nw ∧ nx1 = nx) ∨ (nw1 = nx ∧ nx1 = nw))) from by exact ⟨nw, nx, h181, h182, Or.inl ⟨rfl, rfl⟩⟩) (show (∃ ah1 bh1, (P 186) tn = some ah1 ∧ (P 187) tn = some bh1 ∧ ((ah1 = ah ∧ bh1 = bh) ∨ (ah1 = bh ∧ bh1 = ah))) from by exact ⟨ah, bh, h186, h187, Or.inl ⟨rfl, rfl⟩⟩) (show (∀ q : Nat, q < Int32.toNatClampNeg ((G 222) this) → ∃ rf, (O 2) ra q = some rf ∧ rf < cnt ∧ 100000 ≤ la rf ∧ RFX (va_up (va_up (va_up (va_up (va_up (va_up (va_up (va_up G 141 c4_G141) 162 c45_G162) 165 c45_G165) 166 c45_G166) 167 c45_G167) 126 c52_G126) 127 c52_G127) 128 c52_G128) (va_up P 164 c45_P164) (va_up V 6 c52_V6) O ln la cnt rf (d q)) from by intro q hq; obtain ⟨rf9, y1, y2, y3, y4⟩ := hrf q hq; exact ⟨rf9, y1, y2, y3, RFX_fr y4 hB y2 (fun z hz h3 h4 => ⟨rfl, rfl, rfl, rfl, rfl, rfl, rfl, rfl, rfl, rfl, rfl, rfl, rfl, rfl, rfl, rfl, rfl, rfl, rfl, rfl, rfl, rfl, rfl, rfl, rfl, rfl⟩) (Nat.le_refl _) (fun _ _ => rfl)⟩) (show ((V 0) tb = f) from by exact hf) (show ((V 0) tl = (V 0) tl) from by rfl) (show (c52_V6 tt = (V 6) tt) from by exact p52_1 tt hdy) (show (CIV f n d (Int32.toNatClampNeg p0) (Int32.toNatClampNeg p1 - Int32.toNatClampNeg p0) (Int32.toNatClampNeg (c45_G166 tw)) (decide ((c45_G167 tw).toInt ≠ 0)) ((V 0) pv) (Int32.toNatClampNeg (c52_G126 sc)) (Int32.toNatClampNeg (c52_G127 sc)) (c52_G128 sc).toInt (c52_V6 tv)) from by exact CIV_0 p52_0 (by rw [show (c52_G126 sc) = 0 from z_e (z126.trans (by decide))]; rfl) (by rw [show (c52_G127 sc) = 0 from z_e (z127.trans (by decide))]; rfl) (by have z9 := f166; rw [show (c45_G166 tw) = 0 from z_e (z9.trans (by decide))]; rfl) (by omega) (decide_eq_false (by omega)))
    · have c28 : r25.toInt = 1 := by have z9 := z_ne c28; omega
      have qq0 : id ((¬ (0 ≤ p0.toInt ∧ p0.toInt ≤ p1.toInt ∧ p1.toInt ≤ ((G 222) this).toInt) → (-1 : Int32).toInt = -2 ∧ (P 120) sc = some tl ∧ (P 121) sc = some pv ∧ (P 122) sc = some tt ∧ (P 123) sc = some tv ∧ (G 124) sc = (G 124) sc ∧ (G 125) sc = (G 125) sc ∧ (V 0) tl = (V 0) tl ∧ (V 6) tt = (V 6) tt)) := show (¬ (0 ≤ p0.toInt ∧ p0.toInt ≤ p1.toInt ∧ p1.toInt ≤ ((G 222) this).toInt) → (-1 : Int32).toInt = -2 ∧ (P 120) sc = some tl ∧ (P 121) sc = some pv ∧ (P 122) sc = some tt ∧ (P 123) sc = some tv ∧ (G 124) sc = (G 124) sc ∧ (G 125) sc = (G 125) sc ∧ (V 0) tl = (V 0) tl ∧ (V 6) tt = (V 6) tt) from by intro h; exfalso; exact h st9
      have qq1 : id (((0 ≤ p0.toInt ∧ p0.toInt ≤ p1.toInt ∧ p1.toInt ≤ ((G 222) this).toInt) → ¬ (NZR f n ∧ (wcR f n d (Int32.toNatClampNeg p0) (Int32.toNatClampNeg p1 - Int32.toNatClampNeg p0) 0 false ([], tz0)).1.length ≤ 2500) → (-1 : Int32).toInt = -1 ∧ (P 120) sc = some tl ∧ (P 121) sc = some pv ∧ (P 122) sc = some tt ∧ (P 123) sc = some tv ∧ (G 124) sc = (G 124) sc ∧ (G 125) sc = (G 125) sc ∧ (V 0) tl = (V 0) tl ∧ (V 6) tt = (V 6) tt)) := show ((0 ≤ p0.toInt ∧ p0.toInt ≤ p1.toInt ∧ p1.toInt ≤ ((G 222) this).toInt) → ¬ (NZR f n ∧ (wcR f n d (Int32.toNatClampNeg p0) (Int32.toNatClampNeg p1 - Int32.toNatClampNeg p0) 0 false ([], tz0)).1.length ≤ 2500) → (-1 : Int32).toInt = -1 ∧ (P 120) sc = some tl ∧ (P 121) sc = some pv ∧ (P 122) sc = some tt ∧ (P 123) sc = some tv ∧ (G 124) sc = (G 124) sc ∧ (G 125) sc = (G 125) sc ∧ (V 0) tl = (V 0) tl ∧ (V 6) tt = (V 6) tt) from by intro _ _; exact ⟨by omega, h120, h121, h122, h123, rfl, rfl, rfl, rfl⟩
      have qq2 : id (((0 ≤ p0.toInt ∧ p0.toInt ≤ p1.toInt ∧ p1.toInt ≤ ((G 222) this).toInt) → NZR f n → (wcR f n d (Int32.toNatClampNeg p0) (Int32.toNatClampNeg p1 - Int32.toNatClampNeg p0) 0 false ([], tz0)).1.length ≤ 2500 → (-1 : Int32).toInt = (((wcR f n d (Int32.toNatClampNeg p0) (Int32.toNatClampNeg p1 - Int32.toNatClampNeg p0) 0 false ([], tz0)).1.length : Nat) : Int) ∧ (P 120) sc = some pv ∧ (P 121) sc = some tl ∧ (P 122) sc = some tv ∧ (P 123) sc = some tt ∧ ((G 124) sc).toInt ≠ 0 ∧ (G 125) sc = (-1 : Int32) ∧ wdl ((V 0) pv) 0 (Int32.toNatClampNeg ((G 125) sc)) = (wcR f n d (Int32.toNatClampNeg p0) (Int32.toNatClampNeg p1 - Int32.toNatClampNeg p0) 0 false ([], tz0)).1 ∧ TYA ((V 6) tv) (wcR f n d (Int32.toNatClampNeg p0) (Int32.toNatClampNeg p1 - Int32.toNatClampNeg p0) 0 false ([], tz0)).2)) := show ((0 ≤ p0.toInt ∧ p0.toInt ≤ p1.toInt ∧ p1.toInt ≤ ((G 222) this).toInt) → NZR f n → (wcR f n d (Int32.toNatClampNeg p0) (Int32.toNatClampNeg p1 - Int32.toNatClampNeg p0) 0 false ([], tz0)).1.length ≤ 2500 → (-1 : Int32).toInt = (((wcR f n d (Int32.toNatClampNeg p0) (Int32.toNatClampNeg p1 - Int32.toNatClampNeg p0) 0 false ([], tz0)).1.length : Nat) : Int) ∧ (P 120) sc = some pv ∧ (P 121) sc = some tl ∧ (P 122) sc = some tv ∧ (P 123) sc = some tt ∧ ((G 124) sc).toInt ≠ 0 ∧ (G 125) sc = (-1 : Int32) ∧ wdl ((V 0) pv) 0 (Int32.toNatClampNeg ((G 125) sc)) = (wcR f n d (Int32.toNatClampNeg p0) (Int32.toNatClampNeg p1 - Int32.toNatClampNeg p0) 0 false ([], tz0)).1 ∧ TYA ((V 6) tv) (wcR f n d (Int32.toNatClampNeg p0) (Int32.toNatClampNeg p1 - Int32.toNatClampNeg p0) 0 false ([], tz0)).2) from by intro _ h; exfalso; exact p25_0 (by omega) h
      have qq3 : id ((∃ nwb nxb, (P 181) tn = some nwb ∧ (P 182) tn = some nxb ∧ ((nwb = nw ∧ nxb = nx) ∨ (nwb = nx ∧ nxb = nw)))) := show (∃ nwb nxb, (P 181) tn = some nwb ∧ (P 182) tn = some nxb ∧ ((nwb = nw ∧ nxb = nx) ∨ (nwb = nx ∧ nxb = nw))) from by exact ⟨nw, nx, h181, h182, Or.inl ⟨rfl, rfl⟩⟩
      have qq4 : id ((∃ ahb bhb, (P 186) tn = some ahb ∧ (P 187) tn = some bhb ∧ ((ahb = ah ∧ bhb = bh) ∨ (ahb = bh ∧ bhb = ah)))) := show (∃ ahb bhb, (P 186) tn = some ahb ∧ (P 187) tn = some bhb ∧ ((ahb = ah ∧ bhb = bh) ∨ (ahb = bh ∧ bhb = ah))) from by exact ⟨ah, bh, h186, h187, Or.inl ⟨rfl, rfl⟩⟩
      exact pw_some ⟨qq0, qq1, qq2, qq3, qq4⟩
