abbrev QF_X7_hasZero (κ : Nat → Nat) (wd : Nat) (la : Nat → Nat) (G : Nat → Nat → Int32) (P : Nat → Nat → Option Nat) (U : Nat → Nat → Int64) (V : Nat → Nat → Nat → Int32) (X : Nat → Nat → Nat → Int64) (O : Nat → Nat → Nat → Option Nat) (kd : Nat → Nat) (ln : Nat → Nat) (cnt : Nat) (this : Nat) (p0 : Int32) (tb : Nat) (f : Nat → Int32) : (Int32) → Prop := (fun t => ((t.toInt ≠ 0 → ¬ NZR f (Int32.toNatClampNeg p0))) ∧ ((t.toInt = 0 → NZR f (Int32.toNatClampNeg p0))))
set_option maxHeartbeats 4000000 in
set_option maxRecDepth 100000 in
theorem fn_X7_hasZero (κ : Nat → Nat) (wd : Nat) (la : Nat → Nat) (G : Nat → Nat → Int32) (P : Nat → Nat → Option Nat) (U : Nat → Nat → Int64) (V : Nat → Nat → Nat → Int32) (X : Nat → Nat → Nat → Int64) (O : Nat → Nat → Nat → Option Nat) (kd : Nat → Nat) (ln : Nat → Nat) (cnt : Nat) (this : Nat) (p0 : Int32) (tb : Nat) (f : Nat → Int32) (hzP140 : PB κ ln wd 8 100 2000 2000 0 (P 140)) (hzLN : LN κ ln) (hk_this : κ this = 8) (hB : LB la cnt P) (hlt_this : this < cnt) (h140 : (P 140) this = some tb) (hf : (V 0) tb = f) (hl2 : p0.toInt ≤ 2000) (hl0 : 0 ≤ p0.toInt) : pw (f_X7_hasZero G P U V X O kd ln cnt this p0) (QF_X7_hasZero κ wd la G P U V X O kd ln cnt this p0 tb f) := by
  unfold f_X7_hasZero
  have zk0 : (0 : Int32).toInt = 0 := by decide +kernel
  have zk1 : (1 : Int32).toInt = 1 := by decide +kernel
  have r_p0 := i32r p0
  have hn1 : (P 140) this = some tb := h140
  have lt_tb2 := ((hB.1 140 fl_140) this tb hn1).2.1
  have lb_tb2 : la tb = la this + 1 := lk_140.mp ((hB.1 140 fl_140) this tb hn1).2.2
  have hk_tb := ((hzP140 this).2 tb hn1).1
  have hl1_tb := ((hzP140 this).2 tb hn1).2.1
  have hl2_tb := ((hzP140 this).2 tb hn1).2.2.1
  have hw_tb := ((hzP140 this).2 tb hn1).2.2.2
  have hz_tb : (Int32.ofNat (ln tb)).toInt = ((ln tb : Nat) : Int) := ofN_eq (by first | exact Nat.le_trans hl2_tb (by decide) | omega)
  refine pw_b1 (fun r3 hc3 => ?_)
  have hq3 := wp_at (ok_X7_occurrences κ wd G P U V X O kd ln cnt this (0 : Int32) p0 hzP140 hzLN hk_this) hc3
  have f3 : (0 ≤ r3.toInt ∧ r3.toInt ≤ 2000) := hq3
  clear hq3
  have h83_h140 : (P 140) this = some tb := by exact h140
  have h83_hf : (V 0) tb = f := by exact hf
  have h83_hl2 : p0.toInt ≤ 2000 := by exact hl2
  have h83_hl0 : 0 ≤ p0.toInt := by exact hl0
  have hx3 := pwq (fn_X7_occurrences κ wd la G P U V X O kd ln cnt this (0 : Int32) p0 (tb) (f) hzP140 hzLN hk_this hB hlt_this h83_h140 h83_hf h83_hl2 h83_hl0) hc3
  have p3_0 : r3.toInt = ((ocB f (0 : Int32) (Int32.toNatClampNeg p0) : Nat) : Int) := hx3
  clear hx3
  refine pw_jE (fun j14 ej14 => ?_)
  refine pw_ite (fun c6 => ?_) (fun c6 => ?_)
  · have c6 := (z_le _ _).mp c6
    refine pw_j1 ej14 (fun t14_0 et14_0 => ?_)
    have et14_0 := et14_0.symm
    have f_t14_0 : t14_0.toInt = 0 := by rw [et14_0]; decide +kernel
    refine pw_if (fun hb14 => ?_)
    obtain ⟨hbl14, hbr14⟩ := hb14
    have qq0 : (t14_0.toInt ≠ 0 → ¬ NZR f (Int32.toNatClampNeg p0)) := by intro h; exfalso; omega
    have qq1 : (t14_0.toInt = 0 → NZR f (Int32.toNatClampNeg p0)) := by intro _ j hj h9; exact oc_0 (f := f) (x := 0) (Int32.toNatClampNeg p0) (by omega) j hj (z_e (h9.trans (by decide)))
    exact pw_some ⟨qq0, qq1⟩
  · have c6 := z_nle c6
    refine pw_j1 ej14 (fun t14_0 et14_0 => ?_)
    have et14_0 := et14_0.symm
    have f_t14_0 : t14_0.toInt = 1 := by rw [et14_0]; decide +kernel
    refine pw_if (fun hb14 => ?_)
    obtain ⟨hbl14, hbr14⟩ := hb14
    have qq0 : (t14_0.toInt ≠ 0 → ¬ NZR f (Int32.toNatClampNeg p0)) := by intro _ h9; obtain ⟨j, h1, h2⟩ := oc_1 (f := f) (x := 0) (Int32.toNatClampNeg p0) (by omega); exact h9 j h1 (by rw [h2]; decide)
    have qq1 : (t14_0.toInt = 0 → NZR f (Int32.toNatClampNeg p0)) := by intro h; exfalso; omega
    exact pw_some ⟨qq0, qq1⟩
abbrev QF_X8_begin (κ : Nat → Nat) (wd : Nat) (la : Nat → Nat) (G : Nat → Nat → Int32) (P : Nat → Nat → Option Nat) (U : Nat → Nat → Int64) (V : Nat → Nat → Nat → Int32) (X : Nat → Nat → Nat → Int64) (O : Nat → Nat → Nat → Option Nat) (kd : Nat → Nat) (ln : Nat → Nat) (cnt : Nat) (this : Nat) (p0 : Nat) (p1 : Int32) : ((Nat → Int32) × (Nat → Int32) × (Nat → Int32) × (Nat → Int32) × (Nat → Option Nat)) → Prop := (fun t => ((p1.toInt ≤ ((ln p0 : Nat) : Int) → ((t.2.1) this).toInt = p1.toInt)) ∧ (((t.2.2.2.1) this).toInt = 0))
set_option maxHeartbeats 4000000 in
set_option maxRecDepth 100000 in
theorem fn_X8_begin (κ : Nat → Nat) (wd : Nat) (la : Nat → Nat) (G : Nat → Nat → Int32) (P : Nat → Nat → Option Nat) (U : Nat → Nat → Int64) (V : Nat → Nat → Nat → Int32) (X : Nat → Nat → Nat → Int64) (O : Nat → Nat → Nat → Option Nat) (kd : Nat → Nat) (ln : Nat → Nat) (cnt : Nat) (this : Nat) (p0 : Nat) (p1 : Int32) (hzG162 : rng (0) 2000 (G 162)) (hzG165 : rng (0) 2000 (G 165)) (hzG166 : rng (0) 2000 (G 166)) (hzP164 : PB κ ln wd 9 100 0 2000 0 (P 164)) (hzLN : LN κ ln) (hk_this : κ this = 9) (hk_p0 : κ p0 = 100) (hp0 : 0 ≤ p1.toInt) (hp1 : ((ln p0 : Nat) : Int) ≤ 2000) (hB : LB la cnt P) (hlt_this : this < cnt) (hlt_p0 : p0 < cnt) : pw (f_X8_begin G P U V X O kd ln cnt this p0 p1) (QF_X8_begin κ wd la G P U V X O kd ln cnt this p0 p1) := by
  unfold f_X8_begin
  have zk0 : (0 : Int32).toInt = 0 := by decide +kernel
  have r_p1 := i32r p1
  refine pw_vl (fun m2 em2 => ?_)
  have hfr1 : ∀ z, ((la z < la this ∨ la this < la z)) → m2 z = (P 164) z := fr_up (e0 := (P 164)) (fun _ _ => rfl) em2 (show ¬ ((la this < la this ∨ la this < la this)) from by omega)
  have hl2 : LC 164 la cnt m2 := LC_up (hB.1 164 fl_164) em2 (by omega) (by omega) (lk_164 _ _)
  have hp3 : PB κ ln wd 9 100 0 2000 0 m2 := by rw [em2]; exact PB_up hzP164 hk_p0 (by omega) (by omega) (fun h9 => absurd h9 (by decide))
  have sm2 : m2 this = some p0 := by rw [em2]; exact va_up_self _ _ _
  have hz_p0 : (Int32.ofNat (ln p0)).toInt = ((ln p0 : Nat) : Int) := ofN_eq (hzLN p0 (by rw [hk_p0]; decide))
  have hzb_p0 := hzLN p0 (by rw [hk_p0]; decide)
  have mm4 := z_min (Int32.ofNat (ln p0)) p1
  refine pw_vl (fun x12 ex12 => ?_)
  have f5 : x12.toInt = (if (Int32.ofNat (ln p0)) < p1 then (Int32.ofNat (ln p0)) else p1).toInt := congrArg Int32.toInt ex12
  refine pw_vl (fun m12 em12 => ?_)
  have hfr6 : ∀ z, ((la z < la this ∨ la this < la z)) → m12 z = (G 165) z := fr_up (e0 := (G 165)) (fun _ _ => rfl) em12 (show ¬ ((la this < la this ∨ la this < la this)) from by omega)
  have hg7 : rng (0) 2000 m12 := by rw [em12]; exact rng_vup hzG165 (by omega) (by omega)
  have sm12 : (m12 this).toInt = x12.toInt := by rw [em12, va_up_self]
  have b8 := hg7 this
  refine pw_vl (fun m17 em17 => ?_)
  have hfr9 : ∀ z, ((la z < la this ∨ la this < la z)) → m17 z = (G 166) z := fr_up (e0 := (G 166)) (fun _ _ => rfl) em17 (show ¬ ((la this < la this ∨ la this < la this)) from by omega)
  have hg10 : rng (0) 2000 m17 := by rw [em17]; exact rng_vup hzG166 (by omega) (by omega)
  have sm17 : (m17 this).toInt = 0 := by rw [em17, va_up_self]; decide +kernel
  have b11 := hg10 this
  refine pw_vl (fun m22 em22 => ?_)
  have hfr12 : ∀ z, ((la z < la this ∨ la this < la z)) → m22 z = (G 162) z := fr_up (e0 := (G 162)) (fun _ _ => rfl) em22 (show ¬ ((la this < la this ∨ la this < la this)) from by omega)
  have hg13 : rng (0) 2000 m22 := by rw [em22]; exact rng_vup hzG162 (by omega) (by omega)
  have sm22 : (m22 this).toInt = 0 := by rw [em22, va_up_self]; decide +kernel
  have b14 := hg13 this
  refine pw_vl (fun m27 em27 => ?_)
  have hfr15 : ∀ z, ((la z < la this ∨ la this < la z)) → m27 z = (G 167) z := fr_up (e0 := (G 167)) (fun _ _ => rfl) em27 (show ¬ ((la this < la this ∨ la this < la this)) from by omega)
  have sm27 : (m27 this).toInt = 0 := by rw [em27, va_up_self]; decide +kernel
  have qq0 : (p1.toInt ≤ ((ln p0 : Nat) : Int) → (m12 this).toInt = p1.toInt) := by intro h; omega
  have qq1 : (m27 this).toInt = 0 := by omega
  exact pw_some ⟨qq0, qq1⟩
abbrev QF_X11_mixed (κ : Nat → Nat) (wd : Nat) (la : Nat → Nat) (G : Nat → Nat → Int32) (P : Nat → Nat → Option Nat) (U : Nat → Nat → Int64) (V : Nat → Nat → Nat → Int32) (X : Nat → Nat → Nat → Int64) (O : Nat → Nat → Nat → Option Nat) (kd : Nat → Nat) (ln : Nat → Nat) (cnt : Nat) (this : Nat) (p0 : Int32) (ra : Nat) (tn : Nat) (bk : Nat) (nw : Nat) (nx : Nat) (wh : Nat) (pg : Nat) (fi : Nat) (pa : Nat) (pk : Nat) (sz : Nat) (cl : Nat) (fa : Nat) (fl : Nat) (sp : Nat) (lsp : Nat) (ssp : Nat) (wl : Nat) (wz : Nat) (D : Nat) (d : Nat → Dr) (Ws : List Wd) (tp : Nat) (tb : Nat) (tw : Nat) (mi : Nat) (co : Nat) (le : Nat) (to : Nat) (f : Nat → Int32) (n : Nat) : (Int32 × (Nat → Nat → Int32) × (Nat → Nat → Option Nat) × (Nat → Nat → Int64) × (Nat → Nat → Nat → Int32) × (Nat → Nat → Nat → Int64) × (Nat → Nat → Nat → Option Nat) × (Nat → Nat) × (Nat → Nat) × Nat) → Prop := (fun t => ∃ la1 : Nat → Nat, (∀ z, z < cnt → la1 z = la z) ∧ LB la1 (t.2.2.2.2.2.2.2.2.2) (t.2.2.1) ∧ (BKR (t.2.1) (t.2.2.1) (t.2.2.2.2.1) la1 (t.2.2.2.2.2.2.2.2.2) D (((t.2.2.2.2.2.2.1) 1) fa) (fun s => Int32.toNatClampNeg (((t.2.2.2.2.1) 3) fl s)) (FMT d Ws)) ∧ ((∀ s : Nat, s < 7 → ((G 222) this).toInt < (s : Int) → ((t.2.2.2.2.1) 3) fl s = (V 3) fl s)) ∧ ((¬ (0 ≤ p0.toInt ∧ p0.toInt ≤ 50) → (t.1).toInt = -2 ∧ ((t.2.1) 43) mi = (G 43) mi ∧ ((t.2.2.2.2.1) 9) to = (V 9) to)) ∧ (((0 ≤ p0.toInt ∧ p0.toInt ≤ 50) → ¬ (NZR f n ∧ lnN f n ≤ 40) → (t.1).toInt = -1 ∧ ((t.2.1) 43) mi = (G 43) mi ∧ ((t.2.2.2.2.1) 9) to = (V 9) to)) ∧ (((0 ≤ p0.toInt ∧ p0.toInt ≤ 50) → NZR f n → lnN f n ≤ 40 → (t.1) = owF2 (smK (MXC f n d Ws) (Int32.toNatClampNeg ((G 222) this)) p0 (lnN f n) (lnN f n)) (Int32.toNatClampNeg ((G 222) this)) p0 (-1) ∧ (((t.2.1) 43) mi).toInt = ((lnN f n : Nat) : Int) ∧ ∀ j, j < lnN f n → ((t.2.2.2.2.1) 9) to j = Int32.ofNat (tlF (MXC f n d Ws) (Int32.toNatClampNeg ((G 222) this)) p0 (lnN f n) j))))
set_option maxHeartbeats 4000000 in
set_option maxRecDepth 100000 in
theorem fn_X11_mixed (κ : Nat → Nat) (wd : Nat) (la : Nat → Nat) (G : Nat → Nat → Int32) (P : Nat → Nat → Option Nat) (U : Nat → Nat → Int64) (V : Nat → Nat → Nat → Int32) (X : Nat → Nat → Nat → Int64) (O : Nat → Nat → Nat → Option Nat) (kd : Nat → Nat) (ln : Nat → Nat) (cnt : Nat) (this : Nat) (p0 : Int32) (ra : Nat) (tn : Nat) (bk : Nat) (nw : Nat) (nx : Nat) (wh : Nat) (pg : Nat) (fi : Nat) (pa : Nat) (pk : Nat) (sz : Nat) (cl : Nat) (fa : Nat) (fl : Nat) (sp : Nat) (lsp : Nat) (ssp : Nat) (wl : Nat) (wz : Nat) (D : Nat) (d : Nat → Dr) (Ws : List Wd) (tp : Nat) (tb : Nat) (tw : Nat) (mi : Nat) (co : Nat) (le : Nat) (to : Nat) (f : Nat → Int32) (n : Nat) (hI : CInv κ wd G P V O ln cnt) (hk_this : κ this = 12) (hB : LB la cnt P) (hlt_this : this < cnt) (hpl0 : la this = 200) (h221 : (P 221) this = some ra) (h226 : (P 226) this = some tn) (h229 : (P 229) this = some bk) (h181 : (P 181) tn = some nw) (h182 : (P 182) tn = some nx) (hnn : nw ≠ nx) (h185 : (P 185) tn = some wh) (h180 : (P 180) tn = some pg) (hfi : (P 63) pg = some fi) (hpa : (P 65) pg = some pa) (hpk : (P 62) pg = some pk) (hsz : (P 61) pg = some sz) (hcl : (P 64) pg = some cl) (hlt9 : la tn = 90) (h1 : (P 1) bk = some fa) (h3 : (P 3) bk = some fl) (h4 : (P 4) bk = some sp) (hls : (P 201) sp = some lsp) (hss : (P 202) sp = some ssp) (hw4 : ((G 200) sp).toInt = ((24 : Nat) : Int)) (hn4 : ln ssp = 12) (hwl : (P 201) wd = some wl) (hwz : (P 202) wd = some wz) (hww : ((G 200) wd).toInt = ((24 : Nat) : Int)) (hWs : rwW ((G 203) wd) ((V 0) wl) ((V 1) wz) 24 = Ws) (hWw : WDS Ws) (hbk : BKR G P V la cnt D ((O 1) fa) (fun s => Int32.toNatClampNeg ((V 3) fl s)) (FMT d Ws)) (hDc : D < 100000 + 10 * cnt) (h0 : (P 0) bk = some wd) (hl7 : ln fl = 7 ∧ ln fa = 700) (hl6 : ln ra = 6) (hrf : ∀ q, q < Int32.toNatClampNeg ((G 222) this) → ∃ rf, (O 2) ra q = some rf ∧ rf < cnt ∧ 100000 ≤ la rf ∧ RFX G P V O ln la cnt rf (d q)) (h220 : (P 220) this = some tp) (h140 : (P 140) tp = some tb) (h234 : (P 234) this = some tw) (h236 : (P 236) this = some mi) (h40 : (P 40) mi = some co) (h41 : (P 41) mi = some le) (h42 : (P 42) mi = some to) (hf : (V 0) tb = f) (hn : Int32.toNatClampNeg ((G 141) tp) = n) : pw (f_X11_mixed G P U V X O kd ln cnt this p0) (sp1 (QF_X11_mixed κ wd la G P U V X O kd ln cnt this p0 ra tn bk nw nx wh pg fi pa pk sz cl fa fl sp lsp ssp wl wz D d Ws tp tb tw mi co le to f n)) := by
  unfold f_X11_mixed
  have zkm2 : (-2 : Int32).toInt = -2 := by decide +kernel
  have zkm1 : (-1 : Int32).toInt = -1 := by decide +kernel
  have zk0 : (0 : Int32).toInt = 0 := by decide +kernel
  have zk1 : (1 : Int32).toInt = 1 := by decide +kernel
  have zk40 : (40 : Int32).toInt = 40 := by decide +kernel
  have zk50 : (50 : Int32).toInt = 50 := by decide +kernel
  have r_p0 := i32r p0
  replace hnn : id _ := hnn
  have hn1 : (P 221) this = some ra := h221
  obtain ⟨_, lt_ra2, lb_ra2⟩ := (hB.1 221 fl_221) this ra hn1
  have lb_ra2 : la ra = 203 := (lk_221.mp lb_ra2).trans (congrArg (fun z9 => z9 + 3) hpl0)
  have hk_ra := (((CInv_P221 hI :) this).2 ra hn1).1
  have hl1_ra := (((CInv_P221 hI :) this).2 ra hn1).2.1
  have hl2_ra := (((CInv_P221 hI :) this).2 ra hn1).2.2.1
  have hw_ra : id _ := (((CInv_P221 hI :) this).2 ra hn1).2.2.2
  have hz_ra : (Int32.ofNat (ln ra)).toInt = ((ln ra : Nat) : Int) := ofN_eq (by first | exact Nat.le_trans hl2_ra (by decide) | omega)
  have hn3 : (P 226) this = some tn := h226
  have lt_tn4 := ((hB.1 226 fl_226) this tn hn3).2.1
  have lb_tn4 : la tn = 90 := lk_226.mp ((hB.1 226 fl_226) this tn hn3).2.2
  have hk_tn := (((CInv_P226 hI :) this).2 tn hn3).1
  have hl1_tn := (((CInv_P226 hI :) this).2 tn hn3).2.1
  have hl2_tn := (((CInv_P226 hI :) this).2 tn hn3).2.2.1
  have hw_tn : id _ := (((CInv_P226 hI :) this).2 tn hn3).2.2.2
  have hn5 : (P 229) this = some bk := h229
  have lt_bk6 := ((hB.1 229 fl_229) this bk hn5).2.1
  have lb_bk6 : la bk = 70 := lk_229.mp ((hB.1 229 fl_229) this bk hn5).2.2
  have hk_bk := (((CInv_P229 hI :) this).2 bk hn5).1
  have hl1_bk := (((CInv_P229 hI :) this).2 bk hn5).2.1
  have hl2_bk := (((CInv_P229 hI :) this).2 bk hn5).2.2.1
  have hw_bk : id _ := (((CInv_P229 hI :) this).2 bk hn5).2.2.2
  have hn7 : (P 3) bk = some fl := h3
  obtain ⟨_, lt_fl8, lb_fl8⟩ := (hB.1 3 fl_3) bk fl hn7
  have lb_fl8 : la fl = 70 := (lk_3.mp lb_fl8).trans (congrArg (fun z9 => z9 + 0) lb_bk6)
  have hk_fl := (((CInv_P3 hI :) bk).2 fl hn7).1
  have hl1_fl := (((CInv_P3 hI :) bk).2 fl hn7).2.1
  have hl2_fl := (((CInv_P3 hI :) bk).2 fl hn7).2.2.1
  have hw_fl : id _ := (((CInv_P3 hI :) bk).2 fl hn7).2.2.2
  have hz_fl : (Int32.ofNat (ln fl)).toInt = ((ln fl : Nat) : Int) := ofN_eq (by first | exact Nat.le_trans hl2_fl (by decide) | omega)
  have hn9 : (P 1) bk = some fa := h1
  obtain ⟨_, lt_fa10, lb_fa10⟩ := (hB.1 1 fl_1) bk fa hn9
  have lb_fa10 : la fa = 70 := (lk_1.mp lb_fa10).trans (congrArg (fun z9 => z9 + 0) lb_bk6)
  have hk_fa := (((CInv_P1 hI :) bk).2 fa hn9).1
  have hl1_fa := (((CInv_P1 hI :) bk).2 fa hn9).2.1
  have hl2_fa := (((CInv_P1 hI :) bk).2 fa hn9).2.2.1
  have hw_fa : id _ := (((CInv_P1 hI :) bk).2 fa hn9).2.2.2
  have hz_fa : (Int32.ofNat (ln fa)).toInt = ((ln fa : Nat) : Int) := ofN_eq (by first | exact Nat.le_trans hl2_fa (by decide) | omega)
  have hn11 : (P 0) bk = some wd := h0
  have lt_wd12 := ((hB.1 0 fl_0) bk wd hn11).2.1
  have lb_wd12 : la wd = 20 := lk_0.mp ((hB.1 0 fl_0) bk wd hn11).2.2
  have hk_wd := (((CInv_P0 hI :) bk).2 wd hn11).1
  have hl1_wd := (((CInv_P0 hI :) bk).2 wd hn11).2.1
  have hl2_wd := (((CInv_P0 hI :) bk).2 wd hn11).2.2.1
  have hw_wd : id _ := (((CInv_P0 hI :) bk).2 wd hn11).2.2.2
  have hn13 : (P 201) wd = some wl := hwl
  obtain ⟨_, lt_wl14, lb_wl14⟩ := (hB.1 201 fl_201) wd wl hn13
  have lb_wl14 : la wl = 20 := (lk_201.mp lb_wl14).trans (congrArg (fun z9 => z9 + 0) lb_wd12)
  have hk_wl := (((CInv_P201 hI :) wd).2 wl hn13).1
  have hl1_wl := (((CInv_P201 hI :) wd).2 wl hn13).2.1
  have hl2_wl := (((CInv_P201 hI :) wd).2 wl hn13).2.2.1
  have hw_wl : id _ := (((CInv_P201 hI :) wd).2 wl hn13).2.2.2
  have hz_wl : (Int32.ofNat (ln wl)).toInt = ((ln wl : Nat) : Int) := ofN_eq (by first | exact Nat.le_trans hl2_wl (by decide) | omega)
  have hn15 : (P 202) wd = some wz := hwz
  obtain ⟨_, lt_wz16, lb_wz16⟩ := (hB.1 202 fl_202) wd wz hn15
  have lb_wz16 : la wz = 20 := (lk_202.mp lb_wz16).trans (congrArg (fun z9 => z9 + 0) lb_wd12)
  have hk_wz := (((CInv_P202 hI :) wd).2 wz hn15).1
  have hl1_wz := (((CInv_P202 hI :) wd).2 wz hn15).2.1
  have hl2_wz := (((CInv_P202 hI :) wd).2 wz hn15).2.2.1
  have hw_wz : id _ := (((CInv_P202 hI :) wd).2 wz hn15).2.2.2
  have hz_wz : (Int32.ofNat (ln wz)).toInt = ((ln wz : Nat) : Int) := ofN_eq (by first | exact Nat.le_trans hl2_wz (by decide) | omega)
  have rb17 := ((CInv_RB hI :) wd wz hk_wd hn15).1
  have ra18 := (CInv_RA hI :) wd wl wz hk_wd hn13 hn15
  have bw19 := (CInv_G200 hI :) wd
  have hn20 : (P 220) this = some tp := h220
  have lt_tp21 := ((hB.1 220 fl_220) this tp hn20).2.1
  have lb_tp21 : la tp = 10 := lk_220.mp ((hB.1 220 fl_220) this tp hn20).2.2
  have hk_tp := (((CInv_P220 hI :) this).2 tp hn20).1
  have hl1_tp := (((CInv_P220 hI :) this).2 tp hn20).2.1
  have hl2_tp := (((CInv_P220 hI :) this).2 tp hn20).2.2.1
  have hw_tp : id _ := (((CInv_P220 hI :) this).2 tp hn20).2.2.2
  have hn22 : (P 140) tp = some tb := h140
  obtain ⟨_, lt_tb23, lb_tb23⟩ := (hB.1 140 fl_140) tp tb hn22
  have lb_tb23 : la tb = 11 := (lk_140.mp lb_tb23).trans (congrArg (fun z9 => z9 + 1) lb_tp21)
  have hk_tb := (((CInv_P140 hI :) tp).2 tb hn22).1
  have hl1_tb := (((CInv_P140 hI :) tp).2 tb hn22).2.1
  have hl2_tb := (((CInv_P140 hI :) tp).2 tb hn22).2.2.1
  have hw_tb : id _ := (((CInv_P140 hI :) tp).2 tb hn22).2.2.2
  have hz_tb : (Int32.ofNat (ln tb)).toInt = ((ln tb : Nat) : Int) := ofN_eq (by first | exact Nat.le_trans hl2_tb (by decide) | omega)
  have hn24 : (P 234) this = some tw := h234
  have lt_tw25 := ((hB.1 234 fl_234) this tw hn24).2.1
  have lb_tw25 : la tw = 310 := lk_234.mp ((hB.1 234 fl_234) this tw hn24).2.2
  have hk_tw := (((CInv_P234 hI :) this).2 tw hn24).1
  have hl1_tw := (((CInv_P234 hI :) this).2 tw hn24).2.1
  have hl2_tw := (((CInv_P234 hI :) this).2 tw hn24).2.2.1
  have hw_tw : id _ := (((CInv_P234 hI :) this).2 tw hn24).2.2.2
  have hn26 : (P 236) this = some mi := h236
  have lt_mi27 := ((hB.1 236 fl_236) this mi hn26).2.1
  have lb_mi27 : la mi = 330 := lk_236.mp ((hB.1 236 fl_236) this mi hn26).2.2
  have hk_mi := (((CInv_P236 hI :) this).2 mi hn26).1
  have hl1_mi := (((CInv_P236 hI :) this).2 mi hn26).2.1
  have hl2_mi := (((CInv_P236 hI :) this).2 mi hn26).2.2.1
  have hw_mi : id _ := (((CInv_P236 hI :) this).2 mi hn26).2.2.2
  have hn28 : (P 40) mi = some co := h40
  obtain ⟨_, lt_co29, lb_co29⟩ := (hB.1 40 fl_40) mi co hn28
  have lb_co29 : la co = 330 := (lk_40.mp lb_co29).trans (congrArg (fun z9 => z9 + 0) lb_mi27)
  have hk_co := (((CInv_P40 hI :) mi).2 co hn28).1
  have hl1_co := (((CInv_P40 hI :) mi).2 co hn28).2.1
  have hl2_co := (((CInv_P40 hI :) mi).2 co hn28).2.2.1
  have hw_co : id _ := (((CInv_P40 hI :) mi).2 co hn28).2.2.2
  have hz_co : (Int32.ofNat (ln co)).toInt = ((ln co : Nat) : Int) := ofN_eq (by first | exact Nat.le_trans hl2_co (by decide) | omega)
  have hn30 : (P 41) mi = some le := h41
  obtain ⟨_, lt_le31, lb_le31⟩ := (hB.1 41 fl_41) mi le hn30
  have lb_le31 : la le = 330 := (lk_41.mp lb_le31).trans (congrArg (fun z9 => z9 + 0) lb_mi27)
  have hk_le := (((CInv_P41 hI :) mi).2 le hn30).1
  have hl1_le := (((CInv_P41 hI :) mi).2 le hn30).2.1
  have hl2_le := (((CInv_P41 hI :) mi).2 le hn30).2.2.1
  have hw_le : id _ := (((CInv_P41 hI :) mi).2 le hn30).2.2.2
  have hz_le : (Int32.ofNat (ln le)).toInt = ((ln le : Nat) : Int) := ofN_eq (by first | exact Nat.le_trans hl2_le (by decide) | omega)
  have hn32 : (P 42) mi = some to := h42
  obtain ⟨_, lt_to33, lb_to33⟩ := (hB.1 42 fl_42) mi to hn32
  have lb_to33 : la to = 330 := (lk_42.mp lb_to33).trans (congrArg (fun z9 => z9 + 0) lb_mi27)
  have hk_to := (((CInv_P42 hI :) mi).2 to hn32).1
  have hl1_to := (((CInv_P42 hI :) mi).2 to hn32).2.1
  have hl2_to := (((CInv_P42 hI :) mi).2 to hn32).2.2.1
  have hw_to : id _ := (((CInv_P42 hI :) mi).2 to hn32).2.2.2
  have hz_to : (Int32.ofNat (ln to)).toInt = ((ln to : Nat) : Int) := ofN_eq (by first | exact Nat.le_trans hl2_to (by decide) | omega)
  have hb222 := (CInv_G222 hI :) this
  have hb222 := (CInv_G222 hI :) this
  have c222 := clampI (x := (G 222) this) (by omega)
  have hb141 := (CInv_G141 hI :) tp
  have c141 := clampI (x := (G 141) tp) (by omega)
  refine pw_nne hn20 ?_
  refine pw_b2 (fun r4 c4_G141 hc4 => ?_)
  have hq4 := wp_at (ok_X7_take κ wd G P U V X O kd ln cnt tp (CInv_G141 hI :) (CInv_LN hI :) hk_tp) hc4
  obtain ⟨hg34, f35, f36, f37⟩ : (rng (0) 2000 c4_G141) ∧ (r4.toInt = ((G 141) tp).toInt) ∧ ((c4_G141 tp).toInt = 0) ∧ ((0 ≤ r4.toInt ∧ r4.toInt ≤ 2000)) := hq4
  have hq4 := pwq (fr_X7_take la G P U V X O kd ln cnt tp hB) hc4
  have q4_G141 : (∀ z, (la z < la tp ∨ la tp < la z) → c4_G141 z = (G 141) z) := hq4
  clear hq4
  have tz4 : ∀ z, (z < cnt ∧ (la z < 10 ∨ 10 < la z) ∧ (la z < 70 ∨ 70 + 2 < la z) ∧ (la z < 90 ∨ 90 + 8 < la z) ∧ (la z < 310 ∨ 310 < la z) ∧ (la z < 330 ∨ 330 < la z)) → ((la z < la tp ∨ la tp < la z)) := fun z hz => by omega
  have hfr38 : ∀ z, (z < cnt ∧ (la z < 10 ∨ 10 < la z) ∧ (la z < 70 ∨ 70 + 2 < la z) ∧ (la z < 90 ∨ 90 + 8 < la z) ∧ (la z < 310 ∨ 310 < la z) ∧ (la z < 330 ∨ 330 < la z)) → c4_G141 z = (G 141) z := fun z hz => (q4_G141 z (tz4 z hz)).trans ((fun _ _ => rfl) z hz)
  have hx4 := pwq (fn_X7_take κ wd la G P U V X O kd ln cnt tp (CInv_G141 hI :) (CInv_LN hI :) hk_tp hB lt_tp21) hc4
  obtain ⟨p4_0, p4_1⟩ : (r4 = (G 141) tp) ∧ (c4_G141 tp = 0) := hx4
  have hr4 := congrArg Int32.toInt p4_0
  have hn4x : Int32.toNatClampNeg r4 = n := by rw [p4_0]; exact hn
  have cr4 := clampI (x := r4) (by omega)
  refine pw_jE (fun j18 ej18 => ?_)
  refine pw_ite (fun c9 => ?_) (fun c9 => ?_)
  · have c9 := (z_lt _ _).mp c9
    refine pw_j0 ej18 ?_
    have qq0 : BKR (va_up G 141 c4_G141) P V la cnt D ((O 1) fa) (fun s => Int32.toNatClampNeg ((V 3) fl s)) (FMT d Ws) := by exact BKR_fr hbk hB (fun _ => rfl) (fun _ _ => ⟨rfl, rfl, rfl⟩) (fun _ _ _ _ => ⟨rfl, rfl, rfl⟩) (Nat.le_refl _) (fun _ _ => rfl) (fun _ _ h => h)
    have qq1 : id ((∀ s : Nat, s < 7 → ((G 222) this).toInt < (s : Int) → (V 3) fl s = (V 3) fl s)) := show (∀ s : Nat, s < 7 → ((G 222) this).toInt < (s : Int) → (V 3) fl s = (V 3) fl s) from by exact fun _ _ _ => rfl
    have qq2 : id ((¬ (0 ≤ p0.toInt ∧ p0.toInt ≤ 50) → (-2 : Int32).toInt = -2 ∧ (G 43) mi = (G 43) mi ∧ (V 9) to = (V 9) to)) := show (¬ (0 ≤ p0.toInt ∧ p0.toInt ≤ 50) → (-2 : Int32).toInt = -2 ∧ (G 43) mi = (G 43) mi ∧ (V 9) to = (V 9) to) from by intro _; exact ⟨by omega, rfl, rfl⟩
    have qq3 : id (((0 ≤ p0.toInt ∧ p0.toInt ≤ 50) → ¬ (NZR f n ∧ lnN f n ≤ 40) → (-2 : Int32).toInt = -1 ∧ (G 43) mi = (G 43) mi ∧ (V 9) to = (V 9) to)) := show ((0 ≤ p0.toInt ∧ p0.toInt ≤ 50) → ¬ (NZR f n ∧ lnN f n ≤ 40) → (-2 : Int32).toInt = -1 ∧ (G 43) mi = (G 43) mi ∧ (V 9) to = (V 9) to) from by intro h; exfalso; omega
    have qq4 : id (((0 ≤ p0.toInt ∧ p0.toInt ≤ 50) → NZR f n → lnN f n ≤ 40 → (-2 : Int32) = owF2 (smK (MXC f n d Ws) (Int32.toNatClampNeg ((G 222) this)) p0 (lnN f n) (lnN f n)) (Int32.toNatClampNeg ((G 222) this)) p0 (-1) ∧ ((G 43) mi).toInt = ((lnN f n : Nat) : Int) ∧ ∀ j, j < lnN f n → (V 9) to j = Int32.ofNat (tlF (MXC f n d Ws) (Int32.toNatClampNeg ((G 222) this)) p0 (lnN f n) j))) := show ((0 ≤ p0.toInt ∧ p0.toInt ≤ 50) → NZR f n → lnN f n ≤ 40 → (-2 : Int32) = owF2 (smK (MXC f n d Ws) (Int32.toNatClampNeg ((G 222) this)) p0 (lnN f n) (lnN f n)) (Int32.toNatClampNeg ((G 222) this)) p0 (-1) ∧ ((G 43) mi).toInt = ((lnN f n : Nat) : Int) ∧ ∀ j, j < lnN f n → (V 9) to j = Int32.ofNat (tlF (MXC f n d Ws) (Int32.toNatClampNeg ((G 222) this)) p0 (lnN f n) j)) from by intro h; exfalso; omega
    exact pw_some ⟨la, (fun _ _ => rfl), hB, qq0, qq1, qq2, qq3, qq4⟩
  · have c9 := z_nlt c9
    refine pw_ite (fun c15 => ?_) (fun c15 => ?_)
    · have c15 := (z_le _ _).mp c15
      have hin : 0 ≤ p0.toInt ∧ p0.toInt ≤ 50 := by omega
      refine pw_nne hn20 ?_
      refine pw_b1 (fun r26 hc26 => ?_)
      have hq26 := wp_at (ok_X7_lines κ wd (va_up G 141 c4_G141) P U V X O kd ln cnt tp r4 (CInv_P140 hI :) (CInv_LN hI :) hk_tp) hc26
      have f39 : (1 ≤ r26.toInt ∧ r26.toInt ≤ 2001) := hq26
      clear hq26
      have h826_h140 : (P 140) tp = some tb := by exact h140
      have h826_hf : (V 0) tb = f := by exact hf
      have h826_hl2 : r4.toInt ≤ 2000 := by omega
      have h826_hl0 : 0 ≤ r4.toInt := by omega
      have hx26 := pwq (fn_X7_lines κ wd la (va_up G 141 c4_G141) P U V X O kd ln cnt tp r4 (tb) (f) (CInv_P140 hI :) (CInv_LN hI :) hk_tp hB lt_tp21 h826_h140 h826_hf h826_hl2 h826_hl0) hc26
      have p26_0 : r26.toInt = ((lnN f (Int32.toNatClampNeg r4) : Nat) : Int) := hx26
      clear hx26
      clear h826_h140 h826_hf h826_hl2 h826_hl0
      rw [hn4x] at p26_0
      refine pw_nne hn20 ?_
      refine pw_b1 (fun r35 hc35 => ?_)
      have hq35 := wp_at (ok_X7_hasZero κ wd (va_up G 141 c4_G141) P U V X O kd ln cnt tp r4 (CInv_P140 hI :) (CInv_LN hI :) hk_tp) hc35
      have f40 : (0 ≤ r35.toInt ∧ r35.toInt ≤ 1) := hq35
      clear hq35
      have h835_h140 : (P 140) tp = some tb := by exact h140
      have h835_hf : (V 0) tb = f := by exact hf
      have h835_hl2 : r4.toInt ≤ 2000 := by omega
      have h835_hl0 : 0 ≤ r4.toInt := by omega
      have hx35 := pwq (fn_X7_hasZero κ wd la (va_up G 141 c4_G141) P U V X O kd ln cnt tp r4 (tb) (f) (CInv_P140 hI :) (CInv_LN hI :) hk_tp hB lt_tp21 h835_h140 h835_hf h835_hl2 h835_hl0) hc35
      obtain ⟨p35_0, p35_1⟩ : (id ((r35.toInt ≠ 0 → ¬ NZR f (Int32.toNatClampNeg r4)))) ∧ (id ((r35.toInt = 0 → NZR f (Int32.toNatClampNeg r4)))) := hx35
      clear h835_h140 h835_hf h835_hl2 h835_hl0
      rw [hn4x] at p35_0 p35_1
      refine pw_jE (fun j47 ej47 => ?_)
      refine pw_ite (fun c38 => ?_) (fun c38 => ?_)
      · have c38 := congrArg Int32.toInt c38
        refine pw_ite (fun c44 => ?_) (fun c44 => ?_)
        · have c44 := (z_le _ _).mp c44
          have hnz := p35_1 (by omega)
          refine pw_nne hn5 ?_
          have b41 := (CInv_G222 hI :) this
          refine pw_nne hn1 ?_
          refine pw_nne hn3 ?_
          have hpr65_0 : ln ra = 6 := by first | assumption | omega
          refine pw_bA9 (fun c65_G c65_P c65_U c65_V c65_X c65_O c65_kd c65_ln c65_cnt v1_65 v2_65 hc65 => ?_)
          have hq65 := wp_at (ok_X0_fill κ wd (va_up G 141 c4_G141) P U V X O kd ln cnt bk ((G 222) this) ra tn (CInv_i (CInv_G43 hI :) (CInv_G44 hI :) (CInv_G45 hI :) (CInv_G60 hI :) (CInv_G83 hI :) (CInv_G84 hI :) (CInv_G85 hI :) (CInv_G87 hI :) (CInv_G88 hI :) (CInv_G102 hI :) (CInv_G125 hI :) (CInv_G126 hI :) (CInv_G127 hI :) hg34 (CInv_G160 hI :) (CInv_G161 hI :) (CInv_G162 hI :) (CInv_G165 hI :) (CInv_G166 hI :) (CInv_G183 hI :) (CInv_G200 hI :) (CInv_G203 hI :) (CInv_G222 hI :) (CInv_G231 hI :) (CInv_G233 hI :) (CInv_P0 hI :) (CInv_P1 hI :) (CInv_P2 hI :) (CInv_P3 hI :) (CInv_P4 hI :) (CInv_P5 hI :) (CInv_P20 hI :) (CInv_P21 hI :) (CInv_P22 hI :) (CInv_P23 hI :) (CInv_P40 hI :) (CInv_P41 hI :) (CInv_P42 hI :) (CInv_P61 hI :) (CInv_P62 hI :) (CInv_P63 hI :) (CInv_P64 hI :) (CInv_P65 hI :) (CInv_P66 hI :) (CInv_P82 hI :) (CInv_P101 hI :) (CInv_P103 hI :) (CInv_P104 hI :) (CInv_P105 hI :) (CInv_P106 hI :) (CInv_P108 hI :) (CInv_P109 hI :) (CInv_P110 hI :) (CInv_P120 hI :) (CInv_P121 hI :) (CInv_P122 hI :) (CInv_P123 hI :) (CInv_P140 hI :) (CInv_P164 hI :) (CInv_P180 hI :) (CInv_P181 hI :) (CInv_P182 hI :) (CInv_P185 hI :) (CInv_P186 hI :) (CInv_P187 hI :) (CInv_P201 hI :) (CInv_P202 hI :) (CInv_P220 hI :) (CInv_P221 hI :) (CInv_P224 hI :) (CInv_P225 hI :) (CInv_P226 hI :) (CInv_P227 hI :) (CInv_P228 hI :) (CInv_P229 hI :) (CInv_P230 hI :) (CInv_P232 hI :) (CInv_P234 hI :) (CInv_P235 hI :) (CInv_P236 hI :) (CInv_V1 hI :) (CInv_V2 hI :) (CInv_V3 hI :) (CInv_V9 hI :) (CInv_O0 hI :) (CInv_O1 hI :) (CInv_O2 hI :) (CInv_RA hI :) (CInv_RB hI :) (CInv_RI hI :) (CInv_RM103 hI :) (CInv_RM104 hI :) (CInv_RM108 hI :) (CInv_LN hI :) (CInv_FL hI :) (CInv_W0 hI :) (CInv_KC hI :) (CInv_WK hI :)) hk_bk hk_ra hk_tn hpr65_0) hc65
          obtain ⟨κ65_41, hCI65, hxx65, hcc43, hfr44, hfr45, hfr46, hfr47, hfr48, hfr49, hfr50, hfr51, hfr52, f53, f54⟩ : ∃ κ1 : Nat → Nat, (CInv κ1 wd c65_G c65_P c65_V c65_O c65_ln c65_cnt) ∧ (∀ a, κ a ≠ 0 → κ1 a = κ a) ∧ (cnt ≤ c65_cnt) ∧ ((∀ a, κ a ≠ 0 → (c65_P 220) a = (P 220) a)) ∧ ((∀ a, κ a ≠ 0 → (c65_P 229) a = (P 229) a)) ∧ ((∀ a, κ a ≠ 0 → (c65_P 3) a = (P 3) a)) ∧ ((∀ a, κ a ≠ 0 → (c65_G 141) a = c4_G141 a)) ∧ ((∀ a, κ a ≠ 0 → (c65_G 83) a = (G 83) a)) ∧ ((∀ a, κ a ≠ 0 → (c65_P 82) a = (P 82) a)) ∧ ((∀ a, κ a ≠ 0 → (c65_P 0) a = (P 0) a)) ∧ ((∀ a, κ a ≠ 0 → (c65_G 160) a = (G 160) a)) ∧ ((∀ a, κ a ≠ 0 → c65_ln a = ln a)) ∧ ((c65_G 203) wd = (G 203) wd) ∧ (id ((∀ fl, (P 3) bk = some fl → (((v1_65 : Nat) : Int) + 3 * s7 ((V 3) fl) ≤ 3 * s7 ((c65_V 3) fl)) ∧ (((v2_65 : Nat) : Int) + 2504 * s7 ((V 3) fl) ≤ 2504 * s7 ((c65_V 3) fl))))) := hq65
          have kx55 : ∀ a, κ a ≠ 0 → κ65_41 a = κ a := hxx65
          have hk56 : κ65_41 this = 12 := kxk hxx65 hk_this (by decide)
          have hq65 := pwq (fr_X0_fill la (va_up G 141 c4_G141) P U V X O kd ln cnt bk ((G 222) this) ra tn hB lt_bk6 lt_ra2 lt_tn4) hc65
          obtain ⟨la65_f, agf65, hBf65, ccf65, fG65, fP65, fU65, fV65, fX65, fO65, fl65⟩ : ∃ la9 : Nat → Nat, (∀ z, z < cnt → la9 z = la z) ∧ LB la9 c65_cnt c65_P ∧ cnt ≤ c65_cnt ∧ FRM cnt [60, 183, 203] (fun z => (la z < la bk ∨ la bk + 2 < la z) ∧ (la z < la tn ∨ la tn + 8 < la z)) (va_up G 141 c4_G141) c65_G ∧ FRM cnt [66, 181, 182] (fun z => (la z < la bk ∨ la bk + 2 < la z) ∧ (la z < la tn ∨ la tn + 8 < la z)) P c65_P ∧ FRM cnt [184] (fun z => (la z < la bk ∨ la bk + 2 < la z) ∧ (la z < la tn ∨ la tn + 8 < la z)) U c65_U ∧ FRM cnt [0, 1, 2, 3, 12] (fun z => (la z < la bk ∨ la bk + 2 < la z) ∧ (la z < la tn ∨ la tn + 8 < la z)) V c65_V ∧ FRM cnt [1] (fun z => (la z < la bk ∨ la bk + 2 < la z) ∧ (la z < la tn ∨ la tn + 8 < la z)) X c65_X ∧ FRM cnt [1] (fun z => (la z < la bk ∨ la bk + 2 < la z) ∧ (la z < la tn ∨ la tn + 8 < la z)) O c65_O ∧ (∀ z, z < cnt → c65_ln z = ln z) := hq65
          have h865_h181 : (P 181) tn = some nw := by exact h181
          have h865_h182 : (P 182) tn = some nx := by exact h182
          have h865_hnn : nw ≠ nx := by exact hnn
          have h865_h185 : (P 185) tn = some wh := by exact h185
          have h865_h180 : (P 180) tn = some pg := by exact h180
          have h865_hfi : (P 63) pg = some fi := by exact hfi
          have h865_hpa : (P 65) pg = some pa := by exact hpa
          have h865_hpk : (P 62) pg = some pk := by exact hpk
          have h865_hsz : (P 61) pg = some sz := by exact hsz
          have h865_hcl : (P 64) pg = some cl := by exact hcl
          have h865_hlt9 : la tn = 90 := by exact hlt9
          have h865_h1 : (P 1) bk = some fa := by exact h1
          have h865_h3 : (P 3) bk = some fl := by exact h3
          have h865_h4 : (P 4) bk = some sp := by exact h4
          have h865_hls : (P 201) sp = some lsp := by exact hls
          have h865_hss : (P 202) sp = some ssp := by exact hss
          have h865_hw4 : ((G 200) sp).toInt = ((24 : Nat) : Int) := by exact hw4
          have h865_hn4 : ln ssp = 12 := by exact hn4
          have h865_hwl : (P 201) wd = some wl := by exact hwl
          have h865_hwz : (P 202) wd = some wz := by exact hwz
          have h865_hww : ((G 200) wd).toInt = ((24 : Nat) : Int) := by exact hww
          have h865_hWs : rwW ((G 203) wd) ((V 0) wl) ((V 1) wz) 24 = Ws := by exact hWs
          have h865_hWw : WDS Ws := by exact hWw
          have h865_hlb : la bk = 70 := by omega
          have h865_hlw : la wd = 20 := by omega
          have h865_hst : 0 ≤ ((G 222) this).toInt ∧ ((G 222) this).toInt ≤ 6 := by omega
          have h865_hrf : id (∀ q : Nat, (q : Int) < ((G 222) this).toInt → ∃ rf, (O 2) ra q = some rf ∧ rf < cnt ∧ 100000 ≤ la rf ∧ RFX (va_up G 141 c4_G141) P V O ln la cnt rf (d q)) := show ∀ q : Nat, (q : Int) < ((G 222) this).toInt → ∃ rf, (O 2) ra q = some rf ∧ rf < cnt ∧ 100000 ≤ la rf ∧ RFX (va_up G 141 c4_G141) P V O ln la cnt rf (d q) from by exact fun q hq => (by obtain ⟨rf9, y1, y2, y3, y4⟩ := hrf q (by omega); exact ⟨rf9, y1, y2, y3, RFX_fr y4 hB y2 (fun z hz h3 h4 => ⟨rfl, rfl, rfl, rfl, rfl, rfl, rfl, rfl, rfl, rfl, rfl, rfl, rfl, rfl, rfl, rfl, rfl, rfl, rfl, rfl, rfl, rfl, rfl, rfl, rfl, rfl⟩) (Nat.le_refl _) (fun _ _ => rfl)⟩)
          have h865_hbk : BKR (va_up G 141 c4_G141) P V la cnt D ((O 1) fa) (fun s => Int32.toNatClampNeg ((V 3) fl s)) (FMT d Ws) := by exact BKR_fr hbk hB (fun _ => rfl) (fun _ _ => ⟨rfl, rfl, rfl⟩) (fun _ _ _ _ => ⟨rfl, rfl, rfl⟩) (Nat.le_refl _) (fun _ _ => rfl) (fun _ _ h => h)
          have h865_hDc : D < 100000 + 10 * cnt := by exact hDc
          have h865_h0 : (P 0) bk = some wd := by exact h0
          have h865_hl7 : ln fl = 7 ∧ ln fa = 700 := by exact hl7
          have hx65 := pwq (fn_X0_fill κ wd la (va_up G 141 c4_G141) P U V X O kd ln cnt bk ((G 222) this) ra tn (nw) (nx) (wh) (pg) (fi) (pa) (pk) (sz) (cl) (fa) (fl) (sp) (lsp) (ssp) (wl) (wz) (D) (d) (Ws) (CInv_i (CInv_G43 hI :) (CInv_G44 hI :) (CInv_G45 hI :) (CInv_G60 hI :) (CInv_G83 hI :) (CInv_G84 hI :) (CInv_G85 hI :) (CInv_G87 hI :) (CInv_G88 hI :) (CInv_G102 hI :) (CInv_G125 hI :) (CInv_G126 hI :) (CInv_G127 hI :) hg34 (CInv_G160 hI :) (CInv_G161 hI :) (CInv_G162 hI :) (CInv_G165 hI :) (CInv_G166 hI :) (CInv_G183 hI :) (CInv_G200 hI :) (CInv_G203 hI :) (CInv_G222 hI :) (CInv_G231 hI :) (CInv_G233 hI :) (CInv_P0 hI :) (CInv_P1 hI :) (CInv_P2 hI :) (CInv_P3 hI :) (CInv_P4 hI :) (CInv_P5 hI :) (CInv_P20 hI :) (CInv_P21 hI :) (CInv_P22 hI :) (CInv_P23 hI :) (CInv_P40 hI :) (CInv_P41 hI :) (CInv_P42 hI :) (CInv_P61 hI :) (CInv_P62 hI :) (CInv_P63 hI :) (CInv_P64 hI :) (CInv_P65 hI :) (CInv_P66 hI :) (CInv_P82 hI :) (CInv_P101 hI :) (CInv_P103 hI :) (CInv_P104 hI :) (CInv_P105 hI :) (CInv_P106 hI :) (CInv_P108 hI :) (CInv_P109 hI :) (CInv_P110 hI :) (CInv_P120 hI :) (CInv_P121 hI :) (CInv_P122 hI :) (CInv_P123 hI :) (CInv_P140 hI :) (CInv_P164 hI :) (CInv_P180 hI :) (CInv_P181 hI :) (CInv_P182 hI :) (CInv_P185 hI :) (CInv_P186 hI :) (CInv_P187 hI :) (CInv_P201 hI :) (CInv_P202 hI :) (CInv_P220 hI :) (CInv_P221 hI :) (CInv_P224 hI :) (CInv_P225 hI :) (CInv_P226 hI :) (CInv_P227 hI :) (CInv_P228 hI :) (CInv_P229 hI :) (CInv_P230 hI :) (CInv_P232 hI :) (CInv_P234 hI :) (CInv_P235 hI :) (CInv_P236 hI :) (CInv_V1 hI :) (CInv_V2 hI :) (CInv_V3 hI :) (CInv_V9 hI :) (CInv_O0 hI :) (CInv_O1 hI :) (CInv_O2 hI :) (CInv_RA hI :) (CInv_RB hI :) (CInv_RI hI :) (CInv_RM103 hI :) (CInv_RM104 hI :) (CInv_RM108 hI :) (CInv_LN hI :) (CInv_FL hI :) (CInv_W0 hI :) (CInv_KC hI :) (CInv_WK hI :)) hk_bk hk_ra hk_tn hpr65_0 hB lt_bk6 lt_ra2 lt_tn4 h865_h181 h865_h182 h865_hnn h865_h185 h865_h180 h865_hfi h865_hpa h865_hpk h865_hsz h865_hcl h865_hlt9 h865_h1 h865_h3 h865_h4 h865_hls h865_hss h865_hw4 h865_hn4 h865_hwl h865_hwz h865_hww h865_hWs h865_hWw h865_hlb h865_hlw h865_hst h865_hrf h865_hbk h865_hDc h865_h0 h865_hl7) hc65
          obtain ⟨la65, ag65, hB65, p65_0, p65_1⟩ : ∃ la9 : Nat → Nat, (∀ z, z < cnt → la9 z = la z) ∧ LB la9 c65_cnt c65_P ∧ (BKR c65_G c65_P c65_V la9 c65_cnt D ((c65_O 1) fa) (fun s => Int32.toNatClampNeg ((c65_V 3) fl s)) (FMT d Ws)) ∧ (id ((∀ s : Nat, s < 7 → (c65_V 3) fl s = (if (s : Int) ≤ ((G 222) this).toInt then (G 203) wd else (V 3) fl s)))) := hx65
          clear h865_hl7 h865_h0 h865_hDc h865_hbk h865_hrf h865_hst h865_hlw h865_hlb h865_hWw h865_hWs h865_hww h865_hwz h865_hwl h865_hn4 h865_hw4 h865_hss h865_hls h865_h4 h865_h3 h865_h1 h865_hlt9 h865_hcl h865_hsz h865_hpk h865_hpa h865_hfi h865_h180 h865_h185 h865_hnn h865_h182 h865_h181 agf65 hBf65 kx55 hxx65 hfr44 hfr45 hfr46 hfr47 hfr48 hfr49 hfr50 hfr51 hfr52 hc65 hpr65_0 hc35 hc26 tz4 q4_G141 hg34 hc4
          have gl_57 : la65 this = 200 := (ag65 this hlt_this).trans hpl0
          have lt58 : this < c65_cnt := Nat.lt_of_lt_of_le hlt_this ccf65
          have gl_59 : la65 ra = 203 := (ag65 ra lt_ra2).trans lb_ra2
          have lt60 : ra < c65_cnt := Nat.lt_of_lt_of_le lt_ra2 ccf65
          have gl_61 : la65 tn = 90 := (ag65 tn lt_tn4).trans lb_tn4
          have lt62 : tn < c65_cnt := Nat.lt_of_lt_of_le lt_tn4 ccf65
          have gl_63 : la65 bk = 70 := (ag65 bk lt_bk6).trans lb_bk6
          have lt64 : bk < c65_cnt := Nat.lt_of_lt_of_le lt_bk6 ccf65
          have gl_65 : la65 fl = 70 := (ag65 fl lt_fl8).trans lb_fl8
          have lt66 : fl < c65_cnt := Nat.lt_of_lt_of_le lt_fl8 ccf65
          have gl_67 : la65 fa = 70 := (ag65 fa lt_fa10).trans lb_fa10
          have lt68 : fa < c65_cnt := Nat.lt_of_lt_of_le lt_fa10 ccf65
          have gl_69 : la65 wd = 20 := (ag65 wd lt_wd12).trans lb_wd12
          have lt70 : wd < c65_cnt := Nat.lt_of_lt_of_le lt_wd12 ccf65
          have gl_71 : la65 wl = 20 := (ag65 wl lt_wl14).trans lb_wl14
          have lt72 : wl < c65_cnt := Nat.lt_of_lt_of_le lt_wl14 ccf65
          have gl_73 : la65 wz = 20 := (ag65 wz lt_wz16).trans lb_wz16
          have lt74 : wz < c65_cnt := Nat.lt_of_lt_of_le lt_wz16 ccf65
          have gl_75 : la65 tp = 10 := (ag65 tp lt_tp21).trans lb_tp21
          have lt76 : tp < c65_cnt := Nat.lt_of_lt_of_le lt_tp21 ccf65
          have gl_77 : la65 tb = 11 := (ag65 tb lt_tb23).trans lb_tb23
          have lt78 : tb < c65_cnt := Nat.lt_of_lt_of_le lt_tb23 ccf65
          have gl_79 : la65 tw = 310 := (ag65 tw lt_tw25).trans lb_tw25
          have lt80 : tw < c65_cnt := Nat.lt_of_lt_of_le lt_tw25 ccf65
          have gl_81 : la65 mi = 330 := (ag65 mi lt_mi27).trans lb_mi27
          have lt82 : mi < c65_cnt := Nat.lt_of_lt_of_le lt_mi27 ccf65
          have gl_83 : la65 co = 330 := (ag65 co lt_co29).trans lb_co29
          have lt84 : co < c65_cnt := Nat.lt_of_lt_of_le lt_co29 ccf65
          have gl_85 : la65 le = 330 := (ag65 le lt_le31).trans lb_le31
          have lt86 : le < c65_cnt := Nat.lt_of_lt_of_le lt_le31 ccf65
          have gl_87 : la65 to = 330 := (ag65 to lt_to33).trans lb_to33
          have lt88 : to < c65_cnt := Nat.lt_of_lt_of_le lt_to33 ccf65
          have hag65 : ∀ z, z < cnt → la65 z = la z := fun z hz => (ag65 z (Nat.lt_of_lt_of_le hz (Nat.le_refl _))).trans (rfl)
          have hle65 : cnt ≤ cnt := (Nat.le_refl _)
          have ctf65 : ∀ z, z < cnt → ((la z < 10 ∨ 10 < la z) ∧ (la z < 70 ∨ 70 + 2 < la z) ∧ (la z < 90 ∨ 90 + 8 < la z) ∧ (la z < 310 ∨ 310 < la z) ∧ (la z < 330 ∨ 330 < la z)) → ((la z < la bk ∨ la bk + 2 < la z) ∧ (la z < la tn ∨ la tn + 8 < la z)) := fun z h0 hz => by have q2 := hB.2 z h0; omega
          have hF65_G : FRM cnt [43, 44, 45, 60, 141, 160, 161, 162, 163, 165, 166, 167, 183, 203] (fun z => (la z < 10 ∨ 10 < la z) ∧ (la z < 70 ∨ 70 + 2 < la z) ∧ (la z < 90 ∨ 90 + 8 < la z) ∧ (la z < 310 ∨ 310 < la z) ∧ (la z < 330 ∨ 330 < la z)) G c65_G := FRM_trans (FRM_set FRM_refl (by decide) (fun z h1 h2 => hfr38 z ⟨h1, h2⟩)) fG65 hle65 (by decide) (ctf65)
          have hF65_P : FRM cnt [66, 164, 181, 182] (fun z => (la z < 10 ∨ 10 < la z) ∧ (la z < 70 ∨ 70 + 2 < la z) ∧ (la z < 90 ∨ 90 + 8 < la z) ∧ (la z < 310 ∨ 310 < la z) ∧ (la z < 330 ∨ 330 < la z)) P c65_P := FRM_trans FRM_refl fP65 hle65 (by decide) (ctf65)
          have hF65_U : FRM cnt [184] (fun z => (la z < 10 ∨ 10 < la z) ∧ (la z < 70 ∨ 70 + 2 < la z) ∧ (la z < 90 ∨ 90 + 8 < la z) ∧ (la z < 310 ∨ 310 < la z) ∧ (la z < 330 ∨ 330 < la z)) U c65_U := FRM_trans FRM_refl fU65 hle65 (by decide) (ctf65)
          have hF65_V : FRM cnt [0, 1, 2, 3, 7, 8, 9, 12] (fun z => (la z < 10 ∨ 10 < la z) ∧ (la z < 70 ∨ 70 + 2 < la z) ∧ (la z < 90 ∨ 90 + 8 < la z) ∧ (la z < 310 ∨ 310 < la z) ∧ (la z < 330 ∨ 330 < la z)) V c65_V := FRM_trans FRM_refl fV65 hle65 (by decide) (ctf65)
          have hF65_X : FRM cnt [1] (fun z => (la z < 10 ∨ 10 < la z) ∧ (la z < 70 ∨ 70 + 2 < la z) ∧ (la z < 90 ∨ 90 + 8 < la z) ∧ (la z < 310 ∨ 310 < la z) ∧ (la z < 330 ∨ 330 < la z)) X c65_X := FRM_trans FRM_refl fX65 hle65 (by decide) (ctf65)
          have hF65_O : FRM cnt [1] (fun z => (la z < 10 ∨ 10 < la z) ∧ (la z < 70 ∨ 70 + 2 < la z) ∧ (la z < 90 ∨ 90 + 8 < la z) ∧ (la z < 310 ∨ 310 < la z) ∧ (la z < 330 ∨ 330 < la z)) O c65_O := FRM_trans FRM_refl fO65 hle65 (by decide) (ctf65)
          have hlnn65 : ∀ z, z < cnt → c65_ln z = ln z := fun z hz => (fl65 z (Nat.lt_of_lt_of_le hz hle65)).trans (rfl)
          clear hlnn65 hF65_O hF65_X hF65_U ag65 fU65 fX65 fO65 hfr38
          have hn89 : (c65_P 221) this = some ra := (fP65 221 this hlt_this (fun q => absurd q (by decide))).trans hn1
          have lt_ra90 := ((hB65.1 221 fl_221) this ra hn89).2.1
          have hk_ra := (((CInv_P221 hCI65 :) this).2 ra hn89).1
          have hl1_ra := (((CInv_P221 hCI65 :) this).2 ra hn89).2.1
          have hl2_ra := (((CInv_P221 hCI65 :) this).2 ra hn89).2.2.1
          have hw_ra : id _ := (((CInv_P221 hCI65 :) this).2 ra hn89).2.2.2
          have hn91 : (c65_P 226) this = some tn := (fP65 226 this hlt_this (fun q => absurd q (by decide))).trans hn3
          have lt_tn92 := ((hB65.1 226 fl_226) this tn hn91).2.1
          have hk_tn := (((CInv_P226 hCI65 :) this).2 tn hn91).1
          have hl1_tn := (((CInv_P226 hCI65 :) this).2 tn hn91).2.1
          have hl2_tn := (((CInv_P226 hCI65 :) this).2 tn hn91).2.2.1
          have hw_tn : id _ := (((CInv_P226 hCI65 :) this).2 tn hn91).2.2.2
          have hn93 : (c65_P 229) this = some bk := (fP65 229 this hlt_this (fun q => absurd q (by decide))).trans hn5
          have lt_bk94 := ((hB65.1 229 fl_229) this bk hn93).2.1
          have hk_bk := (((CInv_P229 hCI65 :) this).2 bk hn93).1
          have hl1_bk := (((CInv_P229 hCI65 :) this).2 bk hn93).2.1
          have hl2_bk := (((CInv_P229 hCI65 :) this).2 bk hn93).2.2.1
          have hw_bk : id _ := (((CInv_P229 hCI65 :) this).2 bk hn93).2.2.2
          have hn95 : (c65_P 3) bk = some fl := (fP65 3 bk lt_bk6 (fun q => absurd q (by decide))).trans hn7
          have lt_fl96 := ((hB65.1 3 fl_3) bk fl hn95).2.1
          have hk_fl := (((CInv_P3 hCI65 :) bk).2 fl hn95).1
          have hl1_fl := (((CInv_P3 hCI65 :) bk).2 fl hn95).2.1
          have hl2_fl := (((CInv_P3 hCI65 :) bk).2 fl hn95).2.2.1
          have hw_fl : id _ := (((CInv_P3 hCI65 :) bk).2 fl hn95).2.2.2
          have hn97 : (c65_P 1) bk = some fa := (fP65 1 bk lt_bk6 (fun q => absurd q (by decide))).trans hn9
          have lt_fa98 := ((hB65.1 1 fl_1) bk fa hn97).2.1
          have hk_fa := (((CInv_P1 hCI65 :) bk).2 fa hn97).1
          have hl1_fa := (((CInv_P1 hCI65 :) bk).2 fa hn97).2.1
          have hl2_fa := (((CInv_P1 hCI65 :) bk).2 fa hn97).2.2.1
          have hw_fa : id _ := (((CInv_P1 hCI65 :) bk).2 fa hn97).2.2.2
          have hn99 : (c65_P 0) bk = some wd := (fP65 0 bk lt_bk6 (fun q => absurd q (by decide))).trans hn11
          have lt_wd100 := ((hB65.1 0 fl_0) bk wd hn99).2.1
          have hk_wd := (((CInv_P0 hCI65 :) bk).2 wd hn99).1
          have hl1_wd := (((CInv_P0 hCI65 :) bk).2 wd hn99).2.1
          have hl2_wd := (((CInv_P0 hCI65 :) bk).2 wd hn99).2.2.1
          have hw_wd : id _ := (((CInv_P0 hCI65 :) bk).2 wd hn99).2.2.2
          have hn101 : (c65_P 201) wd = some wl := (fP65 201 wd lt_wd12 (fun q => absurd q (by decide))).trans hn13
          have lt_wl102 := ((hB65.1 201 fl_201) wd wl hn101).2.1
          have hk_wl := (((CInv_P201 hCI65 :) wd).2 wl hn101).1
          have hl1_wl := (((CInv_P201 hCI65 :) wd).2 wl hn101).2.1
          have hl2_wl := (((CInv_P201 hCI65 :) wd).2 wl hn101).2.2.1
          have hw_wl : id _ := (((CInv_P201 hCI65 :) wd).2 wl hn101).2.2.2
          have hn103 : (c65_P 202) wd = some wz := (fP65 202 wd lt_wd12 (fun q => absurd q (by decide))).trans hn15
          have lt_wz104 := ((hB65.1 202 fl_202) wd wz hn103).2.1
          have hk_wz := (((CInv_P202 hCI65 :) wd).2 wz hn103).1
          have hl1_wz := (((CInv_P202 hCI65 :) wd).2 wz hn103).2.1
          have hl2_wz := (((CInv_P202 hCI65 :) wd).2 wz hn103).2.2.1
          have hw_wz : id _ := (((CInv_P202 hCI65 :) wd).2 wz hn103).2.2.2
          have rb105 := ((CInv_RB hCI65 :) wd wz hk_wd hn103).1
          have hn108 : (c65_P 220) this = some tp := (fP65 220 this hlt_this (fun q => absurd q (by decide))).trans hn20
          have lt_tp109 := ((hB65.1 220 fl_220) this tp hn108).2.1
          have hk_tp := (((CInv_P220 hCI65 :) this).2 tp hn108).1
          have hl1_tp := (((CInv_P220 hCI65 :) this).2 tp hn108).2.1
          have hl2_tp := (((CInv_P220 hCI65 :) this).2 tp hn108).2.2.1
          have hw_tp : id _ := (((CInv_P220 hCI65 :) this).2 tp hn108).2.2.2
          have hn110 : (c65_P 140) tp = some tb := (fP65 140 tp lt_tp21 (fun q => absurd q (by decide))).trans hn22
          have lt_tb111 := ((hB65.1 140 fl_140) tp tb hn110).2.1
          have hk_tb := (((CInv_P140 hCI65 :) tp).2 tb hn110).1
          have hl1_tb := (((CInv_P140 hCI65 :) tp).2 tb hn110).2.1
          have hl2_tb := (((CInv_P140 hCI65 :) tp).2 tb hn110).2.2.1
          have hw_tb : id _ := (((CInv_P140 hCI65 :) tp).2 tb hn110).2.2.2
          have hn112 : (c65_P 234) this = some tw := (fP65 234 this hlt_this (fun q => absurd q (by decide))).trans hn24
          have lt_tw113 := ((hB65.1 234 fl_234) this tw hn112).2.1
          have hk_tw := (((CInv_P234 hCI65 :) this).2 tw hn112).1
          have hl1_tw := (((CInv_P234 hCI65 :) this).2 tw hn112).2.1
          have hl2_tw := (((CInv_P234 hCI65 :) this).2 tw hn112).2.2.1
          have hw_tw : id _ := (((CInv_P234 hCI65 :) this).2 tw hn112).2.2.2
          have hn114 : (c65_P 236) this = some mi := (fP65 236 this hlt_this (fun q => absurd q (by decide))).trans hn26
          have lt_mi115 := ((hB65.1 236 fl_236) this mi hn114).2.1
          have hk_mi := (((CInv_P236 hCI65 :) this).2 mi hn114).1
          have hl1_mi := (((CInv_P236 hCI65 :) this).2 mi hn114).2.1
          have hl2_mi := (((CInv_P236 hCI65 :) this).2 mi hn114).2.2.1
          have hw_mi : id _ := (((CInv_P236 hCI65 :) this).2 mi hn114).2.2.2
          have hn116 : (c65_P 40) mi = some co := (fP65 40 mi lt_mi27 (fun q => absurd q (by decide))).trans hn28
          have lt_co117 := ((hB65.1 40 fl_40) mi co hn116).2.1
          have hk_co := (((CInv_P40 hCI65 :) mi).2 co hn116).1
          have hl1_co := (((CInv_P40 hCI65 :) mi).2 co hn116).2.1
          have hl2_co := (((CInv_P40 hCI65 :) mi).2 co hn116).2.2.1
          have hw_co : id _ := (((CInv_P40 hCI65 :) mi).2 co hn116).2.2.2
          have hn118 : (c65_P 41) mi = some le := (fP65 41 mi lt_mi27 (fun q => absurd q (by decide))).trans hn30
          have lt_le119 := ((hB65.1 41 fl_41) mi le hn118).2.1
          have hk_le := (((CInv_P41 hCI65 :) mi).2 le hn118).1
          have hl1_le := (((CInv_P41 hCI65 :) mi).2 le hn118).2.1
          have hl2_le := (((CInv_P41 hCI65 :) mi).2 le hn118).2.2.1
          have hw_le : id _ := (((CInv_P41 hCI65 :) mi).2 le hn118).2.2.2
          have hn120 : (c65_P 42) mi = some to := (fP65 42 mi lt_mi27 (fun q => absurd q (by decide))).trans hn32
          have lt_to121 := ((hB65.1 42 fl_42) mi to hn120).2.1
          have hk_to := (((CInv_P42 hCI65 :) mi).2 to hn120).1
          have hl1_to := (((CInv_P42 hCI65 :) mi).2 to hn120).2.1
          have hl2_to := (((CInv_P42 hCI65 :) mi).2 to hn120).2.2.1
          have hw_to : id _ := (((CInv_P42 hCI65 :) mi).2 to hn120).2.2.2
          have hv0t : (c65_V 0) tb = f := (fV65 0 tb (by omega) (fun _ => show (la tb < la bk ∨ la bk + 2 < la tb) ∧ (la tb < la tn ∨ la tn + 8 < la tb) from by omega)).trans hf
          have gzw : (c65_G 203) wd = (G 203) wd := fG65 203 wd (by omega) (fun _ => show (la wd < la bk ∨ la bk + 2 < la wd) ∧ (la wd < la tn ∨ la tn + 8 < la wd) from by omega)
          have gzwi := congrArg Int32.toInt gzw
          have g22 : (c65_G 222) this = (G 222) this := fG65 222 this (by omega) (fun _ => show (la this < la bk ∨ la bk + 2 < la this) ∧ (la this < la tn ∨ la tn + 8 < la this) from by omega)
          have g22i := congrArg Int32.toInt g22
          have hWl : Ws.length = Int32.toNatClampNeg ((G 203) wd) := by rw [← hWs]; exact rw_len
          have hbw := (CInv_G203 hI :) wd
          have cbw := clampI (x := (G 203) wd) (by omega)
          have hlt2 : c65_ln tb = ln tb := fl65 tb (by omega)
          have z43 : (c65_G 43) mi = (G 43) mi := fG65 43 mi (by omega) (fun _ => show (la mi < la bk ∨ la bk + 2 < la mi) ∧ (la mi < la tn ∨ la tn + 8 < la mi) from by omega)
          have x220 : (c65_P 220) this = some tp := (fP65 220 this (by omega) (fun q => absurd q (by decide))).trans h220
          have x140 : (c65_P 140) tp = some tb := (fP65 140 tp (by omega) (fun q => absurd q (by decide))).trans h140
          have x234 : (c65_P 234) this = some tw := (fP65 234 this (by omega) (fun q => absurd q (by decide))).trans h234
          have x236 : (c65_P 236) this = some mi := (fP65 236 this (by omega) (fun q => absurd q (by decide))).trans h236
          have x229 : (c65_P 229) this = some bk := (fP65 229 this (by omega) (fun q => absurd q (by decide))).trans h229
          have x40 : (c65_P 40) mi = some co := (fP65 40 mi (by omega) (fun q => absurd q (by decide))).trans h40
          have x41 : (c65_P 41) mi = some le := (fP65 41 mi (by omega) (fun q => absurd q (by decide))).trans h41
          have x42 : (c65_P 42) mi = some to := (fP65 42 mi (by omega) (fun q => absurd q (by decide))).trans h42
          have x1 : (c65_P 1) bk = some fa := (fP65 1 bk (by omega) (fun q => absurd q (by decide))).trans h1
          have x0 : (c65_P 0) bk = some wd := (fP65 0 bk (by omega) (fun q => absurd q (by decide))).trans h0
          have hrw : id (∀ s w, s ≤ Int32.toNatClampNeg ((G 222) this) → w < Ws.length → ROWF c65_G c65_P c65_V la65 c65_cnt D ((c65_O 1) fa (100 * s + w)) (FMT d Ws s w)) := show ∀ s w, s ≤ Int32.toNatClampNeg ((G 222) this) → w < Ws.length → ROWF c65_G c65_P c65_V la65 c65_cnt D ((c65_O 1) fa (100 * s + w)) (FMT d Ws s w) from fun s w hs hw => p65_0 s w (by omega) (by show w < Int32.toNatClampNeg (c65_V 3 fl s); have hp9 := p65_1 s (by omega); rw [if_pos (by omega)] at hp9; rw [hp9]; omega)
          have hn122 : (c65_P 220) this = some tp := x220
          have hk_tp := (((CInv_P220 hCI65 :) this).2 tp hn122).1
          have hl1_tp := (((CInv_P220 hCI65 :) this).2 tp hn122).2.1
          have hl2_tp := (((CInv_P220 hCI65 :) this).2 tp hn122).2.2.1
          have hw_tp : id _ := (((CInv_P220 hCI65 :) this).2 tp hn122).2.2.2
          have hn123 : (c65_P 140) tp = some tb := x140
          have hk_tb := (((CInv_P140 hCI65 :) tp).2 tb hn123).1
          have hl1_tb := (((CInv_P140 hCI65 :) tp).2 tb hn123).2.1
          have hl2_tb := (((CInv_P140 hCI65 :) tp).2 tb hn123).2.2.1
          have hw_tb : id _ := (((CInv_P140 hCI65 :) tp).2 tb hn123).2.2.2
          have hn124 : (c65_P 234) this = some tw := x234
          have hk_tw := (((CInv_P234 hCI65 :) this).2 tw hn124).1
          have hl1_tw := (((CInv_P234 hCI65 :) this).2 tw hn124).2.1
          have hl2_tw := (((CInv_P234 hCI65 :) this).2 tw hn124).2.2.1
          have hw_tw : id _ := (((CInv_P234 hCI65 :) this).2 tw hn124).2.2.2
          have hn125 : (c65_P 236) this = some mi := x236
          have hk_mi := (((CInv_P236 hCI65 :) this).2 mi hn125).1
          have hl1_mi := (((CInv_P236 hCI65 :) this).2 mi hn125).2.1
          have hl2_mi := (((CInv_P236 hCI65 :) this).2 mi hn125).2.2.1
          have hw_mi : id _ := (((CInv_P236 hCI65 :) this).2 mi hn125).2.2.2
          have hn126 : (c65_P 229) this = some bk := x229
          have hk_bk := (((CInv_P229 hCI65 :) this).2 bk hn126).1
          have hl1_bk := (((CInv_P229 hCI65 :) this).2 bk hn126).2.1
          have hl2_bk := (((CInv_P229 hCI65 :) this).2 bk hn126).2.2.1
          have hw_bk : id _ := (((CInv_P229 hCI65 :) this).2 bk hn126).2.2.2
          have hn127 : (c65_P 40) mi = some co := x40
          have hk_co := (((CInv_P40 hCI65 :) mi).2 co hn127).1
          have hl1_co := (((CInv_P40 hCI65 :) mi).2 co hn127).2.1
          have hl2_co := (((CInv_P40 hCI65 :) mi).2 co hn127).2.2.1
          have hw_co : id _ := (((CInv_P40 hCI65 :) mi).2 co hn127).2.2.2
          have hn128 : (c65_P 41) mi = some le := x41
          have hk_le := (((CInv_P41 hCI65 :) mi).2 le hn128).1
          have hl1_le := (((CInv_P41 hCI65 :) mi).2 le hn128).2.1
          have hl2_le := (((CInv_P41 hCI65 :) mi).2 le hn128).2.2.1
          have hw_le : id _ := (((CInv_P41 hCI65 :) mi).2 le hn128).2.2.2
          have hn129 : (c65_P 42) mi = some to := x42
          have hk_to := (((CInv_P42 hCI65 :) mi).2 to hn129).1
          have hl1_to := (((CInv_P42 hCI65 :) mi).2 to hn129).2.1
          have hl2_to := (((CInv_P42 hCI65 :) mi).2 to hn129).2.2.1
          have hw_to : id _ := (((CInv_P42 hCI65 :) mi).2 to hn129).2.2.2
          have hn130 : (c65_P 1) bk = some fa := x1
          have hk_fa := (((CInv_P1 hCI65 :) bk).2 fa hn130).1
          have hl1_fa := (((CInv_P1 hCI65 :) bk).2 fa hn130).2.1
          have hl2_fa := (((CInv_P1 hCI65 :) bk).2 fa hn130).2.2.1
          have hw_fa : id _ := (((CInv_P1 hCI65 :) bk).2 fa hn130).2.2.2
          have hn131 : (c65_P 0) bk = some wd := x0
          have hk_wd := (((CInv_P0 hCI65 :) bk).2 wd hn131).1
          have hl1_wd := (((CInv_P0 hCI65 :) bk).2 wd hn131).2.1
          have hl2_wd := (((CInv_P0 hCI65 :) bk).2 wd hn131).2.2.1
          have hw_wd : id _ := (((CInv_P0 hCI65 :) bk).2 wd hn131).2.2.2
          refine pw_nne hn125 ?_
          have b132 := (CInv_G222 hCI65 :) this
          have f133 : (((c65_G 222) this) + 1).toInt = ((c65_G 222) this).toInt + 1 := z_addc (by decide +kernel) (by omega) (by omega)
          have hpr79_0 : (0 ≤ r26.toInt ∧ r26.toInt ≤ 3000) := by first | assumption | omega
          have hpr79_1 : (0 ≤ (((c65_G 222) this) + 1).toInt ∧ (((c65_G 222) this) + 1).toInt ≤ 100) := by first | assumption | omega
          refine pw_b3 (fun c79_G44 c79_G45 c79_V7 hc79 => ?_)
          have hq79 := wp_at (ok_X2_begin κ65_41 wd c65_G c65_P c65_U c65_V c65_X c65_O c65_kd c65_ln c65_cnt mi r26 (((c65_G 222) this) + 1) (CInv_G44 hCI65 :) (CInv_G45 hCI65 :) (CInv_P40 hCI65 :) (CInv_LN hCI65 :) hk_mi hpr79_0 hpr79_1) hc79
          obtain ⟨hg134, hg135⟩ : (rng (0) 40 c79_G44) ∧ (rng (0) 7 c79_G45) := hq79
          have hq79 := pwq (fr_X2_begin la65 c65_G c65_P c65_U c65_V c65_X c65_O c65_kd c65_ln c65_cnt mi r26 (((c65_G 222) this) + 1) hB65) hc79
          obtain ⟨q79_G44, q79_G45, q79_V7⟩ : (∀ z, (la65 z < la65 mi ∨ la65 mi < la65 z) → c79_G44 z = (c65_G 44) z) ∧ (∀ z, (la65 z < la65 mi ∨ la65 mi < la65 z) → c79_G45 z = (c65_G 45) z) ∧ (∀ z, (la65 z < la65 mi ∨ la65 mi < la65 z) → c79_V7 z = (c65_V 7) z) := hq79
          have tz79 : ∀ z, (z < cnt ∧ (la z < 10 ∨ 10 < la z) ∧ (la z < 70 ∨ 70 + 2 < la z) ∧ (la z < 90 ∨ 90 + 8 < la z) ∧ (la z < 310 ∨ 310 < la z) ∧ (la z < 330 ∨ 330 < la z)) → ((la65 z < la65 mi ∨ la65 mi < la65 z)) := fun z hz => by have q1 := hag65 z hz.1; have q2 := hB.2 z hz.1; omega
          have hfr136 : ∀ z, (z < cnt ∧ (la z < 10 ∨ 10 < la z) ∧ (la z < 70 ∨ 70 + 2 < la z) ∧ (la z < 90 ∨ 90 + 8 < la z) ∧ (la z < 310 ∨ 310 < la z) ∧ (la z < 330 ∨ 330 < la z)) → c79_G44 z = (G 44) z := fun z hz => (q79_G44 z (tz79 z hz)).trans ((fun (z : Nat) (hz : (z < cnt ∧ (la z < 10 ∨ 10 < la z) ∧ (la z < 70 ∨ 70 + 2 < la z) ∧ (la z < 90 ∨ 90 + 8 < la z) ∧ (la z < 310 ∨ 310 < la z) ∧ (la z < 330 ∨ 330 < la z))) => hF65_G 44 z hz.1 (fun _ => hz.2)) z hz)
          have hfr137 : ∀ z, (z < cnt ∧ (la z < 10 ∨ 10 < la z) ∧ (la z < 70 ∨ 70 + 2 < la z) ∧ (la z < 90 ∨ 90 + 8 < la z) ∧ (la z < 310 ∨ 310 < la z) ∧ (la z < 330 ∨ 330 < la z)) → c79_G45 z = (G 45) z := fun z hz => (q79_G45 z (tz79 z hz)).trans ((fun (z : Nat) (hz : (z < cnt ∧ (la z < 10 ∨ 10 < la z) ∧ (la z < 70 ∨ 70 + 2 < la z) ∧ (la z < 90 ∨ 90 + 8 < la z) ∧ (la z < 310 ∨ 310 < la z) ∧ (la z < 330 ∨ 330 < la z))) => hF65_G 45 z hz.1 (fun _ => hz.2)) z hz)
          have hfr138 : ∀ z, (z < cnt ∧ (la z < 10 ∨ 10 < la z) ∧ (la z < 70 ∨ 70 + 2 < la z) ∧ (la z < 90 ∨ 90 + 8 < la z) ∧ (la z < 310 ∨ 310 < la z) ∧ (la z < 330 ∨ 330 < la z)) → c79_V7 z = (V 7) z := fun z hz => (q79_V7 z (tz79 z hz)).trans ((fun (z : Nat) (hz : (z < cnt ∧ (la z < 10 ∨ 10 < la z) ∧ (la z < 70 ∨ 70 + 2 < la z) ∧ (la z < 90 ∨ 90 + 8 < la z) ∧ (la z < 310 ∨ 310 < la z) ∧ (la z < 330 ∨ 330 < la z))) => hF65_V 7 z hz.1 (fun _ => hz.2)) z hz)
          have h879_h40 : (c65_P 40) mi = some co := by exact x40
          have h879_hq0 : r26.toInt ≤ 40 := by omega
          have h879_hq1 : (((c65_G 222) this) + 1).toInt ≤ 7 := by omega
          have hx79 := pwq (fn_X2_begin κ65_41 wd la65 c65_G c65_P c65_U c65_V c65_X c65_O c65_kd c65_ln c65_cnt mi r26 (((c65_G 222) this) + 1) (co) (CInv_G44 hCI65 :) (CInv_G45 hCI65 :) (CInv_P40 hCI65 :) (CInv_LN hCI65 :) hk_mi hpr79_0 hpr79_1 hB65 lt_mi115 h879_h40 h879_hq0 h879_hq1) hc79
          obtain ⟨p79_0, p79_1⟩ : (((c79_G44 mi).toInt = r26.toInt ∧ (c79_G45 mi).toInt = (((c65_G 222) this) + 1).toInt)) ∧ (id ((∀ j, j < 280 → c79_V7 co j = 0))) := hx79
          clear h879_h40 h879_hq0 h879_hq1
          refine pw_nne hn124 ?_
          refine pw_nne hn122 ?_
          refine pw_nne hn123 ?_
          have hpr94_0 : 0 ≤ r4.toInt := by first | assumption | omega
          have hpr94_1 : ((c65_ln tb : Nat) : Int) ≤ 2000 := by first | assumption | omega
          refine pw_b5 (fun c94_G162 c94_G165 c94_G166 c94_G167 c94_P164 hc94 => ?_)
          have hq94 := wp_at (ok_X8_begin κ65_41 wd (va_up (va_up c65_G 44 c79_G44) 45 c79_G45) c65_P c65_U (va_up c65_V 7 c79_V7) c65_X c65_O c65_kd c65_ln c65_cnt tw tb r4 (CInv_G162 hCI65 :) (CInv_G165 hCI65 :) (CInv_G166 hCI65 :) (CInv_P164 hCI65 :) (CInv_LN hCI65 :) hk_tw hk_tb hpr94_0 hpr94_1) hc94
          obtain ⟨hg139, hg140, hg141, hg142, f143, f144, f145, f146, f147⟩ : (rng (0) 2000 c94_G162) ∧ (rng (0) 2000 c94_G165) ∧ (rng (0) 2000 c94_G166) ∧ (PB κ65_41 c65_ln wd 9 100 0 2000 0 c94_P164) ∧ ((c94_G166 tw).toInt = 0) ∧ ((c94_G165 tw).toInt ≤ r4.toInt) ∧ (c94_P164 tw = some tb) ∧ ((c94_G162 tw).toInt = 0) ∧ ((c94_G165 tw).toInt ≤ ((c65_ln tb : Nat) : Int)) := hq94
          have hq94 := pwq (fr_X8_begin la65 (va_up (va_up c65_G 44 c79_G44) 45 c79_G45) c65_P c65_U (va_up c65_V 7 c79_V7) c65_X c65_O c65_kd c65_ln c65_cnt tw tb r4 hB65 lt_tw113 lt_tb111) hc94
          obtain ⟨q94_G162, q94_G165, q94_G166, q94_G167, q94_P164, ql94_164⟩ : (∀ z, (la65 z < la65 tw ∨ la65 tw < la65 z) → c94_G162 z = (c65_G 162) z) ∧ (∀ z, (la65 z < la65 tw ∨ la65 tw < la65 z) → c94_G165 z = (c65_G 165) z) ∧ (∀ z, (la65 z < la65 tw ∨ la65 tw < la65 z) → c94_G166 z = (c65_G 166) z) ∧ (∀ z, (la65 z < la65 tw ∨ la65 tw < la65 z) → c94_G167 z = (c65_G 167) z) ∧ (∀ z, (la65 z < la65 tw ∨ la65 tw < la65 z) → c94_P164 z = (c65_P 164) z) ∧ LC 164 la65 c65_cnt c94_P164 := hq94
          have tz94 : ∀ z, (z < cnt ∧ (la z < 10 ∨ 10 < la z) ∧ (la z < 70 ∨ 70 + 2 < la z) ∧ (la z < 90 ∨ 90 + 8 < la z) ∧ (la z < 310 ∨ 310 < la z) ∧ (la z < 330 ∨ 330 < la z)) → ((la65 z < la65 tw ∨ la65 tw < la65 z)) := fun z hz => by have q1 := hag65 z hz.1; have q2 := hB.2 z hz.1; omega
          have hfr148 : ∀ z, (z < cnt ∧ (la z < 10 ∨ 10 < la z) ∧ (la z < 70 ∨ 70 + 2 < la z) ∧ (la z < 90 ∨ 90 + 8 < la z) ∧ (la z < 310 ∨ 310 < la z) ∧ (la z < 330 ∨ 330 < la z)) → c94_G162 z = (G 162) z := fun z hz => (q94_G162 z (tz94 z hz)).trans ((fun (z : Nat) (hz : (z < cnt ∧ (la z < 10 ∨ 10 < la z) ∧ (la z < 70 ∨ 70 + 2 < la z) ∧ (la z < 90 ∨ 90 + 8 < la z) ∧ (la z < 310 ∨ 310 < la z) ∧ (la z < 330 ∨ 330 < la z))) => hF65_G 162 z hz.1 (fun _ => hz.2)) z hz)
          have hfr149 : ∀ z, (z < cnt ∧ (la z < 10 ∨ 10 < la z) ∧ (la z < 70 ∨ 70 + 2 < la z) ∧ (la z < 90 ∨ 90 + 8 < la z) ∧ (la z < 310 ∨ 310 < la z) ∧ (la z < 330 ∨ 330 < la z)) → c94_G165 z = (G 165) z := fun z hz => (q94_G165 z (tz94 z hz)).trans ((fun (z : Nat) (hz : (z < cnt ∧ (la z < 10 ∨ 10 < la z) ∧ (la z < 70 ∨ 70 + 2 < la z) ∧ (la z < 90 ∨ 90 + 8 < la z) ∧ (la z < 310 ∨ 310 < la z) ∧ (la z < 330 ∨ 330 < la z))) => hF65_G 165 z hz.1 (fun _ => hz.2)) z hz)
          have hfr150 : ∀ z, (z < cnt ∧ (la z < 10 ∨ 10 < la z) ∧ (la z < 70 ∨ 70 + 2 < la z) ∧ (la z < 90 ∨ 90 + 8 < la z) ∧ (la z < 310 ∨ 310 < la z) ∧ (la z < 330 ∨ 330 < la z)) → c94_G166 z = (G 166) z := fun z hz => (q94_G166 z (tz94 z hz)).trans ((fun (z : Nat) (hz : (z < cnt ∧ (la z < 10 ∨ 10 < la z) ∧ (la z < 70 ∨ 70 + 2 < la z) ∧ (la z < 90 ∨ 90 + 8 < la z) ∧ (la z < 310 ∨ 310 < la z) ∧ (la z < 330 ∨ 330 < la z))) => hF65_G 166 z hz.1 (fun _ => hz.2)) z hz)
          have hfr151 : ∀ z, (z < cnt ∧ (la z < 10 ∨ 10 < la z) ∧ (la z < 70 ∨ 70 + 2 < la z) ∧ (la z < 90 ∨ 90 + 8 < la z) ∧ (la z < 310 ∨ 310 < la z) ∧ (la z < 330 ∨ 330 < la z)) → c94_G167 z = (G 167) z := fun z hz => (q94_G167 z (tz94 z hz)).trans ((fun (z : Nat) (hz : (z < cnt ∧ (la z < 10 ∨ 10 < la z) ∧ (la z < 70 ∨ 70 + 2 < la z) ∧ (la z < 90 ∨ 90 + 8 < la z) ∧ (la z < 310 ∨ 310 < la z) ∧ (la z < 330 ∨ 330 < la z))) => hF65_G 167 z hz.1 (fun _ => hz.2)) z hz)
          have hfr152 : ∀ z, (z < cnt ∧ (la z < 10 ∨ 10 < la z) ∧ (la z < 70 ∨ 70 + 2 < la z) ∧ (la z < 90 ∨ 90 + 8 < la z) ∧ (la z < 310 ∨ 310 < la z) ∧ (la z < 330 ∨ 330 < la z)) → c94_P164 z = (P 164) z := fun z hz => (q94_P164 z (tz94 z hz)).trans ((fun (z : Nat) (hz : (z < cnt ∧ (la z < 10 ∨ 10 < la z) ∧ (la z < 70 ∨ 70 + 2 < la z) ∧ (la z < 90 ∨ 90 + 8 < la z) ∧ (la z < 310 ∨ 310 < la z) ∧ (la z < 330 ∨ 330 < la z))) => hF65_P 164 z hz.1 (fun _ => hz.2)) z hz)
          have hx94 := pwq (fn_X8_begin κ65_41 wd la65 (va_up (va_up c65_G 44 c79_G44) 45 c79_G45) c65_P c65_U (va_up c65_V 7 c79_V7) c65_X c65_O c65_kd c65_ln c65_cnt tw tb r4 (CInv_G162 hCI65 :) (CInv_G165 hCI65 :) (CInv_G166 hCI65 :) (CInv_P164 hCI65 :) (CInv_LN hCI65 :) hk_tw hk_tb hpr94_0 hpr94_1 hB65 lt_tw113 lt_tb111) hc94
          obtain ⟨p94_0, p94_1⟩ : (id ((r4.toInt ≤ ((c65_ln tb : Nat) : Int) → (c94_G165 tw).toInt = r4.toInt))) ∧ ((c94_G167 tw).toInt = 0) := hx94
          have htx := f145
          have hb94 := hg140 tw
          have h94n := p94_0 (by omega)
          have k94 := clampI (x := c94_G165 tw) (by omega)
          have hnq94 : Int32.toNatClampNeg (c94_G165 tw) = n := by omega
          have f166 : (c94_G166 tw).toInt = 0 := by omega
          have f162 : (c94_G162 tw).toInt = 0 := by omega
          obtain ⟨z44, z45⟩ := p79_0
          refine pw_jE (fun k136 ek136 => ?_)
          have lp100 : ∀ (n100 : Nat) (y100_4 : Int32) (d100_G160 : Nat → Int32) (d100_G161 : Nat → Int32) (d100_G162 : Nat → Int32) (d100_G163 : Nat → Int32) (d100_G166 : Nat → Int32) (d100_G167 : Nat → Int32) (d100_V7 : Nat → Nat → Int32), rng (0) 2000 d100_G160 → rng (0) 2000 d100_G161 → rng (0) 2000 d100_G162 → rng (0) 2000 d100_G166 → (∀ z, (z < cnt ∧ (la z < 10 ∨ 10 < la z) ∧ (la z < 70 ∨ 70 + 2 < la z) ∧ (la z < 90 ∨ 90 + 8 < la z) ∧ (la z < 310 ∨ 310 < la z) ∧ (la z < 330 ∨ 330 < la z)) → d100_G160 z = (G 160) z) → (∀ z, (z < cnt ∧ (la z < 10 ∨ 10 < la z) ∧ (la z < 70 ∨ 70 + 2 < la z) ∧ (la z < 90 ∨ 90 + 8 < la z) ∧ (la z < 310 ∨ 310 < la z) ∧ (la z < 330 ∨ 330 < la z)) → d100_G161 z = (G 161) z) → (∀ z, (z < cnt ∧ (la z < 10 ∨ 10 < la z) ∧ (la z < 70 ∨ 70 + 2 < la z) ∧ (la z < 90 ∨ 90 + 8 < la z) ∧ (la z < 310 ∨ 310 < la z) ∧ (la z < 330 ∨ 330 < la z)) → d100_G162 z = (G 162) z) → (∀ z, (z < cnt ∧ (la z < 10 ∨ 10 < la z) ∧ (la z < 70 ∨ 70 + 2 < la z) ∧ (la z < 90 ∨ 90 + 8 < la z) ∧ (la z < 310 ∨ 310 < la z) ∧ (la z < 330 ∨ 330 < la z)) → d100_G163 z = (G 163) z) → (∀ z, (z < cnt ∧ (la z < 10 ∨ 10 < la z) ∧ (la z < 70 ∨ 70 + 2 < la z) ∧ (la z < 90 ∨ 90 + 8 < la z) ∧ (la z < 310 ∨ 310 < la z) ∧ (la z < 330 ∨ 330 < la z)) → d100_G166 z = (G 166) z) → (∀ z, (z < cnt ∧ (la z < 10 ∨ 10 < la z) ∧ (la z < 70 ∨ 70 + 2 < la z) ∧ (la z < 90 ∨ 90 + 8 < la z) ∧ (la z < 310 ∨ 310 < la z) ∧ (la z < 330 ∨ 330 < la z)) → d100_G167 z = (G 167) z) → (∀ z, (z < cnt ∧ (la z < 10 ∨ 10 < la z) ∧ (la z < 70 ∨ 70 + 2 < la z) ∧ (la z < 90 ∨ 90 + 8 < la z) ∧ (la z < 310 ∨ 310 < la z) ∧ (la z < 330 ∨ 330 < la z)) → d100_V7 z = (V 7) z) → 0 ≤ y100_4.toInt → (d100_G166 tw).toInt ≤ (c94_G165 tw).toInt → (d100_G162 tw).toInt ≤ (d100_G166 tw).toInt → y100_4.toInt ≤ (d100_G166 tw).toInt → (MIC f n d Ws (Int32.toNatClampNeg ((G 222) this)) (Int32.toNatClampNeg (d100_G166 tw)) (decide ((d100_G167 tw).toInt ≠ 0)) (d100_V7 co)) → (Int32.toNatClampNeg (d100_G162 tw) = n10 f (Int32.toNatClampNeg (d100_G166 tw))) → pw (L_X11_mixed_100 this r4 c65_G c65_P c65_U c65_V c65_X c65_O c65_kd c65_ln c65_cnt c79_G44 c79_G45 c94_G165 c94_P164 k136 n100 y100_4 d100_G160 d100_G161 d100_G162 d100_G163 d100_G166 d100_G167 d100_V7) (sp1 (QF_X11_mixed κ wd la G P U V X O kd ln cnt this p0 ra tn bk nw nx wh pg fi pa pk sz cl fa fl sp lsp ssp wl wz D d Ws tp tb tw mi co le to f n)) := by
            intro n100
            clear hfr152 hfr151 hfr150 hfr149 hfr148 tz94 q94_G162 q94_G165 q94_G166 q94_G167 q94_P164 hg139 hg141 hc94 hpr94_1 hpr94_0 hfr138 hfr137 hfr136 tz79 q79_G44 q79_G45 q79_V7 hc79 hpr79_1 hpr79_0 hF65_P fG65 fP65 fV65 fl65
            induction n100 with
            | zero => intros; exact pw_none
            | succ n100 ih100 =>
              intro y100_4 d100_G160 d100_G161 d100_G162 d100_G163 d100_G166 d100_G167 d100_V7 hg153 hg154 hg155 hg156 hfr157 hfr158 hfr159 hfr160 hfr161 hfr162 hfr163 f164 f165 f166 f167 iz100 iy100
              show pw (B_X11_mixed_100 this r4 c65_G c65_P c65_U c65_V c65_X c65_O c65_kd c65_ln c65_cnt c79_G44 c79_G45 c94_G165 c94_P164 k136 (L_X11_mixed_100 this r4 c65_G c65_P c65_U c65_V c65_X c65_O c65_kd c65_ln c65_cnt c79_G44 c79_G45 c94_G165 c94_P164 k136 n100) y100_4 d100_G160 d100_G161 d100_G162 d100_G163 d100_G166 d100_G167 d100_V7) _
              unfold B_X11_mixed_100
              have hb166 := hg156 tw
              have k166 := clampI (x := d100_G166 tw) (by omega)
              refine pw_ite (fun c103 => ?_) (fun c103 => ?_)
              · have c103 := (z_le _ _).mp c103
                have hfin : id (∀ l s, l < 40 → s ≤ (Int32.toNatClampNeg ((G 222) this)) → d100_V7 co (7 * l + s) = (MXC f n d Ws) l s) := show ∀ l s, l < 40 → s ≤ (Int32.toNatClampNeg ((G 222) this)) → d100_V7 co (7 * l + s) = (MXC f n d Ws) l s from MIC_end iz100 (mxe_end (by omega))
                refine pw_j7 ek136 (fun z136_0 ez136_0 z136_1 ez136_1 z136_2 ez136_2 z136_3 ez136_3 z136_4 ez136_4 z136_5 ez136_5 z136_6 ez136_6 => ?_)
                subst ez136_0 ez136_1 ez136_2 ez136_3 ez136_4 ez136_5 ez136_6
                refine pw_nne hn125 ?_
                refine pw_b4 (fun r141 c141_G43 c141_V8 c141_V9 hc141 => ?_)
                have hq141 := wp_at (ok_X2_settle κ65_41 wd (va_up (va_up (va_up (va_up (va_up (va_up (va_up (va_up (va_up c65_G 44 c79_G44) 45 c79_G45) 160 d100_G160) 161 d100_G161) 162 d100_G162) 163 d100_G163) 165 c94_G165) 166 d100_G166) 167 d100_G167) (va_up c65_P 164 c94_P164) c65_U (va_up c65_V 7 d100_V7) c65_X c65_O c65_kd c65_ln c65_cnt mi p0 (CInv_G43 hCI65 :) hg134 hg135 (CInv_P40 hCI65 :) (CInv_P41 hCI65 :) (CInv_P42 hCI65 :) (CInv_V9 hCI65 :) (CInv_LN hCI65 :) hk_mi) hc141
                obtain ⟨hg168, hg169⟩ : (rng (0) 40 c141_G43) ∧ (rng2 (0) 6 c141_V9) := hq141
                have hq141 := pwq (fr_X2_settle la65 (va_up (va_up (va_up (va_up (va_up (va_up (va_up (va_up (va_up c65_G 44 c79_G44) 45 c79_G45) 160 d100_G160) 161 d100_G161) 162 d100_G162) 163 d100_G163) 165 c94_G165) 166 d100_G166) 167 d100_G167) (va_up c65_P 164 c94_P164) c65_U (va_up c65_V 7 d100_V7) c65_X c65_O c65_kd c65_ln c65_cnt mi p0 (LB_set hB65 ql94_164)) hc141
                obtain ⟨q141_G43, q141_V8, q141_V9⟩ : (∀ z, (la65 z < la65 mi ∨ la65 mi < la65 z) → c141_G43 z = (c65_G 43) z) ∧ (∀ z, (la65 z < la65 mi ∨ la65 mi < la65 z) → c141_V8 z = (c65_V 8) z) ∧ (∀ z, (la65 z < la65 mi ∨ la65 mi < la65 z) → c141_V9 z = (c65_V 9) z) := hq141
                have tz141 : ∀ z, (z < cnt ∧ (la z < 10 ∨ 10 < la z) ∧ (la z < 70 ∨ 70 + 2 < la z) ∧ (la z < 90 ∨ 90 + 8 < la z) ∧ (la z < 310 ∨ 310 < la z) ∧ (la z < 330 ∨ 330 < la z)) → ((la65 z < la65 mi ∨ la65 mi < la65 z)) := fun z hz => by have q1 := hag65 z hz.1; have q2 := hB.2 z hz.1; omega
                have hfr170 : ∀ z, (z < cnt ∧ (la z < 10 ∨ 10 < la z) ∧ (la z < 70 ∨ 70 + 2 < la z) ∧ (la z < 90 ∨ 90 + 8 < la z) ∧ (la z < 310 ∨ 310 < la z) ∧ (la z < 330 ∨ 330 < la z)) → c141_G43 z = (G 43) z := fun z hz => (q141_G43 z (tz141 z hz)).trans ((fun (z : Nat) (hz : (z < cnt ∧ (la z < 10 ∨ 10 < la z) ∧ (la z < 70 ∨ 70 + 2 < la z) ∧ (la z < 90 ∨ 90 + 8 < la z) ∧ (la z < 310 ∨ 310 < la z) ∧ (la z < 330 ∨ 330 < la z))) => hF65_G 43 z hz.1 (fun _ => hz.2)) z hz)
                have hfr171 : ∀ z, (z < cnt ∧ (la z < 10 ∨ 10 < la z) ∧ (la z < 70 ∨ 70 + 2 < la z) ∧ (la z < 90 ∨ 90 + 8 < la z) ∧ (la z < 310 ∨ 310 < la z) ∧ (la z < 330 ∨ 330 < la z)) → c141_V8 z = (V 8) z := fun z hz => (q141_V8 z (tz141 z hz)).trans ((fun (z : Nat) (hz : (z < cnt ∧ (la z < 10 ∨ 10 < la z) ∧ (la z < 70 ∨ 70 + 2 < la z) ∧ (la z < 90 ∨ 90 + 8 < la z) ∧ (la z < 310 ∨ 310 < la z) ∧ (la z < 330 ∨ 330 < la z))) => hF65_V 8 z hz.1 (fun _ => hz.2)) z hz)
                have hfr172 : ∀ z, (z < cnt ∧ (la z < 10 ∨ 10 < la z) ∧ (la z < 70 ∨ 70 + 2 < la z) ∧ (la z < 90 ∨ 90 + 8 < la z) ∧ (la z < 310 ∨ 310 < la z) ∧ (la z < 330 ∨ 330 < la z)) → c141_V9 z = (V 9) z := fun z hz => (q141_V9 z (tz141 z hz)).trans ((fun (z : Nat) (hz : (z < cnt ∧ (la z < 10 ∨ 10 < la z) ∧ (la z < 70 ∨ 70 + 2 < la z) ∧ (la z < 90 ∨ 90 + 8 < la z) ∧ (la z < 310 ∨ 310 < la z) ∧ (la z < 330 ∨ 330 < la z))) => hF65_V 9 z hz.1 (fun _ => hz.2)) z hz)
                have h8141_h40 : (c65_P 40) mi = some co := by exact x40
                have h8141_h41 : (c65_P 41) mi = some le := by exact x41
                have h8141_h42 : (c65_P 42) mi = some to := by exact x42
                have h8141_hL : 1 ≤ (c79_G44 mi).toInt := by omega
                have h8141_hs1 : 1 ≤ (c79_G45 mi).toInt := by omega
                have h8141_hC : id (∀ l s, l < (Int32.toNatClampNeg (c79_G44 mi)) → s ≤ (Int32.toNatClampNeg (c79_G45 mi) - 1) → d100_V7 co (7 * l + s) = ((MXC f n d Ws)) l s) := show ∀ l s, l < (Int32.toNatClampNeg (c79_G44 mi)) → s ≤ (Int32.toNatClampNeg (c79_G45 mi) - 1) → d100_V7 co (7 * l + s) = ((MXC f n d Ws)) l s from by exact fun l s hl hs => hfin l s (by have z1 := clampI (x := c79_G44 mi) (by omega); omega) (by have z2 := clampI (x := c79_G45 mi) (by omega); omega)
                have hx141 := pwq (fn_X2_settle κ65_41 wd la65 (va_up (va_up (va_up (va_up (va_up (va_up (va_up (va_up (va_up c65_G 44 c79_G44) 45 c79_G45) 160 d100_G160) 161 d100_G161) 162 d100_G162) 163 d100_G163) 165 c94_G165) 166 d100_G166) 167 d100_G167) (va_up c65_P 164 c94_P164) c65_U (va_up c65_V 7 d100_V7) c65_X c65_O c65_kd c65_ln c65_cnt mi p0 (co) (le) (to) ((MXC f n d Ws)) (CInv_G43 hCI65 :) hg134 hg135 (CInv_P40 hCI65 :) (CInv_P41 hCI65 :) (CInv_P42 hCI65 :) (CInv_V9 hCI65 :) (CInv_LN hCI65 :) hk_mi (LB_set hB65 ql94_164) lt_mi115 h8141_h40 h8141_h41 h8141_h42 h8141_hL h8141_hs1 h8141_hC) hc141
                obtain ⟨p141_0, p141_1, p141_2⟩ : (r141 = owF2 (smK ((MXC f n d Ws)) (Int32.toNatClampNeg (c79_G45 mi) - 1) p0 (Int32.toNatClampNeg (c79_G44 mi)) (Int32.toNatClampNeg (c79_G44 mi))) (Int32.toNatClampNeg (c79_G45 mi) - 1) p0 (-1)) ∧ ((c141_G43 mi).toInt = (c79_G44 mi).toInt) ∧ (id ((∀ j, j < (Int32.toNatClampNeg (c79_G44 mi)) → c141_V9 to j = Int32.ofNat (tlF ((MXC f n d Ws)) (Int32.toNatClampNeg (c79_G45 mi) - 1) p0 (Int32.toNatClampNeg (c79_G44 mi)) j)))) := hx141
                clear h8141_h40 h8141_h41 h8141_h42 h8141_hL h8141_hs1 h8141_hC
                have z1 := clampI (x := c79_G44 mi) (by omega)
                have z2 := clampI (x := c79_G45 mi) (by omega)
                rw [show Int32.toNatClampNeg (c79_G44 mi) = lnN f n by omega, show Int32.toNatClampNeg (c79_G45 mi) - 1 = (Int32.toNatClampNeg ((G 222) this)) by omega] at p141_0 p141_2
                have qq0 : BKR (va_up (va_up (va_up (va_up (va_up (va_up (va_up (va_up (va_up (va_up c65_G 44 c79_G44) 45 c79_G45) 160 d100_G160) 161 d100_G161) 162 d100_G162) 163 d100_G163) 165 c94_G165) 166 d100_G166) 167 d100_G167) 43 c141_G43) (va_up c65_P 164 c94_P164) (va_up (va_up (va_up c65_V 7 d100_V7) 8 c141_V8) 9 c141_V9) la65 c65_cnt D ((c65_O 1) fa) (fun s => Int32.toNatClampNeg ((c65_V 3) fl s)) (FMT d Ws) := by exact BKR_fr p65_0 hB65 (fun _ => rfl) (fun _ _ => ⟨rfl, rfl, rfl⟩) (fun _ _ _ _ => ⟨rfl, rfl, rfl⟩) (Nat.le_refl _) (fun _ _ => rfl) (fun _ _ h => h)
                have qq1 : id ((∀ s : Nat, s < 7 → ((G 222) this).toInt < (s : Int) → (c65_V 3) fl s = (V 3) fl s)) := show (∀ s : Nat, s < 7 → ((G 222) this).toInt < (s : Int) → (c65_V 3) fl s = (V 3) fl s) from by intro s hs h9; have z9 := p65_1 s hs; rw [if_neg (by omega)] at z9; exact z9
                have qq2 : id ((¬ (0 ≤ p0.toInt ∧ p0.toInt ≤ 50) → r141.toInt = -2 ∧ c141_G43 mi = (G 43) mi ∧ c141_V9 to = (V 9) to)) := show (¬ (0 ≤ p0.toInt ∧ p0.toInt ≤ 50) → r141.toInt = -2 ∧ c141_G43 mi = (G 43) mi ∧ c141_V9 to = (V 9) to) from by intro h; exfalso; exact h hin
                have qq3 : id (((0 ≤ p0.toInt ∧ p0.toInt ≤ 50) → ¬ (NZR f n ∧ lnN f n ≤ 40) → r141.toInt = -1 ∧ c141_G43 mi = (G 43) mi ∧ c141_V9 to = (V 9) to)) := show ((0 ≤ p0.toInt ∧ p0.toInt ≤ 50) → ¬ (NZR f n ∧ lnN f n ≤ 40) → r141.toInt = -1 ∧ c141_G43 mi = (G 43) mi ∧ c141_V9 to = (V 9) to) from by intro _ h; exfalso; exact h ⟨hnz, by omega⟩
                have qq4 : id (((0 ≤ p0.toInt ∧ p0.toInt ≤ 50) → NZR f n → lnN f n ≤ 40 → r141 = owF2 (smK (MXC f n d Ws) (Int32.toNatClampNeg ((G 222) this)) p0 (lnN f n) (lnN f n)) (Int32.toNatClampNeg ((G 222) this)) p0 (-1) ∧ (c141_G43 mi).toInt = ((lnN f n : Nat) : Int) ∧ ∀ j, j < lnN f n → c141_V9 to j = Int32.ofNat (tlF (MXC f n d Ws) (Int32.toNatClampNeg ((G 222) this)) p0 (lnN f n) j))) := show ((0 ≤ p0.toInt ∧ p0.toInt ≤ 50) → NZR f n → lnN f n ≤ 40 → r141 = owF2 (smK (MXC f n d Ws) (Int32.toNatClampNeg ((G 222) this)) p0 (lnN f n) (lnN f n)) (Int32.toNatClampNeg ((G 222) this)) p0 (-1) ∧ (c141_G43 mi).toInt = ((lnN f n : Nat) : Int) ∧ ∀ j, j < lnN f n → c141_V9 to j = Int32.ofNat (tlF (MXC f n d Ws) (Int32.toNatClampNeg ((G 222) this)) p0 (lnN f n) j)) from by intro _ _ _; exact ⟨p141_0, by rw [p141_1]; omega, p141_2⟩
                exact pw_some ⟨la65, hag65, (LB_set hB65 ql94_164), qq0, qq1, qq2, qq3, qq4⟩
              · have c103 := z_nle c103
                refine pw_nne hn124 ?_
                have hpr110_0 : id ((∀ tx, c94_P164 tw = some tx → (c94_G165 tw).toInt ≤ ((c65_ln tx : Nat) : Int))) := show (∀ tx, c94_P164 tw = some tx → (c94_G165 tw).toInt ≤ ((c65_ln tx : Nat) : Int)) from by intro tx htx2; obtain rfl := Option.some.inj (htx.symm.trans htx2); omega
                have hpr110_1 : (d100_G166 tw).toInt ≤ (c94_G165 tw).toInt := by first | assumption | omega
                have hpr110_2 : (d100_G162 tw).toInt ≤ (d100_G166 tw).toInt := by first | assumption | omega
                refine pw_b7 (fun r110 c110_G160 c110_G161 c110_G162 c110_G163 c110_G166 c110_G167 hc110 => ?_)
                have hq110 := wp_at (ok_X8_next κ65_41 wd (va_up (va_up (va_up (va_up (va_up (va_up (va_up (va_up (va_up c65_G 44 c79_G44) 45 c79_G45) 160 d100_G160) 161 d100_G161) 162 d100_G162) 163 d100_G163) 165 c94_G165) 166 d100_G166) 167 d100_G167) (va_up c65_P 164 c94_P164) c65_U (va_up c65_V 7 d100_V7) c65_X c65_O c65_kd c65_ln c65_cnt tw hg153 hg154 hg155 hg140 hg156 hg142 (CInv_LN hCI65 :) hk_tw hpr110_0 hpr110_1 hpr110_2) hc110
                obtain ⟨hg173, hg174, hg175, hg176, f177, f178, f179, f180, f181⟩ : (rng (0) 2000 c110_G160) ∧ (rng (0) 2000 c110_G161) ∧ (rng (0) 2000 c110_G162) ∧ (rng (0) 2000 c110_G166) ∧ ((0 ≤ r110.toInt ∧ r110.toInt ≤ 1)) ∧ (id ((r110.toInt = 1 → (d100_G166 tw).toInt ≤ (c110_G160 tw).toInt ∧ (c110_G160 tw).toInt + (c110_G161 tw).toInt = (c110_G166 tw).toInt))) ∧ ((c110_G166 tw).toInt ≤ (c94_G165 tw).toInt) ∧ ((c110_G162 tw).toInt ≤ (c110_G166 tw).toInt) ∧ ((d100_G166 tw).toInt ≤ (c110_G166 tw).toInt) := hq110
                have hq110 := pwq (fr_X8_next la65 (va_up (va_up (va_up (va_up (va_up (va_up (va_up (va_up (va_up c65_G 44 c79_G44) 45 c79_G45) 160 d100_G160) 161 d100_G161) 162 d100_G162) 163 d100_G163) 165 c94_G165) 166 d100_G166) 167 d100_G167) (va_up c65_P 164 c94_P164) c65_U (va_up c65_V 7 d100_V7) c65_X c65_O c65_kd c65_ln c65_cnt tw (LB_set hB65 ql94_164)) hc110
                obtain ⟨q110_G160, q110_G161, q110_G162, q110_G163, q110_G166, q110_G167⟩ : (∀ z, (la65 z < la65 tw ∨ la65 tw < la65 z) → c110_G160 z = d100_G160 z) ∧ (∀ z, (la65 z < la65 tw ∨ la65 tw < la65 z) → c110_G161 z = d100_G161 z) ∧ (∀ z, (la65 z < la65 tw ∨ la65 tw < la65 z) → c110_G162 z = d100_G162 z) ∧ (∀ z, (la65 z < la65 tw ∨ la65 tw < la65 z) → c110_G163 z = d100_G163 z) ∧ (∀ z, (la65 z < la65 tw ∨ la65 tw < la65 z) → c110_G166 z = d100_G166 z) ∧ (∀ z, (la65 z < la65 tw ∨ la65 tw < la65 z) → c110_G167 z = d100_G167 z) := hq110
                have tz110 : ∀ z, (z < cnt ∧ (la z < 10 ∨ 10 < la z) ∧ (la z < 70 ∨ 70 + 2 < la z) ∧ (la z < 90 ∨ 90 + 8 < la z) ∧ (la z < 310 ∨ 310 < la z) ∧ (la z < 330 ∨ 330 < la z)) → ((la65 z < la65 tw ∨ la65 tw < la65 z)) := fun z hz => by have q1 := hag65 z hz.1; have q2 := hB.2 z hz.1; omega
                have hfr182 : ∀ z, (z < cnt ∧ (la z < 10 ∨ 10 < la z) ∧ (la z < 70 ∨ 70 + 2 < la z) ∧ (la z < 90 ∨ 90 + 8 < la z) ∧ (la z < 310 ∨ 310 < la z) ∧ (la z < 330 ∨ 330 < la z)) → c110_G160 z = (G 160) z := fun z hz => (q110_G160 z (tz110 z hz)).trans (hfr157 z hz)
                have hfr183 : ∀ z, (z < cnt ∧ (la z < 10 ∨ 10 < la z) ∧ (la z < 70 ∨ 70 + 2 < la z) ∧ (la z < 90 ∨ 90 + 8 < la z) ∧ (la z < 310 ∨ 310 < la z) ∧ (la z < 330 ∨ 330 < la z)) → c110_G161 z = (G 161) z := fun z hz => (q110_G161 z (tz110 z hz)).trans (hfr158 z hz)
                have hfr184 : ∀ z, (z < cnt ∧ (la z < 10 ∨ 10 < la z) ∧ (la z < 70 ∨ 70 + 2 < la z) ∧ (la z < 90 ∨ 90 + 8 < la z) ∧ (la z < 310 ∨ 310 < la z) ∧ (la z < 330 ∨ 330 < la z)) → c110_G162 z = (G 162) z := fun z hz => (q110_G162 z (tz110 z hz)).trans (hfr159 z hz)
                have hfr185 : ∀ z, (z < cnt ∧ (la z < 10 ∨ 10 < la z) ∧ (la z < 70 ∨ 70 + 2 < la z) ∧ (la z < 90 ∨ 90 + 8 < la z) ∧ (la z < 310 ∨ 310 < la z) ∧ (la z < 330 ∨ 330 < la z)) → c110_G163 z = (G 163) z := fun z hz => (q110_G163 z (tz110 z hz)).trans (hfr160 z hz)
                have hfr186 : ∀ z, (z < cnt ∧ (la z < 10 ∨ 10 < la z) ∧ (la z < 70 ∨ 70 + 2 < la z) ∧ (la z < 90 ∨ 90 + 8 < la z) ∧ (la z < 310 ∨ 310 < la z) ∧ (la z < 330 ∨ 330 < la z)) → c110_G166 z = (G 166) z := fun z hz => (q110_G166 z (tz110 z hz)).trans (hfr161 z hz)
                have hfr187 : ∀ z, (z < cnt ∧ (la z < 10 ∨ 10 < la z) ∧ (la z < 70 ∨ 70 + 2 < la z) ∧ (la z < 90 ∨ 90 + 8 < la z) ∧ (la z < 310 ∨ 310 < la z) ∧ (la z < 330 ∨ 330 < la z)) → c110_G167 z = (G 167) z := fun z hz => (q110_G167 z (tz110 z hz)).trans (hfr162 z hz)
                have h8110_h164 : c94_P164 tw = some (tb) := by exact htx
                have h8110_hf : (c65_V 0) (tb) = f := by exact hv0t
                have h8110_hln : Int32.toNatClampNeg (d100_G162 tw) = n10 f (Int32.toNatClampNeg (d100_G166 tw)) := by exact iy100
                have hx110 := pwq (fn_X8_next κ65_41 wd la65 (va_up (va_up (va_up (va_up (va_up (va_up (va_up (va_up (va_up c65_G 44 c79_G44) 45 c79_G45) 160 d100_G160) 161 d100_G161) 162 d100_G162) 163 d100_G163) 165 c94_G165) 166 d100_G166) 167 d100_G167) (va_up c65_P 164 c94_P164) c65_U (va_up c65_V 7 d100_V7) c65_X c65_O c65_kd c65_ln c65_cnt tw (tb) (f) hg153 hg154 hg155 hg140 hg156 hg142 (CInv_LN hCI65 :) hk_tw hpr110_0 hpr110_1 hpr110_2 (LB_set hB65 ql94_164) lt_tw113 h8110_h164 h8110_hf h8110_hln) hc110
                obtain ⟨p110_0, p110_1, p110_2, p110_3, p110_4⟩ : (id ((r110.toInt ≠ 0 → NXW f (Int32.toNatClampNeg (c94_G165 tw)) (Int32.toNatClampNeg (d100_G166 tw)) (decide ((d100_G167 tw).toInt ≠ 0)) (Int32.toNatClampNeg (c110_G160 tw)) (Int32.toNatClampNeg (c110_G166 tw)) (c110_G163 tw).toInt ∧ (c110_G167 tw).toInt = 0))) ∧ (id ((r110.toInt = 0 → NXE f (Int32.toNatClampNeg (c94_G165 tw)) (Int32.toNatClampNeg (d100_G166 tw)) (decide ((d100_G167 tw).toInt ≠ 0))))) ∧ (id ((r110.toInt ≠ 0 → MXN f (Int32.toNatClampNeg (c94_G165 tw)) (Int32.toNatClampNeg (d100_G166 tw)) (decide ((d100_G167 tw).toInt ≠ 0)) (Int32.toNatClampNeg (c110_G160 tw)) false))) ∧ (id ((r110.toInt = 0 → MXE f (Int32.toNatClampNeg (c94_G165 tw)) (Int32.toNatClampNeg (d100_G166 tw)) (decide ((d100_G167 tw).toInt ≠ 0))))) ∧ (Int32.toNatClampNeg (c110_G162 tw) = n10 f (Int32.toNatClampNeg (c110_G166 tw))) := hx110
                clear h8110_h164 h8110_hf h8110_hln
                have hnl110 := f178
                rw [hnq94] at p110_0 p110_1 p110_2 p110_3
                refine pw_ite (fun c113 => ?_) (fun c113 => ?_)
                · have c113 := congrArg Int32.toInt c113
                  have hfin : id (∀ l s, l < 40 → s ≤ (Int32.toNatClampNeg ((G 222) this)) → d100_V7 co (7 * l + s) = (MXC f n d Ws) l s) := show ∀ l s, l < 40 → s ≤ (Int32.toNatClampNeg ((G 222) this)) → d100_V7 co (7 * l + s) = (MXC f n d Ws) l s from MIC_end iz100 (p110_3 (by omega))
                  refine pw_j7 ek136 (fun z136_0 ez136_0 z136_1 ez136_1 z136_2 ez136_2 z136_3 ez136_3 z136_4 ez136_4 z136_5 ez136_5 z136_6 ez136_6 => ?_)
                  subst ez136_0 ez136_1 ez136_2 ez136_3 ez136_4 ez136_5 ez136_6
                  refine pw_nne hn125 ?_
                  refine pw_b4 (fun r141 c141_G43 c141_V8 c141_V9 hc141 => ?_)
                  have hq141 := wp_at (ok_X2_settle κ65_41 wd (va_up (va_up (va_up (va_up (va_up (va_up (va_up (va_up (va_up (va_up (va_up (va_up (va_up (va_up (va_up c65_G 44 c79_G44) 45 c79_G45) 160 d100_G160) 161 d100_G161) 162 d100_G162) 163 d100_G163) 165 c94_G165) 166 d100_G166) 167 d100_G167) 160 c110_G160) 161 c110_G161) 162 c110_G162) 163 c110_G163) 166 c110_G166) 167 c110_G167) (va_up c65_P 164 c94_P164) c65_U (va_up c65_V 7 d100_V7) c65_X c65_O c65_kd c65_ln c65_cnt mi p0 (CInv_G43 hCI65 :) hg134 hg135 (CInv_P40 hCI65 :) (CInv_P41 hCI65 :) (CInv_P42 hCI65 :) (CInv_V9 hCI65 :) (CInv_LN hCI65 :) hk_mi) hc141
                  obtain ⟨hg188, hg189⟩ : (rng (0) 40 c141_G43) ∧ (rng2 (0) 6 c141_V9) := hq141
                  have hq141 := pwq (fr_X2_settle la65 (va_up (va_up (va_up (va_up (va_up (va_up (va_up (va_up (va_up (va_up (va_up (va_up (va_up (va_up (va_up c65_G 44 c79_G44) 45 c79_G45) 160 d100_G160) 161 d100_G161) 162 d100_G162) 163 d100_G163) 165 c94_G165) 166 d100_G166) 167 d100_G167) 160 c110_G160) 161 c110_G161) 162 c110_G162) 163 c110_G163) 166 c110_G166) 167 c110_G167) (va_up c65_P 164 c94_P164) c65_U (va_up c65_V 7 d100_V7) c65_X c65_O c65_kd c65_ln c65_cnt mi p0 (LB_set hB65 ql94_164)) hc141
                  obtain ⟨q141_G43, q141_V8, q141_V9⟩ : (∀ z, (la65 z < la65 mi ∨ la65 mi < la65 z) → c141_G43 z = (c65_G 43) z) ∧ (∀ z, (la65 z < la65 mi ∨ la65 mi < la65 z) → c141_V8 z = (c65_V 8) z) ∧ (∀ z, (la65 z < la65 mi ∨ la65 mi < la65 z) → c141_V9 z = (c65_V 9) z) := hq141
                  have tz141 : ∀ z, (z < cnt ∧ (la z < 10 ∨ 10 < la z) ∧ (la z < 70 ∨ 70 + 2 < la z) ∧ (la z < 90 ∨ 90 + 8 < la z) ∧ (la z < 310 ∨ 310 < la z) ∧ (la z < 330 ∨ 330 < la z)) → ((la65 z < la65 mi ∨ la65 mi < la65 z)) := fun z hz => by have q1 := hag65 z hz.1; have q2 := hB.2 z hz.1; omega
                  have hfr190 : ∀ z, (z < cnt ∧ (la z < 10 ∨ 10 < la z) ∧ (la z < 70 ∨ 70 + 2 < la z) ∧ (la z < 90 ∨ 90 + 8 < la z) ∧ (la z < 310 ∨ 310 < la z) ∧ (la z < 330 ∨ 330 < la z)) → c141_G43 z = (G 43) z := fun z hz => (q141_G43 z (tz141 z hz)).trans ((fun (z : Nat) (hz : (z < cnt ∧ (la z < 10 ∨ 10 < la z) ∧ (la z < 70 ∨ 70 + 2 < la z) ∧ (la z < 90 ∨ 90 + 8 < la z) ∧ (la z < 310 ∨ 310 < la z) ∧ (la z < 330 ∨ 330 < la z))) => hF65_G 43 z hz.1 (fun _ => hz.2)) z hz)
                  have hfr191 : ∀ z, (z < cnt ∧ (la z < 10 ∨ 10 < la z) ∧ (la z < 70 ∨ 70 + 2 < la z) ∧ (la z < 90 ∨ 90 + 8 < la z) ∧ (la z < 310 ∨ 310 < la z) ∧ (la z < 330 ∨ 330 < la z)) → c141_V8 z = (V 8) z := fun z hz => (q141_V8 z (tz141 z hz)).trans ((fun (z : Nat) (hz : (z < cnt ∧ (la z < 10 ∨ 10 < la z) ∧ (la z < 70 ∨ 70 + 2 < la z) ∧ (la z < 90 ∨ 90 + 8 < la z) ∧ (la z < 310 ∨ 310 < la z) ∧ (la z < 330 ∨ 330 < la z))) => hF65_V 8 z hz.1 (fun _ => hz.2)) z hz)
                  have hfr192 : ∀ z, (z < cnt ∧ (la z < 10 ∨ 10 < la z) ∧ (la z < 70 ∨ 70 + 2 < la z) ∧ (la z < 90 ∨ 90 + 8 < la z) ∧ (la z < 310 ∨ 310 < la z) ∧ (la z < 330 ∨ 330 < la z)) → c141_V9 z = (V 9) z := fun z hz => (q141_V9 z (tz141 z hz)).trans ((fun (z : Nat) (hz : (z < cnt ∧ (la z < 10 ∨ 10 < la z) ∧ (la z < 70 ∨ 70 + 2 < la z) ∧ (la z < 90 ∨ 90 + 8 < la z) ∧ (la z < 310 ∨ 310 < la z) ∧ (la z < 330 ∨ 330 < la z))) => hF65_V 9 z hz.1 (fun _ => hz.2)) z hz)
                  have h8141_h40 : (c65_P 40) mi = some co := by exact x40
                  have h8141_h41 : (c65_P 41) mi = some le := by exact x41
                  have h8141_h42 : (c65_P 42) mi = some to := by exact x42
                  have h8141_hL : 1 ≤ (c79_G44 mi).toInt := by omega
                  have h8141_hs1 : 1 ≤ (c79_G45 mi).toInt := by omega
                  have h8141_hC : id (∀ l s, l < (Int32.toNatClampNeg (c79_G44 mi)) → s ≤ (Int32.toNatClampNeg (c79_G45 mi) - 1) → d100_V7 co (7 * l + s) = ((MXC f n d Ws)) l s) := show ∀ l s, l < (Int32.toNatClampNeg (c79_G44 mi)) → s ≤ (Int32.toNatClampNeg (c79_G45 mi) - 1) → d100_V7 co (7 * l + s) = ((MXC f n d Ws)) l s from by exact fun l s hl hs => hfin l s (by have z1 := clampI (x := c79_G44 mi) (by omega); omega) (by have z2 := clampI (x := c79_G45 mi) (by omega); omega)
                  have hx141 := pwq (fn_X2_settle κ65_41 wd la65 (va_up (va_up (va_up (va_up (va_up (va_up (va_up (va_up (va_up (va_up (va_up (va_up (va_up (va_up (va_up c65_G 44 c79_G44) 45 c79_G45) 160 d100_G160) 161 d100_G161) 162 d100_G162) 163 d100_G163) 165 c94_G165) 166 d100_G166) 167 d100_G167) 160 c110_G160) 161 c110_G161) 162 c110_G162) 163 c110_G163) 166 c110_G166) 167 c110_G167) (va_up c65_P 164 c94_P164) c65_U (va_up c65_V 7 d100_V7) c65_X c65_O c65_kd c65_ln c65_cnt mi p0 (co) (le) (to) ((MXC f n d Ws)) (CInv_G43 hCI65 :) hg134 hg135 (CInv_P40 hCI65 :) (CInv_P41 hCI65 :) (CInv_P42 hCI65 :) (CInv_V9 hCI65 :) (CInv_LN hCI65 :) hk_mi (LB_set hB65 ql94_164) lt_mi115 h8141_h40 h8141_h41 h8141_h42 h8141_hL h8141_hs1 h8141_hC) hc141
                  obtain ⟨p141_0, p141_1, p141_2⟩ : (r141 = owF2 (smK ((MXC f n d Ws)) (Int32.toNatClampNeg (c79_G45 mi) - 1) p0 (Int32.toNatClampNeg (c79_G44 mi)) (Int32.toNatClampNeg (c79_G44 mi))) (Int32.toNatClampNeg (c79_G45 mi) - 1) p0 (-1)) ∧ ((c141_G43 mi).toInt = (c79_G44 mi).toInt) ∧ (id ((∀ j, j < (Int32.toNatClampNeg (c79_G44 mi)) → c141_V9 to j = Int32.ofNat (tlF ((MXC f n d Ws)) (Int32.toNatClampNeg (c79_G45 mi) - 1) p0 (Int32.toNatClampNeg (c79_G44 mi)) j)))) := hx141
                  clear h8141_h40 h8141_h41 h8141_h42 h8141_hL h8141_hs1 h8141_hC
                  have z1 := clampI (x := c79_G44 mi) (by omega)
                  have z2 := clampI (x := c79_G45 mi) (by omega)
                  rw [show Int32.toNatClampNeg (c79_G44 mi) = lnN f n by omega, show Int32.toNatClampNeg (c79_G45 mi) - 1 = (Int32.toNatClampNeg ((G 222) this)) by omega] at p141_0 p141_2
                  have qq0 : BKR (va_up (va_up (va_up (va_up (va_up (va_up (va_up (va_up (va_up (va_up (va_up (va_up (va_up (va_up (va_up (va_up c65_G 44 c79_G44) 45 c79_G45) 160 d100_G160) 161 d100_G161) 162 d100_G162) 163 d100_G163) 165 c94_G165) 166 d100_G166) 167 d100_G167) 160 c110_G160) 161 c110_G161) 162 c110_G162) 163 c110_G163) 166 c110_G166) 167 c110_G167) 43 c141_G43) (va_up c65_P 164 c94_P164) (va_up (va_up (va_up c65_V 7 d100_V7) 8 c141_V8) 9 c141_V9) la65 c65_cnt D ((c65_O 1) fa) (fun s => Int32.toNatClampNeg ((c65_V 3) fl s)) (FMT d Ws) := by exact BKR_fr p65_0 hB65 (fun _ => rfl) (fun _ _ => ⟨rfl, rfl, rfl⟩) (fun _ _ _ _ => ⟨rfl, rfl, rfl⟩) (Nat.le_refl _) (fun _ _ => rfl) (fun _ _ h => h)
                  have qq1 : id ((∀ s : Nat, s < 7 → ((G 222) this).toInt < (s : Int) → (c65_V 3) fl s = (V 3) fl s)) := show (∀ s : Nat, s < 7 → ((G 222) this).toInt < (s : Int) → (c65_V 3) fl s = (V 3) fl s) from by intro s hs h9; have z9 := p65_1 s hs; rw [if_neg (by omega)] at z9; exact z9
                  have qq2 : id ((¬ (0 ≤ p0.toInt ∧ p0.toInt ≤ 50) → r141.toInt = -2 ∧ c141_G43 mi = (G 43) mi ∧ c141_V9 to = (V 9) to)) := show (¬ (0 ≤ p0.toInt ∧ p0.toInt ≤ 50) → r141.toInt = -2 ∧ c141_G43 mi = (G 43) mi ∧ c141_V9 to = (V 9) to) from by intro h; exfalso; exact h hin
                  have qq3 : id (((0 ≤ p0.toInt ∧ p0.toInt ≤ 50) → ¬ (NZR f n ∧ lnN f n ≤ 40) → r141.toInt = -1 ∧ c141_G43 mi = (G 43) mi ∧ c141_V9 to = (V 9) to)) := show ((0 ≤ p0.toInt ∧ p0.toInt ≤ 50) → ¬ (NZR f n ∧ lnN f n ≤ 40) → r141.toInt = -1 ∧ c141_G43 mi = (G 43) mi ∧ c141_V9 to = (V 9) to) from by intro _ h; exfalso; exact h ⟨hnz, by omega⟩
                  have qq4 : id (((0 ≤ p0.toInt ∧ p0.toInt ≤ 50) → NZR f n → lnN f n ≤ 40 → r141 = owF2 (smK (MXC f n d Ws) (Int32.toNatClampNeg ((G 222) this)) p0 (lnN f n) (lnN f n)) (Int32.toNatClampNeg ((G 222) this)) p0 (-1) ∧ (c141_G43 mi).toInt = ((lnN f n : Nat) : Int) ∧ ∀ j, j < lnN f n → c141_V9 to j = Int32.ofNat (tlF (MXC f n d Ws) (Int32.toNatClampNeg ((G 222) this)) p0 (lnN f n) j))) := show ((0 ≤ p0.toInt ∧ p0.toInt ≤ 50) → NZR f n → lnN f n ≤ 40 → r141 = owF2 (smK (MXC f n d Ws) (Int32.toNatClampNeg ((G 222) this)) p0 (lnN f n) (lnN f n)) (Int32.toNatClampNeg ((G 222) this)) p0 (-1) ∧ (c141_G43 mi).toInt = ((lnN f n : Nat) : Int) ∧ ∀ j, j < lnN f n → c141_V9 to j = Int32.ofNat (tlF (MXC f n d Ws) (Int32.toNatClampNeg ((G 222) this)) p0 (lnN f n) j)) from by intro _ _ _; exact ⟨p141_0, by rw [p141_1]; omega, p141_2⟩
                  exact pw_some ⟨la65, hag65, (LB_set hB65 ql94_164), qq0, qq1, qq2, qq3, qq4⟩
                · have c113 : r110.toInt = 1 := by have z9 := z_ne c113; omega
                  have hnl := hnl110 (by omega)
                  have hnl1 := hnl.1
                  have hnl2 := hnl.2
                  obtain ⟨hnw, hq110⟩ := p110_0 (by omega)
                  have hnb9 := NXW_b hnw
                  have hb160 := hg173 tw
                  have k160 := clampI (x := c110_G160 tw) (by omega)
                  have hb161 := hg174 tw
                  have k161 := clampI (x := c110_G161 tw) (by omega)
                  have hb166b := hg176 tw
                  have k166b := clampI (x := c110_G166 tw) (by omega)
                  have hb162b := hg175 tw
                  have k162b := clampI (x := c110_G162 tw) (by omega)
                  have hwe : Int32.toNatClampNeg (c110_G161 tw) = Int32.toNatClampNeg (c110_G166 tw) - Int32.toNatClampNeg (c110_G160 tw) := by omega
                  have hli : Int32.toNatClampNeg (c110_G162 tw) = n10 f (Int32.toNatClampNeg (c110_G160 tw)) := by rw [p110_4, hnw.2.2.2.1, n10_lnd hnw.2.2.1]
                  have hnl := n10_mono (f := f) (p := Int32.toNatClampNeg (c110_G160 tw)) (q := n) (by omega)
                  have hL9 : lnN f n = 1 + n10 f n := rfl
                  refine pw_nne hn124 ?_
                  refine pw_jE (fun j130 ej130 => ?_)
                  refine pw_ite (fun c123 => ?_) (fun c123 => ?_)
                  · have c123 := congrArg Int32.toInt c123
                    refine pw_b1 (fun c127_V7 hc127 => ?_)
                    have hq127 := pwq (fr_X11_chargeWord la65 (va_up (va_up (va_up (va_up (va_up (va_up (va_up (va_up (va_up (va_up (va_up (va_up (va_up (va_up (va_up c65_G 44 c79_G44) 45 c79_G45) 160 d100_G160) 161 d100_G161) 162 d100_G162) 163 d100_G163) 165 c94_G165) 166 d100_G166) 167 d100_G167) 160 c110_G160) 161 c110_G161) 162 c110_G162) 163 c110_G163) 166 c110_G166) 167 c110_G167) (va_up c65_P 164 c94_P164) c65_U (va_up c65_V 7 d100_V7) c65_X c65_O c65_kd c65_ln c65_cnt this (LB_set hB65 ql94_164) (show la65 this = 200 from by omega)) hc127
                    have q127_V7 : (∀ z, (la65 z < 330 ∨ 330 < la65 z) → c127_V7 z = d100_V7 z) := hq127
                    clear hq127
                    have tz127 : ∀ z, (z < cnt ∧ (la z < 10 ∨ 10 < la z) ∧ (la z < 70 ∨ 70 + 2 < la z) ∧ (la z < 90 ∨ 90 + 8 < la z) ∧ (la z < 310 ∨ 310 < la z) ∧ (la z < 330 ∨ 330 < la z)) → ((la65 z < 330 ∨ 330 < la65 z)) := fun z hz => by have q1 := hag65 z hz.1; have q2 := hB.2 z hz.1; omega
                    have hfr193 : ∀ z, (z < cnt ∧ (la z < 10 ∨ 10 < la z) ∧ (la z < 70 ∨ 70 + 2 < la z) ∧ (la z < 90 ∨ 90 + 8 < la z) ∧ (la z < 310 ∨ 310 < la z) ∧ (la z < 330 ∨ 330 < la z)) → c127_V7 z = (V 7) z := fun z hz => (q127_V7 z (tz127 z hz)).trans (hfr163 z hz)
                    have h8127_h220 : (c65_P 220) this = some tp := by exact x220
                    have h8127_h140 : (c65_P 140) tp = some tb := by exact x140
                    have h8127_h234 : (c65_P 234) this = some tw := by exact x234
                    have h8127_h229 : (c65_P 229) this = some bk := by exact x229
                    have h8127_h236 : (c65_P 236) this = some mi := by exact x236
                    have h8127_h1 : (c65_P 1) bk = some fa := by exact x1
                    have h8127_h0 : (c65_P 0) bk = some wd := by exact x0
                    have h8127_h40 : (c65_P 40) mi = some co := by exact x40
                    have h8127_hN : Int32.toNatClampNeg ((c65_G 203) wd) = Ws.length := by rw [gzw]; exact hWl.symm
                    have h8127_hrw : id (∀ s w, s ≤ (Int32.toNatClampNeg ((c65_G 222) this)) → w < Ws.length → ROWF (va_up (va_up (va_up (va_up (va_up (va_up (va_up (va_up (va_up (va_up (va_up (va_up (va_up (va_up (va_up c65_G 44 c79_G44) 45 c79_G45) 160 d100_G160) 161 d100_G161) 162 d100_G162) 163 d100_G163) 165 c94_G165) 166 d100_G166) 167 d100_G167) 160 c110_G160) 161 c110_G161) 162 c110_G162) 163 c110_G163) 166 c110_G166) 167 c110_G167) (va_up c65_P 164 c94_P164) (va_up c65_V 7 d100_V7) la65 c65_cnt D ((c65_O 1) fa (100 * s + w)) (FMT d Ws s w)) := show ∀ s w, s ≤ (Int32.toNatClampNeg ((c65_G 222) this)) → w < Ws.length → ROWF (va_up (va_up (va_up (va_up (va_up (va_up (va_up (va_up (va_up (va_up (va_up (va_up (va_up (va_up (va_up c65_G 44 c79_G44) 45 c79_G45) 160 d100_G160) 161 d100_G161) 162 d100_G162) 163 d100_G163) 165 c94_G165) 166 d100_G166) 167 d100_G167) 160 c110_G160) 161 c110_G161) 162 c110_G162) 163 c110_G163) 166 c110_G166) 167 c110_G167) (va_up c65_P 164 c94_P164) (va_up c65_V 7 d100_V7) la65 c65_cnt D ((c65_O 1) fa (100 * s + w)) (FMT d Ws s w) from by exact fun s w hs hw => hrw s w (by rw [g22] at hs; exact hs) hw
                    have h8127_hW : wdl ((c65_V 0) tb) (Int32.toNatClampNeg (c110_G160 tw)) (Int32.toNatClampNeg (c110_G161 tw)) = (wdl f (Int32.toNatClampNeg (c110_G160 tw)) (Int32.toNatClampNeg (c110_G161 tw))) := by rw [hv0t]
                    have h8127_hbd : (c110_G160 tw).toInt + (c110_G161 tw).toInt ≤ ((c65_ln tb : Nat) : Int) := by omega
                    have h8127_hlm : (c110_G162 tw).toInt < (c79_G44 mi).toInt := by omega
                    have h8127_hsm : (c79_G45 mi).toInt = ((c65_G 222) this).toInt + 1 := by omega
                    have h8127_hnm : nmB (wdl f (Int32.toNatClampNeg (c110_G160 tw)) (Int32.toNatClampNeg (c110_G161 tw))) = false := by rw [hwe]; exact hnw.2.2.2.2.2 (by omega)
                    have hx127 := pwq (fn_X11_chargeWord κ65_41 wd la65 (va_up (va_up (va_up (va_up (va_up (va_up (va_up (va_up (va_up (va_up (va_up (va_up (va_up (va_up (va_up c65_G 44 c79_G44) 45 c79_G45) 160 d100_G160) 161 d100_G161) 162 d100_G162) 163 d100_G163) 165 c94_G165) 166 d100_G166) 167 d100_G167) 160 c110_G160) 161 c110_G161) 162 c110_G162) 163 c110_G163) 166 c110_G166) 167 c110_G167) (va_up c65_P 164 c94_P164) c65_U (va_up c65_V 7 d100_V7) c65_X c65_O c65_kd c65_ln c65_cnt this (tp) (tb) (tw) (bk) (mi) (fa) (co) (D) (d) (Ws) (wdl f (Int32.toNatClampNeg (c110_G160 tw)) (Int32.toNatClampNeg (c110_G161 tw))) hg134 hg135 hg173 hg174 hg175 (CInv_G200 hCI65 :) (CInv_G203 hCI65 :) (CInv_G222 hCI65 :) (CInv_P0 hCI65 :) (CInv_P1 hCI65 :) (CInv_P5 hCI65 :) (CInv_P40 hCI65 :) (CInv_P140 hCI65 :) (CInv_P201 hCI65 :) (CInv_P202 hCI65 :) (CInv_P220 hCI65 :) (CInv_P229 hCI65 :) (CInv_P234 hCI65 :) (CInv_P236 hCI65 :) (CInv_V1 hCI65 :) (CInv_O1 hCI65 :) (CInv_RA hCI65 :) (CInv_RB hCI65 :) (CInv_RI hCI65 :) (CInv_LN hCI65 :) (CInv_W0 hCI65 :) hk56 (LB_set hB65 ql94_164) lt58 h8127_h220 h8127_h140 h8127_h234 h8127_h229 h8127_h236 h8127_h1 h8127_h0 h8127_h40 h8127_hN h8127_hrw h8127_hW h8127_hbd h8127_hlm h8127_hsm h8127_hnm) hc127
                    have p127_0 : id ((∀ es9, CTB (d100_V7 co) d Ws (Int32.toNatClampNeg ((c65_G 222) this)) es9 → CTB (c127_V7 co) d Ws (Int32.toNatClampNeg ((c65_G 222) this)) (es9 ++ [((Int32.toNatClampNeg (c110_G162 tw)), (wdl f (Int32.toNatClampNeg (c110_G160 tw)) (Int32.toNatClampNeg (c110_G161 tw))))]))) := hx127
                    clear hx127
                    clear h8127_h220 h8127_h140 h8127_h234 h8127_h229 h8127_h236 h8127_h1 h8127_h0 h8127_h40 h8127_hN h8127_hrw h8127_hW h8127_hbd h8127_hlm h8127_hsm h8127_hnm
                    rw [g22] at p127_0
                    refine pw_j1 ej130 (fun z130_0 ez130_0 => ?_)
                    subst ez130_0
                    have f194 : (y100_4 + 1).toInt = y100_4.toInt + (1) := z_addc (by decide +kernel) (by omega) (by omega)
                    have iv100_0 : 0 ≤ (y100_4 + 1).toInt := by omega
                    have iv100_1 : (c110_G166 tw).toInt ≤ (c94_G165 tw).toInt := by omega
                    have iv100_2 : (c110_G162 tw).toInt ≤ (c110_G166 tw).toInt := by omega
                    have iv100_3 : (y100_4 + 1).toInt ≤ (c110_G166 tw).toInt := by omega
                    have iv100_4 : (MIC f n d Ws (Int32.toNatClampNeg ((G 222) this)) (Int32.toNatClampNeg (c110_G166 tw)) (decide ((c110_G167 tw).toInt ≠ 0)) (c127_V7 co)) := by rw [show decide ((c110_G167 tw).toInt ≠ 0) = false from decide_eq_false (by have z9 := (p110_0 (by omega)).2; omega)]; exact MIC_w iz100 hnw (p110_2 (by omega)) (fun es h9 => by have h8 := p127_0 es h9; rw [hli, hwe] at h8; exact h8)
                    have iv100_5 : (Int32.toNatClampNeg (c110_G162 tw) = n10 f (Int32.toNatClampNeg (c110_G166 tw))) := by exact p110_4
                    exact ih100 (y100_4 + 1) c110_G160 c110_G161 c110_G162 c110_G163 c110_G166 c110_G167 c127_V7 hg173 hg174 hg175 hg176 hfr182 hfr183 hfr184 hfr185 hfr186 hfr187 hfr193 iv100_0 iv100_1 iv100_2 iv100_3 iv100_4 iv100_5
                  · have c123 := z_ne c123
                    refine pw_j1 ej130 (fun z130_0 ez130_0 => ?_)
                    subst ez130_0
                    have f195 : (y100_4 + 1).toInt = y100_4.toInt + (1) := z_addc (by decide +kernel) (by omega) (by omega)
                    have iv100_0 : 0 ≤ (y100_4 + 1).toInt := by omega
                    have iv100_1 : (c110_G166 tw).toInt ≤ (c94_G165 tw).toInt := by omega
                    have iv100_2 : (c110_G162 tw).toInt ≤ (c110_G166 tw).toInt := by omega
                    have iv100_3 : (y100_4 + 1).toInt ≤ (c110_G166 tw).toInt := by omega
                    have iv100_4 : (MIC f n d Ws (Int32.toNatClampNeg ((G 222) this)) (Int32.toNatClampNeg (c110_G166 tw)) (decide ((c110_G167 tw).toInt ≠ 0)) (d100_V7 co)) := by rw [show decide ((c110_G167 tw).toInt ≠ 0) = false from decide_eq_false (by have z9 := (p110_0 (by omega)).2; omega)]; exact MIC_w iz100 hnw (p110_2 (by omega)) (fun es h9 => CTB_n h9 (hnw.2.2.2.2.1 (by omega)))
                    have iv100_5 : (Int32.toNatClampNeg (c110_G162 tw) = n10 f (Int32.toNatClampNeg (c110_G166 tw))) := by exact p110_4
                    exact ih100 (y100_4 + 1) c110_G160 c110_G161 c110_G162 c110_G163 c110_G166 c110_G167 d100_V7 hg173 hg174 hg175 hg176 hfr182 hfr183 hfr184 hfr185 hfr186 hfr187 hfr163 iv100_0 iv100_1 iv100_2 iv100_3 iv100_4 iv100_5
          exact lp100 NN (0 : Int32) (c65_G 160) (c65_G 161) c94_G162 (c65_G 163) c94_G166 c94_G167 c79_V7 (CInv_G160 hCI65 :) (CInv_G161 hCI65 :) hg139 hg141 (fun (z : Nat) (hz : (z < cnt ∧ (la z < 10 ∨ 10 < la z) ∧ (la z < 70 ∨ 70 + 2 < la z) ∧ (la z < 90 ∨ 90 + 8 < la z) ∧ (la z < 310 ∨ 310 < la z) ∧ (la z < 330 ∨ 330 < la z))) => hF65_G 160 z hz.1 (fun _ => hz.2)) (fun (z : Nat) (hz : (z < cnt ∧ (la z < 10 ∨ 10 < la z) ∧ (la z < 70 ∨ 70 + 2 < la z) ∧ (la z < 90 ∨ 90 + 8 < la z) ∧ (la z < 310 ∨ 310 < la z) ∧ (la z < 330 ∨ 330 < la z))) => hF65_G 161 z hz.1 (fun _ => hz.2)) hfr148 (fun (z : Nat) (hz : (z < cnt ∧ (la z < 10 ∨ 10 < la z) ∧ (la z < 70 ∨ 70 + 2 < la z) ∧ (la z < 90 ∨ 90 + 8 < la z) ∧ (la z < 310 ∨ 310 < la z) ∧ (la z < 330 ∨ 330 < la z))) => hF65_G 163 z hz.1 (fun _ => hz.2)) hfr150 hfr151 hfr138 (show 0 ≤ (0 : Int32).toInt from by omega) (show (c94_G166 tw).toInt ≤ (c94_G165 tw).toInt from by omega) (show (c94_G162 tw).toInt ≤ (c94_G166 tw).toInt from by omega) (show (0 : Int32).toInt ≤ (c94_G166 tw).toInt from by omega) (show (MIC f n d Ws (Int32.toNatClampNeg ((G 222) this)) (Int32.toNatClampNeg (c94_G166 tw)) (decide ((c94_G167 tw).toInt ≠ 0)) (c79_V7 co)) from by exact MIC_0 (CTB_0 p79_1 (by omega)) (by have z9 := f166; rw [show (c94_G166 tw) = 0 from z_e (z9.trans (by decide))]; rfl) (decide_eq_false (by omega))) (show (Int32.toNatClampNeg (c94_G162 tw) = n10 f (Int32.toNatClampNeg (c94_G166 tw))) from by have z9 := f166; have z8 := f162; rw [show (c94_G166 tw) = 0 from z_e (z9.trans (by decide)), show (c94_G162 tw) = 0 from z_e (z8.trans (by decide))]; rfl)
        · have c44 := z_nle c44
          refine pw_j0 ej47 ?_
          have qq0 : BKR (va_up G 141 c4_G141) P V la cnt D ((O 1) fa) (fun s => Int32.toNatClampNeg ((V 3) fl s)) (FMT d Ws) := by exact BKR_fr hbk hB (fun _ => rfl) (fun _ _ => ⟨rfl, rfl, rfl⟩) (fun _ _ _ _ => ⟨rfl, rfl, rfl⟩) (Nat.le_refl _) (fun _ _ => rfl) (fun _ _ h => h)
          have qq1 : id ((∀ s : Nat, s < 7 → ((G 222) this).toInt < (s : Int) → (V 3) fl s = (V 3) fl s)) := show (∀ s : Nat, s < 7 → ((G 222) this).toInt < (s : Int) → (V 3) fl s = (V 3) fl s) from by exact fun _ _ _ => rfl
          have qq2 : id ((¬ (0 ≤ p0.toInt ∧ p0.toInt ≤ 50) → (-1 : Int32).toInt = -2 ∧ (G 43) mi = (G 43) mi ∧ (V 9) to = (V 9) to)) := show (¬ (0 ≤ p0.toInt ∧ p0.toInt ≤ 50) → (-1 : Int32).toInt = -2 ∧ (G 43) mi = (G 43) mi ∧ (V 9) to = (V 9) to) from by intro h; exfalso; exact h hin
          have qq3 : id (((0 ≤ p0.toInt ∧ p0.toInt ≤ 50) → ¬ (NZR f n ∧ lnN f n ≤ 40) → (-1 : Int32).toInt = -1 ∧ (G 43) mi = (G 43) mi ∧ (V 9) to = (V 9) to)) := show ((0 ≤ p0.toInt ∧ p0.toInt ≤ 50) → ¬ (NZR f n ∧ lnN f n ≤ 40) → (-1 : Int32).toInt = -1 ∧ (G 43) mi = (G 43) mi ∧ (V 9) to = (V 9) to) from by intro _ _; exact ⟨by omega, rfl, rfl⟩
          have qq4 : id (((0 ≤ p0.toInt ∧ p0.toInt ≤ 50) → NZR f n → lnN f n ≤ 40 → (-1 : Int32) = owF2 (smK (MXC f n d Ws) (Int32.toNatClampNeg ((G 222) this)) p0 (lnN f n) (lnN f n)) (Int32.toNatClampNeg ((G 222) this)) p0 (-1) ∧ ((G 43) mi).toInt = ((lnN f n : Nat) : Int) ∧ ∀ j, j < lnN f n → (V 9) to j = Int32.ofNat (tlF (MXC f n d Ws) (Int32.toNatClampNeg ((G 222) this)) p0 (lnN f n) j))) := show ((0 ≤ p0.toInt ∧ p0.toInt ≤ 50) → NZR f n → lnN f n ≤ 40 → (-1 : Int32) = owF2 (smK (MXC f n d Ws) (Int32.toNatClampNeg ((G 222) this)) p0 (lnN f n) (lnN f n)) (Int32.toNatClampNeg ((G 222) this)) p0 (-1) ∧ ((G 43) mi).toInt = ((lnN f n : Nat) : Int) ∧ ∀ j, j < lnN f n → (V 9) to j = Int32.ofNat (tlF (MXC f n d Ws) (Int32.toNatClampNeg ((G 222) this)) p0 (lnN f n) j)) from by intro _ _ h; exfalso; omega
          exact pw_some ⟨la, (fun _ _ => rfl), hB, qq0, qq1, qq2, qq3, qq4⟩
      · have c38 : r35.toInt = 1 := by have z9 := z_ne c38; omega
        refine pw_j0 ej47 ?_
        have qq0 : BKR (va_up G 141 c4_G141) P V la cnt D ((O 1) fa) (fun s => Int32.toNatClampNeg ((V 3) fl s)) (FMT d Ws) := by exact BKR_fr hbk hB (fun _ => rfl) (fun _ _ => ⟨rfl, rfl, rfl⟩) (fun _ _ _ _ => ⟨rfl, rfl, rfl⟩) (Nat.le_refl _) (fun _ _ => rfl) (fun _ _ h => h)
        have qq1 : id ((∀ s : Nat, s < 7 → ((G 222) this).toInt < (s : Int) → (V 3) fl s = (V 3) fl s)) := show (∀ s : Nat, s < 7 → ((G 222) this).toInt < (s : Int) → (V 3) fl s = (V 3) fl s) from by exact fun _ _ _ => rfl
        have qq2 : id ((¬ (0 ≤ p0.toInt ∧ p0.toInt ≤ 50) → (-1 : Int32).toInt = -2 ∧ (G 43) mi = (G 43) mi ∧ (V 9) to = (V 9) to)) := show (¬ (0 ≤ p0.toInt ∧ p0.toInt ≤ 50) → (-1 : Int32).toInt = -2 ∧ (G 43) mi = (G 43) mi ∧ (V 9) to = (V 9) to) from by intro h; exfalso; exact h hin
        have qq3 : id (((0 ≤ p0.toInt ∧ p0.toInt ≤ 50) → ¬ (NZR f n ∧ lnN f n ≤ 40) → (-1 : Int32).toInt = -1 ∧ (G 43) mi = (G 43) mi ∧ (V 9) to = (V 9) to)) := show ((0 ≤ p0.toInt ∧ p0.toInt ≤ 50) → ¬ (NZR f n ∧ lnN f n ≤ 40) → (-1 : Int32).toInt = -1 ∧ (G 43) mi = (G 43) mi ∧ (V 9) to = (V 9) to) from by intro _ _; exact ⟨by omega, rfl, rfl⟩
        have qq4 : id (((0 ≤ p0.toInt ∧ p0.toInt ≤ 50) → NZR f n → lnN f n ≤ 40 → (-1 : Int32) = owF2 (smK (MXC f n d Ws) (Int32.toNatClampNeg ((G 222) this)) p0 (lnN f n) (lnN f n)) (Int32.toNatClampNeg ((G 222) this)) p0 (-1) ∧ ((G 43) mi).toInt = ((lnN f n : Nat) : Int) ∧ ∀ j, j < lnN f n → (V 9) to j = Int32.ofNat (tlF (MXC f n d Ws) (Int32.toNatClampNeg ((G 222) this)) p0 (lnN f n) j))) := show ((0 ≤ p0.toInt ∧ p0.toInt ≤ 50) → NZR f n → lnN f n ≤ 40 → (-1 : Int32) = owF2 (smK (MXC f n d Ws) (Int32.toNatClampNeg ((G 222) this)) p0 (lnN f n) (lnN f n)) (Int32.toNatClampNeg ((G 222) this)) p0 (-1) ∧ ((G 43) mi).toInt = ((lnN f n : Nat) : Int) ∧ ∀ j, j < lnN f n → (V 9) to j = Int32.ofNat (tlF (MXC f n d Ws) (Int32.toNatClampNeg ((G 222) this)) p0 (lnN f n) j)) from by intro _ h; exfalso; exact p35_0 (by omega) h
        exact pw_some ⟨la, (fun _ _ => rfl), hB, qq0, qq1, qq2, qq3, qq4⟩
    · have c15 := z_nle c15
      refine pw_j0 ej18 ?_
      have qq0 : BKR (va_up G 141 c4_G141) P V la cnt D ((O 1) fa) (fun s => Int32.toNatClampNeg ((V 3) fl s)) (FMT d Ws) := by exact BKR_fr hbk hB (fun _ => rfl) (fun _ _ => ⟨rfl, rfl, rfl⟩) (fun _ _ _ _ => ⟨rfl, rfl, rfl⟩) (Nat.le_refl _) (fun _ _ => rfl) (fun _ _ h => h)
      have qq1 : id ((∀ s : Nat, s < 7 → ((G 222) this).toInt < (s : Int) → (V 3) fl s = (V 3) fl s)) := show (∀ s : Nat, s < 7 → ((G 222) this).toInt < (s : Int) → (V 3) fl s = (V 3) fl s) from by exact fun _ _ _ => rfl
      have qq2 : id ((¬ (0 ≤ p0.toInt ∧ p0.toInt ≤ 50) → (-2 : Int32).toInt = -2 ∧ (G 43) mi = (G 43) mi ∧ (V 9) to = (V 9) to)) := show (¬ (0 ≤ p0.toInt ∧ p0.toInt ≤ 50) → (-2 : Int32).toInt = -2 ∧ (G 43) mi = (G 43) mi ∧ (V 9) to = (V 9) to) from by intro _; exact ⟨by omega, rfl, rfl⟩
      have qq3 : id (((0 ≤ p0.toInt ∧ p0.toInt ≤ 50) → ¬ (NZR f n ∧ lnN f n ≤ 40) → (-2 : Int32).toInt = -1 ∧ (G 43) mi = (G 43) mi ∧ (V 9) to = (V 9) to)) := show ((0 ≤ p0.toInt ∧ p0.toInt ≤ 50) → ¬ (NZR f n ∧ lnN f n ≤ 40) → (-2 : Int32).toInt = -1 ∧ (G 43) mi = (G 43) mi ∧ (V 9) to = (V 9) to) from by intro h; exfalso; omega
      have qq4 : id (((0 ≤ p0.toInt ∧ p0.toInt ≤ 50) → NZR f n → lnN f n ≤ 40 → (-2 : Int32) = owF2 (smK (MXC f n d Ws) (Int32.toNatClampNeg ((G 222) this)) p0 (lnN f n) (lnN f n)) (Int32.toNatClampNeg ((G 222) this)) p0 (-1) ∧ ((G 43) mi).toInt = ((lnN f n : Nat) : Int) ∧ ∀ j, j < lnN f n → (V 9) to j = Int32.ofNat (tlF (MXC f n d Ws) (Int32.toNatClampNeg ((G 222) this)) p0 (lnN f n) j))) := show ((0 ≤ p0.toInt ∧ p0.toInt ≤ 50) → NZR f n → lnN f n ≤ 40 → (-2 : Int32) = owF2 (smK (MXC f n d Ws) (Int32.toNatClampNeg ((G 222) this)) p0 (lnN f n) (lnN f n)) (Int32.toNatClampNeg ((G 222) this)) p0 (-1) ∧ ((G 43) mi).toInt = ((lnN f n : Nat) : Int) ∧ ∀ j, j < lnN f n → (V 9) to j = Int32.ofNat (tlF (MXC f n d Ws) (Int32.toNatClampNeg ((G 222) this)) p0 (lnN f n) j)) from by intro h; exfalso; omega
      exact pw_some ⟨la, (fun _ _ => rfl), hB, qq0, qq1, qq2, qq3, qq4⟩
