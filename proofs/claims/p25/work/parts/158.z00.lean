abbrev QF_X5_clear2 (κ : Nat → Nat) (wd : Nat) (la : Nat → Nat) (G : Nat → Nat → Int32) (P : Nat → Nat → Option Nat) (U : Nat → Nat → Int64) (V : Nat → Nat → Nat → Int32) (X : Nat → Nat → Nat → Int64) (O : Nat → Nat → Nat → Option Nat) (kd : Nat → Nat) (ln : Nat → Nat) (cnt : Nat) (this : Nat) (p0 : Int32) (er : Nat) (br : Nat) (pr : Nat) (kp : Nat) (lr : Nat) (le : Nat) (lb : Nat) (lp : Nat) (se : Nat) (sb : Nat) (sp : Nat) (tr : Nat) : ((Nat → Int32) × (Nat → Int32) × (Nat → Int32) × (Nat → Int32)) → Prop := (fun t => (((t.2.1) this).toInt = 0 ∧ ((t.2.2.1) this).toInt = 0 ∧ (t.1) this = p0) ∧ (((t.2.2.2) er).toInt = 0 ∧ ((t.2.2.2) br).toInt = 0 ∧ ((t.2.2.2) pr).toInt = 0) ∧ (((t.2.2.2) tr).toInt = 0))
set_option maxHeartbeats 4000000 in
set_option maxRecDepth 100000 in
theorem fn_X5_clear2 (κ : Nat → Nat) (wd : Nat) (la : Nat → Nat) (G : Nat → Nat → Int32) (P : Nat → Nat → Option Nat) (U : Nat → Nat → Int64) (V : Nat → Nat → Nat → Int32) (X : Nat → Nat → Nat → Int64) (O : Nat → Nat → Nat → Option Nat) (kd : Nat → Nat) (ln : Nat → Nat) (cnt : Nat) (this : Nat) (p0 : Int32) (er : Nat) (br : Nat) (pr : Nat) (kp : Nat) (lr : Nat) (le : Nat) (lb : Nat) (lp : Nat) (se : Nat) (sb : Nat) (sp : Nat) (tr : Nat) (hzG102 : rng (0) 40 (G 102)) (hzG200 : rng (0) 24 (G 200)) (hzG203 : rng (0) 100 (G 203)) (hzP103 : PB κ ln wd 6 11 0 2500 1 (P 103)) (hzP104 : PB κ ln wd 6 11 0 2500 1 (P 104)) (hzP105 : PB κ ln wd 6 11 0 2500 1 (P 105)) (hzP108 : PB κ ln wd 6 11 0 2500 1 (P 108)) (hzP201 : PB κ ln wd 11 100 0 2400 0 (P 201)) (hzP202 : PB κ ln wd 11 101 0 100 0 (P 202)) (hzV1 : rng2 (0) 24 (V 1)) (hzRA : RA κ ln (G 200) (P 201) (P 202)) (hzRB : RB κ ln (G 200) (G 203) (P 202) (V 1)) (hzRI : RI (P 202)) (hzRM103 : RM ln 40 (P 103) (P 202)) (hzRM104 : RM ln 40 (P 104) (P 202)) (hzRM108 : RM ln 40 (P 108) (P 202)) (hzLN : LN κ ln) (hk_this : κ this = 6) (hB : LB la cnt P) (hlt_this : this < cnt) (hpt : PTS P (G 200) ln this er br pr kp lr le lb lp se sb sp) (h108 : (P 108) this = some tr) : pw (f_X5_clear G P U V X O kd ln cnt this p0) (QF_X5_clear2 κ wd la G P U V X O kd ln cnt this p0 er br pr kp lr le lb lp se sb sp tr) := by
  unfold f_X5_clear
  have zk0 : (0 : Int32).toInt = 0 := by decide +kernel
  have r_p0 := i32r p0
  have hn1 : (P 104) this = some er := hpt.1.1
  have lt_er2 := ((hB.1 104 fl_104) this er hn1).2.1
  have lb_er2 : la er = la this + 2 := lk_104.mp ((hB.1 104 fl_104) this er hn1).2.2
  have hk_er := ((hzP104 this).2 er hn1).1
  have hl1_er := ((hzP104 this).2 er hn1).2.1
  have hl2_er := ((hzP104 this).2 er hn1).2.2.1
  have hw_er := ((hzP104 this).2 er hn1).2.2.2
  have hn3 : (P 105) this = some br := hpt.1.2.1
  have lt_br4 := ((hB.1 105 fl_105) this br hn3).2.1
  have lb_br4 : la br = la this + 3 := lk_105.mp ((hB.1 105 fl_105) this br hn3).2.2
  have hk_br := ((hzP105 this).2 br hn3).1
  have hl1_br := ((hzP105 this).2 br hn3).2.1
  have hl2_br := ((hzP105 this).2 br hn3).2.2.1
  have hw_br := ((hzP105 this).2 br hn3).2.2.2
  have hn5 : (P 103) this = some pr := hpt.1.2.2.1
  have lt_pr6 := ((hB.1 103 fl_103) this pr hn5).2.1
  have lb_pr6 : la pr = la this + 1 := lk_103.mp ((hB.1 103 fl_103) this pr hn5).2.2
  have hk_pr := ((hzP103 this).2 pr hn5).1
  have hl1_pr := ((hzP103 this).2 pr hn5).2.1
  have hl2_pr := ((hzP103 this).2 pr hn5).2.2.1
  have hw_pr := ((hzP103 this).2 pr hn5).2.2.2
  have hn7 : (P 108) this = some tr := h108
  have lt_tr8 := ((hB.1 108 fl_108) this tr hn7).2.1
  have lb_tr8 : la tr = la this + 4 := lk_108.mp ((hB.1 108 fl_108) this tr hn7).2.2
  have hk_tr := ((hzP108 this).2 tr hn7).1
  have hl1_tr := ((hzP108 this).2 tr hn7).2.1
  have hl2_tr := ((hzP108 this).2 tr hn7).2.2.1
  have hw_tr := ((hzP108 this).2 tr hn7).2.2.2
  refine pw_vl (fun m2 em2 => ?_)
  have hfr9 : ∀ z, ((la z < la this ∨ la this + 5 < la z)) → m2 z = (G 100) z := fr_up (e0 := (G 100)) (fun _ _ => rfl) em2 (show ¬ ((la this < la this ∨ la this + 5 < la this)) from by omega)
  have sm2 : (m2 this).toInt = p0.toInt := by rw [em2, va_up_self]
  refine pw_vl (fun m7 em7 => ?_)
  have hfr10 : ∀ z, ((la z < la this ∨ la this + 5 < la z)) → m7 z = (G 102) z := fr_up (e0 := (G 102)) (fun _ _ => rfl) em7 (show ¬ ((la this < la this ∨ la this + 5 < la this)) from by omega)
  have hg11 : rng (0) 40 m7 := by rw [em7]; exact rng_vup hzG102 (by omega) (by omega)
  have sm7 : (m7 this).toInt = 0 := by rw [em7, va_up_self]; decide +kernel
  have b12 := hg11 this
  refine pw_nne hn5 ?_
  refine pw_vl (fun m15 em15 => ?_)
  have hfr13 : ∀ z, ((la z < la this ∨ la this + 5 < la z)) → m15 z = (G 203) z := fr_up (e0 := (G 203)) (fun _ _ => rfl) em15 (show ¬ ((la pr < la this ∨ la this + 5 < la pr)) from by omega)
  have hg14 : rng (0) 100 m15 := by rw [em15]; exact rng_vup hzG203 (by omega) (by omega)
  have sm15 : (m15 pr).toInt = 0 := by rw [em15, va_up_self]; decide +kernel
  have b15 := hg14 pr
  have hRB16 : RB κ ln (G 200) m15 (P 202) (V 1) := by rw [em15]; exact RB_cnt hzRB (fun s hs => by omega)
  refine pw_nne hn1 ?_
  refine pw_vl (fun m23 em23 => ?_)
  have hfr17 : ∀ z, ((la z < la this ∨ la this + 5 < la z)) → m23 z = (G 203) z := fr_up (e0 := (G 203)) hfr13 em23 (show ¬ ((la er < la this ∨ la this + 5 < la er)) from by omega)
  have hg18 : rng (0) 100 m23 := by rw [em23]; exact rng_vup hg14 (by omega) (by omega)
  have sm23 : (m23 er).toInt = 0 := by rw [em23, va_up_self]; decide +kernel
  have b19 := hg18 er
  have hRB20 : RB κ ln (G 200) m23 (P 202) (V 1) := by rw [em23]; exact RB_cnt hRB16 (fun s hs => by omega)
  refine pw_nne hn3 ?_
  refine pw_vl (fun m31 em31 => ?_)
  have hfr21 : ∀ z, ((la z < la this ∨ la this + 5 < la z)) → m31 z = (G 203) z := fr_up (e0 := (G 203)) hfr17 em31 (show ¬ ((la br < la this ∨ la this + 5 < la br)) from by omega)
  have hg22 : rng (0) 100 m31 := by rw [em31]; exact rng_vup hg18 (by omega) (by omega)
  have sm31 : (m31 br).toInt = 0 := by rw [em31, va_up_self]; decide +kernel
  have b23 := hg22 br
  have hRB24 : RB κ ln (G 200) m31 (P 202) (V 1) := by rw [em31]; exact RB_cnt hRB20 (fun s hs => by omega)
  refine pw_vl (fun m36 em36 => ?_)
  have hfr25 : ∀ z, ((la z < la this ∨ la this + 5 < la z)) → m36 z = (G 107) z := fr_up (e0 := (G 107)) (fun _ _ => rfl) em36 (show ¬ ((la this < la this ∨ la this + 5 < la this)) from by omega)
  have sm36 : (m36 this).toInt = 0 := by rw [em36, va_up_self]; decide +kernel
  refine pw_nne hn7 ?_
  refine pw_vl (fun m44 em44 => ?_)
  have hfr26 : ∀ z, ((la z < la this ∨ la this + 5 < la z)) → m44 z = (G 203) z := fr_up (e0 := (G 203)) hfr21 em44 (show ¬ ((la tr < la this ∨ la this + 5 < la tr)) from by omega)
  have hg27 : rng (0) 100 m44 := by rw [em44]; exact rng_vup hg22 (by omega) (by omega)
  have sm44 : (m44 tr).toInt = 0 := by rw [em44, va_up_self]; decide +kernel
  have b28 := hg27 tr
  have hRB29 : RB κ ln (G 200) m44 (P 202) (V 1) := by rw [em44]; exact RB_cnt hRB24 (fun s hs => by omega)
  have qq0 : (m7 this).toInt = 0 ∧ (m36 this).toInt = 0 ∧ m2 this = p0 := by exact ⟨by omega, by omega, by rw [em2, va_up_self]⟩
  have qq1 : (m44 er).toInt = 0 ∧ (m44 br).toInt = 0 ∧ (m44 pr).toInt = 0 := by refine ⟨?_, ?_, ?_⟩; (rw [em44, va_up_ne _ _ (fun q9 => by have q8 := congrArg la q9; omega), em31, va_up_ne _ _ (fun q9 => by have q8 := congrArg la q9; omega)]; exact sm23); (rw [em44, va_up_ne _ _ (fun q9 => by have q8 := congrArg la q9; omega)]; exact sm31); (rw [em44, va_up_ne _ _ (fun q9 => by have q8 := congrArg la q9; omega), em31, va_up_ne _ _ (fun q9 => by have q8 := congrArg la q9; omega), em23, va_up_ne _ _ (fun q9 => by have q8 := congrArg la q9; omega)]; exact sm15)
  have qq2 : (m44 tr).toInt = 0 := by exact sm44
  exact pw_some ⟨qq0, qq1, qq2⟩
abbrev QF_X9_turnParts2 (κ : Nat → Nat) (wd : Nat) (la : Nat → Nat) (G : Nat → Nat → Int32) (P : Nat → Nat → Option Nat) (U : Nat → Nat → Int64) (V : Nat → Nat → Nat → Int32) (X : Nat → Nat → Nat → Int64) (O : Nat → Nat → Nat → Option Nat) (kd : Nat → Nat) (ln : Nat → Nat) (cnt : Nat) (this : Nat) (p0 : Nat) (nw : Nat) (nx : Nat) (pr : Nat) (lpp : Nat) (sp : Nat) (lr : Nat) (tr : Nat) (ph : Nat) (tl : Nat) (ts : Nat) (ps : List Wd) (ls : List Lw) : ((Nat → Int32) × (Nat → Int32) × (Nat → Option Nat) × (Nat → Option Nat) × (Nat → Int64) × (Nat → Nat → Int32) × (Nat → Nat → Int32) × (Nat → Nat → Int32) × (Nat → Nat → Int64)) → Prop := (fun t => ((∀ z, la z ≠ la p0 + 4 → (la z < 90 ∨ 98 < la z) → (t.2.2.2.2.2.1) z = (V 0) z ∧ (t.2.2.2.2.2.2.1) z = (V 1) z ∧ (t.2.1) z = (G 203) z)) ∧ (TPV ((t.2.1) tr) ((t.2.2.2.2.2.1) tl) ((t.2.2.2.2.2.2.1) ts) ((t.2.2.2.2.2.2.2.1) ph) ps ls) ∧ ((∃ nwb nxb, (t.2.2.1) this = some nwb ∧ (t.2.2.2.1) this = some nxb ∧ ((nwb = nw ∧ nxb = nx) ∨ (nwb = nx ∧ nxb = nw)))))
set_option maxHeartbeats 4000000 in
set_option maxRecDepth 100000 in
theorem fn_X9_turnParts2 (κ : Nat → Nat) (wd : Nat) (la : Nat → Nat) (G : Nat → Nat → Int32) (P : Nat → Nat → Option Nat) (U : Nat → Nat → Int64) (V : Nat → Nat → Nat → Int32) (X : Nat → Nat → Nat → Int64) (O : Nat → Nat → Nat → Option Nat) (kd : Nat → Nat) (ln : Nat → Nat) (cnt : Nat) (this : Nat) (p0 : Nat) (nw : Nat) (nx : Nat) (pr : Nat) (lpp : Nat) (sp : Nat) (lr : Nat) (tr : Nat) (ph : Nat) (tl : Nat) (ts : Nat) (ps : List Wd) (ls : List Lw) (hzG102 : rng (0) 40 (G 102)) (hzG183 : rng (0) 40 (G 183)) (hzG200 : rng (0) 24 (G 200)) (hzG203 : rng (0) 100 (G 203)) (hzP20 : PB κ ln wd 2 100 0 16 0 (P 20)) (hzP21 : PB κ ln wd 2 100 0 16 0 (P 21)) (hzP22 : PB κ ln wd 2 100 0 16 0 (P 22)) (hzP23 : PB κ ln wd 2 100 0 16 0 (P 23)) (hzP101 : PB κ ln wd 6 300 40 40 0 (P 101)) (hzP103 : PB κ ln wd 6 11 0 2500 1 (P 103)) (hzP108 : PB κ ln wd 6 11 0 2500 1 (P 108)) (hzP109 : PB κ ln wd 6 111 40 40 0 (P 109)) (hzP110 : PB κ ln wd 6 200 40 40 0 (P 110)) (hzP181 : PB κ ln wd 10 100 40 40 0 (P 181)) (hzP182 : PB κ ln wd 10 100 40 40 0 (P 182)) (hzP201 : PB κ ln wd 11 100 0 2400 0 (P 201)) (hzP202 : PB κ ln wd 11 101 0 100 0 (P 202)) (hzV1 : rng2 (0) 24 (V 1)) (hzO0 : OB κ 2 (O 0)) (hzRA : RA κ ln (G 200) (P 201) (P 202)) (hzRB : RB κ ln (G 200) (G 203) (P 202) (V 1)) (hzRI : RI (P 202)) (hzRM103 : RM ln 40 (P 103) (P 202)) (hzRM108 : RM ln 40 (P 108) (P 202)) (hzLN : LN κ ln) (hk_this : κ this = 10) (hk_p0 : κ p0 = 6) (hB : LB la cnt P) (hlt_this : this < cnt) (hlt_p0 : p0 < cnt) (hld : 100000 ≤ la p0) (hlh : la this = 90) (h181 : (P 181) this = some nw) (h182 : (P 182) this = some nx) (hnn : nw ≠ nx) (h103 : (P 103) p0 = some pr) (hlq : (P 201) pr = some lpp) (hsq : (P 202) pr = some sp) (hwq : ((G 200) pr).toInt = ((16 : Nat) : Int)) (hps : rwW ((G 203) pr) ((V 0) lpp) ((V 1) sp) 16 = ps) (hlr : (P 101) p0 = some lr) (hls : lwsV ((G 102) p0) ((O 0) lr) (P 20) (P 21) (P 22) (P 23) (G 24) (G 25) (V 0) ln = ls) (hLW : LWL ((G 102) p0) ((O 0) lr) la cnt (la p0 + 5)) (hwl : ∀ L ∈ ls, 1 ≤ L.1.length ∧ BW L.2.1) (hwp : ∀ w ∈ ps, BW w ∧ w.length ≤ 16) (h108 : (P 108) p0 = some tr) (h109 : (P 109) p0 = some ph) (htl : (P 201) tr = some tl) (hts : (P 202) tr = some ts) (hwt : ((G 200) tr).toInt = ((24 : Nat) : Int)) (hn40 : ln ts = 40) (hz0 : ((G 203) tr).toInt = 0) (hp40 : ps.length ≤ 40) : pw (f_X9_turnParts G P U V X O kd ln cnt this p0) (QF_X9_turnParts2 κ wd la G P U V X O kd ln cnt this p0 nw nx pr lpp sp lr tr ph tl ts ps ls) := by
  unfold f_X9_turnParts
  have zk0 : (0 : Int32).toInt = 0 := by decide +kernel
  replace hnn : id _ := hnn
  have hn1 : (P 181) this = some nw := h181
  obtain ⟨_, lt_nw2, lb_nw2⟩ := (hB.1 181 fl_181) this nw hn1
  have lb_nw2 : 91 ≤ la nw ∧ la nw ≤ 92 := by have z9 := lk_181.mp lb_nw2; rw [hlh] at z9; exact or_bd z9 (by decide)
  have hk_nw := ((hzP181 this).2 nw hn1).1
  have hl1_nw := ((hzP181 this).2 nw hn1).2.1
  have hl2_nw := ((hzP181 this).2 nw hn1).2.2.1
  have hw_nw : id _ := ((hzP181 this).2 nw hn1).2.2.2
  have hz_nw : (Int32.ofNat (ln nw)).toInt = ((ln nw : Nat) : Int) := ofN_eq (by first | exact Nat.le_trans hl2_nw (by decide) | omega)
  have hn3 : (P 182) this = some nx := h182
  obtain ⟨_, lt_nx4, lb_nx4⟩ := (hB.1 182 fl_182) this nx hn3
  have lb_nx4 : 91 ≤ la nx ∧ la nx ≤ 92 := by have z9 := lk_182.mp lb_nx4; rw [hlh] at z9; exact or_bd z9 (by decide)
  have hk_nx := ((hzP182 this).2 nx hn3).1
  have hl1_nx := ((hzP182 this).2 nx hn3).2.1
  have hl2_nx := ((hzP182 this).2 nx hn3).2.2.1
  have hw_nx : id _ := ((hzP182 this).2 nx hn3).2.2.2
  have hz_nx : (Int32.ofNat (ln nx)).toInt = ((ln nx : Nat) : Int) := ofN_eq (by first | exact Nat.le_trans hl2_nx (by decide) | omega)
  have hn5 : (P 103) p0 = some pr := h103
  have lt_pr6 := ((hB.1 103 fl_103) p0 pr hn5).2.1
  have lb_pr6 : la pr = la p0 + 1 := lk_103.mp ((hB.1 103 fl_103) p0 pr hn5).2.2
  have hk_pr := ((hzP103 p0).2 pr hn5).1
  have hl1_pr := ((hzP103 p0).2 pr hn5).2.1
  have hl2_pr := ((hzP103 p0).2 pr hn5).2.2.1
  have hw_pr : id _ := ((hzP103 p0).2 pr hn5).2.2.2
  have hn7 : (P 201) pr = some lpp := hlq
  have lt_lpp8 := ((hB.1 201 fl_201) pr lpp hn7).2.1
  have lb_lpp8 : la lpp = la pr + 0 := lk_201.mp ((hB.1 201 fl_201) pr lpp hn7).2.2
  have hk_lpp := ((hzP201 pr).2 lpp hn7).1
  have hl1_lpp := ((hzP201 pr).2 lpp hn7).2.1
  have hl2_lpp := ((hzP201 pr).2 lpp hn7).2.2.1
  have hw_lpp : id _ := ((hzP201 pr).2 lpp hn7).2.2.2
  have hz_lpp : (Int32.ofNat (ln lpp)).toInt = ((ln lpp : Nat) : Int) := ofN_eq (by first | exact Nat.le_trans hl2_lpp (by decide) | omega)
  have hn9 : (P 202) pr = some sp := hsq
  have lt_sp10 := ((hB.1 202 fl_202) pr sp hn9).2.1
  have lb_sp10 : la sp = la pr + 0 := lk_202.mp ((hB.1 202 fl_202) pr sp hn9).2.2
  have hk_sp := ((hzP202 pr).2 sp hn9).1
  have hl1_sp := ((hzP202 pr).2 sp hn9).2.1
  have hl2_sp := ((hzP202 pr).2 sp hn9).2.2.1
  have hw_sp : id _ := ((hzP202 pr).2 sp hn9).2.2.2
  have hz_sp : (Int32.ofNat (ln sp)).toInt = ((ln sp : Nat) : Int) := ofN_eq (by first | exact Nat.le_trans hl2_sp (by decide) | omega)
  have rb11 := (hzRB pr sp hk_pr hn9).1
  have ra12 := hzRA pr lpp sp hk_pr hn7 hn9
  have bw13 := hzG200 pr
  have hn14 : (P 101) p0 = some lr := hlr
  have lt_lr15 := ((hB.1 101 fl_101) p0 lr hn14).2.1
  have lb_lr15 : la lr = la p0 + 0 := lk_101.mp ((hB.1 101 fl_101) p0 lr hn14).2.2
  have hk_lr := ((hzP101 p0).2 lr hn14).1
  have hl1_lr := ((hzP101 p0).2 lr hn14).2.1
  have hl2_lr := ((hzP101 p0).2 lr hn14).2.2.1
  have hw_lr : id _ := ((hzP101 p0).2 lr hn14).2.2.2
  have hz_lr : (Int32.ofNat (ln lr)).toInt = ((ln lr : Nat) : Int) := ofN_eq (by first | exact Nat.le_trans hl2_lr (by decide) | omega)
  have hn16 : (P 108) p0 = some tr := h108
  have lt_tr17 := ((hB.1 108 fl_108) p0 tr hn16).2.1
  have lb_tr17 : la tr = la p0 + 4 := lk_108.mp ((hB.1 108 fl_108) p0 tr hn16).2.2
  have hk_tr := ((hzP108 p0).2 tr hn16).1
  have hl1_tr := ((hzP108 p0).2 tr hn16).2.1
  have hl2_tr := ((hzP108 p0).2 tr hn16).2.2.1
  have hw_tr : id _ := ((hzP108 p0).2 tr hn16).2.2.2
  have hn18 : (P 109) p0 = some ph := h109
  have lt_ph19 := ((hB.1 109 fl_109) p0 ph hn18).2.1
  have lb_ph19 : la ph = la p0 + 0 := lk_109.mp ((hB.1 109 fl_109) p0 ph hn18).2.2
  have hk_ph := ((hzP109 p0).2 ph hn18).1
  have hl1_ph := ((hzP109 p0).2 ph hn18).2.1
  have hl2_ph := ((hzP109 p0).2 ph hn18).2.2.1
  have hw_ph : id _ := ((hzP109 p0).2 ph hn18).2.2.2
  have hz_ph : (Int32.ofNat (ln ph)).toInt = ((ln ph : Nat) : Int) := ofN_eq (by first | exact Nat.le_trans hl2_ph (by decide) | omega)
  have hn20 : (P 201) tr = some tl := htl
  have lt_tl21 := ((hB.1 201 fl_201) tr tl hn20).2.1
  have lb_tl21 : la tl = la tr + 0 := lk_201.mp ((hB.1 201 fl_201) tr tl hn20).2.2
  have hk_tl := ((hzP201 tr).2 tl hn20).1
  have hl1_tl := ((hzP201 tr).2 tl hn20).2.1
  have hl2_tl := ((hzP201 tr).2 tl hn20).2.2.1
  have hw_tl : id _ := ((hzP201 tr).2 tl hn20).2.2.2
  have hz_tl : (Int32.ofNat (ln tl)).toInt = ((ln tl : Nat) : Int) := ofN_eq (by first | exact Nat.le_trans hl2_tl (by decide) | omega)
  have hn22 : (P 202) tr = some ts := hts
  have lt_ts23 := ((hB.1 202 fl_202) tr ts hn22).2.1
  have lb_ts23 : la ts = la tr + 0 := lk_202.mp ((hB.1 202 fl_202) tr ts hn22).2.2
  have hk_ts := ((hzP202 tr).2 ts hn22).1
  have hl1_ts := ((hzP202 tr).2 ts hn22).2.1
  have hl2_ts := ((hzP202 tr).2 ts hn22).2.2.1
  have hw_ts : id _ := ((hzP202 tr).2 ts hn22).2.2.2
  have hz_ts : (Int32.ofNat (ln ts)).toInt = ((ln ts : Nat) : Int) := ofN_eq (by first | exact Nat.le_trans hl2_ts (by decide) | omega)
  have rb24 := (hzRB tr ts hk_tr hn22).1
  have ra25 := hzRA tr tl ts hk_tr hn20 hn22
  have bw26 := hzG200 tr
  have hb3 := hzG203 pr
  have cpt := clampI (x := (G 203) pr) (by omega)
  have hpl : ps.length = Int32.toNatClampNeg ((G 203) pr) := by rw [← hps]; exact rw_len
  have hra := hzRA pr lpp sp hk_pr hlq hsq
  have hrb := hzRB pr sp hk_pr hsq
  have hrb1 := hrb.1
  refine pw_nne hn5 ?_
  have lp7 : ∀ (n7 : Nat) (y7_3 : Int32) (d7_G183 : Nat → Int32) (d7_G203 : Nat → Int32) (d7_P181 : Nat → Option Nat) (d7_P182 : Nat → Option Nat) (d7_U184 : Nat → Int64) (d7_V0 : Nat → Nat → Int32) (d7_V1 : Nat → Nat → Int32) (d7_V11 : Nat → Nat → Int32) (d7_X0 : Nat → Nat → Int64), rng (0) 40 d7_G183 → rng (0) 100 d7_G203 → PB κ ln wd 10 100 40 40 0 d7_P181 → PB κ ln wd 10 100 40 40 0 d7_P182 → rng2 (0) 24 d7_V1 → RB κ ln (G 200) d7_G203 (P 202) d7_V1 → (∀ z, ((la z < la this ∨ la this + 8 < la z) ∧ (la z < la p0 ∨ la p0 + 5 < la z)) → d7_G183 z = (G 183) z) → (∀ z, ((la z < la this ∨ la this + 8 < la z) ∧ (la z < la p0 ∨ la p0 + 5 < la z)) → d7_G203 z = (G 203) z) → (∀ z, ((la z < la this ∨ la this + 8 < la z) ∧ (la z < la p0 ∨ la p0 + 5 < la z)) → d7_P181 z = (P 181) z) → LC 181 la cnt d7_P181 → (∀ z, ((la z < la this ∨ la this + 8 < la z) ∧ (la z < la p0 ∨ la p0 + 5 < la z)) → d7_P182 z = (P 182) z) → LC 182 la cnt d7_P182 → (∀ z, ((la z < la this ∨ la this + 8 < la z) ∧ (la z < la p0 ∨ la p0 + 5 < la z)) → d7_U184 z = (U 184) z) → (∀ z, ((la z < la this ∨ la this + 8 < la z) ∧ (la z < la p0 ∨ la p0 + 5 < la z)) → d7_V0 z = (V 0) z) → (∀ z, ((la z < la this ∨ la this + 8 < la z) ∧ (la z < la p0 ∨ la p0 + 5 < la z)) → d7_V1 z = (V 1) z) → (∀ z, ((la z < la this ∨ la this + 8 < la z) ∧ (la z < la p0 ∨ la p0 + 5 < la z)) → d7_V11 z = (V 11) z) → (∀ z, ((la z < la this ∨ la this + 8 < la z) ∧ (la z < la p0 ∨ la p0 + 5 < la z)) → d7_X0 z = (X 0) z) → (0 ≤ y7_3.toInt ∧ y7_3.toInt ≤ 100) → d7_G203 wd = (G 203) wd → y7_3.toInt ≤ ((G 203) pr).toInt → (∀ z, la z ≠ la p0 + 4 → (la z < 90 ∨ 98 < la z) → d7_V0 z = (V 0) z ∧ d7_V1 z = (V 1) z ∧ d7_G203 z = (G 203) z) → (∃ nw1 nx1, d7_P181 this = some nw1 ∧ d7_P182 this = some nx1 ∧ ((nw1 = nw ∧ nx1 = nx) ∨ (nw1 = nx ∧ nx1 = nw))) → (rwW (d7_G203 tr) (d7_V0 tl) (d7_V1 ts) 24 = (ps.take (Int32.toNatClampNeg y7_3)).map (fun x9 => (runL ls x9).getD [])) → (∀ j x9, j < Int32.toNatClampNeg y7_3 → ps[j]? = some x9 → ((d7_V11 ph j).toInt ≠ 0 ↔ runL ls x9 ≠ none)) → pw (L_X9_turnParts_7 G P U V X O kd ln cnt this p0 pr n7 y7_3 d7_G183 d7_G203 d7_P181 d7_P182 d7_U184 d7_V0 d7_V1 d7_V11 d7_X0) (QF_X9_turnParts2 κ wd la G P U V X O kd ln cnt this p0 nw nx pr lpp sp lr tr ph tl ts ps ls) := by
    intro n7
    induction n7 with
    | zero => intros; exact pw_none
    | succ n7 ih7 =>
      intro y7_3 d7_G183 d7_G203 d7_P181 d7_P182 d7_U184 d7_V0 d7_V1 d7_V11 d7_X0 hg27 hg28 hg29 hg30 hg31 hRB32 hfr33 hfr34 hfr35 hl36 hfr37 hl38 hfr39 hfr40 hfr41 hfr42 hfr43 f44 f45 f46 ft7 is7 ir7 iq7
      replace is7 : id _ := is7
      show pw (B_X9_turnParts_7 G P U V X O kd ln cnt this p0 pr (L_X9_turnParts_7 G P U V X O kd ln cnt this p0 pr n7) y7_3 d7_G183 d7_G203 d7_P181 d7_P182 d7_U184 d7_V0 d7_V1 d7_V11 d7_X0) _
      unfold B_X9_turnParts_7
      obtain ⟨nw1, nx1, e181, e182, hsw⟩ := is7
      replace hsw : id _ := hsw
      have b7t := hg28 tr
      have c7t := clampI (x := d7_G203 tr) (by omega)
      have hrl := congrArg List.length ir7
      rw [rw_len, List.length_map, List.length_take] at hrl
      have hp3 : d7_G203 pr = (G 203) pr := (ft7 pr (by omega) (by omega)).2.2
      have hp3i := congrArg Int32.toInt hp3
      have hv0 : d7_V0 lpp = (V 0) lpp := (ft7 lpp (by omega) (by omega)).1
      have hv1 : d7_V1 sp = (V 1) sp := (ft7 sp (by omega) (by omega)).2.1
      have hn47 : d7_P181 this = some nw1 := e181
      obtain ⟨_, lt_nw148, lb_nw148⟩ := hl36 this nw1 hn47
      have lb_nw148 : 91 ≤ la nw1 ∧ la nw1 ≤ 92 := by have z9 := lk_181.mp lb_nw148; rw [hlh] at z9; exact or_bd z9 (by decide)
      have hk_nw1 := ((hg29 this).2 nw1 hn47).1
      have hl1_nw1 := ((hg29 this).2 nw1 hn47).2.1
      have hl2_nw1 := ((hg29 this).2 nw1 hn47).2.2.1
      have hw_nw1 : id _ := ((hg29 this).2 nw1 hn47).2.2.2
      have hz_nw1 : (Int32.ofNat (ln nw1)).toInt = ((ln nw1 : Nat) : Int) := ofN_eq (by first | exact Nat.le_trans hl2_nw1 (by decide) | omega)
      have hn49 : d7_P182 this = some nx1 := e182
      obtain ⟨_, lt_nx150, lb_nx150⟩ := hl38 this nx1 hn49
      have lb_nx150 : 91 ≤ la nx1 ∧ la nx1 ≤ 92 := by have z9 := lk_182.mp lb_nx150; rw [hlh] at z9; exact or_bd z9 (by decide)
      have hk_nx1 := ((hg30 this).2 nx1 hn49).1
      have hl1_nx1 := ((hg30 this).2 nx1 hn49).2.1
      have hl2_nx1 := ((hg30 this).2 nx1 hn49).2.2.1
      have hw_nx1 : id _ := ((hg30 this).2 nx1 hn49).2.2.2
      have hz_nx1 : (Int32.ofNat (ln nx1)).toInt = ((ln nx1 : Nat) : Int) := ofN_eq (by first | exact Nat.le_trans hl2_nx1 (by decide) | omega)
      have b51 := hg28 pr
      have rb52 := (hRB32 pr sp hk_pr hn9).1
      refine pw_ite (fun c12 => ?_) (fun c12 => ?_)
      · have c12 := (z_le _ _).mp c12
        have qq0 : id ((∀ z, la z ≠ la p0 + 4 → (la z < 90 ∨ 98 < la z) → d7_V0 z = (V 0) z ∧ d7_V1 z = (V 1) z ∧ d7_G203 z = (G 203) z)) := show (∀ z, la z ≠ la p0 + 4 → (la z < 90 ∨ 98 < la z) → d7_V0 z = (V 0) z ∧ d7_V1 z = (V 1) z ∧ d7_G203 z = (G 203) z) from by exact ft7
        have qq1 : TPV (d7_G203 tr) (d7_V0 tl) (d7_V1 ts) (d7_V11 ph) ps ls := by have k3 := clampI (x := y7_3) (by omega); refine TPV_of (by rw [ir7, List.take_of_length_le (by omega)]) (fun j x9 hx9 => iq7 j x9 (by have := get_lt hx9; omega) hx9) (by omega) (hg31 ts)
        have qq2 : id ((∃ nwb nxb, d7_P181 this = some nwb ∧ d7_P182 this = some nxb ∧ ((nwb = nw ∧ nxb = nx) ∨ (nwb = nx ∧ nxb = nw)))) := show (∃ nwb nxb, d7_P181 this = some nwb ∧ d7_P182 this = some nxb ∧ ((nwb = nw ∧ nxb = nx) ∨ (nwb = nx ∧ nxb = nw))) from by exact ⟨nw1, nx1, e181, e182, hsw⟩
        exact pw_some ⟨qq0, qq1, qq2⟩
      · have c12 := z_nle c12
        have k3 := clampI (x := y7_3) (by omega)
        obtain ⟨Wk, hx⟩ := get_ex (l := ps) (i := Int32.toNatClampNeg y7_3) (by omega)
        have hWk : wdl ((V 0) lpp) (16 * Int32.toNatClampNeg y7_3) (Int32.toNatClampNeg ((V 1) sp (Int32.toNatClampNeg y7_3))) = Wk := by rw [← hps, rw_at (by omega)] at hx; exact Option.some.inj hx
        obtain ⟨hm1, hm2, hm3⟩ := mulW (x := y7_3) (g := (G 200) pr) (w := 16) (by omega) hwq (by decide)
        have hri := rowix (x := y7_3) (w := (G 200) pr) hra (by omega) (by omega)
        have hlk := hrb.2 (Int32.toNatClampNeg y7_3)
        have hlv := hzV1 sp (Int32.toNatClampNeg y7_3)
        have hv1i := congrArg Int32.toInt (congrFun hv1 (Int32.toNatClampNeg y7_3))
        obtain ⟨wk1, wk2⟩ := hwp Wk (List.mem_of_getElem? hx)
        refine pw_nne hn7 ?_
        have b55 := hzG200 pr
        have f56 := zmw (x := y7_3) (y := ((G 200) pr)) (by omega) (by omega) (by omega) (by omega)
        have ix57 := rowix (x := y7_3) (hzRA pr lpp sp hk_pr hn7 hn9) (hzG200 pr).1
        refine pw_nne hn9 ?_
        refine pw_if (fun hb32 => ?_)
        obtain ⟨hbl32, hbr32⟩ := hb32
        have b58 := hg31 sp (Int32.toNatClampNeg y7_3)
        have rl59 := (hRB32 pr sp hk_pr hn9).2 (Int32.toNatClampNeg y7_3)
        have hpr33_0 : (0 ≤ (y7_3 * ((G 200) pr)).toInt ∧ 0 ≤ ((d7_V1 sp) (Int32.toNatClampNeg y7_3)).toInt ∧ (y7_3 * ((G 200) pr)).toInt + ((d7_V1 sp) (Int32.toNatClampNeg y7_3)).toInt ≤ ((ln lpp : Nat) : Int)) := by first | assumption | omega
        refine pw_b6 (fun r33 c33_G183 c33_P181 c33_P182 c33_U184 c33_V0 hc33 => ?_)
        have hq33 := wp_at (ok_X9_runLaws κ wd (va_up (va_up G 183 d7_G183) 203 d7_G203) (va_up (va_up P 181 d7_P181) 182 d7_P182) (va_up U 184 d7_U184) (va_up (va_up (va_up V 0 d7_V0) 1 d7_V1) 11 d7_V11) (va_up X 0 d7_X0) O kd ln cnt this p0 lpp (y7_3 * ((G 200) pr)) ((d7_V1 sp) (Int32.toNatClampNeg y7_3)) hzG102 hg27 hzP20 hzP21 hzP22 hzP23 hzP101 hg29 hg30 hzO0 hzLN hk_this hk_p0 hk_lpp hpr33_0) hc33
        obtain ⟨hg60, hg61, hg62, f63⟩ : (rng (0) 40 c33_G183) ∧ (PB κ ln wd 10 100 40 40 0 c33_P181) ∧ (PB κ ln wd 10 100 40 40 0 c33_P182) ∧ ((0 ≤ r33.toInt ∧ r33.toInt ≤ 1)) := hq33
        have hq33 := pwq (fr_X9_runLaws la (va_up (va_up G 183 d7_G183) 203 d7_G203) (va_up (va_up P 181 d7_P181) 182 d7_P182) (va_up U 184 d7_U184) (va_up (va_up (va_up V 0 d7_V0) 1 d7_V1) 11 d7_V11) (va_up X 0 d7_X0) O kd ln cnt this p0 lpp (y7_3 * ((G 200) pr)) ((d7_V1 sp) (Int32.toNatClampNeg y7_3)) (LB_set (LB_set hB hl36) hl38) hlt_this) hc33
        obtain ⟨q33_G183, q33_P181, q33_P182, q33_U184, q33_V0, ql33_181, ql33_182⟩ : (∀ z, (la z < la this ∨ la this + 8 < la z) → c33_G183 z = d7_G183 z) ∧ (∀ z, (la z < la this ∨ la this + 8 < la z) → c33_P181 z = d7_P181 z) ∧ (∀ z, (la z < la this ∨ la this + 8 < la z) → c33_P182 z = d7_P182 z) ∧ (∀ z, (la z < la this ∨ la this + 8 < la z) → c33_U184 z = d7_U184 z) ∧ (∀ z, (la z < la this ∨ la this + 8 < la z) → c33_V0 z = d7_V0 z) ∧ LC 181 la cnt c33_P181 ∧ LC 182 la cnt c33_P182 := hq33
        have tz33 : ∀ z, ((la z < la this ∨ la this + 8 < la z) ∧ (la z < la p0 ∨ la p0 + 5 < la z)) → ((la z < la this ∨ la this + 8 < la z)) := fun z hz => by omega
        have hfr64 : ∀ z, ((la z < la this ∨ la this + 8 < la z) ∧ (la z < la p0 ∨ la p0 + 5 < la z)) → c33_G183 z = (G 183) z := fun z hz => (q33_G183 z (tz33 z hz)).trans (hfr33 z hz)
        have hfr65 : ∀ z, ((la z < la this ∨ la this + 8 < la z) ∧ (la z < la p0 ∨ la p0 + 5 < la z)) → c33_P181 z = (P 181) z := fun z hz => (q33_P181 z (tz33 z hz)).trans (hfr35 z hz)
        have hfr66 : ∀ z, ((la z < la this ∨ la this + 8 < la z) ∧ (la z < la p0 ∨ la p0 + 5 < la z)) → c33_P182 z = (P 182) z := fun z hz => (q33_P182 z (tz33 z hz)).trans (hfr37 z hz)
        have hfr67 : ∀ z, ((la z < la this ∨ la this + 8 < la z) ∧ (la z < la p0 ∨ la p0 + 5 < la z)) → c33_U184 z = (U 184) z := fun z hz => (q33_U184 z (tz33 z hz)).trans (hfr39 z hz)
        have hfr68 : ∀ z, ((la z < la this ∨ la this + 8 < la z) ∧ (la z < la p0 ∨ la p0 + 5 < la z)) → c33_V0 z = (V 0) z := fun z hz => (q33_V0 z (tz33 z hz)).trans (hfr40 z hz)
        have h833_h181 : d7_P181 this = some (nw1) := by exact e181
        have h833_h182 : d7_P182 this = some (nx1) := by exact e182
        have h833_hne : (nw1) ≠ (nx1) := by exact sw_nn hsw hnn
        have h833_hW : wdl (d7_V0 lpp) (Int32.toNatClampNeg (y7_3 * ((G 200) pr))) (Int32.toNatClampNeg ((d7_V1 sp) (Int32.toNatClampNeg y7_3))) = (Wk) := by rw [hv0, hm1, hv1]; exact hWk
        have h833_hp3 : ((d7_V1 sp) (Int32.toNatClampNeg y7_3)).toInt ≤ 24 := by omega
        have h833_hlr : (P 101) p0 = some lr := by exact hlr
        have h833_hls : lwsV ((G 102) p0) ((O 0) lr) (P 20) (P 21) (P 22) (P 23) (G 24) (G 25) d7_V0 ln = ls := by rw [lws_eq hB hLW (fun z hz => (ft7 z (by omega) (by omega)).1)]; exact hls
        have h833_hLW : LWL ((G 102) p0) ((O 0) lr) la cnt (la p0 + 5) := by exact hLW
        have h833_hld : 100000 ≤ la p0 := by exact hld
        have h833_hlt9 : la this = 90 := by exact hlh
        have h833_hwf : ∀ L ∈ ls, 1 ≤ L.1.length ∧ BW L.2.1 := by exact hwl
        have h833_hbw : BW (Wk) := by exact wk1
        have hx33 := pwq (fn_X9_runLaws κ wd la (va_up (va_up G 183 d7_G183) 203 d7_G203) (va_up (va_up P 181 d7_P181) 182 d7_P182) (va_up U 184 d7_U184) (va_up (va_up (va_up V 0 d7_V0) 1 d7_V1) 11 d7_V11) (va_up X 0 d7_X0) O kd ln cnt this p0 lpp (y7_3 * ((G 200) pr)) ((d7_V1 sp) (Int32.toNatClampNeg y7_3)) (nw1) (nx1) (Wk) (lr) (ls) hzG102 hg27 hzP20 hzP21 hzP22 hzP23 hzP101 hg29 hg30 hzO0 hzLN hk_this hk_p0 hk_lpp hpr33_0 (LB_set (LB_set hB hl36) hl38) hlt_this hlt_p0 lt_lpp8 h833_h181 h833_h182 h833_hne h833_hW h833_hp3 h833_hlr h833_hls h833_hLW h833_hld h833_hlt9 h833_hwf h833_hbw) hc33
        obtain ⟨p33_0, p33_1, p33_2⟩ : (id ((r33.toInt = 0 → runL ls (Wk) = none))) ∧ (id ((∃ nwr nxr, c33_P181 this = some nwr ∧ c33_P182 this = some nxr ∧ nwr ≠ nxr ∧ ((nwr = (nw1) ∧ nxr = (nx1)) ∨ (nwr = (nx1) ∧ nxr = (nw1))) ∧ (r33.toInt ≠ 0 → ∃ Wr, runL ls (Wk) = some Wr ∧ BW Wr ∧ wdl (c33_V0 nwr) 0 (Int32.toNatClampNeg (c33_G183 this)) = Wr)))) ∧ (id ((∀ z, z ≠ (nw1) → z ≠ (nx1) → c33_V0 z = d7_V0 z))) := hx33
        clear h833_h181 h833_h182 h833_hne h833_hW h833_hp3 h833_hlr h833_hls h833_hLW h833_hld h833_hlt9 h833_hwf h833_hbw
        obtain ⟨nw2, nx2, e181b, e182b, hne2, hsw2, hrun⟩ := p33_1
        replace hne2 : id _ := hne2
        replace hsw2 : id _ := hsw2
        replace hrun : id _ := hrun
        have hbo : vp_nar .boolean r33 = r33 := bo_id (by by_cases q0 : r33.toInt = 0; (exact Or.inl (z_e (Eq.trans q0 (by decide)))); (exact Or.inr (z_e (Eq.trans (show r33.toInt = 1 by omega) (by decide)))))
        have b183 := hg60 this
        have c183 := clampI (x := c33_G183 this) (by omega)
        have hholds : r33.toInt ≠ 0 ↔ runL ls Wk ≠ none := ⟨fun q => by obtain ⟨W1, r1, _⟩ := hrun q; rw [r1]; exact (fun z => by cases z), fun q q2 => q (p33_0 q2)⟩
        have hn69 : c33_P181 this = some nw2 := e181b
        obtain ⟨_, lt_nw270, lb_nw270⟩ := ql33_181 this nw2 hn69
        have lb_nw270 : 91 ≤ la nw2 ∧ la nw2 ≤ 92 := by have z9 := lk_181.mp lb_nw270; rw [hlh] at z9; exact or_bd z9 (by decide)
        have hk_nw2 := ((hg61 this).2 nw2 hn69).1
        have hl1_nw2 := ((hg61 this).2 nw2 hn69).2.1
        have hl2_nw2 := ((hg61 this).2 nw2 hn69).2.2.1
        have hw_nw2 : id _ := ((hg61 this).2 nw2 hn69).2.2.2
        have hz_nw2 : (Int32.ofNat (ln nw2)).toInt = ((ln nw2 : Nat) : Int) := ofN_eq (by first | exact Nat.le_trans hl2_nw2 (by decide) | omega)
        refine pw_nne hn18 ?_
        refine pw_if (fun hb45 => ?_)
        obtain ⟨hbl45, hbr45⟩ := hb45
        refine pw_vl (fun m45 em45 => ?_)
        have hfr71 : ∀ z, ((la z < la this ∨ la this + 8 < la z) ∧ (la z < la p0 ∨ la p0 + 5 < la z)) → m45 z = (V 11) z := fr_up (e0 := (V 11)) hfr42 em45 (show ¬ ((la ph < la this ∨ la this + 8 < la ph) ∧ (la ph < la p0 ∨ la p0 + 5 < la ph)) from by omega)
        refine pw_nn (fun a47 hn_a47 => ?_)
        have lt_a4772 := ((hB.1 110 fl_110) p0 a47 hn_a47).2.1
        have lb_a4772 : la a47 = la p0 + 0 := lk_110.mp ((hB.1 110 fl_110) p0 a47 hn_a47).2.2
        have hk_a47 := ((hzP110 p0).2 a47 hn_a47).1
        have hl1_a47 := ((hzP110 p0).2 a47 hn_a47).2.1
        have hl2_a47 := ((hzP110 p0).2 a47 hn_a47).2.2.1
        have hw_a47 : id _ := ((hzP110 p0).2 a47 hn_a47).2.2.2
        have hz_a47 : (Int32.ofNat (ln a47)).toInt = ((ln a47 : Nat) : Int) := ofN_eq (by first | exact Nat.le_trans hl2_a47 (by decide) | omega)
        refine pw_if (fun hb55 => ?_)
        obtain ⟨hbl55, hbr55⟩ := hb55
        refine pw_vl (fun m55 em55 => ?_)
        have hfr73 : ∀ z, ((la z < la this ∨ la this + 8 < la z) ∧ (la z < la p0 ∨ la p0 + 5 < la z)) → m55 z = (X 0) z := fr_up (e0 := (X 0)) hfr43 em55 (show ¬ ((la a47 < la this ∨ la this + 8 < la a47) ∧ (la a47 < la p0 ∨ la p0 + 5 < la a47)) from by omega)
        refine pw_nne hn16 ?_
        refine pw_nne hn69 ?_
        refine pw_jE (fun j78 ej78 => ?_)
        refine pw_ite (fun c67 => ?_) (fun c67 => ?_)
        · have c67 := congrArg Int32.toInt c67
          refine pw_j1 ej78 (fun t78_0 et78_0 => ?_)
          have et78_0 := et78_0.symm
          have f_t78_0 : t78_0.toInt = 0 := by rw [et78_0]; decide +kernel
          refine pw_b3 (fun c78_G203 c78_V0 c78_V1 hc78 => ?_)
          have hq78 := wp_at (ok_X10_add κ wd (va_up (va_up (va_up G 183 d7_G183) 203 d7_G203) 183 c33_G183) (va_up (va_up (va_up (va_up P 181 d7_P181) 182 d7_P182) 181 c33_P181) 182 c33_P182) (va_up (va_up U 184 d7_U184) 184 c33_U184) (va_up (va_up (va_up (va_up (va_up V 0 d7_V0) 1 d7_V1) 11 d7_V11) 0 c33_V0) 11 m45) (va_up (va_up X 0 d7_X0) 0 m55) O kd ln cnt tr nw2 (0 : Int32) t78_0 hzG200 hg28 hzP201 hzP202 hg31 hzRA hRB32 hzRI hzLN hk_tr hk_nw2) hc78
          obtain ⟨hg74, hg75, hRB76, f77, f78⟩ : (rng (0) 100 c78_G203) ∧ (rng2 (0) 24 c78_V1) ∧ (RB κ ln (G 200) c78_G203 (P 202) c78_V1) ∧ (id ((tr ≠ wd → c78_G203 wd = d7_G203 wd))) ∧ ((d7_G203 tr).toInt ≤ (c78_G203 tr).toInt) := hq78
          have hq78 := pwq (fr_X10_add la (va_up (va_up (va_up G 183 d7_G183) 203 d7_G203) 183 c33_G183) (va_up (va_up (va_up (va_up P 181 d7_P181) 182 d7_P182) 181 c33_P181) 182 c33_P182) (va_up (va_up U 184 d7_U184) 184 c33_U184) (va_up (va_up (va_up (va_up (va_up V 0 d7_V0) 1 d7_V1) 11 d7_V11) 0 c33_V0) 11 m45) (va_up (va_up X 0 d7_X0) 0 m55) O kd ln cnt tr nw2 (0 : Int32) t78_0 (LB_set (LB_set (LB_set (LB_set hB hl36) hl38) ql33_181) ql33_182)) hc78
          obtain ⟨q78_G203, q78_V0, q78_V1⟩ : (∀ z, (la z < la tr ∨ la tr < la z) → c78_G203 z = d7_G203 z) ∧ (∀ z, (la z < la tr ∨ la tr < la z) → c78_V0 z = c33_V0 z) ∧ (∀ z, (la z < la tr ∨ la tr < la z) → c78_V1 z = d7_V1 z) := hq78
          have tz78 : ∀ z, ((la z < la this ∨ la this + 8 < la z) ∧ (la z < la p0 ∨ la p0 + 5 < la z)) → ((la z < la tr ∨ la tr < la z)) := fun z hz => by omega
          have hfr79 : ∀ z, ((la z < la this ∨ la this + 8 < la z) ∧ (la z < la p0 ∨ la p0 + 5 < la z)) → c78_G203 z = (G 203) z := fun z hz => (q78_G203 z (tz78 z hz)).trans (hfr34 z hz)
          have hfr80 : ∀ z, ((la z < la this ∨ la this + 8 < la z) ∧ (la z < la p0 ∨ la p0 + 5 < la z)) → c78_V0 z = (V 0) z := fun z hz => (q78_V0 z (tz78 z hz)).trans (hfr68 z hz)
          have hfr81 : ∀ z, ((la z < la this ∨ la this + 8 < la z) ∧ (la z < la p0 ∨ la p0 + 5 < la z)) → c78_V1 z = (V 1) z := fun z hz => (q78_V1 z (tz78 z hz)).trans (hfr41 z hz)
          have h878_hl : (P 201) tr = some (tl) := by exact htl
          have h878_hs : (P 202) tr = some (ts) := by exact hts
          have h878_hw : ((G 200) tr).toInt = ((24) : Int) := by exact hwt
          have h878_hst : 0 ≤ (0 : Int32).toInt := by omega
          have h878_hm : 0 ≤ t78_0.toInt := by omega
          have h878_hmw : t78_0.toInt ≤ ((24) : Int) := by omega
          have h878_hlf : (0 : Int32).toInt + t78_0.toInt ≤ ((ln nw2 : Nat) : Int) := by omega
          have h878_hw24 : (24) ≤ 24 := by decide
          have hx78 := pwq (fn_X10_add2 κ wd la (va_up (va_up (va_up G 183 d7_G183) 203 d7_G203) 183 c33_G183) (va_up (va_up (va_up (va_up P 181 d7_P181) 182 d7_P182) 181 c33_P181) 182 c33_P182) (va_up (va_up U 184 d7_U184) 184 c33_U184) (va_up (va_up (va_up (va_up (va_up V 0 d7_V0) 1 d7_V1) 11 d7_V11) 0 c33_V0) 11 m45) (va_up (va_up X 0 d7_X0) 0 m55) O kd ln cnt tr nw2 (0 : Int32) t78_0 (tl) (ts) (24) hzG200 hg28 hzP201 hzP202 hg31 hzRA hRB32 hzRI hzLN hk_tr hk_nw2 (LB_set (LB_set (LB_set (LB_set hB hl36) hl38) ql33_181) ql33_182) lt_tr17 lt_nw270 h878_hl h878_hs h878_hw h878_hst h878_hm h878_hmw h878_hlf h878_hw24) hc78
          obtain ⟨p78_0, p78_1, p78_2, p78_3⟩ : (rwW (c78_G203 tr) (c78_V0 (tl)) (c78_V1 (ts)) (24) = (if (d7_G203 tr).toInt < ((ln (ts) : Nat) : Int) then rwW (d7_G203 tr) (c33_V0 (tl)) (d7_V1 (ts)) (24) ++ [wdl (c33_V0 nw2) (Int32.toNatClampNeg (0 : Int32)) (Int32.toNatClampNeg t78_0)] else rwW (d7_G203 tr) (c33_V0 (tl)) (d7_V1 (ts)) (24))) ∧ (id ((∀ z, z ≠ (tl) → c78_V0 z = c33_V0 z))) ∧ (id ((∀ z, z ≠ (ts) → c78_V1 z = d7_V1 z))) ∧ (id ((∀ z, z ≠ tr → c78_G203 z = d7_G203 z))) := hx78
          clear h878_hl h878_hs h878_hw h878_hst h878_hm h878_hmw h878_hlf h878_hw24
          have hgw := f77 (hw_tr rfl)
          have f82 : (y7_3 + 1).toInt = y7_3.toInt + (1) := z_addc (by decide +kernel) (by omega) (by omega)
          have hgA : c78_G203 wd = (G 203) wd := hgw.trans (by assumption)
          have iv7_0 : (0 ≤ (y7_3 + 1).toInt ∧ (y7_3 + 1).toInt ≤ 100) := by first | omega | rfl | assumption
          have iv7_1 : c78_G203 wd = (G 203) wd := by first | rfl | assumption | omega
          have iv7_2 : (y7_3 + 1).toInt ≤ ((G 203) pr).toInt := by first | omega | rfl | assumption
          have iv7_3 : (∀ z, la z ≠ la p0 + 4 → (la z < 90 ∨ 98 < la z) → c78_V0 z = (V 0) z ∧ c78_V1 z = (V 1) z ∧ c78_G203 z = (G 203) z) := by intro z h1 h2; obtain ⟨a1, a2, a3⟩ := ft7 z h1 h2; exact ⟨(q78_V0 z (by omega)).trans ((q33_V0 z (by omega)).trans a1), (q78_V1 z (by omega)).trans a2, (q78_G203 z (by omega)).trans a3⟩
          have iv7_4 : id ((∃ nw1 nx1, c33_P181 this = some nw1 ∧ c33_P182 this = some nx1 ∧ ((nw1 = nw ∧ nx1 = nx) ∨ (nw1 = nx ∧ nx1 = nw)))) := show (∃ nw1 nx1, c33_P181 this = some nw1 ∧ c33_P182 this = some nx1 ∧ ((nw1 = nw ∧ nx1 = nx) ∨ (nw1 = nx ∧ nx1 = nw))) from by exact ⟨nw2, nx2, e181b, e182b, sw_tr hsw2 hsw⟩
          have iv7_5 : (rwW (c78_G203 tr) (c78_V0 tl) (c78_V1 ts) 24 = (ps.take (Int32.toNatClampNeg (y7_3 + 1))).map (fun x9 => (runL ls x9).getD [])) := by have k4 := clampI (x := y7_3 + 1) (by omega); rw [p78_0, if_pos (by omega), p33_2 tl (fun q => by have q9 := congrArg la q; omega) (fun q => by have q9 := congrArg la q; omega), ir7, show Int32.toNatClampNeg (y7_3 + 1) = Int32.toNatClampNeg y7_3 + 1 by omega, take_s hx, List.map_append]; exact congrArg (fun z => (ps.take (Int32.toNatClampNeg y7_3)).map (fun x9 => (runL ls x9).getD []) ++ [z]) (by rw [show Int32.toNatClampNeg (0 : Int32) = 0 from rfl, show Int32.toNatClampNeg t78_0 = 0 by rw [et78_0]; rfl]; show [] = (runL ls Wk).getD []; rw [p33_0 (by omega)]; rfl)
          have iv7_6 : (∀ j x9, j < Int32.toNatClampNeg (y7_3 + 1) → ps[j]? = some x9 → ((m45 ph j).toInt ≠ 0 ↔ runL ls x9 ≠ none)) := by have k4 := clampI (x := y7_3 + 1) (by omega); intro j x9 hj hx9; by_cases q9 : j = Int32.toNatClampNeg y7_3; (subst q9; rw [hx] at hx9; cases hx9; rw [em45, va_up_self, pk_us, hbo]; exact hholds); (rw [em45, va_up_self, pk_un q9]; exact iq7 j x9 (by omega) hx9)
          exact ih7 (y7_3 + 1) c33_G183 c78_G203 c33_P181 c33_P182 c33_U184 c78_V0 c78_V1 m45 m55 hg60 hg74 hg61 hg62 hg75 hRB76 hfr64 hfr79 hfr65 ql33_181 hfr66 ql33_182 hfr67 hfr80 hfr81 hfr71 hfr73 iv7_0 iv7_1 iv7_2 iv7_3 iv7_4 iv7_5 iv7_6
        · have c67 : r33.toInt = 1 := by have z9 := z_ne c67; omega
          obtain ⟨W1, r1, r2, r3⟩ := hrun (by omega)
          have hW1l : W1.length = Int32.toNatClampNeg (c33_G183 this) := by rw [← r3]; exact wdl_len
          have hW24 := runL_le _ _ (by omega) r1
          have b83 := hg60 this
          refine pw_j1 ej78 (fun t78_0 et78_0 => ?_)
          have et78_0 := et78_0.symm
          have f_t78_0 : t78_0.toInt = (c33_G183 this).toInt := by rw [et78_0]
          refine pw_b3 (fun c78_G203 c78_V0 c78_V1 hc78 => ?_)
          have hq78 := wp_at (ok_X10_add κ wd (va_up (va_up (va_up G 183 d7_G183) 203 d7_G203) 183 c33_G183) (va_up (va_up (va_up (va_up P 181 d7_P181) 182 d7_P182) 181 c33_P181) 182 c33_P182) (va_up (va_up U 184 d7_U184) 184 c33_U184) (va_up (va_up (va_up (va_up (va_up V 0 d7_V0) 1 d7_V1) 11 d7_V11) 0 c33_V0) 11 m45) (va_up (va_up X 0 d7_X0) 0 m55) O kd ln cnt tr nw2 (0 : Int32) t78_0 hzG200 hg28 hzP201 hzP202 hg31 hzRA hRB32 hzRI hzLN hk_tr hk_nw2) hc78
          obtain ⟨hg84, hg85, hRB86, f87, f88⟩ : (rng (0) 100 c78_G203) ∧ (rng2 (0) 24 c78_V1) ∧ (RB κ ln (G 200) c78_G203 (P 202) c78_V1) ∧ (id ((tr ≠ wd → c78_G203 wd = d7_G203 wd))) ∧ ((d7_G203 tr).toInt ≤ (c78_G203 tr).toInt) := hq78
          have hq78 := pwq (fr_X10_add la (va_up (va_up (va_up G 183 d7_G183) 203 d7_G203) 183 c33_G183) (va_up (va_up (va_up (va_up P 181 d7_P181) 182 d7_P182) 181 c33_P181) 182 c33_P182) (va_up (va_up U 184 d7_U184) 184 c33_U184) (va_up (va_up (va_up (va_up (va_up V 0 d7_V0) 1 d7_V1) 11 d7_V11) 0 c33_V0) 11 m45) (va_up (va_up X 0 d7_X0) 0 m55) O kd ln cnt tr nw2 (0 : Int32) t78_0 (LB_set (LB_set (LB_set (LB_set hB hl36) hl38) ql33_181) ql33_182)) hc78
          obtain ⟨q78_G203, q78_V0, q78_V1⟩ : (∀ z, (la z < la tr ∨ la tr < la z) → c78_G203 z = d7_G203 z) ∧ (∀ z, (la z < la tr ∨ la tr < la z) → c78_V0 z = c33_V0 z) ∧ (∀ z, (la z < la tr ∨ la tr < la z) → c78_V1 z = d7_V1 z) := hq78
          have tz78 : ∀ z, ((la z < la this ∨ la this + 8 < la z) ∧ (la z < la p0 ∨ la p0 + 5 < la z)) → ((la z < la tr ∨ la tr < la z)) := fun z hz => by omega
          have hfr89 : ∀ z, ((la z < la this ∨ la this + 8 < la z) ∧ (la z < la p0 ∨ la p0 + 5 < la z)) → c78_G203 z = (G 203) z := fun z hz => (q78_G203 z (tz78 z hz)).trans (hfr34 z hz)
          have hfr90 : ∀ z, ((la z < la this ∨ la this + 8 < la z) ∧ (la z < la p0 ∨ la p0 + 5 < la z)) → c78_V0 z = (V 0) z := fun z hz => (q78_V0 z (tz78 z hz)).trans (hfr68 z hz)
          have hfr91 : ∀ z, ((la z < la this ∨ la this + 8 < la z) ∧ (la z < la p0 ∨ la p0 + 5 < la z)) → c78_V1 z = (V 1) z := fun z hz => (q78_V1 z (tz78 z hz)).trans (hfr41 z hz)
          have h878_hl : (P 201) tr = some (tl) := by exact htl
          have h878_hs : (P 202) tr = some (ts) := by exact hts
          have h878_hw : ((G 200) tr).toInt = ((24) : Int) := by exact hwt
          have h878_hst : 0 ≤ (0 : Int32).toInt := by omega
          have h878_hm : 0 ≤ t78_0.toInt := by omega
          have h878_hmw : t78_0.toInt ≤ ((24) : Int) := by omega
          have h878_hlf : (0 : Int32).toInt + t78_0.toInt ≤ ((ln nw2 : Nat) : Int) := by omega
          have h878_hw24 : (24) ≤ 24 := by decide
          have hx78 := pwq (fn_X10_add2 κ wd la (va_up (va_up (va_up G 183 d7_G183) 203 d7_G203) 183 c33_G183) (va_up (va_up (va_up (va_up P 181 d7_P181) 182 d7_P182) 181 c33_P181) 182 c33_P182) (va_up (va_up U 184 d7_U184) 184 c33_U184) (va_up (va_up (va_up (va_up (va_up V 0 d7_V0) 1 d7_V1) 11 d7_V11) 0 c33_V0) 11 m45) (va_up (va_up X 0 d7_X0) 0 m55) O kd ln cnt tr nw2 (0 : Int32) t78_0 (tl) (ts) (24) hzG200 hg28 hzP201 hzP202 hg31 hzRA hRB32 hzRI hzLN hk_tr hk_nw2 (LB_set (LB_set (LB_set (LB_set hB hl36) hl38) ql33_181) ql33_182) lt_tr17 lt_nw270 h878_hl h878_hs h878_hw h878_hst h878_hm h878_hmw h878_hlf h878_hw24) hc78
          obtain ⟨p78_0, p78_1, p78_2, p78_3⟩ : (rwW (c78_G203 tr) (c78_V0 (tl)) (c78_V1 (ts)) (24) = (if (d7_G203 tr).toInt < ((ln (ts) : Nat) : Int) then rwW (d7_G203 tr) (c33_V0 (tl)) (d7_V1 (ts)) (24) ++ [wdl (c33_V0 nw2) (Int32.toNatClampNeg (0 : Int32)) (Int32.toNatClampNeg t78_0)] else rwW (d7_G203 tr) (c33_V0 (tl)) (d7_V1 (ts)) (24))) ∧ (id ((∀ z, z ≠ (tl) → c78_V0 z = c33_V0 z))) ∧ (id ((∀ z, z ≠ (ts) → c78_V1 z = d7_V1 z))) ∧ (id ((∀ z, z ≠ tr → c78_G203 z = d7_G203 z))) := hx78
          clear h878_hl h878_hs h878_hw h878_hst h878_hm h878_hmw h878_hlf h878_hw24
          have hgw := f87 (hw_tr rfl)
          have f92 : (y7_3 + 1).toInt = y7_3.toInt + (1) := z_addc (by decide +kernel) (by omega) (by omega)
          have hgA : c78_G203 wd = (G 203) wd := hgw.trans (by assumption)
          have iv7_0 : (0 ≤ (y7_3 + 1).toInt ∧ (y7_3 + 1).toInt ≤ 100) := by first | omega | rfl | assumption
          have iv7_1 : c78_G203 wd = (G 203) wd := by first | rfl | assumption | omega
          have iv7_2 : (y7_3 + 1).toInt ≤ ((G 203) pr).toInt := by first | omega | rfl | assumption
          have iv7_3 : (∀ z, la z ≠ la p0 + 4 → (la z < 90 ∨ 98 < la z) → c78_V0 z = (V 0) z ∧ c78_V1 z = (V 1) z ∧ c78_G203 z = (G 203) z) := by intro z h1 h2; obtain ⟨a1, a2, a3⟩ := ft7 z h1 h2; exact ⟨(q78_V0 z (by omega)).trans ((q33_V0 z (by omega)).trans a1), (q78_V1 z (by omega)).trans a2, (q78_G203 z (by omega)).trans a3⟩
          have iv7_4 : id ((∃ nw1 nx1, c33_P181 this = some nw1 ∧ c33_P182 this = some nx1 ∧ ((nw1 = nw ∧ nx1 = nx) ∨ (nw1 = nx ∧ nx1 = nw)))) := show (∃ nw1 nx1, c33_P181 this = some nw1 ∧ c33_P182 this = some nx1 ∧ ((nw1 = nw ∧ nx1 = nx) ∨ (nw1 = nx ∧ nx1 = nw))) from by exact ⟨nw2, nx2, e181b, e182b, sw_tr hsw2 hsw⟩
          have iv7_5 : (rwW (c78_G203 tr) (c78_V0 tl) (c78_V1 ts) 24 = (ps.take (Int32.toNatClampNeg (y7_3 + 1))).map (fun x9 => (runL ls x9).getD [])) := by have k4 := clampI (x := y7_3 + 1) (by omega); rw [p78_0, if_pos (by omega), p33_2 tl (fun q => by have q9 := congrArg la q; omega) (fun q => by have q9 := congrArg la q; omega), ir7, show Int32.toNatClampNeg (y7_3 + 1) = Int32.toNatClampNeg y7_3 + 1 by omega, take_s hx, List.map_append]; exact congrArg (fun z => (ps.take (Int32.toNatClampNeg y7_3)).map (fun x9 => (runL ls x9).getD []) ++ [z]) (by rw [show Int32.toNatClampNeg (0 : Int32) = 0 from rfl, show Int32.toNatClampNeg t78_0 = Int32.toNatClampNeg (c33_G183 this) by rw [et78_0], r3]; show W1 = (runL ls Wk).getD []; rw [r1]; rfl)
          have iv7_6 : (∀ j x9, j < Int32.toNatClampNeg (y7_3 + 1) → ps[j]? = some x9 → ((m45 ph j).toInt ≠ 0 ↔ runL ls x9 ≠ none)) := by have k4 := clampI (x := y7_3 + 1) (by omega); intro j x9 hj hx9; by_cases q9 : j = Int32.toNatClampNeg y7_3; (subst q9; rw [hx] at hx9; cases hx9; rw [em45, va_up_self, pk_us, hbo]; exact hholds); (rw [em45, va_up_self, pk_un q9]; exact iq7 j x9 (by omega) hx9)
          exact ih7 (y7_3 + 1) c33_G183 c78_G203 c33_P181 c33_P182 c33_U184 c78_V0 c78_V1 m45 m55 hg60 hg84 hg61 hg62 hg85 hRB86 hfr64 hfr89 hfr65 ql33_181 hfr66 ql33_182 hfr67 hfr90 hfr91 hfr71 hfr73 iv7_0 iv7_1 iv7_2 iv7_3 iv7_4 iv7_5 iv7_6
  exact lp7 NN (0 : Int32) (G 183) (G 203) (P 181) (P 182) (U 184) (V 0) (V 1) (V 11) (X 0) hzG183 hzG203 hzP181 hzP182 hzV1 hzRB (fun _ _ => rfl) (fun _ _ => rfl) (fun _ _ => rfl) (hB.1 181 fl_181) (fun _ _ => rfl) (hB.1 182 fl_182) (fun _ _ => rfl) (fun _ _ => rfl) (fun _ _ => rfl) (fun _ _ => rfl) (fun _ _ => rfl) (show (0 ≤ (0 : Int32).toInt ∧ (0 : Int32).toInt ≤ 100) from by first | omega | rfl | assumption) (show (G 203) wd = (G 203) wd from by first | rfl | assumption | omega) (show (0 : Int32).toInt ≤ ((G 203) pr).toInt from by first | omega | rfl | assumption) (show (∀ z, la z ≠ la p0 + 4 → (la z < 90 ∨ 98 < la z) → (V 0) z = (V 0) z ∧ (V 1) z = (V 1) z ∧ (G 203) z = (G 203) z) from by intro z _ _; exact ⟨rfl, rfl, rfl⟩) (show (∃ nw1 nx1, (P 181) this = some nw1 ∧ (P 182) this = some nx1 ∧ ((nw1 = nw ∧ nx1 = nx) ∨ (nw1 = nx ∧ nx1 = nw))) from by exact ⟨nw, nx, h181, h182, Or.inl ⟨rfl, rfl⟩⟩) (show (rwW ((G 203) tr) ((V 0) tl) ((V 1) ts) 24 = (ps.take (Int32.toNatClampNeg (0 : Int32))).map (fun x9 => (runL ls x9).getD [])) from by rw [show Int32.toNatClampNeg (0 : Int32) = 0 from rfl]; show rwW _ _ _ _ = []; refine List.length_eq_zero_iff.mp ?_; rw [rw_len]; have c9 := clampI (x := (G 203) tr) (by omega); omega) (show (∀ j x9, j < Int32.toNatClampNeg (0 : Int32) → ps[j]? = some x9 → (((V 11) ph j).toInt ≠ 0 ↔ runL ls x9 ≠ none)) from by intro j x9 hj; exact absurd hj (Nat.not_lt_zero _))
