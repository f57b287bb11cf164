abbrev QF_X11_uses (κ : Nat → Nat) (wd : Nat) (la : Nat → Nat) (G : Nat → Nat → Int32) (P : Nat → Nat → Option Nat) (U : Nat → Nat → Int64) (V : Nat → Nat → Nat → Int32) (X : Nat → Nat → Nat → Int64) (O : Nat → Nat → Nat → Option Nat) (kd : Nat → Nat) (ln : Nat → Nat) (cnt : Nat) (this : Nat) (p0 : Int32) (p1 : Int32) (ra : Nat) (tn : Nat) (bk : Nat) (nw : Nat) (nx : Nat) (wh : Nat) (pg : Nat) (fi : Nat) (pa : Nat) (pk : Nat) (sz : Nat) (cl : Nat) (fa : Nat) (fl : Nat) (sp : Nat) (lsp : Nat) (ssp : Nat) (wl : Nat) (wz : Nat) (D : Nat) (d : Nat → Dr) (Ws : List Wd) : (Int32 × (Nat → Nat → Int32) × (Nat → Nat → Option Nat) × (Nat → Nat → Int64) × (Nat → Nat → Nat → Int32) × (Nat → Nat → Nat → Int64) × (Nat → Nat → Nat → Option Nat) × (Nat → Nat) × (Nat → Nat) × Nat) → Prop := (fun t => ∃ la1 : Nat → Nat, (∀ z, z < cnt → la1 z = la z) ∧ LB la1 (t.2.2.2.2.2.2.2.2.2) (t.2.2.1) ∧ (BKR (t.2.1) (t.2.2.1) (t.2.2.2.2.1) la1 (t.2.2.2.2.2.2.2.2.2) D (((t.2.2.2.2.2.2.1) 1) fa) (fun s => Int32.toNatClampNeg (((t.2.2.2.2.1) 3) fl s)) (FMT d Ws)) ∧ ((∀ s : Nat, s < 7 → ((G 222) this).toInt < (s : Int) → ((t.2.2.2.2.1) 3) fl s = (V 3) fl s)))
set_option maxHeartbeats 4000000 in
set_option maxRecDepth 100000 in
theorem fn_X11_uses (κ : Nat → Nat) (wd : Nat) (la : Nat → Nat) (G : Nat → Nat → Int32) (P : Nat → Nat → Option Nat) (U : Nat → Nat → Int64) (V : Nat → Nat → Nat → Int32) (X : Nat → Nat → Nat → Int64) (O : Nat → Nat → Nat → Option Nat) (kd : Nat → Nat) (ln : Nat → Nat) (cnt : Nat) (this : Nat) (p0 : Int32) (p1 : Int32) (ra : Nat) (tn : Nat) (bk : Nat) (nw : Nat) (nx : Nat) (wh : Nat) (pg : Nat) (fi : Nat) (pa : Nat) (pk : Nat) (sz : Nat) (cl : Nat) (fa : Nat) (fl : Nat) (sp : Nat) (lsp : Nat) (ssp : Nat) (wl : Nat) (wz : Nat) (D : Nat) (d : Nat → Dr) (Ws : List Wd) (hI : CInv κ wd G P V O ln cnt) (hk_this : κ this = 12) (hB : LB la cnt P) (hlt_this : this < cnt) (hpl0 : la this = 200) (h221 : (P 221) this = some ra) (h226 : (P 226) this = some tn) (h229 : (P 229) this = some bk) (h181 : (P 181) tn = some nw) (h182 : (P 182) tn = some nx) (hnn : nw ≠ nx) (h185 : (P 185) tn = some wh) (h180 : (P 180) tn = some pg) (hfi : (P 63) pg = some fi) (hpa : (P 65) pg = some pa) (hpk : (P 62) pg = some pk) (hsz : (P 61) pg = some sz) (hcl : (P 64) pg = some cl) (hlt9 : la tn = 90) (h1 : (P 1) bk = some fa) (h3 : (P 3) bk = some fl) (h4 : (P 4) bk = some sp) (hls : (P 201) sp = some lsp) (hss : (P 202) sp = some ssp) (hw4 : ((G 200) sp).toInt = ((24 : Nat) : Int)) (hn4 : ln ssp = 12) (hwl : (P 201) wd = some wl) (hwz : (P 202) wd = some wz) (hww : ((G 200) wd).toInt = ((24 : Nat) : Int)) (hWs : rwW ((G 203) wd) ((V 0) wl) ((V 1) wz) 24 = Ws) (hWw : WDS Ws) (hbk : BKR G P V la cnt D ((O 1) fa) (fun s => Int32.toNatClampNeg ((V 3) fl s)) (FMT d Ws)) (hDc : D < 100000 + 10 * cnt) (h0 : (P 0) bk = some wd) (hl7 : ln fl = 7 ∧ ln fa = 700) (hl6 : ln ra = 6) (hrf : ∀ q, q < Int32.toNatClampNeg ((G 222) this) → ∃ rf, (O 2) ra q = some rf ∧ rf < cnt ∧ 100000 ≤ la rf ∧ RFX G P V O ln la cnt rf (d q)) : pw (f_X11_uses G P U V X O kd ln cnt this p0 p1) (sp1 (QF_X11_uses κ wd la G P U V X O kd ln cnt this p0 p1 ra tn bk nw nx wh pg fi pa pk sz cl fa fl sp lsp ssp wl wz D d Ws)) := by
  unfold f_X11_uses
  have zkm2 : (-2 : Int32).toInt = -2 := by decide +kernel
  have zk0 : (0 : Int32).toInt = 0 := by decide +kernel
  have zk1 : (1 : Int32).toInt = 1 := by decide +kernel
  have r_p0 := i32r p0
  have r_p1 := i32r p1
  replace hnn : id _ := hnn
  have hn1 : (P 221) this = some ra := h221
  obtain ⟨_, lt_ra2, lb_ra2⟩ := (hB.1 221 fl_221) this ra hn1
  have lb_ra2 : la ra = 203 := (lk_221.mp lb_ra2).trans (congrArg (fun z9 => z9 + 3) hpl0)
  have hk_ra := (((CInv_P221 hI :) this).2 ra hn1).1
  have hl1_ra := (((CInv_P221 hI :) this).2 ra hn1).2.1
  have hl2_ra := (((CInv_P221 hI :) this).2 ra hn1).2.2.1
  have hw_ra : id _ := (((CInv_P221 hI :) this).2 ra hn1).2.2.2
  have hz_ra : (Int32.ofNat (ln ra)).toInt = ((ln ra : Nat) : Int) := ofN_eq (by first | exact Nat.le_trans hl2_ra (by decide) | omega)
  have hn3 : (P 226) this = some tn := h226
  have lt_tn4 := ((hB.1 226 fl_226) this tn hn3).2.1
  have lb_tn4 : la tn = 90 := lk_226.mp ((hB.1 226 fl_226) this tn hn3).2.2
  have hk_tn := (((CInv_P226 hI :) this).2 tn hn3).1
  have hl1_tn := (((CInv_P226 hI :) this).2 tn hn3).2.1
  have hl2_tn := (((CInv_P226 hI :) this).2 tn hn3).2.2.1
  have hw_tn : id _ := (((CInv_P226 hI :) this).2 tn hn3).2.2.2
  have hn5 : (P 229) this = some bk := h229
  have lt_bk6 := ((hB.1 229 fl_229) this bk hn5).2.1
  have lb_bk6 : la bk = 70 := lk_229.mp ((hB.1 229 fl_229) this bk hn5).2.2
  have hk_bk := (((CInv_P229 hI :) this).2 bk hn5).1
  have hl1_bk := (((CInv_P229 hI :) this).2 bk hn5).2.1
  have hl2_bk := (((CInv_P229 hI :) this).2 bk hn5).2.2.1
  have hw_bk : id _ := (((CInv_P229 hI :) this).2 bk hn5).2.2.2
  have hn7 : (P 3) bk = some fl := h3
  obtain ⟨_, lt_fl8, lb_fl8⟩ := (hB.1 3 fl_3) bk fl hn7
  have lb_fl8 : la fl = 70 := (lk_3.mp lb_fl8).trans (congrArg (fun z9 => z9 + 0) lb_bk6)
  have hk_fl := (((CInv_P3 hI :) bk).2 fl hn7).1
  have hl1_fl := (((CInv_P3 hI :) bk).2 fl hn7).2.1
  have hl2_fl := (((CInv_P3 hI :) bk).2 fl hn7).2.2.1
  have hw_fl : id _ := (((CInv_P3 hI :) bk).2 fl hn7).2.2.2
  have hz_fl : (Int32.ofNat (ln fl)).toInt = ((ln fl : Nat) : Int) := ofN_eq (by first | exact Nat.le_trans hl2_fl (by decide) | omega)
  have hn9 : (P 1) bk = some fa := h1
  obtain ⟨_, lt_fa10, lb_fa10⟩ := (hB.1 1 fl_1) bk fa hn9
  have lb_fa10 : la fa = 70 := (lk_1.mp lb_fa10).trans (congrArg (fun z9 => z9 + 0) lb_bk6)
  have hk_fa := (((CInv_P1 hI :) bk).2 fa hn9).1
  have hl1_fa := (((CInv_P1 hI :) bk).2 fa hn9).2.1
  have hl2_fa := (((CInv_P1 hI :) bk).2 fa hn9).2.2.1
  have hw_fa : id _ := (((CInv_P1 hI :) bk).2 fa hn9).2.2.2
  have hz_fa : (Int32.ofNat (ln fa)).toInt = ((ln fa : Nat) : Int) := ofN_eq (by first | exact Nat.le_trans hl2_fa (by decide) | omega)
  have hn11 : (P 0) bk = some wd := h0
  have lt_wd12 := ((hB.1 0 fl_0) bk wd hn11).2.1
  have lb_wd12 : la wd = 20 := lk_0.mp ((hB.1 0 fl_0) bk wd hn11).2.2
  have hk_wd := (((CInv_P0 hI :) bk).2 wd hn11).1
  have hl1_wd := (((CInv_P0 hI :) bk).2 wd hn11).2.1
  have hl2_wd := (((CInv_P0 hI :) bk).2 wd hn11).2.2.1
  have hw_wd : id _ := (((CInv_P0 hI :) bk).2 wd hn11).2.2.2
  have hn13 : (P 201) wd = some wl := hwl
  obtain ⟨_, lt_wl14, lb_wl14⟩ := (hB.1 201 fl_201) wd wl hn13
  have lb_wl14 : la wl = 20 := (lk_201.mp lb_wl14).trans (congrArg (fun z9 => z9 + 0) lb_wd12)
  have hk_wl := (((CInv_P201 hI :) wd).2 wl hn13).1
  have hl1_wl := (((CInv_P201 hI :) wd).2 wl hn13).2.1
  have hl2_wl := (((CInv_P201 hI :) wd).2 wl hn13).2.2.1
  have hw_wl : id _ := (((CInv_P201 hI :) wd).2 wl hn13).2.2.2
  have hz_wl : (Int32.ofNat (ln wl)).toInt = ((ln wl : Nat) : Int) := ofN_eq (by first | exact Nat.le_trans hl2_wl (by decide) | omega)
  have hn15 : (P 202) wd = some wz := hwz
  obtain ⟨_, lt_wz16, lb_wz16⟩ := (hB.1 202 fl_202) wd wz hn15
  have lb_wz16 : la wz = 20 := (lk_202.mp lb_wz16).trans (congrArg (fun z9 => z9 + 0) lb_wd12)
  have hk_wz := (((CInv_P202 hI :) wd).2 wz hn15).1
  have hl1_wz := (((CInv_P202 hI :) wd).2 wz hn15).2.1
  have hl2_wz := (((CInv_P202 hI :) wd).2 wz hn15).2.2.1
  have hw_wz : id _ := (((CInv_P202 hI :) wd).2 wz hn15).2.2.2
  have hz_wz : (Int32.ofNat (ln wz)).toInt = ((ln wz : Nat) : Int) := ofN_eq (by first | exact Nat.le_trans hl2_wz (by decide) | omega)
  have rb17 := ((CInv_RB hI :) wd wz hk_wd hn15).1
  have ra18 := (CInv_RA hI :) wd wl wz hk_wd hn13 hn15
  have bw19 := (CInv_G200 hI :) wd
  have hb222 := (CInv_G222 hI :) this
  have hb222 := (CInv_G222 hI :) this
  have c222 := clampI (x := (G 222) this) (by omega)
  refine pw_b1 (fun r2 hc2 => ?_)
  have hq2 := wp_at (ok_X11_reformAt κ wd G P U V X O kd ln cnt this p0 (CInv_G222 hI :) (CInv_P221 hI :) (CInv_O2 hI :) (CInv_LN hI :) hk_this) hc2
  obtain ⟨hk20, f21⟩ : ((∀ b, r2 = some b → κ b = 6)) ∧ (id ((∀ b, r2 = some b → 0 ≤ p0.toInt ∧ p0.toInt < ((G 222) this).toInt))) := hq2
  have h82_h221 : (P 221) this = some ra := by exact h221
  have hx2 := pwq (fn_X11_reformAt κ wd la G P U V X O kd ln cnt this p0 (ra) (CInv_G222 hI :) (CInv_P221 hI :) (CInv_O2 hI :) (CInv_LN hI :) hk_this hB hlt_this h82_h221) hc2
  obtain ⟨p2_0, p2_1⟩ : (id ((p0.toInt < 0 ∨ ((G 222) this).toInt ≤ p0.toInt → (r2 : Option Nat) = none))) ∧ (id ((0 ≤ p0.toInt → p0.toInt < ((G 222) this).toInt → r2 = (O 2) ra (Int32.toNatClampNeg p0)))) := hx2
  clear h82_h221
  have hq2r := f21
  refine pw_jE (fun j22 ej22 => ?_)
  refine pw_oc (fun c7 => ?_) (fun b7 c7 => ?_)
  · skip
    refine pw_j0 ej22 ?_
    have qq0 : BKR G P V la cnt D ((O 1) fa) (fun s => Int32.toNatClampNeg ((V 3) fl s)) (FMT d Ws) := by exact BKR_fr hbk hB (fun _ => rfl) (fun _ _ => ⟨rfl, rfl, rfl⟩) (fun _ _ _ _ => ⟨rfl, rfl, rfl⟩) (Nat.le_refl _) (fun _ _ => rfl) (fun _ _ h => h)
    have qq1 : id ((∀ s : Nat, s < 7 → ((G 222) this).toInt < (s : Int) → (V 3) fl s = (V 3) fl s)) := show (∀ s : Nat, s < 7 → ((G 222) this).toInt < (s : Int) → (V 3) fl s = (V 3) fl s) from by exact fun _ _ _ => rfl
    exact pw_some ⟨la, (fun _ _ => rfl), hB, qq0, qq1⟩
  · skip
    have hk_b7 := hk20 b7 c7
    have hin : 0 ≤ p0.toInt ∧ p0.toInt < ((G 222) this).toInt := by by_cases q9 : 0 ≤ p0.toInt ∧ p0.toInt < ((G 222) this).toInt; (exact q9); (exfalso; have h9 := p2_0 (by omega); rw [h9] at c7; cases c7)
    have hr7 := hq2r b7 c7
    refine pw_ite (fun c11 => ?_) (fun c11 => ?_)
    · have c11 := (z_lt _ _).mp c11
      refine pw_j0 ej22 ?_
      have qq0 : BKR G P V la cnt D ((O 1) fa) (fun s => Int32.toNatClampNeg ((V 3) fl s)) (FMT d Ws) := by exact BKR_fr hbk hB (fun _ => rfl) (fun _ _ => ⟨rfl, rfl, rfl⟩) (fun _ _ _ _ => ⟨rfl, rfl, rfl⟩) (Nat.le_refl _) (fun _ _ => rfl) (fun _ _ h => h)
      have qq1 : id ((∀ s : Nat, s < 7 → ((G 222) this).toInt < (s : Int) → (V 3) fl s = (V 3) fl s)) := show (∀ s : Nat, s < 7 → ((G 222) this).toInt < (s : Int) → (V 3) fl s = (V 3) fl s) from by exact fun _ _ _ => rfl
      exact pw_some ⟨la, (fun _ _ => rfl), hB, qq0, qq1⟩
    · have c11 := z_nlt c11
      have b22 := (CInv_G102 hI :) b7
      refine pw_ite (fun c19 => ?_) (fun c19 => ?_)
      · have c19 := (z_lt _ _).mp c19
        refine pw_nne hn5 ?_
        have f23 : (p0 + 1).toInt = p0.toInt + 1 := z_addc (by decide +kernel) (by omega) (by omega)
        refine pw_nne hn1 ?_
        refine pw_nne hn3 ?_
        have hpr40_0 : ln ra = 6 := by first | assumption | omega
        refine pw_bA9 (fun c40_G c40_P c40_U c40_V c40_X c40_O c40_kd c40_ln c40_cnt v1_40 v2_40 hc40 => ?_)
        have hq40 := wp_at (ok_X0_fill κ wd G P U V X O kd ln cnt bk (p0 + 1) ra tn (CInv_i (CInv_G43 hI :) (CInv_G44 hI :) (CInv_G45 hI :) (CInv_G60 hI :) (CInv_G83 hI :) (CInv_G84 hI :) (CInv_G85 hI :) (CInv_G87 hI :) (CInv_G88 hI :) (CInv_G102 hI :) (CInv_G125 hI :) (CInv_G126 hI :) (CInv_G127 hI :) (CInv_G141 hI :) (CInv_G160 hI :) (CInv_G161 hI :) (CInv_G162 hI :) (CInv_G165 hI :) (CInv_G166 hI :) (CInv_G183 hI :) (CInv_G200 hI :) (CInv_G203 hI :) (CInv_G222 hI :) (CInv_G231 hI :) (CInv_G233 hI :) (CInv_P0 hI :) (CInv_P1 hI :) (CInv_P2 hI :) (CInv_P3 hI :) (CInv_P4 hI :) (CInv_P5 hI :) (CInv_P20 hI :) (CInv_P21 hI :) (CInv_P22 hI :) (CInv_P23 hI :) (CInv_P40 hI :) (CInv_P41 hI :) (CInv_P42 hI :) (CInv_P61 hI :) (CInv_P62 hI :) (CInv_P63 hI :) (CInv_P64 hI :) (CInv_P65 hI :) (CInv_P66 hI :) (CInv_P82 hI :) (CInv_P101 hI :) (CInv_P103 hI :) (CInv_P104 hI :) (CInv_P105 hI :) (CInv_P106 hI :) (CInv_P108 hI :) (CInv_P109 hI :) (CInv_P110 hI :) (CInv_P120 hI :) (CInv_P121 hI :) (CInv_P122 hI :) (CInv_P123 hI :) (CInv_P140 hI :) (CInv_P164 hI :) (CInv_P180 hI :) (CInv_P181 hI :) (CInv_P182 hI :) (CInv_P185 hI :) (CInv_P186 hI :) (CInv_P187 hI :) (CInv_P201 hI :) (CInv_P202 hI :) (CInv_P220 hI :) (CInv_P221 hI :) (CInv_P224 hI :) (CInv_P225 hI :) (CInv_P226 hI :) (CInv_P227 hI :) (CInv_P228 hI :) (CInv_P229 hI :) (CInv_P230 hI :) (CInv_P232 hI :) (CInv_P234 hI :) (CInv_P235 hI :) (CInv_P236 hI :) (CInv_V1 hI :) (CInv_V2 hI :) (CInv_V3 hI :) (CInv_V9 hI :) (CInv_O0 hI :) (CInv_O1 hI :) (CInv_O2 hI :) (CInv_RA hI :) (CInv_RB hI :) (CInv_RI hI :) (CInv_RM103 hI :) (CInv_RM104 hI :) (CInv_RM108 hI :) (CInv_LN hI :) (CInv_FL hI :) (CInv_W0 hI :) (CInv_KC hI :) (CInv_WK hI :)) hk_bk hk_ra hk_tn hpr40_0) hc40
        obtain ⟨κ40_23, hCI40, hxx40, hcc25, hfr26, hfr27, hfr28, hfr29, hfr30, hfr31, hfr32, hfr33, hfr34, f35, f36⟩ : ∃ κ1 : Nat → Nat, (CInv κ1 wd c40_G c40_P c40_V c40_O c40_ln c40_cnt) ∧ (∀ a, κ a ≠ 0 → κ1 a = κ a) ∧ (cnt ≤ c40_cnt) ∧ ((∀ a, κ a ≠ 0 → (c40_P 220) a = (P 220) a)) ∧ ((∀ a, κ a ≠ 0 → (c40_P 229) a = (P 229) a)) ∧ ((∀ a, κ a ≠ 0 → (c40_P 3) a = (P 3) a)) ∧ ((∀ a, κ a ≠ 0 → (c40_G 141) a = (G 141) a)) ∧ ((∀ a, κ a ≠ 0 → (c40_G 83) a = (G 83) a)) ∧ ((∀ a, κ a ≠ 0 → (c40_P 82) a = (P 82) a)) ∧ ((∀ a, κ a ≠ 0 → (c40_P 0) a = (P 0) a)) ∧ ((∀ a, κ a ≠ 0 → (c40_G 160) a = (G 160) a)) ∧ ((∀ a, κ a ≠ 0 → c40_ln a = ln a)) ∧ ((c40_G 203) wd = (G 203) wd) ∧ (id ((∀ fl, (P 3) bk = some fl → (((v1_40 : Nat) : Int) + 3 * s7 ((V 3) fl) ≤ 3 * s7 ((c40_V 3) fl)) ∧ (((v2_40 : Nat) : Int) + 2504 * s7 ((V 3) fl) ≤ 2504 * s7 ((c40_V 3) fl))))) := hq40
        have kx37 : ∀ a, κ a ≠ 0 → κ40_23 a = κ a := hxx40
        have hk38 : κ40_23 this = 12 := kxk hxx40 hk_this (by decide)
        have hk39 : κ40_23 b7 = 6 := kxk hxx40 hk_b7 (by decide)
        have hq40 := pwq (fr_X0_fill la G P U V X O kd ln cnt bk (p0 + 1) ra tn hB lt_bk6 lt_ra2 lt_tn4) hc40
        obtain ⟨la40_f, agf40, hBf40, ccf40, fG40, fP40, fU40, fV40, fX40, fO40, fl40⟩ : ∃ la9 : Nat → Nat, (∀ z, z < cnt → la9 z = la z) ∧ LB la9 c40_cnt c40_P ∧ cnt ≤ c40_cnt ∧ FRM cnt [60, 183, 203] (fun z => (la z < la bk ∨ la bk + 2 < la z) ∧ (la z < la tn ∨ la tn + 8 < la z)) G c40_G ∧ FRM cnt [66, 181, 182] (fun z => (la z < la bk ∨ la bk + 2 < la z) ∧ (la z < la tn ∨ la tn + 8 < la z)) P c40_P ∧ FRM cnt [184] (fun z => (la z < la bk ∨ la bk + 2 < la z) ∧ (la z < la tn ∨ la tn + 8 < la z)) U c40_U ∧ FRM cnt [0, 1, 2, 3, 12] (fun z => (la z < la bk ∨ la bk + 2 < la z) ∧ (la z < la tn ∨ la tn + 8 < la z)) V c40_V ∧ FRM cnt [1] (fun z => (la z < la bk ∨ la bk + 2 < la z) ∧ (la z < la tn ∨ la tn + 8 < la z)) X c40_X ∧ FRM cnt [1] (fun z => (la z < la bk ∨ la bk + 2 < la z) ∧ (la z < la tn ∨ la tn + 8 < la z)) O c40_O ∧ (∀ z, z < cnt → c40_ln z = ln z) := hq40
        have h840_h181 : (P 181) tn = some nw := by exact h181
        have h840_h182 : (P 182) tn = some nx := by exact h182
        have h840_hnn : nw ≠ nx := by exact hnn
        have h840_h185 : (P 185) tn = some wh := by exact h185
        have h840_h180 : (P 180) tn = some pg := by exact h180
        have h840_hfi : (P 63) pg = some fi := by exact hfi
        have h840_hpa : (P 65) pg = some pa := by exact hpa
        have h840_hpk : (P 62) pg = some pk := by exact hpk
        have h840_hsz : (P 61) pg = some sz := by exact hsz
        have h840_hcl : (P 64) pg = some cl := by exact hcl
        have h840_hlt9 : la tn = 90 := by exact hlt9
        have h840_h1 : (P 1) bk = some fa := by exact h1
        have h840_h3 : (P 3) bk = some fl := by exact h3
        have h840_h4 : (P 4) bk = some sp := by exact h4
        have h840_hls : (P 201) sp = some lsp := by exact hls
        have h840_hss : (P 202) sp = some ssp := by exact hss
        have h840_hw4 : ((G 200) sp).toInt = ((24 : Nat) : Int) := by exact hw4
        have h840_hn4 : ln ssp = 12 := by exact hn4
        have h840_hwl : (P 201) wd = some wl := by exact hwl
        have h840_hwz : (P 202) wd = some wz := by exact hwz
        have h840_hww : ((G 200) wd).toInt = ((24 : Nat) : Int) := by exact hww
        have h840_hWs : rwW ((G 203) wd) ((V 0) wl) ((V 1) wz) 24 = Ws := by exact hWs
        have h840_hWw : WDS Ws := by exact hWw
        have h840_hlb : la bk = 70 := by omega
        have h840_hlw : la wd = 20 := by omega
        have h840_hst : 0 ≤ (p0 + 1).toInt ∧ (p0 + 1).toInt ≤ 6 := by omega
        have h840_hrf : id (∀ q : Nat, (q : Int) < (p0 + 1).toInt → ∃ rf, (O 2) ra q = some rf ∧ rf < cnt ∧ 100000 ≤ la rf ∧ RFX G P V O ln la cnt rf (d q)) := show ∀ q : Nat, (q : Int) < (p0 + 1).toInt → ∃ rf, (O 2) ra q = some rf ∧ rf < cnt ∧ 100000 ≤ la rf ∧ RFX G P V O ln la cnt rf (d q) from by exact fun q hq => (by obtain ⟨rf9, y1, y2, y3, y4⟩ := hrf q (by omega); exact ⟨rf9, y1, y2, y3, RFX_fr y4 hB y2 (fun z hz h3 h4 => ⟨rfl, rfl, rfl, rfl, rfl, rfl, rfl, rfl, rfl, rfl, rfl, rfl, rfl, rfl, rfl, rfl, rfl, rfl, rfl, rfl, rfl, rfl, rfl, rfl, rfl, rfl⟩) (Nat.le_refl _) (fun _ _ => rfl)⟩)
        have h840_hbk : BKR G P V la cnt D ((O 1) fa) (fun s => Int32.toNatClampNeg ((V 3) fl s)) (FMT d Ws) := by exact BKR_fr hbk hB (fun _ => rfl) (fun _ _ => ⟨rfl, rfl, rfl⟩) (fun _ _ _ _ => ⟨rfl, rfl, rfl⟩) (Nat.le_refl _) (fun _ _ => rfl) (fun _ _ h => h)
        have h840_hDc : D < 100000 + 10 * cnt := by exact hDc
        have h840_h0 : (P 0) bk = some wd := by exact h0
        have h840_hl7 : ln fl = 7 ∧ ln fa = 700 := by exact hl7
        have hx40 := pwq (fn_X0_fill κ wd la G P U V X O kd ln cnt bk (p0 + 1) ra tn (nw) (nx) (wh) (pg) (fi) (pa) (pk) (sz) (cl) (fa) (fl) (sp) (lsp) (ssp) (wl) (wz) (D) (d) (Ws) (CInv_i (CInv_G43 hI :) (CInv_G44 hI :) (CInv_G45 hI :) (CInv_G60 hI :) (CInv_G83 hI :) (CInv_G84 hI :) (CInv_G85 hI :) (CInv_G87 hI :) (CInv_G88 hI :) (CInv_G102 hI :) (CInv_G125 hI :) (CInv_G126 hI :) (CInv_G127 hI :) (CInv_G141 hI :) (CInv_G160 hI :) (CInv_G161 hI :) (CInv_G162 hI :) (CInv_G165 hI :) (CInv_G166 hI :) (CInv_G183 hI :) (CInv_G200 hI :) (CInv_G203 hI :) (CInv_G222 hI :) (CInv_G231 hI :) (CInv_G233 hI :) (CInv_P0 hI :) (CInv_P1 hI :) (CInv_P2 hI :) (CInv_P3 hI :) (CInv_P4 hI :) (CInv_P5 hI :) (CInv_P20 hI :) (CInv_P21 hI :) (CInv_P22 hI :) (CInv_P23 hI :) (CInv_P40 hI :) (CInv_P41 hI :) (CInv_P42 hI :) (CInv_P61 hI :) (CInv_P62 hI :) (CInv_P63 hI :) (CInv_P64 hI :) (CInv_P65 hI :) (CInv_P66 hI :) (CInv_P82 hI :) (CInv_P101 hI :) (CInv_P103 hI :) (CInv_P104 hI :) (CInv_P105 hI :) (CInv_P106 hI :) (CInv_P108 hI :) (CInv_P109 hI :) (CInv_P110 hI :) (CInv_P120 hI :) (CInv_P121 hI :) (CInv_P122 hI :) (CInv_P123 hI :) (CInv_P140 hI :) (CInv_P164 hI :) (CInv_P180 hI :) (CInv_P181 hI :) (CInv_P182 hI :) (CInv_P185 hI :) (CInv_P186 hI :) (CInv_P187 hI :) (CInv_P201 hI :) (CInv_P202 hI :) (CInv_P220 hI :) (CInv_P221 hI :) (CInv_P224 hI :) (CInv_P225 hI :) (CInv_P226 hI :) (CInv_P227 hI :) (CInv_P228 hI :) (CInv_P229 hI :) (CInv_P230 hI :) (CInv_P232 hI :) (CInv_P234 hI :) (CInv_P235 hI :) (CInv_P236 hI :) (CInv_V1 hI :) (CInv_V2 hI :) (CInv_V3 hI :) (CInv_V9 hI :) (CInv_O0 hI :) (CInv_O1 hI :) (CInv_O2 hI :) (CInv_RA hI :) (CInv_RB hI :) (CInv_RI hI :) (CInv_RM103 hI :) (CInv_RM104 hI :) (CInv_RM108 hI :) (CInv_LN hI :) (CInv_FL hI :) (CInv_W0 hI :) (CInv_KC hI :) (CInv_WK hI :)) hk_bk hk_ra hk_tn hpr40_0 hB lt_bk6 lt_ra2 lt_tn4 h840_h181 h840_h182 h840_hnn h840_h185 h840_h180 h840_hfi h840_hpa h840_hpk h840_hsz h840_hcl h840_hlt9 h840_h1 h840_h3 h840_h4 h840_hls h840_hss h840_hw4 h840_hn4 h840_hwl h840_hwz h840_hww h840_hWs h840_hWw h840_hlb h840_hlw h840_hst h840_hrf h840_hbk h840_hDc h840_h0 h840_hl7) hc40
        obtain ⟨la40, ag40, hB40, p40_0, p40_1⟩ : ∃ la9 : Nat → Nat, (∀ z, z < cnt → la9 z = la z) ∧ LB la9 c40_cnt c40_P ∧ (BKR c40_G c40_P c40_V la9 c40_cnt D ((c40_O 1) fa) (fun s => Int32.toNatClampNeg ((c40_V 3) fl s)) (FMT d Ws)) ∧ (id ((∀ s : Nat, s < 7 → (c40_V 3) fl s = (if (s : Int) ≤ (p0 + 1).toInt then (G 203) wd else (V 3) fl s)))) := hx40
        clear h840_hl7 h840_h0 h840_hDc h840_hbk h840_hrf h840_hst h840_hlw h840_hlb h840_hWw h840_hWs h840_hww h840_hwz h840_hwl h840_hn4 h840_hw4 h840_hss h840_hls h840_h4 h840_h3 h840_h1 h840_hlt9 h840_hcl h840_hsz h840_hpk h840_hpa h840_hfi h840_h180 h840_h185 h840_hnn h840_h182 h840_h181 agf40 hBf40 hk39 hk38 kx37 hxx40 hfr26 hfr27 hfr28 hfr29 hfr30 hfr31 hfr32 hfr33 hfr34 hc40 hpr40_0 hk20 hc2
        have gl_40 : la40 this = 200 := (ag40 this hlt_this).trans hpl0
        have lt41 : this < c40_cnt := Nat.lt_of_lt_of_le hlt_this ccf40
        have gl_42 : la40 ra = 203 := (ag40 ra lt_ra2).trans lb_ra2
        have lt43 : ra < c40_cnt := Nat.lt_of_lt_of_le lt_ra2 ccf40
        have gl_44 : la40 tn = 90 := (ag40 tn lt_tn4).trans lb_tn4
        have lt45 : tn < c40_cnt := Nat.lt_of_lt_of_le lt_tn4 ccf40
        have gl_46 : la40 bk = 70 := (ag40 bk lt_bk6).trans lb_bk6
        have lt47 : bk < c40_cnt := Nat.lt_of_lt_of_le lt_bk6 ccf40
        have gl_48 : la40 fl = 70 := (ag40 fl lt_fl8).trans lb_fl8
        have lt49 : fl < c40_cnt := Nat.lt_of_lt_of_le lt_fl8 ccf40
        have gl_50 : la40 fa = 70 := (ag40 fa lt_fa10).trans lb_fa10
        have lt51 : fa < c40_cnt := Nat.lt_of_lt_of_le lt_fa10 ccf40
        have gl_52 : la40 wd = 20 := (ag40 wd lt_wd12).trans lb_wd12
        have lt53 : wd < c40_cnt := Nat.lt_of_lt_of_le lt_wd12 ccf40
        have gl_54 : la40 wl = 20 := (ag40 wl lt_wl14).trans lb_wl14
        have lt55 : wl < c40_cnt := Nat.lt_of_lt_of_le lt_wl14 ccf40
        have gl_56 : la40 wz = 20 := (ag40 wz lt_wz16).trans lb_wz16
        have lt57 : wz < c40_cnt := Nat.lt_of_lt_of_le lt_wz16 ccf40
        have hag40 : ∀ z, z < cnt → la40 z = la z := fun z hz => (ag40 z (Nat.lt_of_lt_of_le hz (Nat.le_refl _))).trans (rfl)
        have hle40 : cnt ≤ cnt := (Nat.le_refl _)
        have ctf40 : ∀ z, z < cnt → ((la z < 70 ∨ 70 + 2 < la z) ∧ (la z < 90 ∨ 90 + 8 < la z)) → ((la z < la bk ∨ la bk + 2 < la z) ∧ (la z < la tn ∨ la tn + 8 < la z)) := fun z h0 hz => by have q2 := hB.2 z h0; omega
        have hF40_G : FRM cnt [60, 183, 203] (fun z => (la z < 70 ∨ 70 + 2 < la z) ∧ (la z < 90 ∨ 90 + 8 < la z)) G c40_G := FRM_trans FRM_refl fG40 hle40 (by decide) (ctf40)
        have hF40_P : FRM cnt [66, 181, 182] (fun z => (la z < 70 ∨ 70 + 2 < la z) ∧ (la z < 90 ∨ 90 + 8 < la z)) P c40_P := FRM_trans FRM_refl fP40 hle40 (by decide) (ctf40)
        have hF40_U : FRM cnt [184] (fun z => (la z < 70 ∨ 70 + 2 < la z) ∧ (la z < 90 ∨ 90 + 8 < la z)) U c40_U := FRM_trans FRM_refl fU40 hle40 (by decide) (ctf40)
        have hF40_V : FRM cnt [0, 1, 2, 3, 12] (fun z => (la z < 70 ∨ 70 + 2 < la z) ∧ (la z < 90 ∨ 90 + 8 < la z)) V c40_V := FRM_trans FRM_refl fV40 hle40 (by decide) (ctf40)
        have hF40_X : FRM cnt [1] (fun z => (la z < 70 ∨ 70 + 2 < la z) ∧ (la z < 90 ∨ 90 + 8 < la z)) X c40_X := FRM_trans FRM_refl fX40 hle40 (by decide) (ctf40)
        have hF40_O : FRM cnt [1] (fun z => (la z < 70 ∨ 70 + 2 < la z) ∧ (la z < 90 ∨ 90 + 8 < la z)) O c40_O := FRM_trans FRM_refl fO40 hle40 (by decide) (ctf40)
        have hlnn40 : ∀ z, z < cnt → c40_ln z = ln z := fun z hz => (fl40 z (Nat.lt_of_lt_of_le hz hle40)).trans (rfl)
        clear hlnn40 hF40_O hF40_X hF40_V hF40_U hF40_P hF40_G ag40 fG40 fU40 fV40 fX40 fO40 fl40
        have hn58 : (c40_P 221) this = some ra := (fP40 221 this hlt_this (fun q => absurd q (by decide))).trans hn1
        have lt_ra59 := ((hB40.1 221 fl_221) this ra hn58).2.1
        have hk_ra := (((CInv_P221 hCI40 :) this).2 ra hn58).1
        have hl1_ra := (((CInv_P221 hCI40 :) this).2 ra hn58).2.1
        have hl2_ra := (((CInv_P221 hCI40 :) this).2 ra hn58).2.2.1
        have hw_ra : id _ := (((CInv_P221 hCI40 :) this).2 ra hn58).2.2.2
        have hn60 : (c40_P 226) this = some tn := (fP40 226 this hlt_this (fun q => absurd q (by decide))).trans hn3
        have lt_tn61 := ((hB40.1 226 fl_226) this tn hn60).2.1
        have hk_tn := (((CInv_P226 hCI40 :) this).2 tn hn60).1
        have hl1_tn := (((CInv_P226 hCI40 :) this).2 tn hn60).2.1
        have hl2_tn := (((CInv_P226 hCI40 :) this).2 tn hn60).2.2.1
        have hw_tn : id _ := (((CInv_P226 hCI40 :) this).2 tn hn60).2.2.2
        have hn62 : (c40_P 229) this = some bk := (fP40 229 this hlt_this (fun q => absurd q (by decide))).trans hn5
        have lt_bk63 := ((hB40.1 229 fl_229) this bk hn62).2.1
        have hk_bk := (((CInv_P229 hCI40 :) this).2 bk hn62).1
        have hl1_bk := (((CInv_P229 hCI40 :) this).2 bk hn62).2.1
        have hl2_bk := (((CInv_P229 hCI40 :) this).2 bk hn62).2.2.1
        have hw_bk : id _ := (((CInv_P229 hCI40 :) this).2 bk hn62).2.2.2
        have hn64 : (c40_P 3) bk = some fl := (fP40 3 bk lt_bk6 (fun q => absurd q (by decide))).trans hn7
        have lt_fl65 := ((hB40.1 3 fl_3) bk fl hn64).2.1
        have hk_fl := (((CInv_P3 hCI40 :) bk).2 fl hn64).1
        have hl1_fl := (((CInv_P3 hCI40 :) bk).2 fl hn64).2.1
        have hl2_fl := (((CInv_P3 hCI40 :) bk).2 fl hn64).2.2.1
        have hw_fl : id _ := (((CInv_P3 hCI40 :) bk).2 fl hn64).2.2.2
        have hn66 : (c40_P 1) bk = some fa := (fP40 1 bk lt_bk6 (fun q => absurd q (by decide))).trans hn9
        have lt_fa67 := ((hB40.1 1 fl_1) bk fa hn66).2.1
        have hk_fa := (((CInv_P1 hCI40 :) bk).2 fa hn66).1
        have hl1_fa := (((CInv_P1 hCI40 :) bk).2 fa hn66).2.1
        have hl2_fa := (((CInv_P1 hCI40 :) bk).2 fa hn66).2.2.1
        have hw_fa : id _ := (((CInv_P1 hCI40 :) bk).2 fa hn66).2.2.2
        have hn68 : (c40_P 0) bk = some wd := (fP40 0 bk lt_bk6 (fun q => absurd q (by decide))).trans hn11
        have lt_wd69 := ((hB40.1 0 fl_0) bk wd hn68).2.1
        have hk_wd := (((CInv_P0 hCI40 :) bk).2 wd hn68).1
        have hl1_wd := (((CInv_P0 hCI40 :) bk).2 wd hn68).2.1
        have hl2_wd := (((CInv_P0 hCI40 :) bk).2 wd hn68).2.2.1
        have hw_wd : id _ := (((CInv_P0 hCI40 :) bk).2 wd hn68).2.2.2
        have hn70 : (c40_P 201) wd = some wl := (fP40 201 wd lt_wd12 (fun q => absurd q (by decide))).trans hn13
        have lt_wl71 := ((hB40.1 201 fl_201) wd wl hn70).2.1
        have hk_wl := (((CInv_P201 hCI40 :) wd).2 wl hn70).1
        have hl1_wl := (((CInv_P201 hCI40 :) wd).2 wl hn70).2.1
        have hl2_wl := (((CInv_P201 hCI40 :) wd).2 wl hn70).2.2.1
        have hw_wl : id _ := (((CInv_P201 hCI40 :) wd).2 wl hn70).2.2.2
        have hn72 : (c40_P 202) wd = some wz := (fP40 202 wd lt_wd12 (fun q => absurd q (by decide))).trans hn15
        have lt_wz73 := ((hB40.1 202 fl_202) wd wz hn72).2.1
        have hk_wz := (((CInv_P202 hCI40 :) wd).2 wz hn72).1
        have hl1_wz := (((CInv_P202 hCI40 :) wd).2 wz hn72).2.1
        have hl2_wz := (((CInv_P202 hCI40 :) wd).2 wz hn72).2.2.1
        have hw_wz : id _ := (((CInv_P202 hCI40 :) wd).2 wz hn72).2.2.2
        have rb74 := ((CInv_RB hCI40 :) wd wz hk_wd hn72).1
        have lp49 : ∀ (n49 : Nat) (y49_4 : Int32) (y49_5 : Int32), (0 ≤ y49_5.toInt ∧ y49_5.toInt ≤ 100) → (0 ≤ y49_4.toInt ∧ y49_4.toInt ≤ y49_5.toInt) → pw (L_X11_uses_49 this p0 p1 c40_G c40_P c40_U c40_V c40_X c40_O c40_kd c40_ln c40_cnt n49 y49_4 y49_5) (sp1 (QF_X11_uses κ wd la G P U V X O kd ln cnt this p0 p1 ra tn bk nw nx wh pg fi pa pk sz cl fa fl sp lsp ssp wl wz D d Ws)) := by
          intro n49
          clear fP40
          induction n49 with
          | zero => intros; exact pw_none
          | succ n49 ih49 =>
            intro y49_4 y49_5 f77 f78
            show pw (B_X11_uses_49 this p0 p1 c40_G c40_P c40_U c40_V c40_X c40_O c40_kd c40_ln c40_cnt (L_X11_uses_49 this p0 p1 c40_G c40_P c40_U c40_V c40_X c40_O c40_kd c40_ln c40_cnt n49) y49_4 y49_5) _
            unfold B_X11_uses_49
            refine pw_nne hn62 ?_
            refine pw_nne hn68 ?_
            have b79 := (CInv_G203 hCI40 :) wd
            refine pw_ite (fun c61 => ?_) (fun c61 => ?_)
            · have c61 := (z_le _ _).mp c61
              have qq0 : BKR c40_G c40_P c40_V la40 c40_cnt D ((c40_O 1) fa) (fun s => Int32.toNatClampNeg ((c40_V 3) fl s)) (FMT d Ws) := by exact BKR_fr p40_0 hB40 (fun _ => rfl) (fun _ _ => ⟨rfl, rfl, rfl⟩) (fun _ _ _ _ => ⟨rfl, rfl, rfl⟩) (Nat.le_refl _) (fun _ _ => rfl) (fun _ _ h => h)
              have qq1 : id ((∀ s : Nat, s < 7 → ((G 222) this).toInt < (s : Int) → (c40_V 3) fl s = (V 3) fl s)) := show (∀ s : Nat, s < 7 → ((G 222) this).toInt < (s : Int) → (c40_V 3) fl s = (V 3) fl s) from by intro s hs h9; have z9 := p40_1 s hs; rw [if_neg (by omega)] at z9; exact z9
              exact pw_some ⟨la40, hag40, hB40, qq0, qq1⟩
            · have c61 := z_nle c61
              refine pw_nne hn62 ?_
              have hpr72_0 : (0 ≤ p0.toInt ∧ p0.toInt ≤ 5) := by first | assumption | omega
              have hpr72_1 : (0 ≤ y49_5.toInt ∧ y49_5.toInt < 100) := by first | assumption | omega
              refine pw_b1 (fun r72 hc72 => ?_)
              have hq72 := wp_at (ok_X0_usesLaw κ40_23 wd c40_G c40_P c40_U c40_V c40_X c40_O c40_kd c40_ln c40_cnt bk p0 y49_5 p1 (CInv_P2 hCI40 :) (CInv_LN hCI40 :) hk_bk hpr72_0 hpr72_1) hc72
              have f83 : (0 ≤ r72.toInt ∧ r72.toInt ≤ 1) := hq72
              clear hq72
              refine pw_jE (fun j81 ej81 => ?_)
              refine pw_ite (fun c75 => ?_) (fun c75 => ?_)
              · have c75 := congrArg Int32.toInt c75
                refine pw_j1 ej81 (fun x81_4 ex81_4 => ?_)
                have ex81_4 := ex81_4.symm
                have f_x81_4 : x81_4.toInt = y49_4.toInt := by rw [ex81_4]
                have f84 : (y49_5 + 1).toInt = y49_5.toInt + (1) := z_addc (by decide +kernel) (by omega) (by omega)
                have iv49_0 : (0 ≤ (y49_5 + 1).toInt ∧ (y49_5 + 1).toInt ≤ 100) := by omega
                have iv49_1 : (0 ≤ x81_4.toInt ∧ x81_4.toInt ≤ (y49_5 + 1).toInt) := by omega
                exact ih49 x81_4 (y49_5 + 1) iv49_0 iv49_1
              · have c75 : r72.toInt = 1 := by have z9 := z_ne c75; omega
                have f85 : (y49_4 + 1).toInt = y49_4.toInt + (1) := z_addc (by decide +kernel) (by omega) (by omega)
                refine pw_j1 ej81 (fun x81_4 ex81_4 => ?_)
                have ex81_4 := ex81_4.symm
                have f_x81_4 : x81_4.toInt = (y49_4 + 1).toInt := by rw [ex81_4]
                have f86 : (y49_5 + 1).toInt = y49_5.toInt + (1) := z_addc (by decide +kernel) (by omega) (by omega)
                have iv49_0 : (0 ≤ (y49_5 + 1).toInt ∧ (y49_5 + 1).toInt ≤ 100) := by omega
                have iv49_1 : (0 ≤ x81_4.toInt ∧ x81_4.toInt ≤ (y49_5 + 1).toInt) := by omega
                exact ih49 x81_4 (y49_5 + 1) iv49_0 iv49_1
        exact lp49 NN (0 : Int32) (0 : Int32) (show (0 ≤ (0 : Int32).toInt ∧ (0 : Int32).toInt ≤ 100) from by omega) (show (0 ≤ (0 : Int32).toInt ∧ (0 : Int32).toInt ≤ (0 : Int32).toInt) from by omega)
      · have c19 := z_nlt c19
        refine pw_j0 ej22 ?_
        have qq0 : BKR G P V la cnt D ((O 1) fa) (fun s => Int32.toNatClampNeg ((V 3) fl s)) (FMT d Ws) := by exact BKR_fr hbk hB (fun _ => rfl) (fun _ _ => ⟨rfl, rfl, rfl⟩) (fun _ _ _ _ => ⟨rfl, rfl, rfl⟩) (Nat.le_refl _) (fun _ _ => rfl) (fun _ _ h => h)
        have qq1 : id ((∀ s : Nat, s < 7 → ((G 222) this).toInt < (s : Int) → (V 3) fl s = (V 3) fl s)) := show (∀ s : Nat, s < 7 → ((G 222) this).toInt < (s : Int) → (V 3) fl s = (V 3) fl s) from by exact fun _ _ _ => rfl
        exact pw_some ⟨la, (fun _ _ => rfl), hB, qq0, qq1⟩
abbrev QF_X11_mixed (κ : Nat → Nat) (wd : Nat) (la : Nat → Nat) (G : Nat → Nat → Int32) (P : Nat → Nat → Option Nat) (U : Nat → Nat → Int64) (V : Nat → Nat → Nat → Int32) (X : Nat → Nat → Nat → Int64) (O : Nat → Nat → Nat → Option Nat) (kd : Nat → Nat) (ln : Nat → Nat) (cnt : Nat) (this : Nat) (p0 : Int32) (ra : Nat) (tn : Nat) (bk : Nat) (nw : Nat) (nx : Nat) (wh : Nat) (pg : Nat) (fi : Nat) (pa : Nat) (pk : Nat) (sz : Nat) (cl : Nat) (fa : Nat) (fl : Nat) (sp : Nat) (lsp : Nat) (ssp : Nat) (wl : Nat) (wz : Nat) (D : Nat) (d : Nat → Dr) (Ws : List Wd) : (Int32 × (Nat → Nat → Int32) × (Nat → Nat → Option Nat) × (Nat → Nat → Int64) × (Nat → Nat → Nat → Int32) × (Nat → Nat → Nat → Int64) × (Nat → Nat → Nat → Option Nat) × (Nat → Nat) × (Nat → Nat) × Nat) → Prop := (fun t => ∃ la1 : Nat → Nat, (∀ z, z < cnt → la1 z = la z) ∧ LB la1 (t.2.2.2.2.2.2.2.2.2) (t.2.2.1) ∧ (BKR (t.2.1) (t.2.2.1) (t.2.2.2.2.1) la1 (t.2.2.2.2.2.2.2.2.2) D (((t.2.2.2.2.2.2.1) 1) fa) (fun s => Int32.toNatClampNeg (((t.2.2.2.2.1) 3) fl s)) (FMT d Ws)) ∧ ((∀ s : Nat, s < 7 → ((G 222) this).toInt < (s : Int) → ((t.2.2.2.2.1) 3) fl s = (V 3) fl s)))
set_option maxHeartbeats 4000000 in
set_option maxRecDepth 100000 in
theorem fn_X11_mixed (κ : Nat → Nat) (wd : Nat) (la : Nat → Nat) (G : Nat → Nat → Int32) (P : Nat → Nat → Option Nat) (U : Nat → Nat → Int64) (V : Nat → Nat → Nat → Int32) (X : Nat → Nat → Nat → Int64) (O : Nat → Nat → Nat → Option Nat) (kd : Nat → Nat) (ln : Nat → Nat) (cnt : Nat) (this : Nat) (p0 : Int32) (ra : Nat) (tn : Nat) (bk : Nat) (nw : Nat) (nx : Nat) (wh : Nat) (pg : Nat) (fi : Nat) (pa : Nat) (pk : Nat) (sz : Nat) (cl : Nat) (fa : Nat) (fl : Nat) (sp : Nat) (lsp : Nat) (ssp : Nat) (wl : Nat) (wz : Nat) (D : Nat) (d : Nat → Dr) (Ws : List Wd) (hI : CInv κ wd G P V O ln cnt) (hk_this : κ this = 12) (hB : LB la cnt P) (hlt_this : this < cnt) (hpl0 : la this = 200) (h221 : (P 221) this = some ra) (h226 : (P 226) this = some tn) (h229 : (P 229) this = some bk) (h181 : (P 181) tn = some nw) (h182 : (P 182) tn = some nx) (hnn : nw ≠ nx) (h185 : (P 185) tn = some wh) (h180 : (P 180) tn = some pg) (hfi : (P 63) pg = some fi) (hpa : (P 65) pg = some pa) (hpk : (P 62) pg = some pk) (hsz : (P 61) pg = some sz) (hcl : (P 64) pg = some cl) (hlt9 : la tn = 90) (h1 : (P 1) bk = some fa) (h3 : (P 3) bk = some fl) (h4 : (P 4) bk = some sp) (hls : (P 201) sp = some lsp) (hss : (P 202) sp = some ssp) (hw4 : ((G 200) sp).toInt = ((24 : Nat) : Int)) (hn4 : ln ssp = 12) (hwl : (P 201) wd = some wl) (hwz : (P 202) wd = some wz) (hww : ((G 200) wd).toInt = ((24 : Nat) : Int)) (hWs : rwW ((G 203) wd) ((V 0) wl) ((V 1) wz) 24 = Ws) (hWw : WDS Ws) (hbk : BKR G P V la cnt D ((O 1) fa) (fun s => Int32.toNatClampNeg ((V 3) fl s)) (FMT d Ws)) (hDc : D < 100000 + 10 * cnt) (h0 : (P 0) bk = some wd) (hl7 : ln fl = 7 ∧ ln fa = 700) (hl6 : ln ra = 6) (hrf : ∀ q, q < Int32.toNatClampNeg ((G 222) this) → ∃ rf, (O 2) ra q = some rf ∧ rf < cnt ∧ 100000 ≤ la rf ∧ RFX G P V O ln la cnt rf (d q)) : pw (f_X11_mixed G P U V X O kd ln cnt this p0) (sp1 (QF_X11_mixed κ wd la G P U V X O kd ln cnt this p0 ra tn bk nw nx wh pg fi pa pk sz cl fa fl sp lsp ssp wl wz D d Ws)) := by
  unfold f_X11_mixed
  have zkm2 : (-2 : Int32).toInt = -2 := by decide +kernel
  have zkm1 : (-1 : Int32).toInt = -1 := by decide +kernel
  have zk0 : (0 : Int32).toInt = 0 := by decide +kernel
  have zk1 : (1 : Int32).toInt = 1 := by decide +kernel
  have zk40 : (40 : Int32).toInt = 40 := by decide +kernel
  have zk50 : (50 : Int32).toInt = 50 := by decide +kernel
  have r_p0 := i32r p0
  replace hnn : id _ := hnn
  have hn1 : (P 221) this = some ra := h221
  obtain ⟨_, lt_ra2, lb_ra2⟩ := (hB.1 221 fl_221) this ra hn1
  have lb_ra2 : la ra = 203 := (lk_221.mp lb_ra2).trans (congrArg (fun z9 => z9 + 3) hpl0)
  have hk_ra := (((CInv_P221 hI :) this).2 ra hn1).1
  have hl1_ra := (((CInv_P221 hI :) this).2 ra hn1).2.1
  have hl2_ra := (((CInv_P221 hI :) this).2 ra hn1).2.2.1
  have hw_ra : id _ := (((CInv_P221 hI :) this).2 ra hn1).2.2.2
  have hz_ra : (Int32.ofNat (ln ra)).toInt = ((ln ra : Nat) : Int) := ofN_eq (by first | exact Nat.le_trans hl2_ra (by decide) | omega)
  have hn3 : (P 226) this = some tn := h226
  have lt_tn4 := ((hB.1 226 fl_226) this tn hn3).2.1
  have lb_tn4 : la tn = 90 := lk_226.mp ((hB.1 226 fl_226) this tn hn3).2.2
  have hk_tn := (((CInv_P226 hI :) this).2 tn hn3).1
  have hl1_tn := (((CInv_P226 hI :) this).2 tn hn3).2.1
  have hl2_tn := (((CInv_P226 hI :) this).2 tn hn3).2.2.1
  have hw_tn : id _ := (((CInv_P226 hI :) this).2 tn hn3).2.2.2
  have hn5 : (P 229) this = some bk := h229
  have lt_bk6 := ((hB.1 229 fl_229) this bk hn5).2.1
  have lb_bk6 : la bk = 70 := lk_229.mp ((hB.1 229 fl_229) this bk hn5).2.2
  have hk_bk := (((CInv_P229 hI :) this).2 bk hn5).1
  have hl1_bk := (((CInv_P229 hI :) this).2 bk hn5).2.1
  have hl2_bk := (((CInv_P229 hI :) this).2 bk hn5).2.2.1
  have hw_bk : id _ := (((CInv_P229 hI :) this).2 bk hn5).2.2.2
  have hn7 : (P 3) bk = some fl := h3
  obtain ⟨_, lt_fl8, lb_fl8⟩ := (hB.1 3 fl_3) bk fl hn7
  have lb_fl8 : la fl = 70 := (lk_3.mp lb_fl8).trans (congrArg (fun z9 => z9 + 0) lb_bk6)
  have hk_fl := (((CInv_P3 hI :) bk).2 fl hn7).1
  have hl1_fl := (((CInv_P3 hI :) bk).2 fl hn7).2.1
  have hl2_fl := (((CInv_P3 hI :) bk).2 fl hn7).2.2.1
  have hw_fl : id _ := (((CInv_P3 hI :) bk).2 fl hn7).2.2.2
  have hz_fl : (Int32.ofNat (ln fl)).toInt = ((ln fl : Nat) : Int) := ofN_eq (by first | exact Nat.le_trans hl2_fl (by decide) | omega)
  have hn9 : (P 1) bk = some fa := h1
  obtain ⟨_, lt_fa10, lb_fa10⟩ := (hB.1 1 fl_1) bk fa hn9
  have lb_fa10 : la fa = 70 := (lk_1.mp lb_fa10).trans (congrArg (fun z9 => z9 + 0) lb_bk6)
  have hk_fa := (((CInv_P1 hI :) bk).2 fa hn9).1
  have hl1_fa := (((CInv_P1 hI :) bk).2 fa hn9).2.1
  have hl2_fa := (((CInv_P1 hI :) bk).2 fa hn9).2.2.1
  have hw_fa : id _ := (((CInv_P1 hI :) bk).2 fa hn9).2.2.2
  have hz_fa : (Int32.ofNat (ln fa)).toInt = ((ln fa : Nat) : Int) := ofN_eq (by first | exact Nat.le_trans hl2_fa (by decide) | omega)
  have hn11 : (P 0) bk = some wd := h0
  have lt_wd12 := ((hB.1 0 fl_0) bk wd hn11).2.1
  have lb_wd12 : la wd = 20 := lk_0.mp ((hB.1 0 fl_0) bk wd hn11).2.2
  have hk_wd := (((CInv_P0 hI :) bk).2 wd hn11).1
  have hl1_wd := (((CInv_P0 hI :) bk).2 wd hn11).2.1
  have hl2_wd := (((CInv_P0 hI :) bk).2 wd hn11).2.2.1
  have hw_wd : id _ := (((CInv_P0 hI :) bk).2 wd hn11).2.2.2
  have hn13 : (P 201) wd = some wl := hwl
  obtain ⟨_, lt_wl14, lb_wl14⟩ := (hB.1 201 fl_201) wd wl hn13
  have lb_wl14 : la wl = 20 := (lk_201.mp lb_wl14).trans (congrArg (fun z9 => z9 + 0) lb_wd12)
  have hk_wl := (((CInv_P201 hI :) wd).2 wl hn13).1
  have hl1_wl := (((CInv_P201 hI :) wd).2 wl hn13).2.1
  have hl2_wl := (((CInv_P201 hI :) wd).2 wl hn13).2.2.1
  have hw_wl : id _ := (((CInv_P201 hI :) wd).2 wl hn13).2.2.2
  have hz_wl : (Int32.ofNat (ln wl)).toInt = ((ln wl : Nat) : Int) := ofN_eq (by first | exact Nat.le_trans hl2_wl (by decide) | omega)
  have hn15 : (P 202) wd = some wz := hwz
  obtain ⟨_, lt_wz16, lb_wz16⟩ := (hB.1 202 fl_202) wd wz hn15
  have lb_wz16 : la wz = 20 := (lk_202.mp lb_wz16).trans (congrArg (fun z9 => z9 + 0) lb_wd12)
  have hk_wz := (((CInv_P202 hI :) wd).2 wz hn15).1
  have hl1_wz := (((CInv_P202 hI :) wd).2 wz hn15).2.1
  have hl2_wz := (((CInv_P202 hI :) wd).2 wz hn15).2.2.1
  have hw_wz : id _ := (((CInv_P202 hI :) wd).2 wz hn15).2.2.2
  have hz_wz : (Int32.ofNat (ln wz)).toInt = ((ln wz : Nat) : Int) := ofN_eq (by first | exact Nat.le_trans hl2_wz (by decide) | omega)
  have rb17 := ((CInv_RB hI :) wd wz hk_wd hn15).1
  have ra18 := (CInv_RA hI :) wd wl wz hk_wd hn13 hn15
  have bw19 := (CInv_G200 hI :) wd
  have hb222 := (CInv_G222 hI :) this
  have hb222 := (CInv_G222 hI :) this
  have c222 := clampI (x := (G 222) this) (by omega)
  refine pw_nn (fun a1 hn_a1 => ?_)
  have lt_a120 := ((hB.1 220 fl_220) this a1 hn_a1).2.1
  have lb_a120 : la a1 = 10 := lk_220.mp ((hB.1 220 fl_220) this a1 hn_a1).2.2
  have hk_a1 := (((CInv_P220 hI :) this).2 a1 hn_a1).1
  have hl1_a1 := (((CInv_P220 hI :) this).2 a1 hn_a1).2.1
  have hl2_a1 := (((CInv_P220 hI :) this).2 a1 hn_a1).2.2.1
  have hw_a1 : id _ := (((CInv_P220 hI :) this).2 a1 hn_a1).2.2.2
  refine pw_b2 (fun r4 c4_G141 hc4 => ?_)
  have hq4 := wp_at (ok_X7_take κ wd G P U V X O kd ln cnt a1 (CInv_G141 hI :) (CInv_LN hI :) hk_a1) hc4
  obtain ⟨hg21, f22, f23, f24⟩ : (rng (0) 2000 c4_G141) ∧ (r4.toInt = ((G 141) a1).toInt) ∧ ((c4_G141 a1).toInt = 0) ∧ ((0 ≤ r4.toInt ∧ r4.toInt ≤ 2000)) := hq4
  have hq4 := pwq (fr_X7_take la G P U V X O kd ln cnt a1 hB) hc4
  have q4_G141 : (∀ z, (la z < la a1 ∨ la a1 < la z) → c4_G141 z = (G 141) z) := hq4
  clear hq4
  have tz4 : ∀ z, (z < cnt ∧ (la z < 10 ∨ 10 < la z) ∧ (la z < 70 ∨ 70 + 2 < la z) ∧ (la z < 90 ∨ 90 + 8 < la z) ∧ (la z < 310 ∨ 310 < la z) ∧ (la z < 330 ∨ 330 < la z)) → ((la z < la a1 ∨ la a1 < la z)) := fun z hz => by omega
  have hfr25 : ∀ z, (z < cnt ∧ (la z < 10 ∨ 10 < la z) ∧ (la z < 70 ∨ 70 + 2 < la z) ∧ (la z < 90 ∨ 90 + 8 < la z) ∧ (la z < 310 ∨ 310 < la z) ∧ (la z < 330 ∨ 330 < la z)) → c4_G141 z = (G 141) z := fun z hz => (q4_G141 z (tz4 z hz)).trans ((fun _ _ => rfl) z hz)
  have hx4 := pwq (fn_X7_take κ wd la G P U V X O kd ln cnt a1 (CInv_G141 hI :) (CInv_LN hI :) hk_a1 hB lt_a120) hc4
  obtain ⟨p4_0, p4_1⟩ : (r4 = (G 141) a1) ∧ (c4_G141 a1 = 0) := hx4
  refine pw_jE (fun j18 ej18 => ?_)
  refine pw_ite (fun c9 => ?_) (fun c9 => ?_)
  · have c9 := (z_lt _ _).mp c9
    refine pw_j0 ej18 ?_
    have qq0 : BKR (va_up G 141 c4_G141) P V la cnt D ((O 1) fa) (fun s => Int32.toNatClampNeg ((V 3) fl s)) (FMT d Ws) := by exact BKR_fr hbk hB (fun _ => rfl) (fun _ _ => ⟨rfl, rfl, rfl⟩) (fun _ _ _ _ => ⟨rfl, rfl, rfl⟩) (Nat.le_refl _) (fun _ _ => rfl) (fun _ _ h => h)
    have qq1 : id ((∀ s : Nat, s < 7 → ((G 222) this).toInt < (s : Int) → (V 3) fl s = (V 3) fl s)) := show (∀ s : Nat, s < 7 → ((G 222) this).toInt < (s : Int) → (V 3) fl s = (V 3) fl s) from by exact fun _ _ _ => rfl
    exact pw_some ⟨la, (fun _ _ => rfl), hB, qq0, qq1⟩
  · have c9 := z_nlt c9
    refine pw_ite (fun c15 => ?_) (fun c15 => ?_)
    · have c15 := (z_le _ _).mp c15
      refine pw_nne hn_a1 ?_
      refine pw_b1 (fun r26 hc26 => ?_)
      have hq26 := wp_at (ok_X7_lines κ wd (va_up G 141 c4_G141) P U V X O kd ln cnt a1 r4 (CInv_P140 hI :) (CInv_LN hI :) hk_a1) hc26
      have f26 : (1 ≤ r26.toInt ∧ r26.toInt ≤ 2001) := hq26
      clear hq26
      refine pw_nne hn_a1 ?_
      refine pw_b1 (fun r35 hc35 => ?_)
      have hq35 := wp_at (ok_X7_hasZero κ wd (va_up G 141 c4_G141) P U V X O kd ln cnt a1 r4 (CInv_P140 hI :) (CInv_LN hI :) hk_a1) hc35
      have f27 : (0 ≤ r35.toInt ∧ r35.toInt ≤ 1) := hq35
      clear hq35
      refine pw_jE (fun j47 ej47 => ?_)
      refine pw_ite (fun c38 => ?_) (fun c38 => ?_)
      · have c38 := congrArg Int32.toInt c38
        refine pw_ite (fun c44 => ?_) (fun c44 => ?_)
        · have c44 := (z_le _ _).mp c44
          refine pw_nne hn5 ?_
          have b28 := (CInv_G222 hI :) this
          refine pw_nne hn1 ?_
          refine pw_nne hn3 ?_
          have hpr65_0 : ln ra = 6 := by first | assumption | omega
          refine pw_bA9 (fun c65_G c65_P c65_U c65_V c65_X c65_O c65_kd c65_ln c65_cnt v1_65 v2_65 hc65 => ?_)
          have hq65 := wp_at (ok_X0_fill κ wd (va_up G 141 c4_G141) P U V X O kd ln cnt bk ((G 222) this) ra tn (CInv_i (CInv_G43 hI :) (CInv_G44 hI :) (CInv_G45 hI :) (CInv_G60 hI :) (CInv_G83 hI :) (CInv_G84 hI :) (CInv_G85 hI :) (CInv_G87 hI :) (CInv_G88 hI :) (CInv_G102 hI :) (CInv_G125 hI :) (CInv_G126 hI :) (CInv_G127 hI :) hg21 (CInv_G160 hI :) (CInv_G161 hI :) (CInv_G162 hI :) (CInv_G165 hI :) (CInv_G166 hI :) (CInv_G183 hI :) (CInv_G200 hI :) (CInv_G203 hI :) (CInv_G222 hI :) (CInv_G231 hI :) (CInv_G233 hI :) (CInv_P0 hI :) (CInv_P1 hI :) (CInv_P2 hI :) (CInv_P3 hI :) (CInv_P4 hI :) (CInv_P5 hI :) (CInv_P20 hI :) (CInv_P21 hI :) (CInv_P22 hI :) (CInv_P23 hI :) (CInv_P40 hI :) (CInv_P41 hI :) (CInv_P42 hI :) (CInv_P61 hI :) (CInv_P62 hI :) (CInv_P63 hI :) (CInv_P64 hI :) (CInv_P65 hI :) (CInv_P66 hI :) (CInv_P82 hI :) (CInv_P101 hI :) (CInv_P103 hI :) (CInv_P104 hI :) (CInv_P105 hI :) (CInv_P106 hI :) (CInv_P108 hI :) (CInv_P109 hI :) (CInv_P110 hI :) (CInv_P120 hI :) (CInv_P121 hI :) (CInv_P122 hI :) (CInv_P123 hI :) (CInv_P140 hI :) (CInv_P164 hI :) (CInv_P180 hI :) (CInv_P181 hI :) (CInv_P182 hI :) (CInv_P185 hI :) (CInv_P186 hI :) (CInv_P187 hI :) (CInv_P201 hI :) (CInv_P202 hI :) (CInv_P220 hI :) (CInv_P221 hI :) (CInv_P224 hI :) (CInv_P225 hI :) (CInv_P226 hI :) (CInv_P227 hI :) (CInv_P228 hI :) (CInv_P229 hI :) (CInv_P230 hI :) (CInv_P232 hI :) (CInv_P234 hI :) (CInv_P235 hI :) (CInv_P236 hI :) (CInv_V1 hI :) (CInv_V2 hI :) (CInv_V3 hI :) (CInv_V9 hI :) (CInv_O0 hI :) (CInv_O1 hI :) (CInv_O2 hI :) (CInv_RA hI :) (CInv_RB hI :) (CInv_RI hI :) (CInv_RM103 hI :) (CInv_RM104 hI :) (CInv_RM108 hI :) (CInv_LN hI :) (CInv_FL hI :) (CInv_W0 hI :) (CInv_KC hI :) (CInv_WK hI :)) hk_bk hk_ra hk_tn hpr65_0) hc65
          obtain ⟨κ65_28, hCI65, hxx65, hcc30, hfr31, hfr32, hfr33, hfr34, hfr35, hfr36, hfr37, hfr38, hfr39, f40, f41⟩ : ∃ κ1 : Nat → Nat, (CInv κ1 wd c65_G c65_P c65_V c65_O c65_ln c65_cnt) ∧ (∀ a, κ a ≠ 0 → κ1 a = κ a) ∧ (cnt ≤ c65_cnt) ∧ ((∀ a, κ a ≠ 0 → (c65_P 220) a = (P 220) a)) ∧ ((∀ a, κ a ≠ 0 → (c65_P 229) a = (P 229) a)) ∧ ((∀ a, κ a ≠ 0 → (c65_P 3) a = (P 3) a)) ∧ ((∀ a, κ a ≠ 0 → (c65_G 141) a = c4_G141 a)) ∧ ((∀ a, κ a ≠ 0 → (c65_G 83) a = (G 83) a)) ∧ ((∀ a, κ a ≠ 0 → (c65_P 82) a = (P 82) a)) ∧ ((∀ a, κ a ≠ 0 → (c65_P 0) a = (P 0) a)) ∧ ((∀ a, κ a ≠ 0 → (c65_G 160) a = (G 160) a)) ∧ ((∀ a, κ a ≠ 0 → c65_ln a = ln a)) ∧ ((c65_G 203) wd = (G 203) wd) ∧ (id ((∀ fl, (P 3) bk = some fl → (((v1_65 : Nat) : Int) + 3 * s7 ((V 3) fl) ≤ 3 * s7 ((c65_V 3) fl)) ∧ (((v2_65 : Nat) : Int) + 2504 * s7 ((V 3) fl) ≤ 2504 * s7 ((c65_V 3) fl))))) := hq65
          have kx42 : ∀ a, κ a ≠ 0 → κ65_28 a = κ a := hxx65
          have hk43 : κ65_28 this = 12 := kxk hxx65 hk_this (by decide)
          have hq65 := pwq (fr_X0_fill la (va_up G 141 c4_G141) P U V X O kd ln cnt bk ((G 222) this) ra tn hB lt_bk6 lt_ra2 lt_tn4) hc65
          obtain ⟨la65_f, agf65, hBf65, ccf65, fG65, fP65, fU65, fV65, fX65, fO65, fl65⟩ : ∃ la9 : Nat → Nat, (∀ z, z < cnt → la9 z = la z) ∧ LB la9 c65_cnt c65_P ∧ cnt ≤ c65_cnt ∧ FRM cnt [60, 183, 203] (fun z => (la z < la bk ∨ la bk + 2 < la z) ∧ (la z < la tn ∨ la tn + 8 < la z)) (va_up G 141 c4_G141) c65_G ∧ FRM cnt [66, 181, 182] (fun z => (la z < la bk ∨ la bk + 2 < la z) ∧ (la z < la tn ∨ la tn + 8 < la z)) P c65_P ∧ FRM cnt [184] (fun z => (la z < la bk ∨ la bk + 2 < la z) ∧ (la z < la tn ∨ la tn + 8 < la z)) U c65_U ∧ FRM cnt [0, 1, 2, 3, 12] (fun z => (la z < la bk ∨ la bk + 2 < la z) ∧ (la z < la tn ∨ la tn + 8 < la z)) V c65_V ∧ FRM cnt [1] (fun z => (la z < la bk ∨ la bk + 2 < la z) ∧ (la z < la tn ∨ la tn + 8 < la z)) X c65_X ∧ FRM cnt [1] (fun z => (la z < la bk ∨ la bk + 2 < la z) ∧ (la z < la tn ∨ la tn + 8 < la z)) O c65_O ∧ (∀ z, z < cnt → c65_ln z = ln z) := hq65
          have h865_h181 : (P 181) tn = some nw := by exact h181
          have h865_h182 : (P 182) tn = some nx := by exact h182
          have h865_hnn : nw ≠ nx := by exact hnn
          have h865_h185 : (P 185) tn = some wh := by exact h185
          have h865_h180 : (P 180) tn = some pg := by exact h180
          have h865_hfi : (P 63) pg = some fi := by exact hfi
          have h865_hpa : (P 65) pg = some pa := by exact hpa
          have h865_hpk : (P 62) pg = some pk := by exact hpk
          have h865_hsz : (P 61) pg = some sz := by exact hsz
          have h865_hcl : (P 64) pg = some cl := by exact hcl
          have h865_hlt9 : la tn = 90 := by exact hlt9
          have h865_h1 : (P 1) bk = some fa := by exact h1
          have h865_h3 : (P 3) bk = some fl := by exact h3
          have h865_h4 : (P 4) bk = some sp := by exact h4
          have h865_hls : (P 201) sp = some lsp := by exact hls
          have h865_hss : (P 202) sp = some ssp := by exact hss
          have h865_hw4 : ((G 200) sp).toInt = ((24 : Nat) : Int) := by exact hw4
          have h865_hn4 : ln ssp = 12 := by exact hn4
          have h865_hwl : (P 201) wd = some wl := by exact hwl
          have h865_hwz : (P 202) wd = some wz := by exact hwz
          have h865_hww : ((G 200) wd).toInt = ((24 : Nat) : Int) := by exact hww
          have h865_hWs : rwW ((G 203) wd) ((V 0) wl) ((V 1) wz) 24 = Ws := by exact hWs
          have h865_hWw : WDS Ws := by exact hWw
          have h865_hlb : la bk = 70 := by omega
          have h865_hlw : la wd = 20 := by omega
          have h865_hst : 0 ≤ ((G 222) this).toInt ∧ ((G 222) this).toInt ≤ 6 := by omega
          have h865_hrf : id (∀ q : Nat, (q : Int) < ((G 222) this).toInt → ∃ rf, (O 2) ra q = some rf ∧ rf < cnt ∧ 100000 ≤ la rf ∧ RFX (va_up G 141 c4_G141) P V O ln la cnt rf (d q)) := show ∀ q : Nat, (q : Int) < ((G 222) this).toInt → ∃ rf, (O 2) ra q = some rf ∧ rf < cnt ∧ 100000 ≤ la rf ∧ RFX (va_up G 141 c4_G141) P V O ln la cnt rf (d q) from by exact fun q hq => (by obtain ⟨rf9, y1, y2, y3, y4⟩ := hrf q (by omega); exact ⟨rf9, y1, y2, y3, RFX_fr y4 hB y2 (fun z hz h3 h4 => ⟨rfl, rfl, rfl, rfl, rfl, rfl, rfl, rfl, rfl, rfl, rfl, rfl, rfl, rfl, rfl, rfl, rfl, rfl, rfl, rfl, rfl, rfl, rfl, rfl, rfl, rfl⟩) (Nat.le_refl _) (fun _ _ => rfl)⟩)
          have h865_hbk : BKR (va_up G 141 c4_G141) P V la cnt D ((O 1) fa) (fun s => Int32.toNatClampNeg ((V 3) fl s)) (FMT d Ws) := by exact BKR_fr hbk hB (fun _ => rfl) (fun _ _ => ⟨rfl, rfl, rfl⟩) (fun _ _ _ _ => ⟨rfl, rfl, rfl⟩) (Nat.le_refl _) (fun _ _ => rfl) (fun _ _ h => h)
          have h865_hDc : D < 100000 + 10 * cnt := by exact hDc
          have h865_h0 : (P 0) bk = some wd := by exact h0
          have h865_hl7 : ln fl = 7 ∧ ln fa = 700 := by exact hl7
          have hx65 := pwq (fn_X0_fill κ wd la (va_up G 141 c4_G141) P U V X O kd ln cnt bk ((G 222) this) ra tn (nw) (nx) (wh) (pg) (fi) (pa) (pk) (sz) (cl) (fa) (fl) (sp) (lsp) (ssp) (wl) (wz) (D) (d) (Ws) (CInv_i (CInv_G43 hI :) (CInv_G44 hI :) (CInv_G45 hI :) (CInv_G60 hI :) (CInv_G83 hI :) (CInv_G84 hI :) (CInv_G85 hI :) (CInv_G87 hI :) (CInv_G88 hI :) (CInv_G102 hI :) (CInv_G125 hI :) (CInv_G126 hI :) (CInv_G127 hI :) hg21 (CInv_G160 hI :) (CInv_G161 hI :) (CInv_G162 hI :) (CInv_G165 hI :) (CInv_G166 hI :) (CInv_G183 hI :) (CInv_G200 hI :) (CInv_G203 hI :) (CInv_G222 hI :) (CInv_G231 hI :) (CInv_G233 hI :) (CInv_P0 hI :) (CInv_P1 hI :) (CInv_P2 hI :) (CInv_P3 hI :) (CInv_P4 hI :) (CInv_P5 hI :) (CInv_P20 hI :) (CInv_P21 hI :) (CInv_P22 hI :) (CInv_P23 hI :) (CInv_P40 hI :) (CInv_P41 hI :) (CInv_P42 hI :) (CInv_P61 hI :) (CInv_P62 hI :) (CInv_P63 hI :) (CInv_P64 hI :) (CInv_P65 hI :) (CInv_P66 hI :) (CInv_P82 hI :) (CInv_P101 hI :) (CInv_P103 hI :) (CInv_P104 hI :) (CInv_P105 hI :) (CInv_P106 hI :) (CInv_P108 hI :) (CInv_P109 hI :) (CInv_P110 hI :) (CInv_P120 hI :) (CInv_P121 hI :) (CInv_P122 hI :) (CInv_P123 hI :) (CInv_P140 hI :) (CInv_P164 hI :) (CInv_P180 hI :) (CInv_P181 hI :) (CInv_P182 hI :) (CInv_P185 hI :) (CInv_P186 hI :) (CInv_P187 hI :) (CInv_P201 hI :) (CInv_P202 hI :) (CInv_P220 hI :) (CInv_P221 hI :) (CInv_P224 hI :) (CInv_P225 hI :) (CInv_P226 hI :) (CInv_P227 hI :) (CInv_P228 hI :) (CInv_P229 hI :) (CInv_P230 hI :) (CInv_P232 hI :) (CInv_P234 hI :) (CInv_P235 hI :) (CInv_P236 hI :) (CInv_V1 hI :) (CInv_V2 hI :) (CInv_V3 hI :) (CInv_V9 hI :) (CInv_O0 hI :) (CInv_O1 hI :) (CInv_O2 hI :) (CInv_RA hI :) (CInv_RB hI :) (CInv_RI hI :) (CInv_RM103 hI :) (CInv_RM104 hI :) (CInv_RM108 hI :) (CInv_LN hI :) (CInv_FL hI :) (CInv_W0 hI :) (CInv_KC hI :) (CInv_WK hI :)) hk_bk hk_ra hk_tn hpr65_0 hB lt_bk6 lt_ra2 lt_tn4 h865_h181 h865_h182 h865_hnn h865_h185 h865_h180 h865_hfi h865_hpa h865_hpk h865_hsz h865_hcl h865_hlt9 h865_h1 h865_h3 h865_h4 h865_hls h865_hss h865_hw4 h865_hn4 h865_hwl h865_hwz h865_hww h865_hWs h865_hWw h865_hlb h865_hlw h865_hst h865_hrf h865_hbk h865_hDc h865_h0 h865_hl7) hc65
          obtain ⟨la65, ag65, hB65, p65_0, p65_1⟩ : ∃ la9 : Nat → Nat, (∀ z, z < cnt → la9 z = la z) ∧ LB la9 c65_cnt c65_P ∧ (BKR c65_G c65_P c65_V la9 c65_cnt D ((c65_O 1) fa) (fun s => Int32.toNatClampNeg ((c65_V 3) fl s)) (FMT d Ws)) ∧ (id ((∀ s : Nat, s < 7 → (c65_V 3) fl s = (if (s : Int) ≤ ((G 222) this).toInt then (G 203) wd else (V 3) fl s)))) := hx65
          clear h865_hl7 h865_h0 h865_hDc h865_hbk h865_hrf h865_hst h865_hlw h865_hlb h865_hWw h865_hWs h865_hww h865_hwz h865_hwl h865_hn4 h865_hw4 h865_hss h865_hls h865_h4 h865_h3 h865_h1 h865_hlt9 h865_hcl h865_hsz h865_hpk h865_hpa h865_hfi h865_h180 h865_h185 h865_hnn h865_h182 h865_h181 agf65 hBf65 hk43 kx42 hxx65 hfr31 hfr32 hfr33 hfr34 hfr35 hfr36 hfr37 hfr38 hfr39 hc65 hpr65_0 hc35 hc26 tz4 q4_G141 hg21 hc4
          have gl_44 : la65 this = 200 := (ag65 this hlt_this).trans hpl0
          have lt45 : this < c65_cnt := Nat.lt_of_lt_of_le hlt_this ccf65
          have gl_46 : la65 ra = 203 := (ag65 ra lt_ra2).trans lb_ra2
          have lt47 : ra < c65_cnt := Nat.lt_of_lt_of_le lt_ra2 ccf65
          have gl_48 : la65 tn = 90 := (ag65 tn lt_tn4).trans lb_tn4
          have lt49 : tn < c65_cnt := Nat.lt_of_lt_of_le lt_tn4 ccf65
          have gl_50 : la65 bk = 70 := (ag65 bk lt_bk6).trans lb_bk6
          have lt51 : bk < c65_cnt := Nat.lt_of_lt_of_le lt_bk6 ccf65
          have gl_52 : la65 fl = 70 := (ag65 fl lt_fl8).trans lb_fl8
          have lt53 : fl < c65_cnt := Nat.lt_of_lt_of_le lt_fl8 ccf65
          have gl_54 : la65 fa = 70 := (ag65 fa lt_fa10).trans lb_fa10
          have lt55 : fa < c65_cnt := Nat.lt_of_lt_of_le lt_fa10 ccf65
          have gl_56 : la65 wd = 20 := (ag65 wd lt_wd12).trans lb_wd12
          have lt57 : wd < c65_cnt := Nat.lt_of_lt_of_le lt_wd12 ccf65
          have gl_58 : la65 wl = 20 := (ag65 wl lt_wl14).trans lb_wl14
          have lt59 : wl < c65_cnt := Nat.lt_of_lt_of_le lt_wl14 ccf65
          have gl_60 : la65 wz = 20 := (ag65 wz lt_wz16).trans lb_wz16
          have lt61 : wz < c65_cnt := Nat.lt_of_lt_of_le lt_wz16 ccf65
          have gl_62 : la65 a1 = 10 := (ag65 a1 lt_a120).trans lb_a120
          have lt63 : a1 < c65_cnt := Nat.lt_of_lt_of_le lt_a120 ccf65
          have hag65 : ∀ z, z < cnt → la65 z = la z := fun z hz => (ag65 z (Nat.lt_of_lt_of_le hz (Nat.le_refl _))).trans (rfl)
          have hle65 : cnt ≤ cnt := (Nat.le_refl _)
          have ctf65 : ∀ z, z < cnt → ((la z < 10 ∨ 10 < la z) ∧ (la z < 70 ∨ 70 + 2 < la z) ∧ (la z < 90 ∨ 90 + 8 < la z) ∧ (la z < 310 ∨ 310 < la z) ∧ (la z < 330 ∨ 330 < la z)) → ((la z < la bk ∨ la bk + 2 < la z) ∧ (la z < la tn ∨ la tn + 8 < la z)) := fun z h0 hz => by have q2 := hB.2 z h0; omega
          have hF65_G : FRM cnt [43, 44, 45, 60, 141, 160, 161, 162, 163, 165, 166, 167, 183, 203] (fun z => (la z < 10 ∨ 10 < la z) ∧ (la z < 70 ∨ 70 + 2 < la z) ∧ (la z < 90 ∨ 90 + 8 < la z) ∧ (la z < 310 ∨ 310 < la z) ∧ (la z < 330 ∨ 330 < la z)) G c65_G := FRM_trans (FRM_set FRM_refl (by decide) (fun z h1 h2 => hfr25 z ⟨h1, h2⟩)) fG65 hle65 (by decide) (ctf65)
          have hF65_P : FRM cnt [66, 164, 181, 182] (fun z => (la z < 10 ∨ 10 < la z) ∧ (la z < 70 ∨ 70 + 2 < la z) ∧ (la z < 90 ∨ 90 + 8 < la z) ∧ (la z < 310 ∨ 310 < la z) ∧ (la z < 330 ∨ 330 < la z)) P c65_P := FRM_trans FRM_refl fP65 hle65 (by decide) (ctf65)
          have hF65_U : FRM cnt [184] (fun z => (la z < 10 ∨ 10 < la z) ∧ (la z < 70 ∨ 70 + 2 < la z) ∧ (la z < 90 ∨ 90 + 8 < la z) ∧ (la z < 310 ∨ 310 < la z) ∧ (la z < 330 ∨ 330 < la z)) U c65_U := FRM_trans FRM_refl fU65 hle65 (by decide) (ctf65)
          have hF65_V : FRM cnt [0, 1, 2, 3, 7, 8, 9, 12] (fun z => (la z < 10 ∨ 10 < la z) ∧ (la z < 70 ∨ 70 + 2 < la z) ∧ (la z < 90 ∨ 90 + 8 < la z) ∧ (la z < 310 ∨ 310 < la z) ∧ (la z < 330 ∨ 330 < la z)) V c65_V := FRM_trans FRM_refl fV65 hle65 (by decide) (ctf65)
          have hF65_X : FRM cnt [1] (fun z => (la z < 10 ∨ 10 < la z) ∧ (la z < 70 ∨ 70 + 2 < la z) ∧ (la z < 90 ∨ 90 + 8 < la z) ∧ (la z < 310 ∨ 310 < la z) ∧ (la z < 330 ∨ 330 < la z)) X c65_X := FRM_trans FRM_refl fX65 hle65 (by decide) (ctf65)
          have hF65_O : FRM cnt [1] (fun z => (la z < 10 ∨ 10 < la z) ∧ (la z < 70 ∨ 70 + 2 < la z) ∧ (la z < 90 ∨ 90 + 8 < la z) ∧ (la z < 310 ∨ 310 < la z) ∧ (la z < 330 ∨ 330 < la z)) O c65_O := FRM_trans FRM_refl fO65 hle65 (by decide) (ctf65)
          have hlnn65 : ∀ z, z < cnt → c65_ln z = ln z := fun z hz => (fl65 z (Nat.lt_of_lt_of_le hz hle65)).trans (rfl)
          clear hlnn65 hF65_O hF65_X hF65_U ag65 fG65 fU65 fV65 fX65 fO65 fl65 hfr25
          have hn64 : (c65_P 221) this = some ra := (fP65 221 this hlt_this (fun q => absurd q (by decide))).trans hn1
          have lt_ra65 := ((hB65.1 221 fl_221) this ra hn64).2.1
          have hk_ra := (((CInv_P221 hCI65 :) this).2 ra hn64).1
          have hl1_ra := (((CInv_P221 hCI65 :) this).2 ra hn64).2.1
          have hl2_ra := (((CInv_P221 hCI65 :) this).2 ra hn64).2.2.1
          have hw_ra : id _ := (((CInv_P221 hCI65 :) this).2 ra hn64).2.2.2
          have hn66 : (c65_P 226) this = some tn := (fP65 226 this hlt_this (fun q => absurd q (by decide))).trans hn3
          have lt_tn67 := ((hB65.1 226 fl_226) this tn hn66).2.1
          have hk_tn := (((CInv_P226 hCI65 :) this).2 tn hn66).1
          have hl1_tn := (((CInv_P226 hCI65 :) this).2 tn hn66).2.1
          have hl2_tn := (((CInv_P226 hCI65 :) this).2 tn hn66).2.2.1
          have hw_tn : id _ := (((CInv_P226 hCI65 :) this).2 tn hn66).2.2.2
          have hn68 : (c65_P 229) this = some bk := (fP65 229 this hlt_this (fun q => absurd q (by decide))).trans hn5
          have lt_bk69 := ((hB65.1 229 fl_229) this bk hn68).2.1
          have hk_bk := (((CInv_P229 hCI65 :) this).2 bk hn68).1
          have hl1_bk := (((CInv_P229 hCI65 :) this).2 bk hn68).2.1
          have hl2_bk := (((CInv_P229 hCI65 :) this).2 bk hn68).2.2.1
          have hw_bk : id _ := (((CInv_P229 hCI65 :) this).2 bk hn68).2.2.2
          have hn70 : (c65_P 3) bk = some fl := (fP65 3 bk lt_bk6 (fun q => absurd q (by decide))).trans hn7
          have lt_fl71 := ((hB65.1 3 fl_3) bk fl hn70).2.1
          have hk_fl := (((CInv_P3 hCI65 :) bk).2 fl hn70).1
          have hl1_fl := (((CInv_P3 hCI65 :) bk).2 fl hn70).2.1
          have hl2_fl := (((CInv_P3 hCI65 :) bk).2 fl hn70).2.2.1
          have hw_fl : id _ := (((CInv_P3 hCI65 :) bk).2 fl hn70).2.2.2
          have hn72 : (c65_P 1) bk = some fa := (fP65 1 bk lt_bk6 (fun q => absurd q (by decide))).trans hn9
          have lt_fa73 := ((hB65.1 1 fl_1) bk fa hn72).2.1
          have hk_fa := (((CInv_P1 hCI65 :) bk).2 fa hn72).1
          have hl1_fa := (((CInv_P1 hCI65 :) bk).2 fa hn72).2.1
          have hl2_fa := (((CInv_P1 hCI65 :) bk).2 fa hn72).2.2.1
          have hw_fa : id _ := (((CInv_P1 hCI65 :) bk).2 fa hn72).2.2.2
          have hn74 : (c65_P 0) bk = some wd := (fP65 0 bk lt_bk6 (fun q => absurd q (by decide))).trans hn11
          have lt_wd75 := ((hB65.1 0 fl_0) bk wd hn74).2.1
          have hk_wd := (((CInv_P0 hCI65 :) bk).2 wd hn74).1
          have hl1_wd := (((CInv_P0 hCI65 :) bk).2 wd hn74).2.1
          have hl2_wd := (((CInv_P0 hCI65 :) bk).2 wd hn74).2.2.1
          have hw_wd : id _ := (((CInv_P0 hCI65 :) bk).2 wd hn74).2.2.2
          have hn76 : (c65_P 201) wd = some wl := (fP65 201 wd lt_wd12 (fun q => absurd q (by decide))).trans hn13
          have lt_wl77 := ((hB65.1 201 fl_201) wd wl hn76).2.1
          have hk_wl := (((CInv_P201 hCI65 :) wd).2 wl hn76).1
          have hl1_wl := (((CInv_P201 hCI65 :) wd).2 wl hn76).2.1
          have hl2_wl := (((CInv_P201 hCI65 :) wd).2 wl hn76).2.2.1
          have hw_wl : id _ := (((CInv_P201 hCI65 :) wd).2 wl hn76).2.2.2
          have hn78 : (c65_P 202) wd = some wz := (fP65 202 wd lt_wd12 (fun q => absurd q (by decide))).trans hn15
          have lt_wz79 := ((hB65.1 202 fl_202) wd wz hn78).2.1
          have hk_wz := (((CInv_P202 hCI65 :) wd).2 wz hn78).1
          have hl1_wz := (((CInv_P202 hCI65 :) wd).2 wz hn78).2.1
          have hl2_wz := (((CInv_P202 hCI65 :) wd).2 wz hn78).2.2.1
          have hw_wz : id _ := (((CInv_P202 hCI65 :) wd).2 wz hn78).2.2.2
          have rb80 := ((CInv_RB hCI65 :) wd wz hk_wd hn78).1
          have hn83 : (c65_P 220) this = some a1 := (fP65 220 this hlt_this (fun q => absurd q (by decide))).trans hn_a1
          have lt_a184 := ((hB65.1 220 fl_220) this a1 hn83).2.1
          have hk_a1 := (((CInv_P220 hCI65 :) this).2 a1 hn83).1
          have hl1_a1 := (((CInv_P220 hCI65 :) this).2 a1 hn83).2.1
          have hl2_a1 := (((CInv_P220 hCI65 :) this).2 a1 hn83).2.2.1
          have hw_a1 : id _ := (((CInv_P220 hCI65 :) this).2 a1 hn83).2.2.2
          refine pw_nn (fun a69 hn_a69 => ?_)
          have lt_a6985 := ((hB65.1 236 fl_236) this a69 hn_a69).2.1
          have lb_a6985 : la65 a69 = 330 := lk_236.mp ((hB65.1 236 fl_236) this a69 hn_a69).2.2
          have hk_a69 := (((CInv_P236 hCI65 :) this).2 a69 hn_a69).1
          have hl1_a69 := (((CInv_P236 hCI65 :) this).2 a69 hn_a69).2.1
          have hl2_a69 := (((CInv_P236 hCI65 :) this).2 a69 hn_a69).2.2.1
          have hw_a69 : id _ := (((CInv_P236 hCI65 :) this).2 a69 hn_a69).2.2.2
          have b86 := (CInv_G222 hCI65 :) this
          have f87 : (((c65_G 222) this) + 1).toInt = ((c65_G 222) this).toInt + 1 := z_addc (by decide +kernel) (by omega) (by omega)
          have hpr79_0 : (0 ≤ r26.toInt ∧ r26.toInt ≤ 3000) := by first | assumption | omega
          have hpr79_1 : (0 ≤ (((c65_G 222) this) + 1).toInt ∧ (((c65_G 222) this) + 1).toInt ≤ 100) := by first | assumption | omega
          refine pw_b3 (fun c79_G44 c79_G45 c79_V7 hc79 => ?_)
          have hq79 := wp_at (ok_X2_begin κ65_28 wd c65_G c65_P c65_U c65_V c65_X c65_O c65_kd c65_ln c65_cnt a69 r26 (((c65_G 222) this) + 1) (CInv_G44 hCI65 :) (CInv_G45 hCI65 :) (CInv_P40 hCI65 :) (CInv_LN hCI65 :) hk_a69 hpr79_0 hpr79_1) hc79
          obtain ⟨hg88, hg89⟩ : (rng (0) 40 c79_G44) ∧ (rng (0) 7 c79_G45) := hq79
          have hq79 := pwq (fr_X2_begin la65 c65_G c65_P c65_U c65_V c65_X c65_O c65_kd c65_ln c65_cnt a69 r26 (((c65_G 222) this) + 1) hB65) hc79
          obtain ⟨q79_G44, q79_G45, q79_V7⟩ : (∀ z, (la65 z < la65 a69 ∨ la65 a69 < la65 z) → c79_G44 z = (c65_G 44) z) ∧ (∀ z, (la65 z < la65 a69 ∨ la65 a69 < la65 z) → c79_G45 z = (c65_G 45) z) ∧ (∀ z, (la65 z < la65 a69 ∨ la65 a69 < la65 z) → c79_V7 z = (c65_V 7) z) := hq79
          have tz79 : ∀ z, (z < cnt ∧ (la z < 10 ∨ 10 < la z) ∧ (la z < 70 ∨ 70 + 2 < la z) ∧ (la z < 90 ∨ 90 + 8 < la z) ∧ (la z < 310 ∨ 310 < la z) ∧ (la z < 330 ∨ 330 < la z)) → ((la65 z < la65 a69 ∨ la65 a69 < la65 z)) := fun z hz => by have q1 := hag65 z hz.1; have q2 := hB.2 z hz.1; omega
          have hfr90 : ∀ z, (z < cnt ∧ (la z < 10 ∨ 10 < la z) ∧ (la z < 70 ∨ 70 + 2 < la z) ∧ (la z < 90 ∨ 90 + 8 < la z) ∧ (la z < 310 ∨ 310 < la z) ∧ (la z < 330 ∨ 330 < la z)) → c79_G44 z = (G 44) z := fun z hz => (q79_G44 z (tz79 z hz)).trans ((fun (z : Nat) (hz : (z < cnt ∧ (la z < 10 ∨ 10 < la z) ∧ (la z < 70 ∨ 70 + 2 < la z) ∧ (la z < 90 ∨ 90 + 8 < la z) ∧ (la z < 310 ∨ 310 < la z) ∧ (la z < 330 ∨ 330 < la z))) => hF65_G 44 z hz.1 (fun _ => hz.2)) z hz)
          have hfr91 : ∀ z, (z < cnt ∧ (la z < 10 ∨ 10 < la z) ∧ (la z < 70 ∨ 70 + 2 < la z) ∧ (la z < 90 ∨ 90 + 8 < la z) ∧ (la z < 310 ∨ 310 < la z) ∧ (la z < 330 ∨ 330 < la z)) → c79_G45 z = (G 45) z := fun z hz => (q79_G45 z (tz79 z hz)).trans ((fun (z : Nat) (hz : (z < cnt ∧ (la z < 10 ∨ 10 < la z) ∧ (la z < 70 ∨ 70 + 2 < la z) ∧ (la z < 90 ∨ 90 + 8 < la z) ∧ (la z < 310 ∨ 310 < la z) ∧ (la z < 330 ∨ 330 < la z))) => hF65_G 45 z hz.1 (fun _ => hz.2)) z hz)
          have hfr92 : ∀ z, (z < cnt ∧ (la z < 10 ∨ 10 < la z) ∧ (la z < 70 ∨ 70 + 2 < la z) ∧ (la z < 90 ∨ 90 + 8 < la z) ∧ (la z < 310 ∨ 310 < la z) ∧ (la z < 330 ∨ 330 < la z)) → c79_V7 z = (V 7) z := fun z hz => (q79_V7 z (tz79 z hz)).trans ((fun (z : Nat) (hz : (z < cnt ∧ (la z < 10 ∨ 10 < la z) ∧ (la z < 70 ∨ 70 + 2 < la z) ∧ (la z < 90 ∨ 90 + 8 < la z) ∧ (la z < 310 ∨ 310 < la z) ∧ (la z < 330 ∨ 330 < la z))) => hF65_V 7 z hz.1 (fun _ => hz.2)) z hz)
          refine pw_nn (fun a83 hn_a83 => ?_)
          have lt_a8393 := ((hB65.1 234 fl_234) this a83 hn_a83).2.1
          have lb_a8393 : la65 a83 = 310 := lk_234.mp ((hB65.1 234 fl_234) this a83 hn_a83).2.2
          have hk_a83 := (((CInv_P234 hCI65 :) this).2 a83 hn_a83).1
          have hl1_a83 := (((CInv_P234 hCI65 :) this).2 a83 hn_a83).2.1
          have hl2_a83 := (((CInv_P234 hCI65 :) this).2 a83 hn_a83).2.2.1
          have hw_a83 : id _ := (((CInv_P234 hCI65 :) this).2 a83 hn_a83).2.2.2
          refine pw_nne hn83 ?_
          refine pw_nn (fun a90 hn_a90 => ?_)
          obtain ⟨_, lt_a9094, lb_a9094⟩ := (hB65.1 140 fl_140) a1 a90 hn_a90
          have lb_a9094 : la65 a90 = 11 := (lk_140.mp lb_a9094).trans (congrArg (fun z9 => z9 + 1) gl_62)
          have hk_a90 := (((CInv_P140 hCI65 :) a1).2 a90 hn_a90).1
          have hl1_a90 := (((CInv_P140 hCI65 :) a1).2 a90 hn_a90).2.1
          have hl2_a90 := (((CInv_P140 hCI65 :) a1).2 a90 hn_a90).2.2.1
          have hw_a90 : id _ := (((CInv_P140 hCI65 :) a1).2 a90 hn_a90).2.2.2
          have hz_a90 : (Int32.ofNat (c65_ln a90)).toInt = ((c65_ln a90 : Nat) : Int) := ofN_eq (by first | exact Nat.le_trans hl2_a90 (by decide) | omega)
          have hpr94_0 : 0 ≤ r4.toInt := by first | assumption | omega
          have hpr94_1 : ((c65_ln a90 : Nat) : Int) ≤ 2000 := by first | assumption | omega
          refine pw_b5 (fun c94_G162 c94_G165 c94_G166 c94_G167 c94_P164 hc94 => ?_)
          have hq94 := wp_at (ok_X8_begin κ65_28 wd (va_up (va_up c65_G 44 c79_G44) 45 c79_G45) c65_P c65_U (va_up c65_V 7 c79_V7) c65_X c65_O c65_kd c65_ln c65_cnt a83 a90 r4 (CInv_G162 hCI65 :) (CInv_G165 hCI65 :) (CInv_G166 hCI65 :) (CInv_P164 hCI65 :) (CInv_LN hCI65 :) hk_a83 hk_a90 hpr94_0 hpr94_1) hc94
          obtain ⟨hg95, hg96, hg97, hg98, f99, f100, f101, f102, f103⟩ : (rng (0) 2000 c94_G162) ∧ (rng (0) 2000 c94_G165) ∧ (rng (0) 2000 c94_G166) ∧ (PB κ65_28 c65_ln wd 9 100 0 2000 0 c94_P164) ∧ ((c94_G166 a83).toInt = 0) ∧ ((c94_G165 a83).toInt ≤ r4.toInt) ∧ (c94_P164 a83 = some a90) ∧ ((c94_G162 a83).toInt = 0) ∧ ((c94_G165 a83).toInt ≤ ((c65_ln a90 : Nat) : Int)) := hq94
          have hq94 := pwq (fr_X8_begin la65 (va_up (va_up c65_G 44 c79_G44) 45 c79_G45) c65_P c65_U (va_up c65_V 7 c79_V7) c65_X c65_O c65_kd c65_ln c65_cnt a83 a90 r4 hB65 lt_a8393 lt_a9094) hc94
          obtain ⟨q94_G162, q94_G165, q94_G166, q94_G167, q94_P164, ql94_164⟩ : (∀ z, (la65 z < la65 a83 ∨ la65 a83 < la65 z) → c94_G162 z = (c65_G 162) z) ∧ (∀ z, (la65 z < la65 a83 ∨ la65 a83 < la65 z) → c94_G165 z = (c65_G 165) z) ∧ (∀ z, (la65 z < la65 a83 ∨ la65 a83 < la65 z) → c94_G166 z = (c65_G 166) z) ∧ (∀ z, (la65 z < la65 a83 ∨ la65 a83 < la65 z) → c94_G167 z = (c65_G 167) z) ∧ (∀ z, (la65 z < la65 a83 ∨ la65 a83 < la65 z) → c94_P164 z = (c65_P 164) z) ∧ LC 164 la65 c65_cnt c94_P164 := hq94
          have tz94 : ∀ z, (z < cnt ∧ (la z < 10 ∨ 10 < la z) ∧ (la z < 70 ∨ 70 + 2 < la z) ∧ (la z < 90 ∨ 90 + 8 < la z) ∧ (la z < 310 ∨ 310 < la z) ∧ (la z < 330 ∨ 330 < la z)) → ((la65 z < la65 a83 ∨ la65 a83 < la65 z)) := fun z hz => by have q1 := hag65 z hz.1; have q2 := hB.2 z hz.1; omega
          have hfr104 : ∀ z, (z < cnt ∧ (la z < 10 ∨ 10 < la z) ∧ (la z < 70 ∨ 70 + 2 < la z) ∧ (la z < 90 ∨ 90 + 8 < la z) ∧ (la z < 310 ∨ 310 < la z) ∧ (la z < 330 ∨ 330 < la z)) → c94_G162 z = (G 162) z := fun z hz => (q94_G162 z (tz94 z hz)).trans ((fun (z : Nat) (hz : (z < cnt ∧ (la z < 10 ∨ 10 < la z) ∧ (la z < 70 ∨ 70 + 2 < la z) ∧ (la z < 90 ∨ 90 + 8 < la z) ∧ (la z < 310 ∨ 310 < la z) ∧ (la z < 330 ∨ 330 < la z))) => hF65_G 162 z hz.1 (fun _ => hz.2)) z hz)
          have hfr105 : ∀ z, (z < cnt ∧ (la z < 10 ∨ 10 < la z) ∧ (la z < 70 ∨ 70 + 2 < la z) ∧ (la z < 90 ∨ 90 + 8 < la z) ∧ (la z < 310 ∨ 310 < la z) ∧ (la z < 330 ∨ 330 < la z)) → c94_G165 z = (G 165) z := fun z hz => (q94_G165 z (tz94 z hz)).trans ((fun (z : Nat) (hz : (z < cnt ∧ (la z < 10 ∨ 10 < la z) ∧ (la z < 70 ∨ 70 + 2 < la z) ∧ (la z < 90 ∨ 90 + 8 < la z) ∧ (la z < 310 ∨ 310 < la z) ∧ (la z < 330 ∨ 330 < la z))) => hF65_G 165 z hz.1 (fun _ => hz.2)) z hz)
          have hfr106 : ∀ z, (z < cnt ∧ (la z < 10 ∨ 10 < la z) ∧ (la z < 70 ∨ 70 + 2 < la z) ∧ (la z < 90 ∨ 90 + 8 < la z) ∧ (la z < 310 ∨ 310 < la z) ∧ (la z < 330 ∨ 330 < la z)) → c94_G166 z = (G 166) z := fun z hz => (q94_G166 z (tz94 z hz)).trans ((fun (z : Nat) (hz : (z < cnt ∧ (la z < 10 ∨ 10 < la z) ∧ (la z < 70 ∨ 70 + 2 < la z) ∧ (la z < 90 ∨ 90 + 8 < la z) ∧ (la z < 310 ∨ 310 < la z) ∧ (la z < 330 ∨ 330 < la z))) => hF65_G 166 z hz.1 (fun _ => hz.2)) z hz)
          have hfr107 : ∀ z, (z < cnt ∧ (la z < 10 ∨ 10 < la z) ∧ (la z < 70 ∨ 70 + 2 < la z) ∧ (la z < 90 ∨ 90 + 8 < la z) ∧ (la z < 310 ∨ 310 < la z) ∧ (la z < 330 ∨ 330 < la z)) → c94_G167 z = (G 167) z := fun z hz => (q94_G167 z (tz94 z hz)).trans ((fun (z : Nat) (hz : (z < cnt ∧ (la z < 10 ∨ 10 < la z) ∧ (la z < 70 ∨ 70 + 2 < la z) ∧ (la z < 90 ∨ 90 + 8 < la z) ∧ (la z < 310 ∨ 310 < la z) ∧ (la z < 330 ∨ 330 < la z))) => hF65_G 167 z hz.1 (fun _ => hz.2)) z hz)
          have hfr108 : ∀ z, (z < cnt ∧ (la z < 10 ∨ 10 < la z) ∧ (la z < 70 ∨ 70 + 2 < la z) ∧ (la z < 90 ∨ 90 + 8 < la z) ∧ (la z < 310 ∨ 310 < la z) ∧ (la z < 330 ∨ 330 < la z)) → c94_P164 z = (P 164) z := fun z hz => (q94_P164 z (tz94 z hz)).trans ((fun (z : Nat) (hz : (z < cnt ∧ (la z < 10 ∨ 10 < la z) ∧ (la z < 70 ∨ 70 + 2 < la z) ∧ (la z < 90 ∨ 90 + 8 < la z) ∧ (la z < 310 ∨ 310 < la z) ∧ (la z < 330 ∨ 330 < la z))) => hF65_P 164 z hz.1 (fun _ => hz.2)) z hz)
          have htx := f101
          have hb94 := hg96 a83
          refine pw_jE (fun k136 ek136 => ?_)
          have lp100 : ∀ (n100 : Nat) (y100_4 : Int32) (d100_G160 : Nat → Int32) (d100_G161 : Nat → Int32) (d100_G162 : Nat → Int32) (d100_G163 : Nat → Int32) (d100_G166 : Nat → Int32) (d100_G167 : Nat → Int32) (d100_V7 : Nat → Nat → Int32), rng (0) 2000 d100_G160 → rng (0) 2000 d100_G161 → rng (0) 2000 d100_G162 → rng (0) 2000 d100_G166 → (∀ z, (z < cnt ∧ (la z < 10 ∨ 10 < la z) ∧ (la z < 70 ∨ 70 + 2 < la z) ∧ (la z < 90 ∨ 90 + 8 < la z) ∧ (la z < 310 ∨ 310 < la z) ∧ (la z < 330 ∨ 330 < la z)) → d100_G160 z = (G 160) z) → (∀ z, (z < cnt ∧ (la z < 10 ∨ 10 < la z) ∧ (la z < 70 ∨ 70 + 2 < la z) ∧ (la z < 90 ∨ 90 + 8 < la z) ∧ (la z < 310 ∨ 310 < la z) ∧ (la z < 330 ∨ 330 < la z)) → d100_G161 z = (G 161) z) → (∀ z, (z < cnt ∧ (la z < 10 ∨ 10 < la z) ∧ (la z < 70 ∨ 70 + 2 < la z) ∧ (la z < 90 ∨ 90 + 8 < la z) ∧ (la z < 310 ∨ 310 < la z) ∧ (la z < 330 ∨ 330 < la z)) → d100_G162 z = (G 162) z) → (∀ z, (z < cnt ∧ (la z < 10 ∨ 10 < la z) ∧ (la z < 70 ∨ 70 + 2 < la z) ∧ (la z < 90 ∨ 90 + 8 < la z) ∧ (la z < 310 ∨ 310 < la z) ∧ (la z < 330 ∨ 330 < la z)) → d100_G163 z = (G 163) z) → (∀ z, (z < cnt ∧ (la z < 10 ∨ 10 < la z) ∧ (la z < 70 ∨ 70 + 2 < la z) ∧ (la z < 90 ∨ 90 + 8 < la z) ∧ (la z < 310 ∨ 310 < la z) ∧ (la z < 330 ∨ 330 < la z)) → d100_G166 z = (G 166) z) → (∀ z, (z < cnt ∧ (la z < 10 ∨ 10 < la z) ∧ (la z < 70 ∨ 70 + 2 < la z) ∧ (la z < 90 ∨ 90 + 8 < la z) ∧ (la z < 310 ∨ 310 < la z) ∧ (la z < 330 ∨ 330 < la z)) → d100_G167 z = (G 167) z) → (∀ z, (z < cnt ∧ (la z < 10 ∨ 10 < la z) ∧ (la z < 70 ∨ 70 + 2 < la z) ∧ (la z < 90 ∨ 90 + 8 < la z) ∧ (la z < 310 ∨ 310 < la z) ∧ (la z < 330 ∨ 330 < la z)) → d100_V7 z = (V 7) z) → 0 ≤ y100_4.toInt → (d100_G166 a83).toInt ≤ (c94_G165 a83).toInt → (d100_G162 a83).toInt ≤ (d100_G166 a83).toInt → pw (L_X11_mixed_100 this r4 c65_G c65_P c65_U c65_V c65_X c65_O c65_kd c65_ln c65_cnt c79_G44 c79_G45 c94_G165 c94_P164 k136 n100 y100_4 d100_G160 d100_G161 d100_G162 d100_G163 d100_G166 d100_G167 d100_V7) (sp1 (QF_X11_mixed κ wd la G P U V X O kd ln cnt this p0 ra tn bk nw nx wh pg fi pa pk sz cl fa fl sp lsp ssp wl wz D d Ws)) := by
            intro n100
            clear hfr108 hfr107 hfr106 hfr105 hfr104 tz94 q94_G162 q94_G165 q94_G166 q94_G167 q94_P164 hg95 hg97 hc94 hpr94_1 hpr94_0 hfr92 hfr91 hfr90 tz79 q79_G44 q79_G45 q79_V7 hc79 hpr79_1 hpr79_0 hF65_P fP65
            induction n100 with
            | zero => intros; exact pw_none
            | succ n100 ih100 =>
              intro y100_4 d100_G160 d100_G161 d100_G162 d100_G163 d100_G166 d100_G167 d100_V7 hg109 hg110 hg111 hg112 hfr113 hfr114 hfr115 hfr116 hfr117 hfr118 hfr119 f120 f121 f122
              show pw (B_X11_mixed_100 this r4 c65_G c65_P c65_U c65_V c65_X c65_O c65_kd c65_ln c65_cnt c79_G44 c79_G45 c94_G165 c94_P164 k136 (L_X11_mixed_100 this r4 c65_G c65_P c65_U c65_V c65_X c65_O c65_kd c65_ln c65_cnt c79_G44 c79_G45 c94_G165 c94_P164 k136 n100) y100_4 d100_G160 d100_G161 d100_G162 d100_G163 d100_G166 d100_G167 d100_V7) _
              unfold B_X11_mixed_100
              refine pw_ite (fun c103 => ?_) (fun c103 => ?_)
              · have c103 := (z_le _ _).mp c103
                refine pw_j7 ek136 (fun z136_0 ez136_0 z136_1 ez136_1 z136_2 ez136_2 z136_3 ez136_3 z136_4 ez136_4 z136_5 ez136_5 z136_6 ez136_6 => ?_)
                subst ez136_0 ez136_1 ez136_2 ez136_3 ez136_4 ez136_5 ez136_6
                refine pw_nne hn_a69 ?_
                refine pw_b4 (fun r141 c141_G43 c141_V8 c141_V9 hc141 => ?_)
                have hq141 := wp_at (ok_X2_settle κ65_28 wd (va_up (va_up (va_up (va_up (va_up (va_up (va_up (va_up (va_up c65_G 44 c79_G44) 45 c79_G45) 160 d100_G160) 161 d100_G161) 162 d100_G162) 163 d100_G163) 165 c94_G165) 166 d100_G166) 167 d100_G167) (va_up c65_P 164 c94_P164) c65_U (va_up c65_V 7 d100_V7) c65_X c65_O c65_kd c65_ln c65_cnt a69 p0 (CInv_G43 hCI65 :) hg88 hg89 (CInv_P40 hCI65 :) (CInv_P41 hCI65 :) (CInv_P42 hCI65 :) (CInv_V9 hCI65 :) (CInv_LN hCI65 :) hk_a69) hc141
                obtain ⟨hg123, hg124⟩ : (rng (0) 40 c141_G43) ∧ (rng2 (0) 6 c141_V9) := hq141
                have hq141 := pwq (fr_X2_settle la65 (va_up (va_up (va_up (va_up (va_up (va_up (va_up (va_up (va_up c65_G 44 c79_G44) 45 c79_G45) 160 d100_G160) 161 d100_G161) 162 d100_G162) 163 d100_G163) 165 c94_G165) 166 d100_G166) 167 d100_G167) (va_up c65_P 164 c94_P164) c65_U (va_up c65_V 7 d100_V7) c65_X c65_O c65_kd c65_ln c65_cnt a69 p0 (LB_set hB65 ql94_164)) hc141
                obtain ⟨q141_G43, q141_V8, q141_V9⟩ : (∀ z, (la65 z < la65 a69 ∨ la65 a69 < la65 z) → c141_G43 z = (c65_G 43) z) ∧ (∀ z, (la65 z < la65 a69 ∨ la65 a69 < la65 z) → c141_V8 z = (c65_V 8) z) ∧ (∀ z, (la65 z < la65 a69 ∨ la65 a69 < la65 z) → c141_V9 z = (c65_V 9) z) := hq141
                have tz141 : ∀ z, (z < cnt ∧ (la z < 10 ∨ 10 < la z) ∧ (la z < 70 ∨ 70 + 2 < la z) ∧ (la z < 90 ∨ 90 + 8 < la z) ∧ (la z < 310 ∨ 310 < la z) ∧ (la z < 330 ∨ 330 < la z)) → ((la65 z < la65 a69 ∨ la65 a69 < la65 z)) := fun z hz => by have q1 := hag65 z hz.1; have q2 := hB.2 z hz.1; omega
                have hfr125 : ∀ z, (z < cnt ∧ (la z < 10 ∨ 10 < la z) ∧ (la z < 70 ∨ 70 + 2 < la z) ∧ (la z < 90 ∨ 90 + 8 < la z) ∧ (la z < 310 ∨ 310 < la z) ∧ (la z < 330 ∨ 330 < la z)) → c141_G43 z = (G 43) z := fun z hz => (q141_G43 z (tz141 z hz)).trans ((fun (z : Nat) (hz : (z < cnt ∧ (la z < 10 ∨ 10 < la z) ∧ (la z < 70 ∨ 70 + 2 < la z) ∧ (la z < 90 ∨ 90 + 8 < la z) ∧ (la z < 310 ∨ 310 < la z) ∧ (la z < 330 ∨ 330 < la z))) => hF65_G 43 z hz.1 (fun _ => hz.2)) z hz)
                have hfr126 : ∀ z, (z < cnt ∧ (la z < 10 ∨ 10 < la z) ∧ (la z < 70 ∨ 70 + 2 < la z) ∧ (la z < 90 ∨ 90 + 8 < la z) ∧ (la z < 310 ∨ 310 < la z) ∧ (la z < 330 ∨ 330 < la z)) → c141_V8 z = (V 8) z := fun z hz => (q141_V8 z (tz141 z hz)).trans ((fun (z : Nat) (hz : (z < cnt ∧ (la z < 10 ∨ 10 < la z) ∧ (la z < 70 ∨ 70 + 2 < la z) ∧ (la z < 90 ∨ 90 + 8 < la z) ∧ (la z < 310 ∨ 310 < la z) ∧ (la z < 330 ∨ 330 < la z))) => hF65_V 8 z hz.1 (fun _ => hz.2)) z hz)
                have hfr127 : ∀ z, (z < cnt ∧ (la z < 10 ∨ 10 < la z) ∧ (la z < 70 ∨ 70 + 2 < la z) ∧ (la z < 90 ∨ 90 + 8 < la z) ∧ (la z < 310 ∨ 310 < la z) ∧ (la z < 330 ∨ 330 < la z)) → c141_V9 z = (V 9) z := fun z hz => (q141_V9 z (tz141 z hz)).trans ((fun (z : Nat) (hz : (z < cnt ∧ (la z < 10 ∨ 10 < la z) ∧ (la z < 70 ∨ 70 + 2 < la z) ∧ (la z < 90 ∨ 90 + 8 < la z) ∧ (la z < 310 ∨ 310 < la z) ∧ (la z < 330 ∨ 330 < la z))) => hF65_V 9 z hz.1 (fun _ => hz.2)) z hz)
                have qq0 : BKR (va_up (va_up (va_up (va_up (va_up (va_up (va_up (va_up (va_up (va_up c65_G 44 c79_G44) 45 c79_G45) 160 d100_G160) 161 d100_G161) 162 d100_G162) 163 d100_G163) 165 c94_G165) 166 d100_G166) 167 d100_G167) 43 c141_G43) (va_up c65_P 164 c94_P164) (va_up (va_up (va_up c65_V 7 d100_V7) 8 c141_V8) 9 c141_V9) la65 c65_cnt D ((c65_O 1) fa) (fun s => Int32.toNatClampNeg ((c65_V 3) fl s)) (FMT d Ws) := by exact BKR_fr p65_0 hB65 (fun _ => rfl) (fun _ _ => ⟨rfl, rfl, rfl⟩) (fun _ _ _ _ => ⟨rfl, rfl, rfl⟩) (Nat.le_refl _) (fun _ _ => rfl) (fun _ _ h => h)
                have qq1 : id ((∀ s : Nat, s < 7 → ((G 222) this).toInt < (s : Int) → (c65_V 3) fl s = (V 3) fl s)) := show (∀ s : Nat, s < 7 → ((G 222) this).toInt < (s : Int) → (c65_V 3) fl s = (V 3) fl s) from by intro s hs h9; have z9 := p65_1 s hs; rw [if_neg (by omega)] at z9; exact z9
                exact pw_some ⟨la65, hag65, (LB_set hB65 ql94_164), qq0, qq1⟩
              · have c103 := z_nle c103
                refine pw_nne hn_a83 ?_
                have hpr110_0 : id ((∀ tx, c94_P164 a83 = some tx → (c94_G165 a83).toInt ≤ ((c65_ln tx : Nat) : Int))) := show (∀ tx, c94_P164 a83 = some tx → (c94_G165 a83).toInt ≤ ((c65_ln tx : Nat) : Int)) from by intro tx htx2; obtain rfl := Option.some.inj (htx.symm.trans htx2); omega
                have hpr110_1 : (d100_G166 a83).toInt ≤ (c94_G165 a83).toInt := by first | assumption | omega
                have hpr110_2 : (d100_G162 a83).toInt ≤ (d100_G166 a83).toInt := by first | assumption | omega
                refine pw_b7 (fun r110 c110_G160 c110_G161 c110_G162 c110_G163 c110_G166 c110_G167 hc110 => ?_)
                have hq110 := wp_at (ok_X8_next κ65_28 wd (va_up (va_up (va_up (va_up (va_up (va_up (va_up (va_up (va_up c65_G 44 c79_G44) 45 c79_G45) 160 d100_G160) 161 d100_G161) 162 d100_G162) 163 d100_G163) 165 c94_G165) 166 d100_G166) 167 d100_G167) (va_up c65_P 164 c94_P164) c65_U (va_up c65_V 7 d100_V7) c65_X c65_O c65_kd c65_ln c65_cnt a83 hg109 hg110 hg111 hg96 hg112 hg98 (CInv_LN hCI65 :) hk_a83 hpr110_0 hpr110_1 hpr110_2) hc110
                obtain ⟨hg128, hg129, hg130, hg131, f132, f133, f134, f135, f136⟩ : (rng (0) 2000 c110_G160) ∧ (rng (0) 2000 c110_G161) ∧ (rng (0) 2000 c110_G162) ∧ (rng (0) 2000 c110_G166) ∧ ((0 ≤ r110.toInt ∧ r110.toInt ≤ 1)) ∧ (id ((r110.toInt = 1 → (d100_G166 a83).toInt ≤ (c110_G160 a83).toInt ∧ (c110_G160 a83).toInt + (c110_G161 a83).toInt = (c110_G166 a83).toInt))) ∧ ((c110_G166 a83).toInt ≤ (c94_G165 a83).toInt) ∧ ((c110_G162 a83).toInt ≤ (c110_G166 a83).toInt) ∧ ((d100_G166 a83).toInt ≤ (c110_G166 a83).toInt) := hq110
                have hq110 := pwq (fr_X8_next la65 (va_up (va_up (va_up (va_up (va_up (va_up (va_up (va_up (va_up c65_G 44 c79_G44) 45 c79_G45) 160 d100_G160) 161 d100_G161) 162 d100_G162) 163 d100_G163) 165 c94_G165) 166 d100_G166) 167 d100_G167) (va_up c65_P 164 c94_P164) c65_U (va_up c65_V 7 d100_V7) c65_X c65_O c65_kd c65_ln c65_cnt a83 (LB_set hB65 ql94_164)) hc110
                obtain ⟨q110_G160, q110_G161, q110_G162, q110_G163, q110_G166, q110_G167⟩ : (∀ z, (la65 z < la65 a83 ∨ la65 a83 < la65 z) → c110_G160 z = d100_G160 z) ∧ (∀ z, (la65 z < la65 a83 ∨ la65 a83 < la65 z) → c110_G161 z = d100_G161 z) ∧ (∀ z, (la65 z < la65 a83 ∨ la65 a83 < la65 z) → c110_G162 z = d100_G162 z) ∧ (∀ z, (la65 z < la65 a83 ∨ la65 a83 < la65 z) → c110_G163 z = d100_G163 z) ∧ (∀ z, (la65 z < la65 a83 ∨ la65 a83 < la65 z) → c110_G166 z = d100_G166 z) ∧ (∀ z, (la65 z < la65 a83 ∨ la65 a83 < la65 z) → c110_G167 z = d100_G167 z) := hq110
                have tz110 : ∀ z, (z < cnt ∧ (la z < 10 ∨ 10 < la z) ∧ (la z < 70 ∨ 70 + 2 < la z) ∧ (la z < 90 ∨ 90 + 8 < la z) ∧ (la z < 310 ∨ 310 < la z) ∧ (la z < 330 ∨ 330 < la z)) → ((la65 z < la65 a83 ∨ la65 a83 < la65 z)) := fun z hz => by have q1 := hag65 z hz.1; have q2 := hB.2 z hz.1; omega
                have hfr137 : ∀ z, (z < cnt ∧ (la z < 10 ∨ 10 < la z) ∧ (la z < 70 ∨ 70 + 2 < la z) ∧ (la z < 90 ∨ 90 + 8 < la z) ∧ (la z < 310 ∨ 310 < la z) ∧ (la z < 330 ∨ 330 < la z)) → c110_G160 z = (G 160) z := fun z hz => (q110_G160 z (tz110 z hz)).trans (hfr113 z hz)
                have hfr138 : ∀ z, (z < cnt ∧ (la z < 10 ∨ 10 < la z) ∧ (la z < 70 ∨ 70 + 2 < la z) ∧ (la z < 90 ∨ 90 + 8 < la z) ∧ (la z < 310 ∨ 310 < la z) ∧ (la z < 330 ∨ 330 < la z)) → c110_G161 z = (G 161) z := fun z hz => (q110_G161 z (tz110 z hz)).trans (hfr114 z hz)
                have hfr139 : ∀ z, (z < cnt ∧ (la z < 10 ∨ 10 < la z) ∧ (la z < 70 ∨ 70 + 2 < la z) ∧ (la z < 90 ∨ 90 + 8 < la z) ∧ (la z < 310 ∨ 310 < la z) ∧ (la z < 330 ∨ 330 < la z)) → c110_G162 z = (G 162) z := fun z hz => (q110_G162 z (tz110 z hz)).trans (hfr115 z hz)
                have hfr140 : ∀ z, (z < cnt ∧ (la z < 10 ∨ 10 < la z) ∧ (la z < 70 ∨ 70 + 2 < la z) ∧ (la z < 90 ∨ 90 + 8 < la z) ∧ (la z < 310 ∨ 310 < la z) ∧ (la z < 330 ∨ 330 < la z)) → c110_G163 z = (G 163) z := fun z hz => (q110_G163 z (tz110 z hz)).trans (hfr116 z hz)
                have hfr141 : ∀ z, (z < cnt ∧ (la z < 10 ∨ 10 < la z) ∧ (la z < 70 ∨ 70 + 2 < la z) ∧ (la z < 90 ∨ 90 + 8 < la z) ∧ (la z < 310 ∨ 310 < la z) ∧ (la z < 330 ∨ 330 < la z)) → c110_G166 z = (G 166) z := fun z hz => (q110_G166 z (tz110 z hz)).trans (hfr117 z hz)
                have hfr142 : ∀ z, (z < cnt ∧ (la z < 10 ∨ 10 < la z) ∧ (la z < 70 ∨ 70 + 2 < la z) ∧ (la z < 90 ∨ 90 + 8 < la z) ∧ (la z < 310 ∨ 310 < la z) ∧ (la z < 330 ∨ 330 < la z)) → c110_G167 z = (G 167) z := fun z hz => (q110_G167 z (tz110 z hz)).trans (hfr118 z hz)
                refine pw_ite (fun c113 => ?_) (fun c113 => ?_)
                · have c113 := congrArg Int32.toInt c113
                  refine pw_j7 ek136 (fun z136_0 ez136_0 z136_1 ez136_1 z136_2 ez136_2 z136_3 ez136_3 z136_4 ez136_4 z136_5 ez136_5 z136_6 ez136_6 => ?_)
                  subst ez136_0 ez136_1 ez136_2 ez136_3 ez136_4 ez136_5 ez136_6
                  refine pw_nne hn_a69 ?_
                  refine pw_b4 (fun r141 c141_G43 c141_V8 c141_V9 hc141 => ?_)
                  have hq141 := wp_at (ok_X2_settle κ65_28 wd (va_up (va_up (va_up (va_up (va_up (va_up (va_up (va_up (va_up (va_up (va_up (va_up (va_up (va_up (va_up c65_G 44 c79_G44) 45 c79_G45) 160 d100_G160) 161 d100_G161) 162 d100_G162) 163 d100_G163) 165 c94_G165) 166 d100_G166) 167 d100_G167) 160 c110_G160) 161 c110_G161) 162 c110_G162) 163 c110_G163) 166 c110_G166) 167 c110_G167) (va_up c65_P 164 c94_P164) c65_U (va_up c65_V 7 d100_V7) c65_X c65_O c65_kd c65_ln c65_cnt a69 p0 (CInv_G43 hCI65 :) hg88 hg89 (CInv_P40 hCI65 :) (CInv_P41 hCI65 :) (CInv_P42 hCI65 :) (CInv_V9 hCI65 :) (CInv_LN hCI65 :) hk_a69) hc141
                  obtain ⟨hg143, hg144⟩ : (rng (0) 40 c141_G43) ∧ (rng2 (0) 6 c141_V9) := hq141
                  have hq141 := pwq (fr_X2_settle la65 (va_up (va_up (va_up (va_up (va_up (va_up (va_up (va_up (va_up (va_up (va_up (va_up (va_up (va_up (va_up c65_G 44 c79_G44) 45 c79_G45) 160 d100_G160) 161 d100_G161) 162 d100_G162) 163 d100_G163) 165 c94_G165) 166 d100_G166) 167 d100_G167) 160 c110_G160) 161 c110_G161) 162 c110_G162) 163 c110_G163) 166 c110_G166) 167 c110_G167) (va_up c65_P 164 c94_P164) c65_U (va_up c65_V 7 d100_V7) c65_X c65_O c65_kd c65_ln c65_cnt a69 p0 (LB_set hB65 ql94_164)) hc141
                  obtain ⟨q141_G43, q141_V8, q141_V9⟩ : (∀ z, (la65 z < la65 a69 ∨ la65 a69 < la65 z) → c141_G43 z = (c65_G 43) z) ∧ (∀ z, (la65 z < la65 a69 ∨ la65 a69 < la65 z) → c141_V8 z = (c65_V 8) z) ∧ (∀ z, (la65 z < la65 a69 ∨ la65 a69 < la65 z) → c141_V9 z = (c65_V 9) z) := hq141
                  have tz141 : ∀ z, (z < cnt ∧ (la z < 10 ∨ 10 < la z) ∧ (la z < 70 ∨ 70 + 2 < la z) ∧ (la z < 90 ∨ 90 + 8 < la z) ∧ (la z < 310 ∨ 310 < la z) ∧ (la z < 330 ∨ 330 < la z)) → ((la65 z < la65 a69 ∨ la65 a69 < la65 z)) := fun z hz => by have q1 := hag65 z hz.1; have q2 := hB.2 z hz.1; omega
                  have hfr145 : ∀ z, (z < cnt ∧ (la z < 10 ∨ 10 < la z) ∧ (la z < 70 ∨ 70 + 2 < la z) ∧ (la z < 90 ∨ 90 + 8 < la z) ∧ (la z < 310 ∨ 310 < la z) ∧ (la z < 330 ∨ 330 < la z)) → c141_G43 z = (G 43) z := fun z hz => (q141_G43 z (tz141 z hz)).trans ((fun (z : Nat) (hz : (z < cnt ∧ (la z < 10 ∨ 10 < la z) ∧ (la z < 70 ∨ 70 + 2 < la z) ∧ (la z < 90 ∨ 90 + 8 < la z) ∧ (la z < 310 ∨ 310 < la z) ∧ (la z < 330 ∨ 330 < la z))) => hF65_G 43 z hz.1 (fun _ => hz.2)) z hz)
                  have hfr146 : ∀ z, (z < cnt ∧ (la z < 10 ∨ 10 < la z) ∧ (la z < 70 ∨ 70 + 2 < la z) ∧ (la z < 90 ∨ 90 + 8 < la z) ∧ (la z < 310 ∨ 310 < la z) ∧ (la z < 330 ∨ 330 < la z)) → c141_V8 z = (V 8) z := fun z hz => (q141_V8 z (tz141 z hz)).trans ((fun (z : Nat) (hz : (z < cnt ∧ (la z < 10 ∨ 10 < la z) ∧ (la z < 70 ∨ 70 + 2 < la z) ∧ (la z < 90 ∨ 90 + 8 < la z) ∧ (la z < 310 ∨ 310 < la z) ∧ (la z < 330 ∨ 330 < la z))) => hF65_V 8 z hz.1 (fun _ => hz.2)) z hz)
                  have hfr147 : ∀ z, (z < cnt ∧ (la z < 10 ∨ 10 < la z) ∧ (la z < 70 ∨ 70 + 2 < la z) ∧ (la z < 90 ∨ 90 + 8 < la z) ∧ (la z < 310 ∨ 310 < la z) ∧ (la z < 330 ∨ 330 < la z)) → c141_V9 z = (V 9) z := fun z hz => (q141_V9 z (tz141 z hz)).trans ((fun (z : Nat) (hz : (z < cnt ∧ (la z < 10 ∨ 10 < la z) ∧ (la z < 70 ∨ 70 + 2 < la z) ∧ (la z < 90 ∨ 90 + 8 < la z) ∧ (la z < 310 ∨ 310 < la z) ∧ (la z < 330 ∨ 330 < la z))) => hF65_V 9 z hz.1 (fun _ => hz.2)) z hz)
                  have qq0 : BKR (va_up (va_up (va_up (va_up (va_up (va_up (va_up (va_up (va_up (va_up (va_up (va_up (va_up (va_up (va_up (va_up c65_G 44 c79_G44) 45 c79_G45) 160 d100_G160) 161 d100_G161) 162 d100_G162) 163 d100_G163) 165 c94_G165) 166 d100_G166) 167 d100_G167) 160 c110_G160) 161 c110_G161) 162 c110_G162) 163 c110_G163) 166 c110_G166) 167 c110_G167) 43 c141_G43) (va_up c65_P 164 c94_P164) (va_up (va_up (va_up c65_V 7 d100_V7) 8 c141_V8) 9 c141_V9) la65 c65_cnt D ((c65_O 1) fa) (fun s => Int32.toNatClampNeg ((c65_V 3) fl s)) (FMT d Ws) := by exact BKR_fr p65_0 hB65 (fun _ => rfl) (fun _ _ => ⟨rfl, rfl, rfl⟩) (fun _ _ _ _ => ⟨rfl, rfl, rfl⟩) (Nat.le_refl _) (fun _ _ => rfl) (fun _ _ h => h)
                  have qq1 : id ((∀ s : Nat, s < 7 → ((G 222) this).toInt < (s : Int) → (c65_V 3) fl s = (V 3) fl s)) := show (∀ s : Nat, s < 7 → ((G 222) this).toInt < (s : Int) → (c65_V 3) fl s = (V 3) fl s) from by intro s hs h9; have z9 := p65_1 s hs; rw [if_neg (by omega)] at z9; exact z9
                  exact pw_some ⟨la65, hag65, (LB_set hB65 ql94_164), qq0, qq1⟩
                · have c113 : r110.toInt = 1 := by have z9 := z_ne c113; omega
                  refine pw_nne hn_a83 ?_
                  refine pw_jE (fun j130 ej130 => ?_)
                  refine pw_ite (fun c123 => ?_) (fun c123 => ?_)
                  · have c123 := congrArg Int32.toInt c123
                    refine pw_b1 (fun c127_V7 hc127 => ?_)
                    have hq127 := pwq (fr_X11_chargeWord la65 (va_up (va_up (va_up (va_up (va_up (va_up (va_up (va_up (va_up (va_up (va_up (va_up (va_up (va_up (va_up c65_G 44 c79_G44) 45 c79_G45) 160 d100_G160) 161 d100_G161) 162 d100_G162) 163 d100_G163) 165 c94_G165) 166 d100_G166) 167 d100_G167) 160 c110_G160) 161 c110_G161) 162 c110_G162) 163 c110_G163) 166 c110_G166) 167 c110_G167) (va_up c65_P 164 c94_P164) c65_U (va_up c65_V 7 d100_V7) c65_X c65_O c65_kd c65_ln c65_cnt this (LB_set hB65 ql94_164) (show la65 this = 200 from by omega)) hc127
                    have q127_V7 : (∀ z, (la65 z < 330 ∨ 330 < la65 z) → c127_V7 z = d100_V7 z) := hq127
                    clear hq127
                    have tz127 : ∀ z, (z < cnt ∧ (la z < 10 ∨ 10 < la z) ∧ (la z < 70 ∨ 70 + 2 < la z) ∧ (la z < 90 ∨ 90 + 8 < la z) ∧ (la z < 310 ∨ 310 < la z) ∧ (la z < 330 ∨ 330 < la z)) → ((la65 z < 330 ∨ 330 < la65 z)) := fun z hz => by have q1 := hag65 z hz.1; have q2 := hB.2 z hz.1; omega
                    have hfr148 : ∀ z, (z < cnt ∧ (la z < 10 ∨ 10 < la z) ∧ (la z < 70 ∨ 70 + 2 < la z) ∧ (la z < 90 ∨ 90 + 8 < la z) ∧ (la z < 310 ∨ 310 < la z) ∧ (la z < 330 ∨ 330 < la z)) → c127_V7 z = (V 7) z := fun z hz => (q127_V7 z (tz127 z hz)).trans (hfr119 z hz)
                    refine pw_j1 ej130 (fun z130_0 ez130_0 => ?_)
                    subst ez130_0
                    have f149 : (y100_4 + 1).toInt = y100_4.toInt + (1) := z_addc (by decide +kernel) (by omega) (by omega)
                    have iv100_0 : 0 ≤ (y100_4 + 1).toInt := by omega
                    have iv100_1 : (c110_G166 a83).toInt ≤ (c94_G165 a83).toInt := by omega
                    have iv100_2 : (c110_G162 a83).toInt ≤ (c110_G166 a83).toInt := by omega
                    exact ih100 (y100_4 + 1) c110_G160 c110_G161 c110_G162 c110_G163 c110_G166 c110_G167 c127_V7 hg128 hg129 hg130 hg131 hfr137 hfr138 hfr139 hfr140 hfr141 hfr142 hfr148 iv100_0 iv100_1 iv100_2
                  · have c123 := z_ne c123
                    refine pw_j1 ej130 (fun z130_0 ez130_0 => ?_)
                    subst ez130_0
                    have f150 : (y100_4 + 1).toInt = y100_4.toInt + (1) := z_addc (by decide +kernel) (by omega) (by omega)
                    have iv100_0 : 0 ≤ (y100_4 + 1).toInt := by omega
                    have iv100_1 : (c110_G166 a83).toInt ≤ (c94_G165 a83).toInt := by omega
                    have iv100_2 : (c110_G162 a83).toInt ≤ (c110_G166 a83).toInt := by omega
                    exact ih100 (y100_4 + 1) c110_G160 c110_G161 c110_G162 c110_G163 c110_G166 c110_G167 d100_V7 hg128 hg129 hg130 hg131 hfr137 hfr138 hfr139 hfr140 hfr141 hfr142 hfr119 iv100_0 iv100_1 iv100_2
          exact lp100 NN (0 : Int32) (c65_G 160) (c65_G 161) c94_G162 (c65_G 163) c94_G166 c94_G167 c79_V7 (CInv_G160 hCI65 :) (CInv_G161 hCI65 :) hg95 hg97 (fun (z : Nat) (hz : (z < cnt ∧ (la z < 10 ∨ 10 < la z) ∧ (la z < 70 ∨ 70 + 2 < la z) ∧ (la z < 90 ∨ 90 + 8 < la z) ∧ (la z < 310 ∨ 310 < la z) ∧ (la z < 330 ∨ 330 < la z))) => hF65_G 160 z hz.1 (fun _ => hz.2)) (fun (z : Nat) (hz : (z < cnt ∧ (la z < 10 ∨ 10 < la z) ∧ (la z < 70 ∨ 70 + 2 < la z) ∧ (la z < 90 ∨ 90 + 8 < la z) ∧ (la z < 310 ∨ 310 < la z) ∧ (la z < 330 ∨ 330 < la z))) => hF65_G 161 z hz.1 (fun _ => hz.2)) hfr104 (fun (z : Nat) (hz : (z < cnt ∧ (la z < 10 ∨ 10 < la z) ∧ (la z < 70 ∨ 70 + 2 < la z) ∧ (la z < 90 ∨ 90 + 8 < la z) ∧ (la z < 310 ∨ 310 < la z) ∧ (la z < 330 ∨ 330 < la z))) => hF65_G 163 z hz.1 (fun _ => hz.2)) hfr106 hfr107 hfr92 (show 0 ≤ (0 : Int32).toInt from by omega) (show (c94_G166 a83).toInt ≤ (c94_G165 a83).toInt from by omega) (show (c94_G162 a83).toInt ≤ (c94_G166 a83).toInt from by omega)
        · have c44 := z_nle c44
          refine pw_j0 ej47 ?_
          have qq0 : BKR (va_up G 141 c4_G141) P V la cnt D ((O 1) fa) (fun s => Int32.toNatClampNeg ((V 3) fl s)) (FMT d Ws) := by exact BKR_fr hbk hB (fun _ => rfl) (fun _ _ => ⟨rfl, rfl, rfl⟩) (fun _ _ _ _ => ⟨rfl, rfl, rfl⟩) (Nat.le_refl _) (fun _ _ => rfl) (fun _ _ h => h)
          have qq1 : id ((∀ s : Nat, s < 7 → ((G 222) this).toInt < (s : Int) → (V 3) fl s = (V 3) fl s)) := show (∀ s : Nat, s < 7 → ((G 222) this).toInt < (s : Int) → (V 3) fl s = (V 3) fl s) from by exact fun _ _ _ => rfl
          exact pw_some ⟨la, (fun _ _ => rfl), hB, qq0, qq1⟩
      · have c38 : r35.toInt = 1 := by have z9 := z_ne c38; omega
        refine pw_j0 ej47 ?_
        have qq0 : BKR (va_up G 141 c4_G141) P V la cnt D ((O 1) fa) (fun s => Int32.toNatClampNeg ((V 3) fl s)) (FMT d Ws) := by exact BKR_fr hbk hB (fun _ => rfl) (fun _ _ => ⟨rfl, rfl, rfl⟩) (fun _ _ _ _ => ⟨rfl, rfl, rfl⟩) (Nat.le_refl _) (fun _ _ => rfl) (fun _ _ h => h)
        have qq1 : id ((∀ s : Nat, s < 7 → ((G 222) this).toInt < (s : Int) → (V 3) fl s = (V 3) fl s)) := show (∀ s : Nat, s < 7 → ((G 222) this).toInt < (s : Int) → (V 3) fl s = (V 3) fl s) from by exact fun _ _ _ => rfl
        exact pw_some ⟨la, (fun _ _ => rfl), hB, qq0, qq1⟩
    · have c15 := z_nle c15
      refine pw_j0 ej18 ?_
      have qq0 : BKR (va_up G 141 c4_G141) P V la cnt D ((O 1) fa) (fun s => Int32.toNatClampNeg ((V 3) fl s)) (FMT d Ws) := by exact BKR_fr hbk hB (fun _ => rfl) (fun _ _ => ⟨rfl, rfl, rfl⟩) (fun _ _ _ _ => ⟨rfl, rfl, rfl⟩) (Nat.le_refl _) (fun _ _ => rfl) (fun _ _ h => h)
      have qq1 : id ((∀ s : Nat, s < 7 → ((G 222) this).toInt < (s : Int) → (V 3) fl s = (V 3) fl s)) := show (∀ s : Nat, s < 7 → ((G 222) this).toInt < (s : Int) → (V 3) fl s = (V 3) fl s) from by exact fun _ _ _ => rfl
      exact pw_some ⟨la, (fun _ _ => rfl), hB, qq0, qq1⟩
