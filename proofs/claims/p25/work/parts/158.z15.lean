abbrev QF_X11_uses (κ : Nat → Nat) (wd : Nat) (la : Nat → Nat) (G : Nat → Nat → Int32) (P : Nat → Nat → Option Nat) (U : Nat → Nat → Int64) (V : Nat → Nat → Nat → Int32) (X : Nat → Nat → Nat → Int64) (O : Nat → Nat → Nat → Option Nat) (kd : Nat → Nat) (ln : Nat → Nat) (cnt : Nat) (this : Nat) (p0 : Int32) (p1 : Int32) (ra : Nat) (tn : Nat) (bk : Nat) (nw : Nat) (nx : Nat) (wh : Nat) (pg : Nat) (fi : Nat) (pa : Nat) (pk : Nat) (sz : Nat) (cl : Nat) (fa : Nat) (fl : Nat) (sp : Nat) (lsp : Nat) (ssp : Nat) (wl : Nat) (wz : Nat) (D : Nat) (d : Nat → Dr) (Ws : List Wd) : (Int32 × (Nat → Nat → Int32) × (Nat → Nat → Option Nat) × (Nat → Nat → Int64) × (Nat → Nat → Nat → Int32) × (Nat → Nat → Nat → Int64) × (Nat → Nat → Nat → Option Nat) × (Nat → Nat) × (Nat → Nat) × Nat) → Prop := (fun t => ∃ la1 : Nat → Nat, (∀ z, z < cnt → la1 z = la z) ∧ LB la1 (t.2.2.2.2.2.2.2.2.2) (t.2.2.1) ∧ (BKR (t.2.1) (t.2.2.1) (t.2.2.2.2.1) la1 (t.2.2.2.2.2.2.2.2.2) D (((t.2.2.2.2.2.2.1) 1) fa) (fun s => Int32.toNatClampNeg (((t.2.2.2.2.1) 3) fl s)) (FMT d Ws)) ∧ ((∀ s : Nat, s < 7 → ((G 222) this).toInt < (s : Int) → ((t.2.2.2.2.1) 3) fl s = (V 3) fl s)))
set_option maxHeartbeats 4000000 in
set_option maxRecDepth 100000 in
theorem fn_X11_uses (κ : Nat → Nat) (wd : Nat) (la : Nat → Nat) (G : Nat → Nat → Int32) (P : Nat → Nat → Option Nat) (U : Nat → Nat → Int64) (V : Nat → Nat → Nat → Int32) (X : Nat → Nat → Nat → Int64) (O : Nat → Nat → Nat → Option Nat) (kd : Nat → Nat) (ln : Nat → Nat) (cnt : Nat) (this : Nat) (p0 : Int32) (p1 : Int32) (ra : Nat) (tn : Nat) (bk : Nat) (nw : Nat) (nx : Nat) (wh : Nat) (pg : Nat) (fi : Nat) (pa : Nat) (pk : Nat) (sz : Nat) (cl : Nat) (fa : Nat) (fl : Nat) (sp : Nat) (lsp : Nat) (ssp : Nat) (wl : Nat) (wz : Nat) (D : Nat) (d : Nat → Dr) (Ws : List Wd) (hI : CInv κ wd G P V O ln cnt) (hk_this : κ this = 12) (hB : LB la cnt P) (hlt_this : this < cnt) (hpl0 : la this = 200) (h221 : (P 221) this = some ra) (h226 : (P 226) this = some tn) (h229 : (P 229) this = some bk) (h181 : (P 181) tn = some nw) (h182 : (P 182) tn = some nx) (hnn : nw ≠ nx) (h185 : (P 185) tn = some wh) (h180 : (P 180) tn = some pg) (hfi : (P 63) pg = some fi) (hpa : (P 65) pg = some pa) (hpk : (P 62) pg = some pk) (hsz : (P 61) pg = some sz) (hcl : (P 64) pg = some cl) (hlt9 : la tn = 90) (h1 : (P 1) bk = some fa) (h3 : (P 3) bk = some fl) (h4 : (P 4) bk = some sp) (hls : (P 201) sp = some lsp) (hss : (P 202) sp = some ssp) (hw4 : ((G 200) sp).toInt = ((24 : Nat) : Int)) (hn4 : ln ssp = 12) (hwl : (P 201) wd = some wl) (hwz : (P 202) wd = some wz) (hww : ((G 200) wd).toInt = ((24 : Nat) : Int)) (hWs : rwW ((G 203) wd) ((V 0) wl) ((V 1) wz) 24 = Ws) (hWw : WDS Ws) (hbk : BKR G P V la cnt D ((O 1) fa) (fun s => Int32.toNatClampNeg ((V 3) fl s)) (FMT d Ws)) (hDc : D < 100000 + 10 * cnt) (h0 : (P 0) bk = some wd) (hl7 : ln fl = 7 ∧ ln fa = 700) (hl6 : ln ra = 6) (hrf : ∀ q, q < Int32.toNatClampNeg ((G 222) this) → ∃ rf, (O 2) ra q = some rf ∧ rf < cnt ∧ 100000 ≤ la rf ∧ RFX G P V O ln la cnt rf (d q)) : pw (f_X11_uses G P U V X O kd ln cnt this p0 p1) (sp1 (QF_X11_uses κ wd la G P U V X O kd ln cnt this p0 p1 ra tn bk nw nx wh pg fi pa pk sz cl fa fl sp lsp ssp wl wz D d Ws)) := by
  unfold f_X11_uses
  have zkm2 : (-2 : Int32).toInt = -2 := by decide +kernel
  have zk0 : (0 : Int32).toInt = 0 := by decide +kernel
  have zk1 : (1 : Int32).toInt = 1 := by decide +kernel
  have r_p0 := i32r p0
  have r_p1 := i32r p1
  replace hnn : id _ := hnn
  have hn1 : (P 221) this = some ra := h221
  obtain ⟨_, lt_ra2, lb_ra2⟩ := (hB.1 221 fl_221) this ra hn1
  have lb_ra2 : la ra = 203 := (lk_221.mp lb_ra2).trans (congrArg (fun z9 => z9 + 3) hpl0)
  have hk_ra := (((CInv_P221 hI :) this).2 ra hn1).1
  have hl1_ra := (((CInv_P221 hI :) this).2 ra hn1).2.1
  have hl2_ra := (((CInv_P221 hI :) this).2 ra hn1).2.2.1
  have hw_ra : id _ := (((CInv_P221 hI :) this).2 ra hn1).2.2.2
  have hz_ra : (Int32.ofNat (ln ra)).toInt = ((ln ra : Nat) : Int) := ofN_eq (by first | exact Nat.le_trans hl2_ra (by decide) | omega)
  have hn3 : (P 226) this = some tn := h226
  have lt_tn4 := ((hB.1 226 fl_226) this tn hn3).2.1
  have lb_tn4 : la tn = 90 := lk_226.mp ((hB.1 226 fl_226) this tn hn3).2.2
  have hk_tn := (((CInv_P226 hI :) this).2 tn hn3).1
  have hl1_tn := (((CInv_P226 hI :) this).2 tn hn3).2.1
  have hl2_tn := (((CInv_P226 hI :) this).2 tn hn3).2.2.1
  have hw_tn : id _ := (((CInv_P226 hI :) this).2 tn hn3).2.2.2
  have hn5 : (P 229) this = some bk := h229
  have lt_bk6 := ((hB.1 229 fl_229) this bk hn5).2.1
  have lb_bk6 : la bk = 70 := lk_229.mp ((hB.1 229 fl_229) this bk hn5).2.2
  have hk_bk := (((CInv_P229 hI :) this).2 bk hn5).1
  have hl1_bk := (((CInv_P229 hI :) this).2 bk hn5).2.1
  have hl2_bk := (((CInv_P229 hI :) this).2 bk hn5).2.2.1
  have hw_bk : id _ := (((CInv_P229 hI :) this).2 bk hn5).2.2.2
  have hn7 : (P 3) bk = some fl := h3
  obtain ⟨_, lt_fl8, lb_fl8⟩ := (hB.1 3 fl_3) bk fl hn7
  have lb_fl8 : la fl = 70 := (lk_3.mp lb_fl8).trans (congrArg (fun z9 => z9 + 0) lb_bk6)
  have hk_fl := (((CInv_P3 hI :) bk).2 fl hn7).1
  have hl1_fl := (((CInv_P3 hI :) bk).2 fl hn7).2.1
  have hl2_fl := (((CInv_P3 hI :) bk).2 fl hn7).2.2.1
  have hw_fl : id _ := (((CInv_P3 hI :) bk).2 fl hn7).2.2.2
  have hz_fl : (Int32.ofNat (ln fl)).toInt = ((ln fl : Nat) : Int) := ofN_eq (by first | exact Nat.le_trans hl2_fl (by decide) | omega)
  have hn9 : (P 1) bk = some fa := h1
  obtain ⟨_, lt_fa10, lb_fa10⟩ := (hB.1 1 fl_1) bk fa hn9
  have lb_fa10 : la fa = 70 := (lk_1.mp lb_fa10).trans (congrArg (fun z9 => z9 + 0) lb_bk6)
  have hk_fa := (((CInv_P1 hI :) bk).2 fa hn9).1
  have hl1_fa := (((CInv_P1 hI :) bk).2 fa hn9).2.1
  have hl2_fa := (((CInv_P1 hI :) bk).2 fa hn9).2.2.1
  have hw_fa : id _ := (((CInv_P1 hI :) bk).2 fa hn9).2.2.2
  have hz_fa : (Int32.ofNat (ln fa)).toInt = ((ln fa : Nat) : Int) := ofN_eq (by first | exact Nat.le_trans hl2_fa (by decide) | omega)
  have hn11 : (P 0) bk = some wd := h0
  have lt_wd12 := ((hB.1 0 fl_0) bk wd hn11).2.1
  have lb_wd12 : la wd = 20 := lk_0.mp ((hB.1 0 fl_0) bk wd hn11).2.2
  have hk_wd := (((CInv_P0 hI :) bk).2 wd hn11).1
  have hl1_wd := (((CInv_P0 hI :) bk).2 wd hn11).2.1
  have hl2_wd := (((CInv_P0 hI :) bk).2 wd hn11).2.2.1
  have hw_wd : id _ := (((CInv_P0 hI :) bk).2 wd hn11).2.2.2
  have hn13 : (P 201) wd = some wl := hwl
  obtain ⟨_, lt_wl14, lb_wl14⟩ := (hB.1 201 fl_201) wd wl hn13
  have lb_wl14 : la wl = 20 := (lk_201.mp lb_wl14).trans (congrArg (fun z9 => z9 + 0) lb_wd12)
  have hk_wl := (((CInv_P201 hI :) wd).2 wl hn13).1
  have hl1_wl := (((CInv_P201 hI :) wd).2 wl hn13).2.1
  have hl2_wl := (((CInv_P201 hI :) wd).2 wl hn13).2.2.1
  have hw_wl : id _ := (((CInv_P201 hI :) wd).2 wl hn13).2.2.2
  have hz_wl : (Int32.ofNat (ln wl)).toInt = ((ln wl : Nat) : Int) := ofN_eq (by first | exact Nat.le_trans hl2_wl (by decide) | omega)
  have hn15 : (P 202) wd = some wz := hwz
  obtain ⟨_, lt_wz16, lb_wz16⟩ := (hB.1 202 fl_202) wd wz hn15
  have lb_wz16 : la wz = 20 := (lk_202.mp lb_wz16).trans (congrArg (fun z9 => z9 + 0) lb_wd12)
  have hk_wz := (((CInv_P202 hI :) wd).2 wz hn15).1
  have hl1_wz := (((CInv_P202 hI :) wd).2 wz hn15).2.1
  have hl2_wz := (((CInv_P202 hI :) wd).2 wz hn15).2.2.1
  have hw_wz : id _ := (((CInv_P202 hI :) wd).2 wz hn15).2.2.2
  have hz_wz : (Int32.ofNat (ln wz)).toInt = ((ln wz : Nat) : Int) := ofN_eq (by first | exact Nat.le_trans hl2_wz (by decide) | omega)
  have rb17 := ((CInv_RB hI :) wd wz hk_wd hn15).1
  have ra18 := (CInv_RA hI :) wd wl wz hk_wd hn13 hn15
  have bw19 := (CInv_G200 hI :) wd
  have hb222 := (CInv_G222 hI :) this
  have hb222 := (CInv_G222 hI :) this
  have c222 := clampI (x := (G 222) this) (by omega)
  refine pw_b1 (fun r2 hc2 => ?_)
  have hq2 := wp_at (ok_X11_reformAt κ wd G P U V X O kd ln cnt this p0 (CInv_G222 hI :) (CInv_P221 hI :) (CInv_O2 hI :) (CInv_LN hI :) hk_this) hc2
  obtain ⟨hk20, f21⟩ : ((∀ b, r2 = some b → κ b = 6)) ∧ (id ((∀ b, r2 = some b → 0 ≤ p0.toInt ∧ p0.toInt < ((G 222) this).toInt))) := hq2
  have h82_h221 : (P 221) this = some ra := by exact h221
  have hx2 := pwq (fn_X11_reformAt κ wd la G P U V X O kd ln cnt this p0 (ra) (CInv_G222 hI :) (CInv_P221 hI :) (CInv_O2 hI :) (CInv_LN hI :) hk_this hB hlt_this h82_h221) hc2
  obtain ⟨p2_0, p2_1⟩ : (id ((p0.toInt < 0 ∨ ((G 222) this).toInt ≤ p0.toInt → (r2 : Option Nat) = none))) ∧ (id ((0 ≤ p0.toInt → p0.toInt < ((G 222) this).toInt → r2 = (O 2) ra (Int32.toNatClampNeg p0)))) := hx2
  clear h82_h221
  have hq2r := f21
  refine pw_jE (fun j22 ej22 => ?_)
  refine pw_oc (fun c7 => ?_) (fun b7 c7 => ?_)
  · skip
    refine pw_j0 ej22 ?_
    have qq0 : BKR G P V la cnt D ((O 1) fa) (fun s => Int32.toNatClampNeg ((V 3) fl s)) (FMT d Ws) := by exact BKR_fr hbk hB (fun _ => rfl) (fun _ _ => ⟨rfl, rfl, rfl⟩) (fun _ _ _ _ => ⟨rfl, rfl, rfl⟩) (Nat.le_refl _) (fun _ _ => rfl) (fun _ _ h => h)
    have qq1 : id ((∀ s : Nat, s < 7 → ((G 222) this).toInt < (s : Int) → (V 3) fl s = (V 3) fl s)) := show (∀ s : Nat, s < 7 → ((G 222) this).toInt < (s : Int) → (V 3) fl s = (V 3) fl s) from by exact fun _ _ _ => rfl
    exact pw_some ⟨la, (fun _ _ => rfl), hB, qq0, qq1⟩
  · skip
    have hk_b7 := hk20 b7 c7
    have hin : 0 ≤ p0.toInt ∧ p0.toInt < ((G 222) this).toInt := by by_cases q9 : 0 ≤ p0.toInt ∧ p0.toInt < ((G 222) this).toInt; (exact q9); (exfalso; have h9 := p2_0 (by omega); rw [h9] at c7; cases c7)
    have hr7 := hq2r b7 c7
    refine pw_ite (fun c11 => ?_) (fun c11 => ?_)
    · have c11 := (z_lt _ _).mp c11
      refine pw_j0 ej22 ?_
      have qq0 : BKR G P V la cnt D ((O 1) fa) (fun s => Int32.toNatClampNeg ((V 3) fl s)) (FMT d Ws) := by exact BKR_fr hbk hB (fun _ => rfl) (fun _ _ => ⟨rfl, rfl, rfl⟩) (fun _ _ _ _ => ⟨rfl, rfl, rfl⟩) (Nat.le_refl _) (fun _ _ => rfl) (fun _ _ h => h)
      have qq1 : id ((∀ s : Nat, s < 7 → ((G 222) this).toInt < (s : Int) → (V 3) fl s = (V 3) fl s)) := show (∀ s : Nat, s < 7 → ((G 222) this).toInt < (s : Int) → (V 3) fl s = (V 3) fl s) from by exact fun _ _ _ => rfl
      exact pw_some ⟨la, (fun _ _ => rfl), hB, qq0, qq1⟩
    · have c11 := z_nlt c11
      have b22 := (CInv_G102 hI :) b7
      refine pw_ite (fun c19 => ?_) (fun c19 => ?_)
      · have c19 := (z_lt _ _).mp c19
        refine pw_nne hn5 ?_
        have f23 : (p0 + 1).toInt = p0.toInt + 1 := z_addc (by decide +kernel) (by omega) (by omega)
        refine pw_nne hn1 ?_
        refine pw_nne hn3 ?_
        have hpr40_0 : ln ra = 6 := by first | assumption | omega
        refine pw_bA9 (fun c40_G c40_P c40_U c40_V c40_X c40_O c40_kd c40_ln c40_cnt v1_40 v2_40 hc40 => ?_)
        have hq40 := wp_at (ok_X0_fill κ wd G P U V X O kd ln cnt bk (p0 + 1) ra tn (CInv_i (CInv_G43 hI :) (CInv_G44 hI :) (CInv_G45 hI :) (CInv_G60 hI :) (CInv_G83 hI :) (CInv_G84 hI :) (CInv_G85 hI :) (CInv_G87 hI :) (CInv_G88 hI :) (CInv_G102 hI :) (CInv_G125 hI :) (CInv_G126 hI :) (CInv_G127 hI :) (CInv_G141 hI :) (CInv_G160 hI :) (CInv_G161 hI :) (CInv_G162 hI :) (CInv_G165 hI :) (CInv_G166 hI :) (CInv_G183 hI :) (CInv_G200 hI :) (CInv_G203 hI :) (CInv_G222 hI :) (CInv_G231 hI :) (CInv_G233 hI :) (CInv_P0 hI :) (CInv_P1 hI :) (CInv_P2 hI :) (CInv_P3 hI :) (CInv_P4 hI :) (CInv_P5 hI :) (CInv_P20 hI :) (CInv_P21 hI :) (CInv_P22 hI :) (CInv_P23 hI :) (CInv_P40 hI :) (CInv_P41 hI :) (CInv_P42 hI :) (CInv_P61 hI :) (CInv_P62 hI :) (CInv_P63 hI :) (CInv_P64 hI :) (CInv_P65 hI :) (CInv_P66 hI :) (CInv_P82 hI :) (CInv_P101 hI :) (CInv_P103 hI :) (CInv_P104 hI :) (CInv_P105 hI :) (CInv_P106 hI :) (CInv_P108 hI :) (CInv_P109 hI :) (CInv_P110 hI :) (CInv_P120 hI :) (CInv_P121 hI :) (CInv_P122 hI :) (CInv_P123 hI :) (CInv_P140 hI :) (CInv_P164 hI :) (CInv_P180 hI :) (CInv_P181 hI :) (CInv_P182 hI :) (CInv_P185 hI :) (CInv_P186 hI :) (CInv_P187 hI :) (CInv_P201 hI :) (CInv_P202 hI :) (CInv_P220 hI :) (CInv_P221 hI :) (CInv_P224 hI :) (CInv_P225 hI :) (CInv_P226 hI :) (CInv_P227 hI :) (CInv_P228 hI :) (CInv_P229 hI :) (CInv_P230 hI :) (CInv_P232 hI :) (CInv_P234 hI :) (CInv_P235 hI :) (CInv_P236 hI :) (CInv_V1 hI :) (CInv_V2 hI :) (CInv_V3 hI :) (CInv_V9 hI :) (CInv_O0 hI :) (CInv_O1 hI :) (CInv_O2 hI :) (CInv_RA hI :) (CInv_RB hI :) (CInv_RI hI :) (CInv_RM103 hI :) (CInv_RM104 hI :) (CInv_RM108 hI :) (CInv_LN hI :) (CInv_FL hI :) (CInv_W0 hI :) (CInv_KC hI :) (CInv_WK hI :)) hk_bk hk_ra hk_tn hpr40_0) hc40
        obtain ⟨κ40_23, hCI40, hxx40, hcc25, hfr26, hfr27, hfr28, hfr29, hfr30, hfr31, hfr32, hfr33, hfr34, f35, f36⟩ : ∃ κ1 : Nat → Nat, (CInv κ1 wd c40_G c40_P c40_V c40_O c40_ln c40_cnt) ∧ (∀ a, κ a ≠ 0 → κ1 a = κ a) ∧ (cnt ≤ c40_cnt) ∧ ((∀ a, κ a ≠ 0 → (c40_P 220) a = (P 220) a)) ∧ ((∀ a, κ a ≠ 0 → (c40_P 229) a = (P 229) a)) ∧ ((∀ a, κ a ≠ 0 → (c40_P 3) a = (P 3) a)) ∧ ((∀ a, κ a ≠ 0 → (c40_G 141) a = (G 141) a)) ∧ ((∀ a, κ a ≠ 0 → (c40_G 83) a = (G 83) a)) ∧ ((∀ a, κ a ≠ 0 → (c40_P 82) a = (P 82) a)) ∧ ((∀ a, κ a ≠ 0 → (c40_P 0) a = (P 0) a)) ∧ ((∀ a, κ a ≠ 0 → (c40_G 160) a = (G 160) a)) ∧ ((∀ a, κ a ≠ 0 → c40_ln a = ln a)) ∧ ((c40_G 203) wd = (G 203) wd) ∧ (id ((∀ fl, (P 3) bk = some fl → (((v1_40 : Nat) : Int) + 3 * s7 ((V 3) fl) ≤ 3 * s7 ((c40_V 3) fl)) ∧ (((v2_40 : Nat) : Int) + 2504 * s7 ((V 3) fl) ≤ 2504 * s7 ((c40_V 3) fl))))) := hq40
        have kx37 : ∀ a, κ a ≠ 0 → κ40_23 a = κ a := hxx40
        have hk38 : κ40_23 this = 12 := kxk hxx40 hk_this (by decide)
        have hk39 : κ40_23 b7 = 6 := kxk hxx40 hk_b7 (by decide)
        have hq40 := pwq (fr_X0_fill la G P U V X O kd ln cnt bk (p0 + 1) ra tn hB lt_bk6 lt_ra2 lt_tn4) hc40
        obtain ⟨la40_f, agf40, hBf40, ccf40, fG40, fP40, fU40, fV40, fX40, fO40, fl40⟩ : ∃ la9 : Nat → Nat, (∀ z, z < cnt → la9 z = la z) ∧ LB la9 c40_cnt c40_P ∧ cnt ≤ c40_cnt ∧ FRM cnt [60, 183, 203] (fun z => (la z < la bk ∨ la bk + 2 < la z) ∧ (la z < la tn ∨ la tn + 8 < la z)) G c40_G ∧ FRM cnt [66, 181, 182] (fun z => (la z < la bk ∨ la bk + 2 < la z) ∧ (la z < la tn ∨ la tn + 8 < la z)) P c40_P ∧ FRM cnt [184] (fun z => (la z < la bk ∨ la bk + 2 < la z) ∧ (la z < la tn ∨ la tn + 8 < la z)) U c40_U ∧ FRM cnt [0, 1, 2, 3, 12] (fun z => (la z < la bk ∨ la bk + 2 < la z) ∧ (la z < la tn ∨ la tn + 8 < la z)) V c40_V ∧ FRM cnt [1] (fun z => (la z < la bk ∨ la bk + 2 < la z) ∧ (la z < la tn ∨ la tn + 8 < la z)) X c40_X ∧ FRM cnt [1] (fun z => (la z < la bk ∨ la bk + 2 < la z) ∧ (la z < la tn ∨ la tn + 8 < la z)) O c40_O ∧ (∀ z, z < cnt → c40_ln z = ln z) := hq40
        have h840_h181 : (P 181) tn = some nw := by exact h181
        have h840_h182 : (P 182) tn = some nx := by exact h182
        have h840_hnn : nw ≠ nx := by exact hnn
        have h840_h185 : (P 185) tn = some wh := by exact h185
        have h840_h180 : (P 180) tn = some pg := by exact h180
        have h840_hfi : (P 63) pg = some fi := by exact hfi
        have h840_hpa : (P 65) pg = some pa := by exact hpa
        have h840_hpk : (P 62) pg = some pk := by exact hpk
        have h840_hsz : (P 61) pg = some sz := by exact hsz
        have h840_hcl : (P 64) pg = some cl := by exact hcl
        have h840_hlt9 : la tn = 90 := by exact hlt9
        have h840_h1 : (P 1) bk = some fa := by exact h1
        have h840_h3 : (P 3) bk = some fl := by exact h3
        have h840_h4 : (P 4) bk = some sp := by exact h4
        have h840_hls : (P 201) sp = some lsp := by exact hls
        have h840_hss : (P 202) sp = some ssp := by exact hss
        have h840_hw4 : ((G 200) sp).toInt = ((24 : Nat) : Int) := by exact hw4
        have h840_hn4 : ln ssp = 12 := by exact hn4
        have h840_hwl : (P 201) wd = some wl := by exact hwl
        have h840_hwz : (P 202) wd = some wz := by exact hwz
        have h840_hww : ((G 200) wd).toInt = ((24 : Nat) : Int) := by exact hww
        have h840_hWs : rwW ((G 203) wd) ((V 0) wl) ((V 1) wz) 24 = Ws := by exact hWs
        have h840_hWw : WDS Ws := by exact hWw
        have h840_hlb : la bk = 70 := by omega
        have h840_hlw : la wd = 20 := by omega
        have h840_hst : 0 ≤ (p0 + 1).toInt ∧ (p0 + 1).toInt ≤ 6 := by omega
        have h840_hrf : id (∀ q : Nat, (q : Int) < (p0 + 1).toInt → ∃ rf, (O 2) ra q = some rf ∧ rf < cnt ∧ 100000 ≤ la rf ∧ RFX G P V O ln la cnt rf (d q)) := show ∀ q : Nat, (q : Int) < (p0 + 1).toInt → ∃ rf, (O 2) ra q = some rf ∧ rf < cnt ∧ 100000 ≤ la rf ∧ RFX G P V O ln la cnt rf (d q) from by exact fun q hq => (by obtain ⟨rf9, y1, y2, y3, y4⟩ := hrf q (by omega); exact ⟨rf9, y1, y2, y3, RFX_fr y4 hB y2 (fun z hz h3 h4 => ⟨rfl, rfl, rfl, rfl, rfl, rfl, rfl, rfl, rfl, rfl, rfl, rfl, rfl, rfl, rfl, rfl, rfl, rfl, rfl, rfl, rfl, rfl, rfl, rfl, rfl, rfl⟩) (Nat.le_refl _) (fun _ _ => rfl)⟩)
        have h840_hbk : BKR G P V la cnt D ((O 1) fa) (fun s => Int32.toNatClampNeg ((V 3) fl s)) (FMT d Ws) := by exact BKR_fr hbk hB (fun _ => rfl) (fun _ _ => ⟨rfl, rfl, rfl⟩) (fun _ _ _ _ => ⟨rfl, rfl, rfl⟩) (Nat.le_refl _) (fun _ _ => rfl) (fun _ _ h => h)
        have h840_hDc : D < 100000 + 10 * cnt := by exact hDc
        have h840_h0 : (P 0) bk = some wd := by exact h0
        have h840_hl7 : ln fl = 7 ∧ ln fa = 700 := by exact hl7
        have hx40 := pwq (fn_X0_fill κ wd la G P U V X O kd ln cnt bk (p0 + 1) ra tn (nw) (nx) (wh) (pg) (fi) (pa) (pk) (sz) (cl) (fa) (fl) (sp) (lsp) (ssp) (wl) (wz) (D) (d) (Ws) (CInv_i (CInv_G43 hI :) (CInv_G44 hI :) (CInv_G45 hI :) (CInv_G60 hI :) (CInv_G83 hI :) (CInv_G84 hI :) (CInv_G85 hI :) (CInv_G87 hI :) (CInv_G88 hI :) (CInv_G102 hI :) (CInv_G125 hI :) (CInv_G126 hI :) (CInv_G127 hI :) (CInv_G141 hI :) (CInv_G160 hI :) (CInv_G161 hI :) (CInv_G162 hI :) (CInv_G165 hI :) (CInv_G166 hI :) (CInv_G183 hI :) (CInv_G200 hI :) (CInv_G203 hI :) (CInv_G222 hI :) (CInv_G231 hI :) (CInv_G233 hI :) (CInv_P0 hI :) (CInv_P1 hI :) (CInv_P2 hI :) (CInv_P3 hI :) (CInv_P4 hI :) (CInv_P5 hI :) (CInv_P20 hI :) (CInv_P21 hI :) (CInv_P22 hI :) (CInv_P23 hI :) (CInv_P40 hI :) (CInv_P41 hI :) (CInv_P42 hI :) (CInv_P61 hI :) (CInv_P62 hI :) (CInv_P63 hI :) (CInv_P64 hI :) (CInv_P65 hI :) (CInv_P66 hI :) (CInv_P82 hI :) (CInv_P101 hI :) (CInv_P103 hI :) (CInv_P104 hI :) (CInv_P105 hI :) (CInv_P106 hI :) (CInv_P108 hI :) (CInv_P109 hI :) (CInv_P110 hI :) (CInv_P120 hI :) (CInv_P121 hI :) (CInv_P122 hI :) (CInv_P123 hI :) (CInv_P140 hI :) (CInv_P164 hI :) (CInv_P180 hI :) (CInv_P181 hI :) (CInv_P182 hI :) (CInv_P185 hI :) (CInv_P186 hI :) (CInv_P187 hI :) (CInv_P201 hI :) (CInv_P202 hI :) (CInv_P220 hI :) (CInv_P221 hI :) (CInv_P224 hI :) (CInv_P225 hI :) (CInv_P226 hI :) (CInv_P227 hI :) (CInv_P228 hI :) (CInv_P229 hI :) (CInv_P230 hI :) (CInv_P232 hI :) (CInv_P234 hI :) (CInv_P235 hI :) (CInv_P236 hI :) (CInv_V1 hI :) (CInv_V2 hI :) (CInv_V3 hI :) (CInv_V9 hI :) (CInv_O0 hI :) (CInv_O1 hI :) (CInv_O2 hI :) (CInv_RA hI :) (CInv_RB hI :) (CInv_RI hI :) (CInv_RM103 hI :) (CInv_RM104 hI :) (CInv_RM108 hI :) (CInv_LN hI :) (CInv_FL hI :) (CInv_W0 hI :) (CInv_KC hI :) (CInv_WK hI :)) hk_bk hk_ra hk_tn hpr40_0 hB lt_bk6 lt_ra2 lt_tn4 h840_h181 h840_h182 h840_hnn h840_h185 h840_h180 h840_hfi h840_hpa h840_hpk h840_hsz h840_hcl h840_hlt9 h840_h1 h840_h3 h840_h4 h840_hls h840_hss h840_hw4 h840_hn4 h840_hwl h840_hwz h840_hww h840_hWs h840_hWw h840_hlb h840_hlw h840_hst h840_hrf h840_hbk h840_hDc h840_h0 h840_hl7) hc40
        obtain ⟨la40, ag40, hB40, p40_0, p40_1⟩ : ∃ la9 : Nat → Nat, (∀ z, z < cnt → la9 z = la z) ∧ LB la9 c40_cnt c40_P ∧ (BKR c40_G c40_P c40_V la9 c40_cnt D ((c40_O 1) fa) (fun s => Int32.toNatClampNeg ((c40_V 3) fl s)) (FMT d Ws)) ∧ (id ((∀ s : Nat, s < 7 → (c40_V 3) fl s = (if (s : Int) ≤ (p0 + 1).toInt then (G 203) wd else (V 3) fl s)))) := hx40
        clear h840_hl7 h840_h0 h840_hDc h840_hbk h840_hrf h840_hst h840_hlw h840_hlb h840_hWw h840_hWs h840_hww h840_hwz h840_hwl h840_hn4 h840_hw4 h840_hss h840_hls h840_h4 h840_h3 h840_h1 h840_hlt9 h840_hcl h840_hsz h840_hpk h840_hpa h840_hfi h840_h180 h840_h185 h840_hnn h840_h182 h840_h181 agf40 hBf40 hk39 hk38 kx37 hxx40 hfr26 hfr27 hfr28 hfr29 hfr30 hfr31 hfr32 hfr33 hfr34 hc40 hpr40_0 hk20 hc2
        have gl_40 : la40 this = 200 := (ag40 this hlt_this).trans hpl0
        have lt41 : this < c40_cnt := Nat.lt_of_lt_of_le hlt_this ccf40
        have gl_42 : la40 ra = 203 := (ag40 ra lt_ra2).trans lb_ra2
        have lt43 : ra < c40_cnt := Nat.lt_of_lt_of_le lt_ra2 ccf40
        have gl_44 : la40 tn = 90 := (ag40 tn lt_tn4).trans lb_tn4
        have lt45 : tn < c40_cnt := Nat.lt_of_lt_of_le lt_tn4 ccf40
        have gl_46 : la40 bk = 70 := (ag40 bk lt_bk6).trans lb_bk6
        have lt47 : bk < c40_cnt := Nat.lt_of_lt_of_le lt_bk6 ccf40
        have gl_48 : la40 fl = 70 := (ag40 fl lt_fl8).trans lb_fl8
        have lt49 : fl < c40_cnt := Nat.lt_of_lt_of_le lt_fl8 ccf40
        have gl_50 : la40 fa = 70 := (ag40 fa lt_fa10).trans lb_fa10
        have lt51 : fa < c40_cnt := Nat.lt_of_lt_of_le lt_fa10 ccf40
        have gl_52 : la40 wd = 20 := (ag40 wd lt_wd12).trans lb_wd12
        have lt53 : wd < c40_cnt := Nat.lt_of_lt_of_le lt_wd12 ccf40
        have gl_54 : la40 wl = 20 := (ag40 wl lt_wl14).trans lb_wl14
        have lt55 : wl < c40_cnt := Nat.lt_of_lt_of_le lt_wl14 ccf40
        have gl_56 : la40 wz = 20 := (ag40 wz lt_wz16).trans lb_wz16
        have lt57 : wz < c40_cnt := Nat.lt_of_lt_of_le lt_wz16 ccf40
        have hag40 : ∀ z, z < cnt → la40 z = la z := fun z hz => (ag40 z (Nat.lt_of_lt_of_le hz (Nat.le_refl _))).trans (rfl)
        have hle40 : cnt ≤ cnt := (Nat.le_refl _)
        have ctf40 : ∀ z, z < cnt → ((la z < 70 ∨ 70 + 2 < la z) ∧ (la z < 90 ∨ 90 + 8 < la z)) → ((la z < la bk ∨ la bk + 2 < la z) ∧ (la z < la tn ∨ la tn + 8 < la z)) := fun z h0 hz => by have q2 := hB.2 z h0; omega
        have hF40_G : FRM cnt [60, 183, 203] (fun z => (la z < 70 ∨ 70 + 2 < la z) ∧ (la z < 90 ∨ 90 + 8 < la z)) G c40_G := FRM_trans FRM_refl fG40 hle40 (by decide) (ctf40)
        have hF40_P : FRM cnt [66, 181, 182] (fun z => (la z < 70 ∨ 70 + 2 < la z) ∧ (la z < 90 ∨ 90 + 8 < la z)) P c40_P := FRM_trans FRM_refl fP40 hle40 (by decide) (ctf40)
        have hF40_U : FRM cnt [184] (fun z => (la z < 70 ∨ 70 + 2 < la z) ∧ (la z < 90 ∨ 90 + 8 < la z)) U c40_U := FRM_trans FRM_refl fU40 hle40 (by decide) (ctf40)
        have hF40_V : FRM cnt [0, 1, 2, 3, 12] (fun z => (la z < 70 ∨ 70 + 2 < la z) ∧ (la z < 90 ∨ 90 + 8 < la z)) V c40_V := FRM_trans FRM_refl fV40 hle40 (by decide) (ctf40)
        have hF40_X : FRM cnt [1] (fun z => (la z < 70 ∨ 70 + 2 < la z) ∧ (la z < 90 ∨ 90 + 8 < la z)) X c40_X := FRM_trans FRM_refl fX40 hle40 (by decide) (ctf40)
        have hF40_O : FRM cnt [1] (fun z => (la z < 70 ∨ 70 + 2 < la z) ∧ (la z < 90 ∨ 90 + 8 < la z)) O c40_O := FRM_trans FRM_refl fO40 hle40 (by decide) (ctf40)
        have hlnn40 : ∀ z, z < cnt → c40_ln z = ln z := fun z hz => (fl40 z (Nat.lt_of_lt_of_le hz hle40)).trans (rfl)
        clear hlnn40 hF40_O hF40_X hF40_V hF40_U hF40_P hF40_G ag40 fG40 fU40 fV40 fX40 fO40 fl40
        have hn58 : (c40_P 221) this = some ra := (fP40 221 this hlt_this (fun q => absurd q (by decide))).trans hn1
        have lt_ra59 := ((hB40.1 221 fl_221) this ra hn58).2.1
        have hk_ra := (((CInv_P221 hCI40 :) this).2 ra hn58).1
        have hl1_ra := (((CInv_P221 hCI40 :) this).2 ra hn58).2.1
        have hl2_ra := (((CInv_P221 hCI40 :) this).2 ra hn58).2.2.1
        have hw_ra : id _ := (((CInv_P221 hCI40 :) this).2 ra hn58).2.2.2
        have hn60 : (c40_P 226) this = some tn := (fP40 226 this hlt_this (fun q => absurd q (by decide))).trans hn3
        have lt_tn61 := ((hB40.1 226 fl_226) this tn hn60).2.1
        have hk_tn := (((CInv_P226 hCI40 :) this).2 tn hn60).1
        have hl1_tn := (((CInv_P226 hCI40 :) this).2 tn hn60).2.1
        have hl2_tn := (((CInv_P226 hCI40 :) this).2 tn hn60).2.2.1
        have hw_tn : id _ := (((CInv_P226 hCI40 :) this).2 tn hn60).2.2.2
        have hn62 : (c40_P 229) this = some bk := (fP40 229 this hlt_this (fun q => absurd q (by decide))).trans hn5
        have lt_bk63 := ((hB40.1 229 fl_229) this bk hn62).2.1
        have hk_bk := (((CInv_P229 hCI40 :) this).2 bk hn62).1
        have hl1_bk := (((CInv_P229 hCI40 :) this).2 bk hn62).2.1
        have hl2_bk := (((CInv_P229 hCI40 :) this).2 bk hn62).2.2.1
        have hw_bk : id _ := (((CInv_P229 hCI40 :) this).2 bk hn62).2.2.2
        have hn64 : (c40_P 3) bk = some fl := (fP40 3 bk lt_bk6 (fun q => absurd q (by decide))).trans hn7
        have lt_fl65 := ((hB40.1 3 fl_3) bk fl hn64).2.1
        have hk_fl := (((CInv_P3 hCI40 :) bk).2 fl hn64).1
        have hl1_fl := (((CInv_P3 hCI40 :) bk).2 fl hn64).2.1
        have hl2_fl := (((CInv_P3 hCI40 :) bk).2 fl hn64).2.2.1
        have hw_fl : id _ := (((CInv_P3 hCI40 :) bk).2 fl hn64).2.2.2
        have hn66 : (c40_P 1) bk = some fa := (fP40 1 bk lt_bk6 (fun q => absurd q (by decide))).trans hn9
        have lt_fa67 := ((hB40.1 1 fl_1) bk fa hn66).2.1
        have hk_fa := (((CInv_P1 hCI40 :) bk).2 fa hn66).1
        have hl1_fa := (((CInv_P1 hCI40 :) bk).2 fa hn66).2.1
        have hl2_fa := (((CInv_P1 hCI40 :) bk).2 fa hn66).2.2.1
        have hw_fa : id _ := (((CInv_P1 hCI40 :) bk).2 fa hn66).2.2.2
        have hn68 : (c40_P 0) bk = some wd := (fP40 0 bk lt_bk6 (fun q => absurd q (by decide))).trans hn11
        have lt_wd69 := ((hB40.1 0 fl_0) bk wd hn68).2.1
        have hk_wd := (((CInv_P0 hCI40 :) bk).2 wd hn68).1
        have hl1_wd := (((CInv_P0 hCI40 :) bk).2 wd hn68).2.1
        have hl2_wd := (((CInv_P0 hCI40 :) bk).2 wd hn68).2.2.1
        have hw_wd : id _ := (((CInv_P0 hCI40 :) bk).2 wd hn68).2.2.2
        have hn70 : (c40_P 201) wd = some wl := (fP40 201 wd lt_wd12 (fun q => absurd q (by decide))).trans hn13
        have lt_wl71 := ((hB40.1 201 fl_201) wd wl hn70).2.1
        have hk_wl := (((CInv_P201 hCI40 :) wd).2 wl hn70).1
        have hl1_wl := (((CInv_P201 hCI40 :) wd).2 wl hn70).2.1
        have hl2_wl := (((CInv_P201 hCI40 :) wd).2 wl hn70).2.2.1
        have hw_wl : id _ := (((CInv_P201 hCI40 :) wd).2 wl hn70).2.2.2
        have hn72 : (c40_P 202) wd = some wz := (fP40 202 wd lt_wd12 (fun q => absurd q (by decide))).trans hn15
        have lt_wz73 := ((hB40.1 202 fl_202) wd wz hn72).2.1
        have hk_wz := (((CInv_P202 hCI40 :) wd).2 wz hn72).1
        have hl1_wz := (((CInv_P202 hCI40 :) wd).2 wz hn72).2.1
        have hl2_wz := (((CInv_P202 hCI40 :) wd).2 wz hn72).2.2.1
        have hw_wz : id _ := (((CInv_P202 hCI40 :) wd).2 wz hn72).2.2.2
        have rb74 := ((CInv_RB hCI40 :) wd wz hk_wd hn72).1
        have lp49 : ∀ (n49 : Nat) (y49_4 : Int32) (y49_5 : Int32), (0 ≤ y49_5.toInt ∧ y49_5.toInt ≤ 100) → (0 ≤ y49_4.toInt ∧ y49_4.toInt ≤ y49_5.toInt) → pw (L_X11_uses_49 this p0 p1 c40_G c40_P c40_U c40_V c40_X c40_O c40_kd c40_ln c40_cnt n49 y49_4 y49_5) (sp1 (QF_X11_uses κ wd la G P U V X O kd ln cnt this p0 p1 ra tn bk nw nx wh pg fi pa pk sz cl fa fl sp lsp ssp wl wz D d Ws)) := by
          intro n49
          clear fP40
          induction n49 with
          | zero => intros; exact pw_none
          | succ n49 ih49 =>
            intro y49_4 y49_5 f77 f78
            show pw (B_X11_uses_49 this p0 p1 c40_G c40_P c40_U c40_V c40_X c40_O c40_kd c40_ln c40_cnt (L_X11_uses_49 this p0 p1 c40_G c40_P c40_U c40_V c40_X c40_O c40_kd c40_ln c40_cnt n49) y49_4 y49_5) _
            unfold B_X11_uses_49
            refine pw_nne hn62 ?_
            refine pw_nne hn68 ?_
            have b79 := (CInv_G203 hCI40 :) wd
            refine pw_ite (fun c61 => ?_) (fun c61 => ?_)
            · have c61 := (z_le _ _).mp c61
              have qq0 : BKR c40_G c40_P c40_V la40 c40_cnt D ((c40_O 1) fa) (fun s => Int32.toNatClampNeg ((c40_V 3) fl s)) (FMT d Ws) := by exact BKR_fr p40_0 hB40 (fun _ => rfl) (fun _ _ => ⟨rfl, rfl, rfl⟩) (fun _ _ _ _ => ⟨rfl, rfl, rfl⟩) (Nat.le_refl _) (fun _ _ => rfl) (fun _ _ h => h)
              have qq1 : id ((∀ s : Nat, s < 7 → ((G 222) this).toInt < (s : Int) → (c40_V 3) fl s = (V 3) fl s)) := show (∀ s : Nat, s < 7 → ((G 222) this).toInt < (s : Int) → (c40_V 3) fl s = (V 3) fl s) from by intro s hs h9; have z9 := p40_1 s hs; rw [if_neg (by omega)] at z9; exact z9
              exact pw_some ⟨la40, hag40, hB40, qq0, qq1⟩
            · have c61 := z_nle c61
              refine pw_nne hn62 ?_
              have hpr72_0 : (0 ≤ p0.toInt ∧ p0.toInt ≤ 5) := by first | assumption | omega
              have hpr72_1 : (0 ≤ y49_5.toInt ∧ y49_5.toInt < 100) := by first | assumption | omega
              refine pw_b1 (fun r72 hc72 => ?_)
              have hq72 := wp_at (ok_X0_usesLaw κ40_23 wd c40_G c40_P c40_U c40_V c40_X c40_O c40_kd c40_ln c40_cnt bk p0 y49_5 p1 (CInv_P2 hCI40 :) (CInv_LN hCI40 :) hk_bk hpr72_0 hpr72_1) hc72
              have f83 : (0 ≤ r72.toInt ∧ r72.toInt ≤ 1) := hq72
              clear hq72
              refine pw_jE (fun j81 ej81 => ?_)
              refine pw_ite (fun c75 => ?_) (fun c75 => ?_)
              · have c75 := congrArg Int32.toInt c75
                refine pw_j1 ej81 (fun x81_4 ex81_4 => ?_)
                have ex81_4 := ex81_4.symm
                have f_x81_4 : x81_4.toInt = y49_4.toInt := by rw [ex81_4]
                have f84 : (y49_5 + 1).toInt = y49_5.toInt + (1) := z_addc (by decide +kernel) (by omega) (by omega)
                have iv49_0 : (0 ≤ (y49_5 + 1).toInt ∧ (y49_5 + 1).toInt ≤ 100) := by omega
                have iv49_1 : (0 ≤ x81_4.toInt ∧ x81_4.toInt ≤ (y49_5 + 1).toInt) := by omega
                exact ih49 x81_4 (y49_5 + 1) iv49_0 iv49_1
              · have c75 : r72.toInt = 1 := by have z9 := z_ne c75; omega
                have f85 : (y49_4 + 1).toInt = y49_4.toInt + (1) := z_addc (by decide +kernel) (by omega) (by omega)
                refine pw_j1 ej81 (fun x81_4 ex81_4 => ?_)
                have ex81_4 := ex81_4.symm
                have f_x81_4 : x81_4.toInt = (y49_4 + 1).toInt := by rw [ex81_4]
                have f86 : (y49_5 + 1).toInt = y49_5.toInt + (1) := z_addc (by decide +kernel) (by omega) (by omega)
                have iv49_0 : (0 ≤ (y49_5 + 1).toInt ∧ (y49_5 + 1).toInt ≤ 100) := by omega
                have iv49_1 : (0 ≤ x81_4.toInt ∧ x81_4.toInt ≤ (y49_5 + 1).toInt) := by omega
                exact ih49 x81_4 (y49_5 + 1) iv49_0 iv49_1
        exact lp49 NN (0 : Int32) (0 : Int32) (show (0 ≤ (0 : Int32).toInt ∧ (0 : Int32).toInt ≤ 100) from by omega) (show (0 ≤ (0 : Int32).toInt ∧ (0 : Int32).toInt ≤ (0 : Int32).toInt) from by omega)
      · have c19 := z_nlt c19
        refine pw_j0 ej22 ?_
        have qq0 : BKR G P V la cnt D ((O 1) fa) (fun s => Int32.toNatClampNeg ((V 3) fl s)) (FMT d Ws) := by exact BKR_fr hbk hB (fun _ => rfl) (fun _ _ => ⟨rfl, rfl, rfl⟩) (fun _ _ _ _ => ⟨rfl, rfl, rfl⟩) (Nat.le_refl _) (fun _ _ => rfl) (fun _ _ h => h)
        have qq1 : id ((∀ s : Nat, s < 7 → ((G 222) this).toInt < (s : Int) → (V 3) fl s = (V 3) fl s)) := show (∀ s : Nat, s < 7 → ((G 222) this).toInt < (s : Int) → (V 3) fl s = (V 3) fl s) from by exact fun _ _ _ => rfl
        exact pw_some ⟨la, (fun _ _ => rfl), hB, qq0, qq1⟩
