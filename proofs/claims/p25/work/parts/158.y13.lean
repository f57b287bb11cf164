abbrev QF_X9_addEntry (κ : Nat → Nat) (wd : Nat) (la : Nat → Nat) (G : Nat → Nat → Int32) (P : Nat → Nat → Option Nat) (U : Nat → Nat → Int64) (V : Nat → Nat → Nat → Int32) (X : Nat → Nat → Nat → Int64) (O : Nat → Nat → Nat → Option Nat) (kd : Nat → Nat) (ln : Nat → Nat) (cnt : Nat) (this : Nat) (p0 : Nat) (p1 : Int32) (p2 : Nat) (er : Nat) (br : Nat) (kp : Nat) (le : Nat) (lb : Nat) (se : Nat) (sb : Nat) (l : Nat) (s : Nat) (es : List (Wd × Option Wd)) (ws : List Wd) (e : Wd × Option Wd) : ((Nat → Int32) × (Nat → Nat → Int32) × (Nat → Nat → Int32)) → Prop := (fun t => (rwW ((t.1) p2) ((t.2.1) l) ((t.2.2) s) 24 = (gdF (some (e.2.getD e.1))).foldl (addF (ln s)) ws) ∧ ((∀ z, z ≠ l → (t.2.1) z = (V 0) z)) ∧ ((∀ z, z ≠ s → (t.2.2) z = (V 1) z)) ∧ ((∀ z, z ≠ p2 → (t.1) z = (G 203) z)))
set_option maxHeartbeats 4000000 in
set_option maxRecDepth 100000 in
theorem fn_X9_addEntry (κ : Nat → Nat) (wd : Nat) (la : Nat → Nat) (G : Nat → Nat → Int32) (P : Nat → Nat → Option Nat) (U : Nat → Nat → Int64) (V : Nat → Nat → Nat → Int32) (X : Nat → Nat → Nat → Int64) (O : Nat → Nat → Nat → Option Nat) (kd : Nat → Nat) (ln : Nat → Nat) (cnt : Nat) (this : Nat) (p0 : Nat) (p1 : Int32) (p2 : Nat) (er : Nat) (br : Nat) (kp : Nat) (le : Nat) (lb : Nat) (se : Nat) (sb : Nat) (l : Nat) (s : Nat) (es : List (Wd × Option Wd)) (ws : List Wd) (e : Wd × Option Wd) (hzG200 : rng (0) 24 (G 200)) (hzG203 : rng (0) 100 (G 203)) (hzP104 : PB κ ln wd 6 11 0 2500 1 (P 104)) (hzP105 : PB κ ln wd 6 11 0 2500 1 (P 105)) (hzP106 : PB κ ln wd 6 110 40 40 0 (P 106)) (hzP201 : PB κ ln wd 11 100 0 2400 0 (P 201)) (hzP202 : PB κ ln wd 11 101 0 100 0 (P 202)) (hzV1 : rng2 (0) 24 (V 1)) (hzRA : RA κ ln (G 200) (P 201) (P 202)) (hzRB : RB κ ln (G 200) (G 203) (P 202) (V 1)) (hzRI : RI (P 202)) (hzRM104 : RM ln 40 (P 104) (P 202)) (hzLN : LN κ ln) (hk_this : κ this = 10) (hk_p0 : κ p0 = 6) (hk_p2 : κ p2 = 11) (hp0 : (0 ≤ p1.toInt ∧ p1.toInt ≤ 100)) (hB : LB la cnt P) (hlt_this : this < cnt) (hlt_p0 : p0 < cnt) (hlt_p2 : p2 < cnt) (h104 : (P 104) p0 = some er) (h105 : (P 105) p0 = some br) (h106 : (P 106) p0 = some kp) (hle : (P 201) er = some le) (hse : (P 202) er = some se) (hlb : (P 201) br = some lb) (hsb : (P 202) br = some sb) (hwe : ((G 200) er).toInt = ((16 : Nat) : Int)) (hwb : ((G 200) br).toInt = ((16 : Nat) : Int)) (hes : entV ((G 203) er) ((V 0) le) ((V 1) se) ((V 0) lb) ((V 1) sb) ((V 10) kp) = es) (he : es[Int32.toNatClampNeg p1]? = some e) (hcb : ((G 203) br).toInt = ((G 203) er).toInt) (h40 : ((G 203) er).toInt ≤ 40) (hl : (P 201) p2 = some l) (hs : (P 202) p2 = some s) (hw : ((G 200) p2).toInt = ((24 : Nat) : Int)) (hws : rwW ((G 203) p2) ((V 0) l) ((V 1) s) 24 = ws) : pw (f_X9_addEntry G P U V X O kd ln cnt this p0 p1 p2) (QF_X9_addEntry κ wd la G P U V X O kd ln cnt this p0 p1 p2 er br kp le lb se sb l s es ws e) := by
  unfold f_X9_addEntry
  have zk0 : (0 : Int32).toInt = 0 := by decide +kernel
  have r_p1 := i32r p1
  have hn1 : (P 104) p0 = some er := h104
  have lt_er2 := ((hB.1 104 fl_104) p0 er hn1).2.1
  have lb_er2 : la er = la p0 + 2 := lk_104.mp ((hB.1 104 fl_104) p0 er hn1).2.2
  have hk_er := ((hzP104 p0).2 er hn1).1
  have hl1_er := ((hzP104 p0).2 er hn1).2.1
  have hl2_er := ((hzP104 p0).2 er hn1).2.2.1
  have hw_er : id _ := ((hzP104 p0).2 er hn1).2.2.2
  have hn3 : (P 105) p0 = some br := h105
  have lt_br4 := ((hB.1 105 fl_105) p0 br hn3).2.1
  have lb_br4 : la br = la p0 + 3 := lk_105.mp ((hB.1 105 fl_105) p0 br hn3).2.2
  have hk_br := ((hzP105 p0).2 br hn3).1
  have hl1_br := ((hzP105 p0).2 br hn3).2.1
  have hl2_br := ((hzP105 p0).2 br hn3).2.2.1
  have hw_br : id _ := ((hzP105 p0).2 br hn3).2.2.2
  have hn5 : (P 106) p0 = some kp := h106
  have lt_kp6 := ((hB.1 106 fl_106) p0 kp hn5).2.1
  have lb_kp6 : la kp = la p0 + 0 := lk_106.mp ((hB.1 106 fl_106) p0 kp hn5).2.2
  have hk_kp := ((hzP106 p0).2 kp hn5).1
  have hl1_kp := ((hzP106 p0).2 kp hn5).2.1
  have hl2_kp := ((hzP106 p0).2 kp hn5).2.2.1
  have hw_kp : id _ := ((hzP106 p0).2 kp hn5).2.2.2
  have hz_kp : (Int32.ofNat (ln kp)).toInt = ((ln kp : Nat) : Int) := ofN_eq (by first | exact Nat.le_trans hl2_kp (by decide) | omega)
  have hn7 : (P 201) er = some le := hle
  have lt_le8 := ((hB.1 201 fl_201) er le hn7).2.1
  have lb_le8 : la le = la er + 0 := lk_201.mp ((hB.1 201 fl_201) er le hn7).2.2
  have hk_le := ((hzP201 er).2 le hn7).1
  have hl1_le := ((hzP201 er).2 le hn7).2.1
  have hl2_le := ((hzP201 er).2 le hn7).2.2.1
  have hw_le : id _ := ((hzP201 er).2 le hn7).2.2.2
  have hz_le : (Int32.ofNat (ln le)).toInt = ((ln le : Nat) : Int) := ofN_eq (by first | exact Nat.le_trans hl2_le (by decide) | omega)
  have hn9 : (P 202) er = some se := hse
  have lt_se10 := ((hB.1 202 fl_202) er se hn9).2.1
  have lb_se10 : la se = la er + 0 := lk_202.mp ((hB.1 202 fl_202) er se hn9).2.2
  have hk_se := ((hzP202 er).2 se hn9).1
  have hl1_se := ((hzP202 er).2 se hn9).2.1
  have hl2_se := ((hzP202 er).2 se hn9).2.2.1
  have hw_se : id _ := ((hzP202 er).2 se hn9).2.2.2
  have hz_se : (Int32.ofNat (ln se)).toInt = ((ln se : Nat) : Int) := ofN_eq (by first | exact Nat.le_trans hl2_se (by decide) | omega)
  have rb11 := (hzRB er se hk_er hn9).1
  have ra12 := hzRA er le se hk_er hn7 hn9
  have bw13 := hzG200 er
  have hn14 : (P 201) br = some lb := hlb
  have lt_lb15 := ((hB.1 201 fl_201) br lb hn14).2.1
  have lb_lb15 : la lb = la br + 0 := lk_201.mp ((hB.1 201 fl_201) br lb hn14).2.2
  have hk_lb := ((hzP201 br).2 lb hn14).1
  have hl1_lb := ((hzP201 br).2 lb hn14).2.1
  have hl2_lb := ((hzP201 br).2 lb hn14).2.2.1
  have hw_lb : id _ := ((hzP201 br).2 lb hn14).2.2.2
  have hz_lb : (Int32.ofNat (ln lb)).toInt = ((ln lb : Nat) : Int) := ofN_eq (by first | exact Nat.le_trans hl2_lb (by decide) | omega)
  have hn16 : (P 202) br = some sb := hsb
  have lt_sb17 := ((hB.1 202 fl_202) br sb hn16).2.1
  have lb_sb17 : la sb = la br + 0 := lk_202.mp ((hB.1 202 fl_202) br sb hn16).2.2
  have hk_sb := ((hzP202 br).2 sb hn16).1
  have hl1_sb := ((hzP202 br).2 sb hn16).2.1
  have hl2_sb := ((hzP202 br).2 sb hn16).2.2.1
  have hw_sb : id _ := ((hzP202 br).2 sb hn16).2.2.2
  have hz_sb : (Int32.ofNat (ln sb)).toInt = ((ln sb : Nat) : Int) := ofN_eq (by first | exact Nat.le_trans hl2_sb (by decide) | omega)
  have rb18 := (hzRB br sb hk_br hn16).1
  have ra19 := hzRA br lb sb hk_br hn14 hn16
  have bw20 := hzG200 br
  have hn21 : (P 201) p2 = some l := hl
  have lt_l22 := ((hB.1 201 fl_201) p2 l hn21).2.1
  have lb_l22 : la l = la p2 + 0 := lk_201.mp ((hB.1 201 fl_201) p2 l hn21).2.2
  have hk_l := ((hzP201 p2).2 l hn21).1
  have hl1_l := ((hzP201 p2).2 l hn21).2.1
  have hl2_l := ((hzP201 p2).2 l hn21).2.2.1
  have hw_l : id _ := ((hzP201 p2).2 l hn21).2.2.2
  have hz_l : (Int32.ofNat (ln l)).toInt = ((ln l : Nat) : Int) := ofN_eq (by first | exact Nat.le_trans hl2_l (by decide) | omega)
  have hn23 : (P 202) p2 = some s := hs
  have lt_s24 := ((hB.1 202 fl_202) p2 s hn23).2.1
  have lb_s24 : la s = la p2 + 0 := lk_202.mp ((hB.1 202 fl_202) p2 s hn23).2.2
  have hk_s := ((hzP202 p2).2 s hn23).1
  have hl1_s := ((hzP202 p2).2 s hn23).2.1
  have hl2_s := ((hzP202 p2).2 s hn23).2.2.1
  have hw_s : id _ := ((hzP202 p2).2 s hn23).2.2.2
  have hz_s : (Int32.ofNat (ln s)).toInt = ((ln s : Nat) : Int) := ofN_eq (by first | exact Nat.le_trans hl2_s (by decide) | omega)
  have rb25 := (hzRB p2 s hk_p2 hn23).1
  have ra26 := hzRA p2 l s hk_p2 hn21 hn23
  have bw27 := hzG200 p2
  have he0 := he
  rw [← hes] at he0
  obtain ⟨k1, k2, k3⟩ := entV_at he0
  have k4 := entV_e1 he0
  have hb203 := hzG203 er
  have c203 := clampI (x := (G 203) er) (by omega)
  have cp1 := clampI (x := p1) (by omega)
  have hra_er := hzRA er le se hk_er hle hse
  have hrb_er := hzRB er se hk_er hse
  have hrb1_er := hrb_er.1
  have hb_er := hzG203 er
  obtain ⟨hm1_er, hm2_er, hm3_er⟩ := mulW (x := p1) (g := (G 200) er) (w := 16) (by omega) hwe (by decide)
  have hri_er := rowix (x := p1) (w := (G 200) er) hra_er (by omega) (by omega)
  have hlk_er := hrb_er.2 (Int32.toNatClampNeg p1)
  have hlv_er := hzV1 se (Int32.toNatClampNeg p1)
  have hra_br := hzRA br lb sb hk_br hlb hsb
  have hrb_br := hzRB br sb hk_br hsb
  have hrb1_br := hrb_br.1
  have hb_br := hzG203 br
  obtain ⟨hm1_br, hm2_br, hm3_br⟩ := mulW (x := p1) (g := (G 200) br) (w := 16) (by omega) hwb (by decide)
  have hri_br := rowix (x := p1) (w := (G 200) br) hra_br (by omega) (by omega)
  have hlk_br := hrb_br.2 (Int32.toNatClampNeg p1)
  have hlv_br := hzV1 sb (Int32.toNatClampNeg p1)
  refine pw_b1 (fun r2 hc2 => ?_)
  have hq2 := wp_at (ok_X5_isKept κ wd G P U V X O kd ln cnt p0 p1 hzP106 hzLN hk_p0) hc2
  have f28 : (0 ≤ r2.toInt ∧ r2.toInt ≤ 1) := hq2
  clear hq2
  have h82_hkp : (P 106) p0 = some kp := by exact h106
  have hx2 := pwq (fn_X5_isKept κ wd la G P U V X O kd ln cnt p0 p1 (kp) hzP106 hzLN hk_p0 hB hlt_p0 h82_hkp) hc2
  obtain ⟨p2_0, p2_1⟩ : (id ((r2.toInt ≠ 0 → 0 ≤ p1.toInt ∧ p1.toInt < 40 ∧ (((V 10) kp) (Int32.toNatClampNeg p1)).toInt ≠ 0))) ∧ (id ((r2.toInt = 0 → 0 ≤ p1.toInt → p1.toInt < 40 → (((V 10) kp) (Int32.toNatClampNeg p1)).toInt = 0))) := hx2
  refine pw_jE (fun j19 ej19 => ?_)
  refine pw_ite (fun c5 => ?_) (fun c5 => ?_)
  · have c5 := congrArg Int32.toInt c5
    refine pw_nne hn3 ?_
    refine pw_j1 ej19 (fun z19_0 ez19_0 => ?_)
    subst ez19_0
    have b29 := hzG203 br
    refine pw_jE (fun j53 ej53 => ?_)
    refine pw_ite (fun c27 => ?_) (fun c27 => ?_)
    · have c27 := (z_le _ _).mp c27
      exfalso; omega
    · have c27 := z_nle c27
      refine pw_nne hn14 ?_
      have b33 := hzG200 br
      have f34 := zmw (x := p1) (y := ((G 200) br)) (by omega) (by omega) (by omega) (by omega)
      have ix35 := rowix (x := p1) (hzRA br lb sb hk_br hn14 hn16) (hzG200 br).1
      refine pw_nne hn16 ?_
      refine pw_if (fun hb49 => ?_)
      obtain ⟨hbl49, hbr49⟩ := hb49
      have b36 := hzV1 sb (Int32.toNatClampNeg p1)
      have rl37 := (hzRB br sb hk_br hn16).2 (Int32.toNatClampNeg p1)
      refine pw_b3 (fun c50_G203 c50_V0 c50_V1 hc50 => ?_)
      have hq50 := wp_at (ok_X10_addForm κ wd G P U V X O kd ln cnt p2 lb (p1 * ((G 200) br)) (((V 1) sb) (Int32.toNatClampNeg p1)) hzG200 hzG203 hzP201 hzP202 hzV1 hzRA hzRB hzRI hzLN hk_p2 hk_lb) hc50
      obtain ⟨hg38, hg39, hRB40, f41, f42⟩ : (rng (0) 100 c50_G203) ∧ (rng2 (0) 24 c50_V1) ∧ (RB κ ln (G 200) c50_G203 (P 202) c50_V1) ∧ (id ((p2 ≠ wd → c50_G203 wd = (G 203) wd))) ∧ (((G 203) p2).toInt ≤ (c50_G203 p2).toInt) := hq50
      have hq50 := pwq (fr_X10_addForm la G P U V X O kd ln cnt p2 lb (p1 * ((G 200) br)) (((V 1) sb) (Int32.toNatClampNeg p1)) hB) hc50
      obtain ⟨q50_G203, q50_V0, q50_V1⟩ : (∀ z, (la z < la p2 ∨ la p2 < la z) → c50_G203 z = (G 203) z) ∧ (∀ z, (la z < la p2 ∨ la p2 < la z) → c50_V0 z = (V 0) z) ∧ (∀ z, (la z < la p2 ∨ la p2 < la z) → c50_V1 z = (V 1) z) := hq50
      have tz50 : ∀ z, ((la z < la p2 ∨ la p2 < la z)) → ((la z < la p2 ∨ la p2 < la z)) := fun z hz => by omega
      have hfr43 : ∀ z, ((la z < la p2 ∨ la p2 < la z)) → c50_G203 z = (G 203) z := fun z hz => (q50_G203 z (tz50 z hz)).trans ((fun _ _ => rfl) z hz)
      have hfr44 : ∀ z, ((la z < la p2 ∨ la p2 < la z)) → c50_V0 z = (V 0) z := fun z hz => (q50_V0 z (tz50 z hz)).trans ((fun _ _ => rfl) z hz)
      have hfr45 : ∀ z, ((la z < la p2 ∨ la p2 < la z)) → c50_V1 z = (V 1) z := fun z hz => (q50_V1 z (tz50 z hz)).trans ((fun _ _ => rfl) z hz)
      have h850_hl : (P 201) p2 = some l := by exact hl
      have h850_hs : (P 202) p2 = some s := by exact hs
      have h850_hw : ((G 200) p2).toInt = ((24) : Int) := by exact hw
      have h850_hws : rwW ((G 203) p2) ((V 0) l) ((V 1) s) (24) = ws := by exact hws
      have h850_hst : 0 ≤ (p1 * ((G 200) br)).toInt := by first | assumption | omega
      have h850_hm : 0 ≤ (((V 1) sb) (Int32.toNatClampNeg p1)).toInt := by first | assumption | omega
      have h850_hmw : (((V 1) sb) (Int32.toNatClampNeg p1)).toInt ≤ ((24) : Int) := by first | assumption | omega
      have h850_hlf : (p1 * ((G 200) br)).toInt + (((V 1) sb) (Int32.toNatClampNeg p1)).toInt ≤ ((ln lb : Nat) : Int) := by first | assumption | omega
      have h850_hw24 : (24) ≤ 24 := by decide
      have hx50 := pwq (fn_X10_addForm κ wd la G P U V X O kd ln cnt p2 lb (p1 * ((G 200) br)) (((V 1) sb) (Int32.toNatClampNeg p1)) (l) (s) (24) (ws) hzG200 hzG203 hzP201 hzP202 hzV1 hzRA hzRB hzRI hzLN hk_p2 hk_lb hB hlt_p2 lt_lb15 h850_hl h850_hs h850_hw h850_hws h850_hst h850_hm h850_hmw h850_hlf h850_hw24) hc50
      obtain ⟨p50_0, p50_1, p50_2, p50_3⟩ : (rwW (c50_G203 p2) (c50_V0 l) (c50_V1 s) (24) = (gdF (some (wdl ((V 0) lb) (Int32.toNatClampNeg (p1 * ((G 200) br))) (Int32.toNatClampNeg (((V 1) sb) (Int32.toNatClampNeg p1)))))).foldl (addF (ln s)) ws) ∧ (id ((∀ z, z ≠ l → c50_V0 z = (V 0) z))) ∧ (id ((∀ z, z ≠ s → c50_V1 z = (V 1) z))) ∧ (id ((∀ z, z ≠ p2 → c50_G203 z = (G 203) z))) := hx50
      refine pw_j3 ej53 (fun z53_0 ez53_0 z53_1 ez53_1 z53_2 ez53_2 => ?_)
      subst ez53_0 ez53_1 ez53_2
      have qq0 : rwW (c50_G203 p2) (c50_V0 l) (c50_V1 s) 24 = (gdF (some (e.2.getD e.1))).foldl (addF (ln s)) ws := by rw [p50_0, hm1_br, k3 (p2_1 (by omega) (by omega) (by omega))]; rfl
      have qq1 : id ((∀ z, z ≠ l → c50_V0 z = (V 0) z)) := show (∀ z, z ≠ l → c50_V0 z = (V 0) z) from by exact p50_1
      have qq2 : id ((∀ z, z ≠ s → c50_V1 z = (V 1) z)) := show (∀ z, z ≠ s → c50_V1 z = (V 1) z) from by exact p50_2
      have qq3 : id ((∀ z, z ≠ p2 → c50_G203 z = (G 203) z)) := show (∀ z, z ≠ p2 → c50_G203 z = (G 203) z) from by exact p50_3
      exact pw_some ⟨qq0, qq1, qq2, qq3⟩
  · have c5 : r2.toInt = 1 := by have z9 := z_ne c5; omega
    refine pw_nne hn1 ?_
    refine pw_j1 ej19 (fun z19_0 ez19_0 => ?_)
    subst ez19_0
    have b46 := hzG203 er
    refine pw_jE (fun j53 ej53 => ?_)
    refine pw_ite (fun c27 => ?_) (fun c27 => ?_)
    · have c27 := (z_le _ _).mp c27
      exfalso; omega
    · have c27 := z_nle c27
      refine pw_nne hn7 ?_
      have b50 := hzG200 er
      have f51 := zmw (x := p1) (y := ((G 200) er)) (by omega) (by omega) (by omega) (by omega)
      have ix52 := rowix (x := p1) (hzRA er le se hk_er hn7 hn9) (hzG200 er).1
      refine pw_nne hn9 ?_
      refine pw_if (fun hb49 => ?_)
      obtain ⟨hbl49, hbr49⟩ := hb49
      have b53 := hzV1 se (Int32.toNatClampNeg p1)
      have rl54 := (hzRB er se hk_er hn9).2 (Int32.toNatClampNeg p1)
      refine pw_b3 (fun c50_G203 c50_V0 c50_V1 hc50 => ?_)
      have hq50 := wp_at (ok_X10_addForm κ wd G P U V X O kd ln cnt p2 le (p1 * ((G 200) er)) (((V 1) se) (Int32.toNatClampNeg p1)) hzG200 hzG203 hzP201 hzP202 hzV1 hzRA hzRB hzRI hzLN hk_p2 hk_le) hc50
      obtain ⟨hg55, hg56, hRB57, f58, f59⟩ : (rng (0) 100 c50_G203) ∧ (rng2 (0) 24 c50_V1) ∧ (RB κ ln (G 200) c50_G203 (P 202) c50_V1) ∧ (id ((p2 ≠ wd → c50_G203 wd = (G 203) wd))) ∧ (((G 203) p2).toInt ≤ (c50_G203 p2).toInt) := hq50
      have hq50 := pwq (fr_X10_addForm la G P U V X O kd ln cnt p2 le (p1 * ((G 200) er)) (((V 1) se) (Int32.toNatClampNeg p1)) hB) hc50
      obtain ⟨q50_G203, q50_V0, q50_V1⟩ : (∀ z, (la z < la p2 ∨ la p2 < la z) → c50_G203 z = (G 203) z) ∧ (∀ z, (la z < la p2 ∨ la p2 < la z) → c50_V0 z = (V 0) z) ∧ (∀ z, (la z < la p2 ∨ la p2 < la z) → c50_V1 z = (V 1) z) := hq50
      have tz50 : ∀ z, ((la z < la p2 ∨ la p2 < la z)) → ((la z < la p2 ∨ la p2 < la z)) := fun z hz => by omega
      have hfr60 : ∀ z, ((la z < la p2 ∨ la p2 < la z)) → c50_G203 z = (G 203) z := fun z hz => (q50_G203 z (tz50 z hz)).trans ((fun _ _ => rfl) z hz)
      have hfr61 : ∀ z, ((la z < la p2 ∨ la p2 < la z)) → c50_V0 z = (V 0) z := fun z hz => (q50_V0 z (tz50 z hz)).trans ((fun _ _ => rfl) z hz)
      have hfr62 : ∀ z, ((la z < la p2 ∨ la p2 < la z)) → c50_V1 z = (V 1) z := fun z hz => (q50_V1 z (tz50 z hz)).trans ((fun _ _ => rfl) z hz)
      have h850_hl : (P 201) p2 = some l := by exact hl
      have h850_hs : (P 202) p2 = some s := by exact hs
      have h850_hw : ((G 200) p2).toInt = ((24) : Int) := by exact hw
      have h850_hws : rwW ((G 203) p2) ((V 0) l) ((V 1) s) (24) = ws := by exact hws
      have h850_hst : 0 ≤ (p1 * ((G 200) er)).toInt := by first | assumption | omega
      have h850_hm : 0 ≤ (((V 1) se) (Int32.toNatClampNeg p1)).toInt := by first | assumption | omega
      have h850_hmw : (((V 1) se) (Int32.toNatClampNeg p1)).toInt ≤ ((24) : Int) := by first | assumption | omega
      have h850_hlf : (p1 * ((G 200) er)).toInt + (((V 1) se) (Int32.toNatClampNeg p1)).toInt ≤ ((ln le : Nat) : Int) := by first | assumption | omega
      have h850_hw24 : (24) ≤ 24 := by decide
      have hx50 := pwq (fn_X10_addForm κ wd la G P U V X O kd ln cnt p2 le (p1 * ((G 200) er)) (((V 1) se) (Int32.toNatClampNeg p1)) (l) (s) (24) (ws) hzG200 hzG203 hzP201 hzP202 hzV1 hzRA hzRB hzRI hzLN hk_p2 hk_le hB hlt_p2 lt_le8 h850_hl h850_hs h850_hw h850_hws h850_hst h850_hm h850_hmw h850_hlf h850_hw24) hc50
      obtain ⟨p50_0, p50_1, p50_2, p50_3⟩ : (rwW (c50_G203 p2) (c50_V0 l) (c50_V1 s) (24) = (gdF (some (wdl ((V 0) le) (Int32.toNatClampNeg (p1 * ((G 200) er))) (Int32.toNatClampNeg (((V 1) se) (Int32.toNatClampNeg p1)))))).foldl (addF (ln s)) ws) ∧ (id ((∀ z, z ≠ l → c50_V0 z = (V 0) z))) ∧ (id ((∀ z, z ≠ s → c50_V1 z = (V 1) z))) ∧ (id ((∀ z, z ≠ p2 → c50_G203 z = (G 203) z))) := hx50
      refine pw_j3 ej53 (fun z53_0 ez53_0 z53_1 ez53_1 z53_2 ez53_2 => ?_)
      subst ez53_0 ez53_1 ez53_2
      have qq0 : rwW (c50_G203 p2) (c50_V0 l) (c50_V1 s) 24 = (gdF (some (e.2.getD e.1))).foldl (addF (ln s)) ws := by rw [p50_0, hm1_er, k2 (p2_0 (by omega)).2.2, k4]; rfl
      have qq1 : id ((∀ z, z ≠ l → c50_V0 z = (V 0) z)) := show (∀ z, z ≠ l → c50_V0 z = (V 0) z) from by exact p50_1
      have qq2 : id ((∀ z, z ≠ s → c50_V1 z = (V 1) z)) := show (∀ z, z ≠ s → c50_V1 z = (V 1) z) from by exact p50_2
      have qq3 : id ((∀ z, z ≠ p2 → c50_G203 z = (G 203) z)) := show (∀ z, z ≠ p2 → c50_G203 z = (G 203) z) from by exact p50_3
      exact pw_some ⟨qq0, qq1, qq2, qq3⟩
abbrev QF_X9_turnParting (κ : Nat → Nat) (wd : Nat) (la : Nat → Nat) (G : Nat → Nat → Int32) (P : Nat → Nat → Option Nat) (U : Nat → Nat → Int64) (V : Nat → Nat → Nat → Int32) (X : Nat → Nat → Nat → Int64) (O : Nat → Nat → Nat → Option Nat) (kd : Nat → Nat) (ln : Nat → Nat) (cnt : Nat) (this : Nat) (p0 : Nat) (p1 : Int32) (p2 : Nat) (pg : Nat) (pk : Nat) (sz : Nat) (tr : Nat) (ph : Nat) (tl : Nat) (ts : Nat) (wh : Nat) (l : Nat) (s : Nat) (ps : List Wd) (ls : List Lw) (R : List (List Wd)) (w : List Wd) (ws : List Wd) : (Int64 × (Nat → Int32) × (Nat → Nat → Int32) × (Nat → Nat → Int32)) → Prop := (fun t => (rwW ((t.2.1) p2) ((t.2.2.1) l) ((t.2.2.2) s) 24 = (gdF (mkA ls [] w)).foldl (addF (ln s)) ws) ∧ ((∀ z, z ≠ wh → z ≠ l → (t.2.2.1) z = (V 0) z)) ∧ ((∀ z, z ≠ s → (t.2.2.2) z = (V 1) z)) ∧ ((∀ z, z ≠ p2 → (t.2.1) z = (G 203) z)))
set_option maxHeartbeats 4000000 in
set_option maxRecDepth 100000 in
theorem fn_X9_turnParting (κ : Nat → Nat) (wd : Nat) (la : Nat → Nat) (G : Nat → Nat → Int32) (P : Nat → Nat → Option Nat) (U : Nat → Nat → Int64) (V : Nat → Nat → Nat → Int32) (X : Nat → Nat → Nat → Int64) (O : Nat → Nat → Nat → Option Nat) (kd : Nat → Nat) (ln : Nat → Nat) (cnt : Nat) (this : Nat) (p0 : Nat) (p1 : Int32) (p2 : Nat) (pg : Nat) (pk : Nat) (sz : Nat) (tr : Nat) (ph : Nat) (tl : Nat) (ts : Nat) (wh : Nat) (l : Nat) (s : Nat) (ps : List Wd) (ls : List Lw) (R : List (List Wd)) (w : List Wd) (ws : List Wd) (hzG60 : rng (0) 30 (G 60)) (hzG200 : rng (0) 24 (G 200)) (hzG203 : rng (0) 100 (G 203)) (hzP61 : PB κ ln wd 4 102 30 30 0 (P 61)) (hzP62 : PB κ ln wd 4 100 720 720 0 (P 62)) (hzP108 : PB κ ln wd 6 11 0 2500 1 (P 108)) (hzP109 : PB κ ln wd 6 111 40 40 0 (P 109)) (hzP110 : PB κ ln wd 6 200 40 40 0 (P 110)) (hzP180 : PB κ ln wd 10 4 0 2500 0 (P 180)) (hzP185 : PB κ ln wd 10 100 24 24 0 (P 185)) (hzP201 : PB κ ln wd 11 100 0 2400 0 (P 201)) (hzP202 : PB κ ln wd 11 101 0 100 0 (P 202)) (hzV1 : rng2 (0) 24 (V 1)) (hzV2 : rng2 (0) 24 (V 2)) (hzRA : RA κ ln (G 200) (P 201) (P 202)) (hzRB : RB κ ln (G 200) (G 203) (P 202) (V 1)) (hzRI : RI (P 202)) (hzRM108 : RM ln 40 (P 108) (P 202)) (hzLN : LN κ ln) (hk_this : κ this = 10) (hk_p0 : κ p0 = 6) (hk_p2 : κ p2 = 11) (hp0 : (0 ≤ p1.toInt ∧ p1.toInt < 30)) (hB : LB la cnt P) (hlt_this : this < cnt) (hlt_p0 : p0 < cnt) (hlt_p2 : p2 < cnt) (h180 : (P 180) this = some pg) (hpk : (P 62) pg = some pk) (hsz : (P 61) pg = some sz) (hR : RWS (idxP ps) ((G 60) pg).toInt ((V 2) sz) ((V 0) pk) R) (hRw : R[Int32.toNatClampNeg p1]? = some w) (h108 : (P 108) p0 = some tr) (h109 : (P 109) p0 = some ph) (htl : (P 201) tr = some tl) (hts : (P 202) tr = some ts) (hwt : ((G 200) tr).toInt = ((24 : Nat) : Int)) (hTP : TPV ((G 203) tr) ((V 0) tl) ((V 1) ts) ((V 11) ph) ps ls) (h185 : (P 185) this = some wh) (hl : (P 201) p2 = some l) (hs : (P 202) p2 = some s) (hw : ((G 200) p2).toInt = ((24 : Nat) : Int)) (hws : rwW ((G 203) p2) ((V 0) l) ((V 1) s) 24 = ws) (hlt9 : la this = 90) (hld : 100000 ≤ la p0) (hlp : la p2 ≠ 93) : pw (f_X9_turnParting G P U V X O kd ln cnt this p0 p1 p2) (QF_X9_turnParting κ wd la G P U V X O kd ln cnt this p0 p1 p2 pg pk sz tr ph tl ts wh l s ps ls R w ws) := by
  unfold f_X9_turnParting
  have zk0 : (0 : Int32).toInt = 0 := by decide +kernel
  have zk24 : (24 : Int32).toInt = 24 := by decide +kernel
  have r_p1 := i32r p1
  have hn1 : (P 180) this = some pg := h180
  have lt_pg2 := ((hB.1 180 fl_180) this pg hn1).2.1
  have lb_pg2 : la pg = la this + 6 := lk_180.mp ((hB.1 180 fl_180) this pg hn1).2.2
  have hk_pg := ((hzP180 this).2 pg hn1).1
  have hl1_pg := ((hzP180 this).2 pg hn1).2.1
  have hl2_pg := ((hzP180 this).2 pg hn1).2.2.1
  have hw_pg : id _ := ((hzP180 this).2 pg hn1).2.2.2
  have hn3 : (P 62) pg = some pk := hpk
  have lt_pk4 := ((hB.1 62 fl_62) pg pk hn3).2.1
  have lb_pk4 : la pk = la pg + 0 := lk_62.mp ((hB.1 62 fl_62) pg pk hn3).2.2
  have hk_pk := ((hzP62 pg).2 pk hn3).1
  have hl1_pk := ((hzP62 pg).2 pk hn3).2.1
  have hl2_pk := ((hzP62 pg).2 pk hn3).2.2.1
  have hw_pk : id _ := ((hzP62 pg).2 pk hn3).2.2.2
  have hz_pk : (Int32.ofNat (ln pk)).toInt = ((ln pk : Nat) : Int) := ofN_eq (by first | exact Nat.le_trans hl2_pk (by decide) | omega)
  have hn5 : (P 61) pg = some sz := hsz
  have lt_sz6 := ((hB.1 61 fl_61) pg sz hn5).2.1
  have lb_sz6 : la sz = la pg + 0 := lk_61.mp ((hB.1 61 fl_61) pg sz hn5).2.2
  have hk_sz := ((hzP61 pg).2 sz hn5).1
  have hl1_sz := ((hzP61 pg).2 sz hn5).2.1
  have hl2_sz := ((hzP61 pg).2 sz hn5).2.2.1
  have hw_sz : id _ := ((hzP61 pg).2 sz hn5).2.2.2
  have hz_sz : (Int32.ofNat (ln sz)).toInt = ((ln sz : Nat) : Int) := ofN_eq (by first | exact Nat.le_trans hl2_sz (by decide) | omega)
  have hn7 : (P 108) p0 = some tr := h108
  have lt_tr8 := ((hB.1 108 fl_108) p0 tr hn7).2.1
  have lb_tr8 : la tr = la p0 + 4 := lk_108.mp ((hB.1 108 fl_108) p0 tr hn7).2.2
  have hk_tr := ((hzP108 p0).2 tr hn7).1
  have hl1_tr := ((hzP108 p0).2 tr hn7).2.1
  have hl2_tr := ((hzP108 p0).2 tr hn7).2.2.1
  have hw_tr : id _ := ((hzP108 p0).2 tr hn7).2.2.2
  have hn9 : (P 109) p0 = some ph := h109
  have lt_ph10 := ((hB.1 109 fl_109) p0 ph hn9).2.1
  have lb_ph10 : la ph = la p0 + 0 := lk_109.mp ((hB.1 109 fl_109) p0 ph hn9).2.2
  have hk_ph := ((hzP109 p0).2 ph hn9).1
  have hl1_ph := ((hzP109 p0).2 ph hn9).2.1
  have hl2_ph := ((hzP109 p0).2 ph hn9).2.2.1
  have hw_ph : id _ := ((hzP109 p0).2 ph hn9).2.2.2
  have hz_ph : (Int32.ofNat (ln ph)).toInt = ((ln ph : Nat) : Int) := ofN_eq (by first | exact Nat.le_trans hl2_ph (by decide) | omega)
  have hn11 : (P 201) tr = some tl := htl
  have lt_tl12 := ((hB.1 201 fl_201) tr tl hn11).2.1
  have lb_tl12 : la tl = la tr + 0 := lk_201.mp ((hB.1 201 fl_201) tr tl hn11).2.2
  have hk_tl := ((hzP201 tr).2 tl hn11).1
  have hl1_tl := ((hzP201 tr).2 tl hn11).2.1
  have hl2_tl := ((hzP201 tr).2 tl hn11).2.2.1
  have hw_tl : id _ := ((hzP201 tr).2 tl hn11).2.2.2
  have hz_tl : (Int32.ofNat (ln tl)).toInt = ((ln tl : Nat) : Int) := ofN_eq (by first | exact Nat.le_trans hl2_tl (by decide) | omega)
  have hn13 : (P 202) tr = some ts := hts
  have lt_ts14 := ((hB.1 202 fl_202) tr ts hn13).2.1
  have lb_ts14 : la ts = la tr + 0 := lk_202.mp ((hB.1 202 fl_202) tr ts hn13).2.2
  have hk_ts := ((hzP202 tr).2 ts hn13).1
  have hl1_ts := ((hzP202 tr).2 ts hn13).2.1
  have hl2_ts := ((hzP202 tr).2 ts hn13).2.2.1
  have hw_ts : id _ := ((hzP202 tr).2 ts hn13).2.2.2
  have hz_ts : (Int32.ofNat (ln ts)).toInt = ((ln ts : Nat) : Int) := ofN_eq (by first | exact Nat.le_trans hl2_ts (by decide) | omega)
  have rb15 := (hzRB tr ts hk_tr hn13).1
  have ra16 := hzRA tr tl ts hk_tr hn11 hn13
  have bw17 := hzG200 tr
  have hn18 : (P 185) this = some wh := h185
  have lt_wh19 := ((hB.1 185 fl_185) this wh hn18).2.1
  have lb_wh19 : la wh = la this + 3 := lk_185.mp ((hB.1 185 fl_185) this wh hn18).2.2
  have hk_wh := ((hzP185 this).2 wh hn18).1
  have hl1_wh := ((hzP185 this).2 wh hn18).2.1
  have hl2_wh := ((hzP185 this).2 wh hn18).2.2.1
  have hw_wh : id _ := ((hzP185 this).2 wh hn18).2.2.2
  have hz_wh : (Int32.ofNat (ln wh)).toInt = ((ln wh : Nat) : Int) := ofN_eq (by first | exact Nat.le_trans hl2_wh (by decide) | omega)
  have hn20 : (P 201) p2 = some l := hl
  have lt_l21 := ((hB.1 201 fl_201) p2 l hn20).2.1
  have lb_l21 : la l = la p2 + 0 := lk_201.mp ((hB.1 201 fl_201) p2 l hn20).2.2
  have hk_l := ((hzP201 p2).2 l hn20).1
  have hl1_l := ((hzP201 p2).2 l hn20).2.1
  have hl2_l := ((hzP201 p2).2 l hn20).2.2.1
  have hw_l : id _ := ((hzP201 p2).2 l hn20).2.2.2
  have hz_l : (Int32.ofNat (ln l)).toInt = ((ln l : Nat) : Int) := ofN_eq (by first | exact Nat.le_trans hl2_l (by decide) | omega)
  have hn22 : (P 202) p2 = some s := hs
  have lt_s23 := ((hB.1 202 fl_202) p2 s hn22).2.1
  have lb_s23 : la s = la p2 + 0 := lk_202.mp ((hB.1 202 fl_202) p2 s hn22).2.2
  have hk_s := ((hzP202 p2).2 s hn22).1
  have hl1_s := ((hzP202 p2).2 s hn22).2.1
  have hl2_s := ((hzP202 p2).2 s hn22).2.2.1
  have hw_s : id _ := ((hzP202 p2).2 s hn22).2.2.2
  have hz_s : (Int32.ofNat (ln s)).toInt = ((ln s : Nat) : Int) := ofN_eq (by first | exact Nat.le_trans hl2_s (by decide) | omega)
  have rb24 := (hzRB p2 s hk_p2 hn22).1
  have ra25 := hzRA p2 l s hk_p2 hn20 hn22
  have bw26 := hzG200 p2
  obtain ⟨hw1, hw2, hw3⟩ := hR.2 _ _ hRw
  have hk1 := get_lt hRw
  have cp1 := clampI (x := p1) (by omega)
  obtain ⟨hT1, hT2⟩ := hTP
  have n1 : tl ≠ wh := fun q => by have q9 := congrArg la q; omega
  have n2 : pk ≠ wh := fun q => by have q9 := congrArg la q; omega
  have n3 : l ≠ wh := fun q => by have q9 := congrArg la q; omega
  replace n1 : id _ := n1
  replace n2 : id _ := n2
  replace n3 : id _ := n3
  replace hlp : id _ := hlp
  have hra := hzRA tr tl ts hk_tr htl hts
  have hrb := hzRB tr ts hk_tr hts
  have hrb1 := hrb.1
  have hbt := hzG203 tr
  have hlw := hl1_wh
  refine pw_nne hn7 ?_
  refine pw_jE (fun k149 ek149 => ?_)
  refine pw_jE (fun k56 ek56 => ?_)
  have lp15 : ∀ (n15 : Nat) (y15_5 : Int64) (y15_7 : Int32) (y15_8 : Int32) (d15_V0 : Nat → Nat → Int32), (∀ z, ((la z < la this ∨ la this + 8 < la z) ∧ (la z < la p2 ∨ la p2 < la z)) → d15_V0 z = (V 0) z) → (0 ≤ y15_8.toInt ∧ y15_8.toInt ≤ 24) → (0 ≤ y15_7.toInt ∧ y15_7.toInt ≤ 24 * y15_8.toInt) → y15_8.toInt ≤ ((w.length : Nat) : Int) → (∀ z, z ≠ wh → d15_V0 z = (V 0) z) → (∃ acc, mkA ls [] w = mkA ls acc (w.drop (Int32.toNatClampNeg y15_8)) ∧ y15_7.toInt = ((acc.length : Nat) : Int) ∧ (y15_7.toInt ≤ 24 → wdl (d15_V0 wh) 0 (Int32.toNatClampNeg y15_7) = acc)) → pw (L_X9_turnParting_15 G P U V X O kd ln cnt this p0 p1 tr k149 k56 n15 y15_5 y15_7 y15_8 d15_V0) (QF_X9_turnParting κ wd la G P U V X O kd ln cnt this p0 p1 p2 pg pk sz tr ph tl ts wh l s ps ls R w ws) := by
    intro n15
    induction n15 with
    | zero => intros; exact pw_none
    | succ n15 ih15 =>
      intro y15_5 y15_7 y15_8 d15_V0 hfr27 f28 f29 f30 iz15 ia15
      show pw (B_X9_turnParting_15 G P U V X O kd ln cnt this p0 p1 tr k149 k56 (L_X9_turnParting_15 G P U V X O kd ln cnt this p0 p1 tr k149 k56 n15) y15_5 y15_7 y15_8 d15_V0) _
      unfold B_X9_turnParting_15
      obtain ⟨acc, a1, a2, a3⟩ := ia15
      replace a3 : id _ := a3
      refine pw_nne hn1 ?_
      refine pw_nne hn5 ?_
      refine pw_if (fun hb25 => ?_)
      obtain ⟨hbl25, hbr25⟩ := hb25
      have b31 := hzV2 sz (Int32.toNatClampNeg p1)
      refine pw_ite (fun c26 => ?_) (fun c26 => ?_)
      · have c26 := (z_le _ _).mp c26
        refine pw_j3 ek149 (fun x149_5 ex149_5 x149_7 ex149_7 z149_2 ez149_2 => ?_)
        subst ez149_2
        have ex149_5 := ex149_5.symm
        have ex149_7 := ex149_7.symm
        have f_x149_7 : x149_7.toInt = y15_7.toInt := by rw [ex149_7]
        refine pw_jE (fun j167 ej167 => ?_)
        refine pw_ite (fun c153 => ?_) (fun c153 => ?_)
        · have c153 := (z_lt _ _).mp c153
          refine pw_j3 ej167 (fun z167_0 ez167_0 z167_1 ez167_1 z167_2 ez167_2 => ?_)
          subst ez167_0 ez167_1 ez167_2
          have qq0 : rwW ((G 203) p2) (d15_V0 l) ((V 1) s) 24 = (gdF (mkA ls [] w)).foldl (addF (ln s)) ws := by have k8 := clampI (x := y15_8) (by omega); have k7 := clampI (x := y15_7) (by omega); rw [a1, mkA_end (by omega)]; rw [gdF_bad (Or.inr (by omega))]; show _ = ws; rw [iz15 l n3]; exact hws
          have qq1 : id ((∀ z, z ≠ wh → z ≠ l → d15_V0 z = (V 0) z)) := show (∀ z, z ≠ wh → z ≠ l → d15_V0 z = (V 0) z) from by exact fun z h1 h2 => iz15 z h1
          have qq2 : id ((∀ z, z ≠ s → (V 1) z = (V 1) z)) := show (∀ z, z ≠ s → (V 1) z = (V 1) z) from by exact fun _ _ => rfl
          have qq3 : id ((∀ z, z ≠ p2 → (G 203) z = (G 203) z)) := show (∀ z, z ≠ p2 → (G 203) z = (G 203) z) from by exact fun _ _ => rfl
          exact pw_some ⟨qq0, qq1, qq2, qq3⟩
        · have c153 := z_nlt c153
          refine pw_nne hn18 ?_
          refine pw_b3 (fun c164_G203 c164_V0 c164_V1 hc164 => ?_)
          have hq164 := wp_at (ok_X10_addForm κ wd G P U (va_up V 0 d15_V0) X O kd ln cnt p2 wh (0 : Int32) x149_7 hzG200 hzG203 hzP201 hzP202 hzV1 hzRA hzRB hzRI hzLN hk_p2 hk_wh) hc164
          obtain ⟨hg32, hg33, hRB34, f35, f36⟩ : (rng (0) 100 c164_G203) ∧ (rng2 (0) 24 c164_V1) ∧ (RB κ ln (G 200) c164_G203 (P 202) c164_V1) ∧ (id ((p2 ≠ wd → c164_G203 wd = (G 203) wd))) ∧ (((G 203) p2).toInt ≤ (c164_G203 p2).toInt) := hq164
          have hq164 := pwq (fr_X10_addForm la G P U (va_up V 0 d15_V0) X O kd ln cnt p2 wh (0 : Int32) x149_7 hB) hc164
          obtain ⟨q164_G203, q164_V0, q164_V1⟩ : (∀ z, (la z < la p2 ∨ la p2 < la z) → c164_G203 z = (G 203) z) ∧ (∀ z, (la z < la p2 ∨ la p2 < la z) → c164_V0 z = d15_V0 z) ∧ (∀ z, (la z < la p2 ∨ la p2 < la z) → c164_V1 z = (V 1) z) := hq164
          have tz164 : ∀ z, ((la z < la this ∨ la this + 8 < la z) ∧ (la z < la p2 ∨ la p2 < la z)) → ((la z < la p2 ∨ la p2 < la z)) := fun z hz => by omega
          have hfr37 : ∀ z, ((la z < la this ∨ la this + 8 < la z) ∧ (la z < la p2 ∨ la p2 < la z)) → c164_G203 z = (G 203) z := fun z hz => (q164_G203 z (tz164 z hz)).trans ((fun _ _ => rfl) z hz)
          have hfr38 : ∀ z, ((la z < la this ∨ la this + 8 < la z) ∧ (la z < la p2 ∨ la p2 < la z)) → c164_V0 z = (V 0) z := fun z hz => (q164_V0 z (tz164 z hz)).trans (hfr27 z hz)
          have hfr39 : ∀ z, ((la z < la this ∨ la this + 8 < la z) ∧ (la z < la p2 ∨ la p2 < la z)) → c164_V1 z = (V 1) z := fun z hz => (q164_V1 z (tz164 z hz)).trans ((fun _ _ => rfl) z hz)
          have h8164_hl : (P 201) p2 = some l := by exact hl
          have h8164_hs : (P 202) p2 = some s := by exact hs
          have h8164_hw : ((G 200) p2).toInt = ((24) : Int) := by exact hw
          have h8164_hws : rwW ((G 203) p2) (d15_V0 l) ((V 1) s) (24) = ws := by rw [iz15 l n3]; exact hws
          have h8164_hst : 0 ≤ (0 : Int32).toInt := by first | assumption | omega
          have h8164_hm : 0 ≤ x149_7.toInt := by first | assumption | omega
          have h8164_hmw : x149_7.toInt ≤ ((24) : Int) := by first | assumption | omega
          have h8164_hlf : (0 : Int32).toInt + x149_7.toInt ≤ ((ln wh : Nat) : Int) := by first | assumption | omega
          have h8164_hw24 : (24) ≤ 24 := by decide
          have hx164 := pwq (fn_X10_addForm κ wd la G P U (va_up V 0 d15_V0) X O kd ln cnt p2 wh (0 : Int32) x149_7 (l) (s) (24) (ws) hzG200 hzG203 hzP201 hzP202 hzV1 hzRA hzRB hzRI hzLN hk_p2 hk_wh hB hlt_p2 lt_wh19 h8164_hl h8164_hs h8164_hw h8164_hws h8164_hst h8164_hm h8164_hmw h8164_hlf h8164_hw24) hc164
          obtain ⟨p164_0, p164_1, p164_2, p164_3⟩ : (rwW (c164_G203 p2) (c164_V0 l) (c164_V1 s) (24) = (gdF (some (wdl (d15_V0 wh) (Int32.toNatClampNeg (0 : Int32)) (Int32.toNatClampNeg x149_7)))).foldl (addF (ln s)) ws) ∧ (id ((∀ z, z ≠ l → c164_V0 z = d15_V0 z))) ∧ (id ((∀ z, z ≠ s → c164_V1 z = (V 1) z))) ∧ (id ((∀ z, z ≠ p2 → c164_G203 z = (G 203) z))) := hx164
          refine pw_j3 ej167 (fun z167_0 ez167_0 z167_1 ez167_1 z167_2 ez167_2 => ?_)
          subst ez167_0 ez167_1 ez167_2
          have qq0 : rwW (c164_G203 p2) (c164_V0 l) (c164_V1 s) 24 = (gdF (mkA ls [] w)).foldl (addF (ln s)) ws := by have k8 := clampI (x := y15_8) (by omega); have k7 := clampI (x := y15_7) (by omega); rw [a1, mkA_end (by omega)]; rw [p164_0, show Int32.toNatClampNeg (0 : Int32) = 0 from rfl, ex149_7, a3 (by omega)]
          have qq1 : id ((∀ z, z ≠ wh → z ≠ l → c164_V0 z = (V 0) z)) := show (∀ z, z ≠ wh → z ≠ l → c164_V0 z = (V 0) z) from by exact fun z h1 h2 => (p164_1 z h2).trans (iz15 z h1)
          have qq2 : id ((∀ z, z ≠ s → c164_V1 z = (V 1) z)) := show (∀ z, z ≠ s → c164_V1 z = (V 1) z) from by exact p164_2
          have qq3 : id ((∀ z, z ≠ p2 → c164_G203 z = (G 203) z)) := show (∀ z, z ≠ p2 → c164_G203 z = (G 203) z) from by exact p164_3
          exact pw_some ⟨qq0, qq1, qq2, qq3⟩
      · have c26 := z_nle c26
        have k8 := clampI (x := y15_8) (by omega)
        have k7 := clampI (x := y15_7) (by omega)
        obtain ⟨x, hx⟩ := get_ex (l := w) (i := Int32.toNatClampNeg y15_8) (by omega)
        refine pw_nne hn1 ?_
        refine pw_b1 (fun r36 hc36 => ?_)
        have h836_hpk : (P 62) pg = some pk := by first | assumption | omega
        have h836_hsz : (P 61) pg = some sz := by first | assumption | omega
        have h836_hR : RWS (idxP ps) ((G 60) pg).toInt ((V 2) sz) (d15_V0 pk) R := by rw [iz15 pk n2]; exact hR
        have hx36 := pwq (fn_X3_pick κ wd la G P U (va_up V 0 d15_V0) X O kd ln cnt pg p1 y15_8 (pk) (sz) (idxP ps) (R) hzG60 hzP61 hzP62 hzV2 hzLN hk_pg hB lt_pg2 h836_hpk h836_hsz h836_hR) hc36
        obtain ⟨p36_0, p36_1⟩ : (id ((∀ w x, 0 ≤ p1.toInt → R[Int32.toNatClampNeg p1]? = some w → 0 ≤ y15_8.toInt → w[Int32.toNatClampNeg y15_8]? = some x → (idxP ps) x r36))) ∧ (id ((∀ w, 0 ≤ p1.toInt → R[Int32.toNatClampNeg p1]? = some w → (y15_8.toInt < 0 ∨ ((w.length : Nat) : Int) ≤ y15_8.toInt) → r36.toInt = -1))) := hx36
        obtain ⟨j, j1, j2⟩ := p36_0 w x (by omega) hRw (by omega) hx
        have hjl := get_lt j2
        obtain ⟨t1, t2⟩ := hT2 j x j2
        have cr := clampI (x := r36) (by omega)
        have hj : Int32.toNatClampNeg r36 = j := by omega
        rw [← hj] at t1 t2
        replace t1 : id _ := t1
        replace t2 : id _ := t2
        have hlk := hrb.2 (Int32.toNatClampNeg r36)
        have hlv := hzV1 ts (Int32.toNatClampNeg r36)
        have clv := clampI (x := (V 1) ts (Int32.toNatClampNeg r36)) (by omega)
        obtain ⟨hm1, hm2, hm3⟩ := mulW (x := r36) (g := (G 200) tr) (w := 24) (by omega) hwt (by decide)
        have hri := rowix (x := r36) (w := (G 200) tr) hra (by omega) (by omega)
        refine pw_ite (fun c43 => ?_) (fun c43 => ?_)
        · have c43 := (z_lt _ _).mp c43
          exfalso; omega
        · have c43 := z_nlt c43
          have b40 := hzG203 tr
          refine pw_ite (fun c53 => ?_) (fun c53 => ?_)
          · have c53 := (z_lt _ _).mp c53
            refine pw_nn (fun a62 hn_a62 => ?_)
            have lt_a6244 := ((hB.1 110 fl_110) p0 a62 hn_a62).2.1
            have lb_a6244 : la a62 = la p0 + 0 := lk_110.mp ((hB.1 110 fl_110) p0 a62 hn_a62).2.2
            have hk_a62 := ((hzP110 p0).2 a62 hn_a62).1
            have hl1_a62 := ((hzP110 p0).2 a62 hn_a62).2.1
            have hl2_a62 := ((hzP110 p0).2 a62 hn_a62).2.2.1
            have hw_a62 : id _ := ((hzP110 p0).2 a62 hn_a62).2.2.2
            have hz_a62 : (Int32.ofNat (ln a62)).toInt = ((ln a62 : Nat) : Int) := ofN_eq (by first | exact Nat.le_trans hl2_a62 (by decide) | omega)
            refine pw_if (fun hb67 => ?_)
            obtain ⟨hbl67, hbr67⟩ := hb67
            refine pw_vl (fun x69 ex69 => ?_)
            refine pw_nne hn9 ?_
            refine pw_if (fun hb77 => ?_)
            obtain ⟨hbl77, hbr77⟩ := hb77
            refine pw_ite (fun c78 => ?_) (fun c78 => ?_)
            · have c78 := congrArg Int32.toInt c78
              have qq0 : rwW ((G 203) p2) (d15_V0 l) ((V 1) s) 24 = (gdF (mkA ls [] w)).foldl (addF (ln s)) ws := by rw [a1, mkA_no hx (t2 (by omega)), iz15 l n3]; exact hws
              have qq1 : id ((∀ z, z ≠ wh → z ≠ l → d15_V0 z = (V 0) z)) := show (∀ z, z ≠ wh → z ≠ l → d15_V0 z = (V 0) z) from by exact fun z h1 h2 => iz15 z h1
              have qq2 : id ((∀ z, z ≠ s → (V 1) z = (V 1) z)) := show (∀ z, z ≠ s → (V 1) z = (V 1) z) from by exact fun _ _ => rfl
              have qq3 : id ((∀ z, z ≠ p2 → (G 203) z = (G 203) z)) := show (∀ z, z ≠ p2 → (G 203) z = (G 203) z) from by exact fun _ _ => rfl
              exact pw_some ⟨qq0, qq1, qq2, qq3⟩
            · have c78 := z_ne c78
              obtain ⟨y, y1, y2, y3, y4⟩ := t1 (by omega)
              have hyl : y.length = Int32.toNatClampNeg ((V 1) ts (Int32.toNatClampNeg r36)) := by rw [← y2]; exact wdl_len
              refine pw_nne hn13 ?_
              refine pw_if (fun hb93 => ?_)
              obtain ⟨hbl93, hbr93⟩ := hb93
              have b45 := hzV1 ts (Int32.toNatClampNeg r36)
              have rl46 := (hzRB tr ts hk_tr hn13).2 (Int32.toNatClampNeg r36)
              have f47 : (y15_7 + (((V 1) ts) (Int32.toNatClampNeg r36))).toInt = y15_7.toInt + (((V 1) ts) (Int32.toNatClampNeg r36)).toInt := z_add (by omega) (by omega)
              refine pw_jE (fun j130 ej130 => ?_)
              refine pw_ite (fun c97 => ?_) (fun c97 => ?_)
              · have c97 := (z_lt _ _).mp c97
                refine pw_j1 ej130 (fun z130_0 ez130_0 => ?_)
                subst ez130_0
                refine pw_nne hn13 ?_
                refine pw_if (fun hb139 => ?_)
                obtain ⟨hbl139, hbr139⟩ := hb139
                refine pw_vl (fun x141 ex141 => ?_)
                have f51 : x141.toInt = (y15_7 + (((V 1) ts) (Int32.toNatClampNeg r36))).toInt := congrArg Int32.toInt ex141
                have f52 : (y15_8 + 1).toInt = y15_8.toInt + (1) := z_addc (by decide +kernel) (by omega) (by omega)
                have iv15_0 : (0 ≤ (y15_8 + 1).toInt ∧ (y15_8 + 1).toInt ≤ 24) := by omega
                have iv15_1 : (0 ≤ x141.toInt ∧ x141.toInt ≤ 24 * (y15_8 + 1).toInt) := by omega
                have iv15_2 : (y15_8 + 1).toInt ≤ ((w.length : Nat) : Int) := by omega
                have iv15_3 : (∀ z, z ≠ wh → d15_V0 z = (V 0) z) := by exact iz15
                have iv15_4 : (∃ acc, mkA ls [] w = mkA ls acc (w.drop (Int32.toNatClampNeg (y15_8 + 1))) ∧ x141.toInt = ((acc.length : Nat) : Int) ∧ (x141.toInt ≤ 24 → wdl (d15_V0 wh) 0 (Int32.toNatClampNeg x141) = acc)) := by have k8 := clampI (x := y15_8 + 1) (by omega); refine ⟨acc ++ y, ?_, ?_, fun h9 => ?_⟩; (rw [a1, mkA_yes hx y1, show Int32.toNatClampNeg (y15_8 + 1) = Int32.toNatClampNeg y15_8 + 1 by omega]); (rw [List.length_append]; omega); (exfalso; omega)
                exact ih15 x69 x141 (y15_8 + 1) d15_V0 hfr27 iv15_0 iv15_1 iv15_2 iv15_3 iv15_4
              · have c97 := z_nlt c97
                refine pw_nne hn11 ?_
                have b53 := hzG200 tr
                have f54 := zmw (x := r36) (y := ((G 200) tr)) (by omega) (by omega) (by omega) (by omega)
                have ix55 := rowix (x := r36) (hzRA tr tl ts hk_tr hn11 hn13) (hzG200 tr).1
                refine pw_nne hn18 ?_
                refine pw_nne hn13 ?_
                refine pw_if (fun hb126 => ?_)
                obtain ⟨hbl126, hbr126⟩ := hb126
                refine pw_if (fun hb127 => ?_)
                obtain ⟨hb127_1, hb127_2, hb127_3, hb127_4, hb127_5⟩ := hb127
                refine pw_vl (fun m127 em127 => ?_)
                have hfr58 : ∀ z, ((la z < la this ∨ la this + 8 < la z) ∧ (la z < la p2 ∨ la p2 < la z)) → m127 z = (V 0) z := fr_up (e0 := (V 0)) hfr27 em127 (show ¬ ((la wh < la this ∨ la this + 8 < la wh) ∧ (la wh < la p2 ∨ la p2 < la wh)) from by omega)
                refine pw_j1 ej130 (fun z130_0 ez130_0 => ?_)
                subst ez130_0
                refine pw_nne hn13 ?_
                refine pw_if (fun hb139 => ?_)
                obtain ⟨hbl139, hbr139⟩ := hb139
                refine pw_vl (fun x141 ex141 => ?_)
                have f62 : x141.toInt = (y15_7 + (((V 1) ts) (Int32.toNatClampNeg r36))).toInt := congrArg Int32.toInt ex141
                have f63 : (y15_8 + 1).toInt = y15_8.toInt + (1) := z_addc (by decide +kernel) (by omega) (by omega)
                have iv15_0 : (0 ≤ (y15_8 + 1).toInt ∧ (y15_8 + 1).toInt ≤ 24) := by omega
                have iv15_1 : (0 ≤ x141.toInt ∧ x141.toInt ≤ 24 * (y15_8 + 1).toInt) := by omega
                have iv15_2 : (y15_8 + 1).toInt ≤ ((w.length : Nat) : Int) := by omega
                have iv15_3 : (∀ z, z ≠ wh → m127 z = (V 0) z) := by intro z hz; rw [em127, va_up_ne _ _ hz]; exact iz15 z hz
                have iv15_4 : (∃ acc, mkA ls [] w = mkA ls acc (w.drop (Int32.toNatClampNeg (y15_8 + 1))) ∧ x141.toInt = ((acc.length : Nat) : Int) ∧ (x141.toInt ≤ 24 → wdl (m127 wh) 0 (Int32.toNatClampNeg x141) = acc)) := by have k8 := clampI (x := y15_8 + 1) (by omega); have k7 := clampI (x := x141) (by omega); refine ⟨acc ++ y, ?_, ?_, fun _ => ?_⟩; (rw [a1, mkA_yes hx y1, show Int32.toNatClampNeg (y15_8 + 1) = Int32.toNatClampNeg y15_8 + 1 by omega]); (rw [List.length_append]; omega); (rw [em127, va_up_self, show Int32.toNatClampNeg x141 = Int32.toNatClampNeg y15_7 + Int32.toNatClampNeg ((V 1) ts (Int32.toNatClampNeg r36)) by omega, wdl_cpy, a3 (by omega), hm1, iz15 tl n1, y2])
                exact ih15 x69 x141 (y15_8 + 1) m127 hfr58 iv15_0 iv15_1 iv15_2 iv15_3 iv15_4
          · have c53 := z_nlt c53
            exfalso; omega
  exact lp15 NN 0 (0 : Int32) (0 : Int32) (V 0) (fun _ _ => rfl) (show (0 ≤ (0 : Int32).toInt ∧ (0 : Int32).toInt ≤ 24) from by omega) (show (0 ≤ (0 : Int32).toInt ∧ (0 : Int32).toInt ≤ 24 * (0 : Int32).toInt) from by omega) (show (0 : Int32).toInt ≤ ((w.length : Nat) : Int) from by omega) (show (∀ z, z ≠ wh → (V 0) z = (V 0) z) from by exact fun _ _ => rfl) (show (∃ acc, mkA ls [] w = mkA ls acc (w.drop (Int32.toNatClampNeg (0 : Int32))) ∧ (0 : Int32).toInt = ((acc.length : Nat) : Int) ∧ ((0 : Int32).toInt ≤ 24 → wdl ((V 0) wh) 0 (Int32.toNatClampNeg (0 : Int32)) = acc)) from by exact ⟨[], by rw [show Int32.toNatClampNeg (0 : Int32) = 0 from rfl]; rfl, by decide, fun _ => by rw [show Int32.toNatClampNeg (0 : Int32) = 0 from rfl]; rfl⟩)
