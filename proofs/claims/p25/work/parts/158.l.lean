abbrev QF_J7_copyOfRangeByte_39247 (κ : Nat → Nat) (wd : Nat) (la : Nat → Nat) (G : Nat → Nat → Int32) (P : Nat → Nat → Option Nat) (U : Nat → Nat → Int64) (V : Nat → Nat → Nat → Int32) (X : Nat → Nat → Nat → Int64) (O : Nat → Nat → Nat → Option Nat) (kd : Nat → Nat) (ln : Nat → Nat) (cnt : Nat) (p0 : Nat) (p1 : Int32) (p2 : Int32) (nl : Nat) : (Nat × (Nat → Nat → Int32) × (Nat → Nat → Option Nat) × (Nat → Nat → Int64) × (Nat → Nat → Nat → Int32) × (Nat → Nat → Nat → Int64) × (Nat → Nat → Nat → Option Nat) × (Nat → Nat) × (Nat → Nat) × Nat) → Prop := (fun t => ∃ la1 : Nat → Nat, (∀ z, z < cnt → la1 z = la z) ∧ LB la1 (t.2.2.2.2.2.2.2.2.2) (t.2.2.1) ∧ (wdl (((t.2.2.2.2.1) 0) (t.1)) 0 ((t.2.2.2.2.2.2.2.2.1) (t.1)) = wdl ((V 0) p0) (Int32.toNatClampNeg p1) (Int32.toNatClampNeg (p2 - p1))) ∧ ((cnt ≤ (t.1) ∧ (t.1) < (t.2.2.2.2.2.2.2.2.2) ∧ la1 (t.1) = nl)))
set_option maxHeartbeats 4000000 in
set_option maxRecDepth 100000 in
theorem fn_J7_copyOfRangeByte_39247 (κ : Nat → Nat) (wd : Nat) (la : Nat → Nat) (G : Nat → Nat → Int32) (P : Nat → Nat → Option Nat) (U : Nat → Nat → Int64) (V : Nat → Nat → Nat → Int32) (X : Nat → Nat → Nat → Int64) (O : Nat → Nat → Nat → Option Nat) (kd : Nat → Nat) (ln : Nat → Nat) (cnt : Nat) (p0 : Nat) (p1 : Int32) (p2 : Int32) (nl : Nat) (hI : CInv κ wd G P V O ln cnt) (hk_p0 : κ p0 = 100) (hp0 : (0 ≤ p1.toInt ∧ p1.toInt ≤ p2.toInt ∧ p2.toInt ≤ ((ln p0 : Nat) : Int) ∧ p2.toInt - p1.toInt ≤ 16)) (hB : LB la cnt P) (hlt_p0 : p0 < cnt) (hpl0 : nl < 100000 + 10 * cnt + 6) : pw (f_J7_copyOfRangeByte_39247 G P U V X O kd ln cnt p0 p1 p2) (sp1 (QF_J7_copyOfRangeByte_39247 κ wd la G P U V X O kd ln cnt p0 p1 p2 nl)) := by
  unfold f_J7_copyOfRangeByte_39247
  have zk0 : (0 : Int32).toInt = 0 := by decide +kernel
  have r_p1 := i32r p1
  have r_p2 := i32r p2
  have hl0 := (CInv_LN hI :) p0 (by rw [hk_p0]; decide)
  have ho0 : (Int32.ofNat (ln p0)).toInt = ((ln p0 : Nat) : Int) := ofN_eq (by omega)
  have hpr2_0 : p1.toInt ≤ p2.toInt := by first | assumption | omega
  refine pw_b0 (fun u2 hc2 => ?_)
  have f1 : (p2 - p1).toInt = p2.toInt - p1.toInt := z_sub (by omega) (by omega)
  refine pw_vl (fun x8 ex8 => ?_)
  have f2 : x8.toInt = (p2 - p1).toInt := congrArg Int32.toInt ex8
  refine pw_if (fun hb10 => ?_)
  obtain ⟨hbl10, hbr10⟩ := hb10
  have cl3 := clampI (x := x8) (by omega)
  refine pw_tk ?_
  refine pw_newd (κ := κ) (la := la) (wd := wd) (Ke := 100) (L := nl) (CInv_i (CInv_G43 hI :) (CInv_G44 hI :) (CInv_G45 hI :) (CInv_G60 hI :) (CInv_G83 hI :) (CInv_G84 hI :) (CInv_G85 hI :) (CInv_G87 hI :) (CInv_G88 hI :) (CInv_G102 hI :) (CInv_G125 hI :) (CInv_G126 hI :) (CInv_G127 hI :) (CInv_G141 hI :) (CInv_G160 hI :) (CInv_G161 hI :) (CInv_G162 hI :) (CInv_G165 hI :) (CInv_G166 hI :) (CInv_G183 hI :) (CInv_G200 hI :) (CInv_G203 hI :) (CInv_G222 hI :) (CInv_G231 hI :) (CInv_G233 hI :) (CInv_P0 hI :) (CInv_P1 hI :) (CInv_P2 hI :) (CInv_P3 hI :) (CInv_P4 hI :) (CInv_P5 hI :) (CInv_P20 hI :) (CInv_P21 hI :) (CInv_P22 hI :) (CInv_P23 hI :) (CInv_P40 hI :) (CInv_P41 hI :) (CInv_P42 hI :) (CInv_P61 hI :) (CInv_P62 hI :) (CInv_P63 hI :) (CInv_P64 hI :) (CInv_P65 hI :) (CInv_P66 hI :) (CInv_P82 hI :) (CInv_P101 hI :) (CInv_P103 hI :) (CInv_P104 hI :) (CInv_P105 hI :) (CInv_P106 hI :) (CInv_P108 hI :) (CInv_P109 hI :) (CInv_P110 hI :) (CInv_P120 hI :) (CInv_P121 hI :) (CInv_P122 hI :) (CInv_P123 hI :) (CInv_P140 hI :) (CInv_P164 hI :) (CInv_P180 hI :) (CInv_P181 hI :) (CInv_P182 hI :) (CInv_P185 hI :) (CInv_P186 hI :) (CInv_P187 hI :) (CInv_P201 hI :) (CInv_P202 hI :) (CInv_P220 hI :) (CInv_P221 hI :) (CInv_P224 hI :) (CInv_P225 hI :) (CInv_P226 hI :) (CInv_P227 hI :) (CInv_P228 hI :) (CInv_P229 hI :) (CInv_P230 hI :) (CInv_P232 hI :) (CInv_P234 hI :) (CInv_P235 hI :) (CInv_P236 hI :) (CInv_V1 hI :) (CInv_V2 hI :) (CInv_V3 hI :) (CInv_V9 hI :) (CInv_O0 hI :) (CInv_O1 hI :) (CInv_O2 hI :) (CInv_RA hI :) (CInv_RB hI :) (CInv_RI hI :) (CInv_RM103 hI :) (CInv_RM104 hI :) (CInv_RM108 hI :) (CInv_LN hI :) (CInv_FL hI :) (CInv_W0 hI :) (CInv_KC hI :) (CInv_WK hI :)) (by decide) (by omega) hB (by have q4 := hB.2 p0 hlt_p0; omega) (fun κ10 la10 G10 P10 U10 V10 X10 O10 kd10 ln10 cnt10 hCI10 hcn10 hkn10 hln10 hex10 hvz10 hfs10 hB10 hL10 ag10 fU10 fX10 => ?_)
  have hx5 : ∀ a, κ a ≠ 0 → κ10 a = κ a := fun a ha => (hex10 a (kclt (CInv_KC hI :) ha) (Nat.ne_of_lt (kclt (CInv_KC hI :) ha))).1
  have ccf10 : cnt ≤ cnt10 := by rw [hcn10]; exact Nat.le_succ _
  have kx6 : ∀ a, κ a ≠ 0 → κ10 a = κ a := hx5
  have hl7 := (hex10 p0 (kcl0 (CInv_KC hI :) hk_p0 (by decide)) (Nat.ne_of_lt (kcl0 (CInv_KC hI :) hk_p0 (by decide)))).2.2.2.2.2
  have hk8 : κ10 p0 = 100 := kxk hx5 hk_p0 (by decide)
  have g9 : la10 p0 = la p0 := ag10 p0 hlt_p0
  have lt10 : p0 < cnt10 := Nat.lt_of_lt_of_le hlt_p0 ccf10
  have hag10 : ∀ z, z < cnt → la10 z = la z := fun z hz => (ag10 z (Nat.lt_of_lt_of_le hz (Nat.le_refl _))).trans (rfl)
  have fG10 : FRM cnt [] (fun _ => True) G G10 := fun g z hz _ => (hex10 z hz (Nat.ne_of_lt hz)).2.1 g
  have fP10 : FRM cnt [] (fun _ => True) P P10 := fun g z hz _ => (hex10 z hz (Nat.ne_of_lt hz)).2.2.1 g
  have fV10 : FRM cnt [] (fun _ => True) V V10 := fun g z hz _ => (hex10 z hz (Nat.ne_of_lt hz)).2.2.2.1 g
  have fO10 : FRM cnt [] (fun _ => True) O O10 := fun g z hz _ => (hex10 z hz (Nat.ne_of_lt hz)).2.2.2.2.1 g
  have fl10 : ∀ z, z < cnt → ln10 z = ln z := fun z hz => (hex10 z hz (Nat.ne_of_lt hz)).2.2.2.2.2
  have hle10 : cnt ≤ cnt := (Nat.le_refl _)
  have hF10_G : FRM cnt [] (fun z => True) G G10 := FRM_trans FRM_refl fG10 hle10 (by decide) (fun _ _ _ => trivial)
  have hF10_P : FRM cnt [] (fun z => True) P P10 := FRM_trans FRM_refl fP10 hle10 (by decide) (fun _ _ _ => trivial)
  have hF10_U : FRM cnt [] (fun z => True) U U10 := FRM_trans FRM_refl fU10 hle10 (by decide) (fun _ _ _ => trivial)
  have hF10_V : FRM cnt [0] (fun z => True) V V10 := FRM_trans FRM_refl fV10 hle10 (by decide) (fun _ _ _ => trivial)
  have hF10_X : FRM cnt [] (fun z => True) X X10 := FRM_trans FRM_refl fX10 hle10 (by decide) (fun _ _ _ => trivial)
  have hF10_O : FRM cnt [] (fun z => True) O O10 := FRM_trans FRM_refl fO10 hle10 (by decide) (fun _ _ _ => trivial)
  have hlnn10 : ∀ z, z < cnt → ln10 z = ln z := fun z hz => (fl10 z (Nat.lt_of_lt_of_le hz hle10)).trans (rfl)
  have lt11 : cnt < cnt10 := by rw [hcn10]; exact Nat.lt_succ_self _
  have hlp : ln10 p0 = ln p0 := (hex10 p0 (kcl0 (CInv_KC hI :) hk_p0 (by decide)) (Nat.ne_of_lt (kcl0 (CInv_KC hI :) hk_p0 (by decide)))).2.2.2.2.2
  have hvp : V10 0 p0 = (V 0) p0 := (hex10 p0 (kcl0 (CInv_KC hI :) hk_p0 (by decide)) (Nat.ne_of_lt (kcl0 (CInv_KC hI :) hk_p0 (by decide)))).2.2.2.1 0
  have hz_p0 : (Int32.ofNat (ln10 p0)).toInt = ((ln10 p0 : Nat) : Int) := ofN_eq ((CInv_LN hCI10 :) p0 (by rw [hk8]; decide))
  have hzb_p0 := (CInv_LN hCI10 :) p0 (by rw [hk8]; decide)
  have f12 : ((Int32.ofNat (ln10 p0)) - p1).toInt = (Int32.ofNat (ln10 p0)).toInt - p1.toInt := z_sub (by omega) (by omega)
  have mm13 := z_min x8 ((Int32.ofNat (ln10 p0)) - p1)
  refine pw_if (fun hb27 => ?_)
  obtain ⟨hb27_1, hb27_2, hb27_3, hb27_4, hb27_5⟩ := hb27
  refine pw_vl (fun m27 em27 => ?_)
  have hfr14 : ∀ z, (z < cnt ∧ True) → m27 z = (V 0) z := fr_up (e0 := (V 0)) (fun (z : Nat) (hz : (z < cnt ∧ True)) => hF10_V 0 z hz.1 (fun _ => hz.2)) em27 (show ¬ (cnt < cnt ∧ True) from fun hz => by have q1 := hag10 cnt hz.1; omega)
  have qq0 : wdl (m27 cnt) 0 (ln10 cnt) = wdl ((V 0) p0) (Int32.toNatClampNeg p1) (Int32.toNatClampNeg (p2 - p1)) := by rw [em27, va_up_self, hln10, show Int32.toNatClampNeg (p2 - p1) = Int32.toNatClampNeg x8 from by rw [ex8]]; have hmn := z_min x8 ((Int32.ofNat (ln10 p0)) - p1); have e9 : (if x8 < ((Int32.ofNat (ln10 p0)) - p1) then x8 else ((Int32.ofNat (ln10 p0)) - p1)) = x8 := z_e (by rw [hlp] at *; omega); rw [e9]; refine wdl_ext (fun j hj => ?_); rw [show Int32.toNatClampNeg (0 : Int32) = 0 from by decide, pk_cpy_in (by omega) (by omega), hvp]; exact congrArg ((V 0) p0) (by omega)
  have qq1 : (cnt ≤ cnt ∧ cnt < cnt10 ∧ la10 cnt = nl) := by exact ⟨by omega, by omega, hL10⟩
  exact pw_some ⟨la10, hag10, hB10, qq0, qq1⟩
abbrev QF_J7_copyOfRange_39247 (κ : Nat → Nat) (wd : Nat) (la : Nat → Nat) (G : Nat → Nat → Int32) (P : Nat → Nat → Option Nat) (U : Nat → Nat → Int64) (V : Nat → Nat → Nat → Int32) (X : Nat → Nat → Nat → Int64) (O : Nat → Nat → Nat → Option Nat) (kd : Nat → Nat) (ln : Nat → Nat) (cnt : Nat) (p0 : Nat) (p1 : Int32) (p2 : Int32) (nl : Nat) : (Nat × (Nat → Nat → Int32) × (Nat → Nat → Option Nat) × (Nat → Nat → Int64) × (Nat → Nat → Nat → Int32) × (Nat → Nat → Nat → Int64) × (Nat → Nat → Nat → Option Nat) × (Nat → Nat) × (Nat → Nat) × Nat) → Prop := (fun t => ∃ la1 : Nat → Nat, (∀ z, z < cnt → la1 z = la z) ∧ LB la1 (t.2.2.2.2.2.2.2.2.2) (t.2.2.1) ∧ (wdl (((t.2.2.2.2.1) 0) (t.1)) 0 ((t.2.2.2.2.2.2.2.2.1) (t.1)) = wdl ((V 0) p0) (Int32.toNatClampNeg p1) (Int32.toNatClampNeg (p2 - p1))) ∧ ((cnt ≤ (t.1) ∧ (t.1) < (t.2.2.2.2.2.2.2.2.2) ∧ la1 (t.1) = nl)))
set_option maxHeartbeats 4000000 in
set_option maxRecDepth 100000 in
theorem fn_J7_copyOfRange_39247 (κ : Nat → Nat) (wd : Nat) (la : Nat → Nat) (G : Nat → Nat → Int32) (P : Nat → Nat → Option Nat) (U : Nat → Nat → Int64) (V : Nat → Nat → Nat → Int32) (X : Nat → Nat → Nat → Int64) (O : Nat → Nat → Nat → Option Nat) (kd : Nat → Nat) (ln : Nat → Nat) (cnt : Nat) (p0 : Nat) (p1 : Int32) (p2 : Int32) (nl : Nat) (hI : CInv κ wd G P V O ln cnt) (hk_p0 : κ p0 = 100) (hp0 : (0 ≤ p1.toInt ∧ p1.toInt ≤ p2.toInt ∧ p2.toInt ≤ ((ln p0 : Nat) : Int) ∧ p2.toInt - p1.toInt ≤ 16)) (hp1 : 1 ≤ p1.toInt) (hB : LB la cnt P) (hlt_p0 : p0 < cnt) (hpl0 : nl < 100000 + 10 * cnt + 6) : pw (f_J7_copyOfRange_39247 G P U V X O kd ln cnt p0 p1 p2) (sp1 (QF_J7_copyOfRange_39247 κ wd la G P U V X O kd ln cnt p0 p1 p2 nl)) := by
  unfold f_J7_copyOfRange_39247
  have zk0 : (0 : Int32).toInt = 0 := by decide +kernel
  have r_p1 := i32r p1
  have r_p2 := i32r p2
  refine pw_jE (fun j10 ej10 => ?_)
  refine pw_ite (fun c1 => ?_) (fun c1 => ?_)
  · have c1 := congrArg Int32.toInt c1
    exfalso; omega
  · have c1 := z_ne c1
    refine pw_j0 ej10 ?_
    have hpr13_0 : (0 ≤ p1.toInt ∧ p1.toInt ≤ p2.toInt ∧ p2.toInt ≤ ((ln p0 : Nat) : Int) ∧ p2.toInt - p1.toInt ≤ 16) := by first | assumption | omega
    refine pw_bA10 (fun r13 c13_G c13_P c13_U c13_V c13_X c13_O c13_kd c13_ln c13_cnt v1_13 v2_13 hc13 => ?_)
    have hq13 := wp_at (ok_J7_copyOfRangeByte_39247 κ wd G P U V X O kd ln cnt p0 p1 p2 (CInv_i (CInv_G43 hI :) (CInv_G44 hI :) (CInv_G45 hI :) (CInv_G60 hI :) (CInv_G83 hI :) (CInv_G84 hI :) (CInv_G85 hI :) (CInv_G87 hI :) (CInv_G88 hI :) (CInv_G102 hI :) (CInv_G125 hI :) (CInv_G126 hI :) (CInv_G127 hI :) (CInv_G141 hI :) (CInv_G160 hI :) (CInv_G161 hI :) (CInv_G162 hI :) (CInv_G165 hI :) (CInv_G166 hI :) (CInv_G183 hI :) (CInv_G200 hI :) (CInv_G203 hI :) (CInv_G222 hI :) (CInv_G231 hI :) (CInv_G233 hI :) (CInv_P0 hI :) (CInv_P1 hI :) (CInv_P2 hI :) (CInv_P3 hI :) (CInv_P4 hI :) (CInv_P5 hI :) (CInv_P20 hI :) (CInv_P21 hI :) (CInv_P22 hI :) (CInv_P23 hI :) (CInv_P40 hI :) (CInv_P41 hI :) (CInv_P42 hI :) (CInv_P61 hI :) (CInv_P62 hI :) (CInv_P63 hI :) (CInv_P64 hI :) (CInv_P65 hI :) (CInv_P66 hI :) (CInv_P82 hI :) (CInv_P101 hI :) (CInv_P103 hI :) (CInv_P104 hI :) (CInv_P105 hI :) (CInv_P106 hI :) (CInv_P108 hI :) (CInv_P109 hI :) (CInv_P110 hI :) (CInv_P120 hI :) (CInv_P121 hI :) (CInv_P122 hI :) (CInv_P123 hI :) (CInv_P140 hI :) (CInv_P164 hI :) (CInv_P180 hI :) (CInv_P181 hI :) (CInv_P182 hI :) (CInv_P185 hI :) (CInv_P186 hI :) (CInv_P187 hI :) (CInv_P201 hI :) (CInv_P202 hI :) (CInv_P220 hI :) (CInv_P221 hI :) (CInv_P224 hI :) (CInv_P225 hI :) (CInv_P226 hI :) (CInv_P227 hI :) (CInv_P228 hI :) (CInv_P229 hI :) (CInv_P230 hI :) (CInv_P232 hI :) (CInv_P234 hI :) (CInv_P235 hI :) (CInv_P236 hI :) (CInv_V1 hI :) (CInv_V2 hI :) (CInv_V3 hI :) (CInv_V9 hI :) (CInv_O0 hI :) (CInv_O1 hI :) (CInv_O2 hI :) (CInv_RA hI :) (CInv_RB hI :) (CInv_RI hI :) (CInv_RM103 hI :) (CInv_RM104 hI :) (CInv_RM108 hI :) (CInv_LN hI :) (CInv_FL hI :) (CInv_W0 hI :) (CInv_KC hI :) (CInv_WK hI :)) hk_p0 hpr13_0) hc13
    obtain ⟨κ13_0, hCI13, hxx13, hcc2, hex13, hk3, f4, f5, f6, f7⟩ : ∃ κ1 : Nat → Nat, (CInv κ1 wd c13_G c13_P c13_V c13_O c13_ln c13_cnt) ∧ (∀ a, κ a ≠ 0 → κ1 a = κ a) ∧ (cnt ≤ c13_cnt) ∧ (EX cnt cnt κ κ1 G c13_G P c13_P V c13_V O c13_O ln c13_ln) ∧ (κ1 r13 = 100) ∧ (c13_ln r13 ≤ 16) ∧ (cnt ≤ r13) ∧ (v1_13 ≤ 1) ∧ (v2_13 ≤ 16) := hq13
    have kx8 : ∀ a, κ a ≠ 0 → κ13_0 a = κ a := hxx13
    have hl9 := (hex13 p0 (kcl0 (CInv_KC hI :) hk_p0 (by decide)) (Nat.ne_of_lt (kcl0 (CInv_KC hI :) hk_p0 (by decide)))).2.2.2.2.2
    have hk10 : κ13_0 p0 = 100 := kxk hxx13 hk_p0 (by decide)
    have hq13 := pwq (fr_J7_copyOfRangeByte_39247 la G P U V X O kd ln cnt p0 p1 p2 (nl) hB hlt_p0 (show (nl) < 100000 + 10 * cnt + 6 from by omega)) hc13
    obtain ⟨la13_f, agf13, hBf13, ccf13, fG13, fP13, fU13, fV13, fX13, fO13, fl13, po13_0⟩ : ∃ la9 : Nat → Nat, (∀ z, z < cnt → la9 z = la z) ∧ LB la9 c13_cnt c13_P ∧ cnt ≤ c13_cnt ∧ FRM cnt [] (fun z => True) G c13_G ∧ FRM cnt [] (fun z => True) P c13_P ∧ FRM cnt [] (fun z => True) U c13_U ∧ FRM cnt [0] (fun z => True) V c13_V ∧ FRM cnt [] (fun z => True) X c13_X ∧ FRM cnt [] (fun z => True) O c13_O ∧ (∀ z, z < cnt → c13_ln z = ln z) ∧ (cnt ≤ r13 ∧ r13 < c13_cnt ∧ la9 r13 = (nl)) := hq13
    have hx13 := pwq (fn_J7_copyOfRangeByte_39247 κ wd la G P U V X O kd ln cnt p0 p1 p2 (nl) (CInv_i (CInv_G43 hI :) (CInv_G44 hI :) (CInv_G45 hI :) (CInv_G60 hI :) (CInv_G83 hI :) (CInv_G84 hI :) (CInv_G85 hI :) (CInv_G87 hI :) (CInv_G88 hI :) (CInv_G102 hI :) (CInv_G125 hI :) (CInv_G126 hI :) (CInv_G127 hI :) (CInv_G141 hI :) (CInv_G160 hI :) (CInv_G161 hI :) (CInv_G162 hI :) (CInv_G165 hI :) (CInv_G166 hI :) (CInv_G183 hI :) (CInv_G200 hI :) (CInv_G203 hI :) (CInv_G222 hI :) (CInv_G231 hI :) (CInv_G233 hI :) (CInv_P0 hI :) (CInv_P1 hI :) (CInv_P2 hI :) (CInv_P3 hI :) (CInv_P4 hI :) (CInv_P5 hI :) (CInv_P20 hI :) (CInv_P21 hI :) (CInv_P22 hI :) (CInv_P23 hI :) (CInv_P40 hI :) (CInv_P41 hI :) (CInv_P42 hI :) (CInv_P61 hI :) (CInv_P62 hI :) (CInv_P63 hI :) (CInv_P64 hI :) (CInv_P65 hI :) (CInv_P66 hI :) (CInv_P82 hI :) (CInv_P101 hI :) (CInv_P103 hI :) (CInv_P104 hI :) (CInv_P105 hI :) (CInv_P106 hI :) (CInv_P108 hI :) (CInv_P109 hI :) (CInv_P110 hI :) (CInv_P120 hI :) (CInv_P121 hI :) (CInv_P122 hI :) (CInv_P123 hI :) (CInv_P140 hI :) (CInv_P164 hI :) (CInv_P180 hI :) (CInv_P181 hI :) (CInv_P182 hI :) (CInv_P185 hI :) (CInv_P186 hI :) (CInv_P187 hI :) (CInv_P201 hI :) (CInv_P202 hI :) (CInv_P220 hI :) (CInv_P221 hI :) (CInv_P224 hI :) (CInv_P225 hI :) (CInv_P226 hI :) (CInv_P227 hI :) (CInv_P228 hI :) (CInv_P229 hI :) (CInv_P230 hI :) (CInv_P232 hI :) (CInv_P234 hI :) (CInv_P235 hI :) (CInv_P236 hI :) (CInv_V1 hI :) (CInv_V2 hI :) (CInv_V3 hI :) (CInv_V9 hI :) (CInv_O0 hI :) (CInv_O1 hI :) (CInv_O2 hI :) (CInv_RA hI :) (CInv_RB hI :) (CInv_RI hI :) (CInv_RM103 hI :) (CInv_RM104 hI :) (CInv_RM108 hI :) (CInv_LN hI :) (CInv_FL hI :) (CInv_W0 hI :) (CInv_KC hI :) (CInv_WK hI :)) hk_p0 hpr13_0 hB hlt_p0 (show (nl) < 100000 + 10 * cnt + 6 from by omega)) hc13
    obtain ⟨la13, ag13, hB13, p13_0, p13_1⟩ : ∃ la9 : Nat → Nat, (∀ z, z < cnt → la9 z = la z) ∧ LB la9 c13_cnt c13_P ∧ (wdl ((c13_V 0) r13) 0 (c13_ln r13) = wdl ((V 0) p0) (Int32.toNatClampNeg p1) (Int32.toNatClampNeg (p2 - p1))) ∧ ((cnt ≤ r13 ∧ r13 < c13_cnt ∧ la9 r13 = nl)) := hx13
    have g11 : la13 p0 = la p0 := ag13 p0 hlt_p0
    have lt12 : p0 < c13_cnt := Nat.lt_of_lt_of_le hlt_p0 ccf13
    have hag13 : ∀ z, z < cnt → la13 z = la z := fun z hz => (ag13 z (Nat.lt_of_lt_of_le hz (Nat.le_refl _))).trans (rfl)
    have hle13 : cnt ≤ cnt := (Nat.le_refl _)
    have hF13_G : FRM cnt [] (fun z => True) G c13_G := FRM_trans FRM_refl fG13 hle13 (by decide) (fun _ _ _ => trivial)
    have hF13_P : FRM cnt [] (fun z => True) P c13_P := FRM_trans FRM_refl fP13 hle13 (by decide) (fun _ _ _ => trivial)
    have hF13_U : FRM cnt [] (fun z => True) U c13_U := FRM_trans FRM_refl fU13 hle13 (by decide) (fun _ _ _ => trivial)
    have hF13_V : FRM cnt [0] (fun z => True) V c13_V := FRM_trans FRM_refl fV13 hle13 (by decide) (fun _ _ _ => trivial)
    have hF13_X : FRM cnt [] (fun z => True) X c13_X := FRM_trans FRM_refl fX13 hle13 (by decide) (fun _ _ _ => trivial)
    have hF13_O : FRM cnt [] (fun z => True) O c13_O := FRM_trans FRM_refl fO13 hle13 (by decide) (fun _ _ _ => trivial)
    have hlnn13 : ∀ z, z < cnt → c13_ln z = ln z := fun z hz => (fl13 z (Nat.lt_of_lt_of_le hz hle13)).trans (rfl)
    have lt13 : r13 < c13_cnt := (p13_1).2.1
    have qq0 : wdl ((c13_V 0) r13) 0 (c13_ln r13) = wdl ((V 0) p0) (Int32.toNatClampNeg p1) (Int32.toNatClampNeg (p2 - p1)) := by exact p13_0
    have qq1 : (cnt ≤ r13 ∧ r13 < c13_cnt ∧ la13 r13 = nl) := by exact p13_1
    exact pw_some ⟨la13, hag13, hB13, qq0, qq1⟩
abbrev QF_X4_letters (κ : Nat → Nat) (wd : Nat) (la : Nat → Nat) (G : Nat → Nat → Int32) (P : Nat → Nat → Option Nat) (U : Nat → Nat → Int64) (V : Nat → Nat → Nat → Int32) (X : Nat → Nat → Nat → Int64) (O : Nat → Nat → Nat → Option Nat) (kd : Nat → Nat) (ln : Nat → Nat) (cnt : Nat) (this : Nat) (nl : Nat) (tx : Nat) : (Nat × (Nat → Nat → Int32) × (Nat → Nat → Option Nat) × (Nat → Nat → Int64) × (Nat → Nat → Nat → Int32) × (Nat → Nat → Nat → Int64) × (Nat → Nat → Nat → Option Nat) × (Nat → Nat) × (Nat → Nat) × Nat) → Prop := (fun t => ∃ la1 : Nat → Nat, (∀ z, z < cnt → la1 z = la z) ∧ LB la1 (t.2.2.2.2.2.2.2.2.2) (t.2.2.1) ∧ (wdl (((t.2.2.2.2.1) 0) (t.1)) 0 ((t.2.2.2.2.2.2.2.2.1) (t.1)) = wdl ((V 0) tx) (Int32.toNatClampNeg ((G 87) this)) (Int32.toNatClampNeg ((G 88) this))) ∧ ((cnt ≤ (t.1) ∧ (t.1) < (t.2.2.2.2.2.2.2.2.2) ∧ la1 (t.1) = nl)))
set_option maxHeartbeats 4000000 in
set_option maxRecDepth 100000 in
theorem fn_X4_letters (κ : Nat → Nat) (wd : Nat) (la : Nat → Nat) (G : Nat → Nat → Int32) (P : Nat → Nat → Option Nat) (U : Nat → Nat → Int64) (V : Nat → Nat → Nat → Int32) (X : Nat → Nat → Nat → Int64) (O : Nat → Nat → Nat → Option Nat) (kd : Nat → Nat) (ln : Nat → Nat) (cnt : Nat) (this : Nat) (nl : Nat) (tx : Nat) (hI : CInv κ wd G P V O ln cnt) (hk_this : κ this = 5) (hp0 : (∀ tx, (P 82) this = some tx → ((G 83) this).toInt ≤ ((ln tx : Nat) : Int))) (hp1 : (1 ≤ ((G 87) this).toInt ∧ ((G 87) this).toInt + ((G 88) this).toInt ≤ ((G 83) this).toInt ∧ ((G 88) this).toInt ≤ 16)) (hB : LB la cnt P) (hlt_this : this < cnt) (hpl0 : nl < 100000 + 10 * cnt + 6) (htx : (P 82) this = some tx) : pw (f_X4_letters G P U V X O kd ln cnt this) (sp1 (QF_X4_letters κ wd la G P U V X O kd ln cnt this nl tx)) := by
  unfold f_X4_letters
  have hn1 : (P 82) this = some tx := htx
  have lt_tx2 := ((hB.1 82 fl_82) this tx hn1).2.1
  have hk_tx := (((CInv_P82 hI :) this).2 tx hn1).1
  have hl1_tx := (((CInv_P82 hI :) this).2 tx hn1).2.1
  have hl2_tx := (((CInv_P82 hI :) this).2 tx hn1).2.2.1
  have hw_tx := (((CInv_P82 hI :) this).2 tx hn1).2.2.2
  have hz_tx : (Int32.ofNat (ln tx)).toInt = ((ln tx : Nat) : Int) := ofN_eq (by first | exact Nat.le_trans hl2_tx (by decide) | omega)
  have hsz := hp0 _ htx
  refine pw_nne hn1 ?_
  have b3 := (CInv_G87 hI :) this
  have b5 := (CInv_G88 hI :) this
  have f6 : (((G 87) this) + ((G 88) this)).toInt = ((G 87) this).toInt + ((G 88) this).toInt := z_add (by omega) (by omega)
  have hpr17_0 : (0 ≤ ((G 87) this).toInt ∧ ((G 87) this).toInt ≤ (((G 87) this) + ((G 88) this)).toInt ∧ (((G 87) this) + ((G 88) this)).toInt ≤ ((ln tx : Nat) : Int) ∧ (((G 87) this) + ((G 88) this)).toInt - ((G 87) this).toInt ≤ 16) := by first | assumption | omega
  have hpr17_1 : 1 ≤ ((G 87) this).toInt := by first | assumption | omega
  refine pw_bA10 (fun r17 c17_G c17_P c17_U c17_V c17_X c17_O c17_kd c17_ln c17_cnt v1_17 v2_17 hc17 => ?_)
  have hq17 := wp_at (ok_J7_copyOfRange_39247 κ wd G P U V X O kd ln cnt tx ((G 87) this) (((G 87) this) + ((G 88) this)) (CInv_i (CInv_G43 hI :) (CInv_G44 hI :) (CInv_G45 hI :) (CInv_G60 hI :) (CInv_G83 hI :) (CInv_G84 hI :) (CInv_G85 hI :) (CInv_G87 hI :) (CInv_G88 hI :) (CInv_G102 hI :) (CInv_G125 hI :) (CInv_G126 hI :) (CInv_G127 hI :) (CInv_G141 hI :) (CInv_G160 hI :) (CInv_G161 hI :) (CInv_G162 hI :) (CInv_G165 hI :) (CInv_G166 hI :) (CInv_G183 hI :) (CInv_G200 hI :) (CInv_G203 hI :) (CInv_G222 hI :) (CInv_G231 hI :) (CInv_G233 hI :) (CInv_P0 hI :) (CInv_P1 hI :) (CInv_P2 hI :) (CInv_P3 hI :) (CInv_P4 hI :) (CInv_P5 hI :) (CInv_P20 hI :) (CInv_P21 hI :) (CInv_P22 hI :) (CInv_P23 hI :) (CInv_P40 hI :) (CInv_P41 hI :) (CInv_P42 hI :) (CInv_P61 hI :) (CInv_P62 hI :) (CInv_P63 hI :) (CInv_P64 hI :) (CInv_P65 hI :) (CInv_P66 hI :) (CInv_P82 hI :) (CInv_P101 hI :) (CInv_P103 hI :) (CInv_P104 hI :) (CInv_P105 hI :) (CInv_P106 hI :) (CInv_P108 hI :) (CInv_P109 hI :) (CInv_P110 hI :) (CInv_P120 hI :) (CInv_P121 hI :) (CInv_P122 hI :) (CInv_P123 hI :) (CInv_P140 hI :) (CInv_P164 hI :) (CInv_P180 hI :) (CInv_P181 hI :) (CInv_P182 hI :) (CInv_P185 hI :) (CInv_P186 hI :) (CInv_P187 hI :) (CInv_P201 hI :) (CInv_P202 hI :) (CInv_P220 hI :) (CInv_P221 hI :) (CInv_P224 hI :) (CInv_P225 hI :) (CInv_P226 hI :) (CInv_P227 hI :) (CInv_P228 hI :) (CInv_P229 hI :) (CInv_P230 hI :) (CInv_P232 hI :) (CInv_P234 hI :) (CInv_P235 hI :) (CInv_P236 hI :) (CInv_V1 hI :) (CInv_V2 hI :) (CInv_V3 hI :) (CInv_V9 hI :) (CInv_O0 hI :) (CInv_O1 hI :) (CInv_O2 hI :) (CInv_RA hI :) (CInv_RB hI :) (CInv_RI hI :) (CInv_RM103 hI :) (CInv_RM104 hI :) (CInv_RM108 hI :) (CInv_LN hI :) (CInv_FL hI :) (CInv_W0 hI :) (CInv_KC hI :) (CInv_WK hI :)) hk_tx hpr17_0 hpr17_1) hc17
  obtain ⟨κ17_6, hCI17, hxx17, hcc8, hex17, hk9, f10, f11, f12, f13⟩ : ∃ κ1 : Nat → Nat, (CInv κ1 wd c17_G c17_P c17_V c17_O c17_ln c17_cnt) ∧ (∀ a, κ a ≠ 0 → κ1 a = κ a) ∧ (cnt ≤ c17_cnt) ∧ (EX cnt cnt κ κ1 G c17_G P c17_P V c17_V O c17_O ln c17_ln) ∧ (κ1 r17 = 100) ∧ (c17_ln r17 ≤ 16) ∧ (cnt ≤ r17) ∧ (v1_17 ≤ 1) ∧ (v2_17 ≤ 16) := hq17
  have kx14 : ∀ a, κ a ≠ 0 → κ17_6 a = κ a := hxx17
  have hk15 : κ17_6 this = 5 := kxk hxx17 hk_this (by decide)
  have hq17 := pwq (fr_J7_copyOfRange_39247 la G P U V X O kd ln cnt tx ((G 87) this) (((G 87) this) + ((G 88) this)) (nl) hB lt_tx2 (show (nl) < 100000 + 10 * cnt + 6 from by omega)) hc17
  obtain ⟨la17_f, agf17, hBf17, ccf17, fG17, fP17, fU17, fV17, fX17, fO17, fl17, po17_0⟩ : ∃ la9 : Nat → Nat, (∀ z, z < cnt → la9 z = la z) ∧ LB la9 c17_cnt c17_P ∧ cnt ≤ c17_cnt ∧ FRM cnt [] (fun z => True) G c17_G ∧ FRM cnt [] (fun z => True) P c17_P ∧ FRM cnt [] (fun z => True) U c17_U ∧ FRM cnt [0] (fun z => True) V c17_V ∧ FRM cnt [] (fun z => True) X c17_X ∧ FRM cnt [] (fun z => True) O c17_O ∧ (∀ z, z < cnt → c17_ln z = ln z) ∧ (cnt ≤ r17 ∧ r17 < c17_cnt ∧ la9 r17 = (nl)) := hq17
  have hx17 := pwq (fn_J7_copyOfRange_39247 κ wd la G P U V X O kd ln cnt tx ((G 87) this) (((G 87) this) + ((G 88) this)) (nl) (CInv_i (CInv_G43 hI :) (CInv_G44 hI :) (CInv_G45 hI :) (CInv_G60 hI :) (CInv_G83 hI :) (CInv_G84 hI :) (CInv_G85 hI :) (CInv_G87 hI :) (CInv_G88 hI :) (CInv_G102 hI :) (CInv_G125 hI :) (CInv_G126 hI :) (CInv_G127 hI :) (CInv_G141 hI :) (CInv_G160 hI :) (CInv_G161 hI :) (CInv_G162 hI :) (CInv_G165 hI :) (CInv_G166 hI :) (CInv_G183 hI :) (CInv_G200 hI :) (CInv_G203 hI :) (CInv_G222 hI :) (CInv_G231 hI :) (CInv_G233 hI :) (CInv_P0 hI :) (CInv_P1 hI :) (CInv_P2 hI :) (CInv_P3 hI :) (CInv_P4 hI :) (CInv_P5 hI :) (CInv_P20 hI :) (CInv_P21 hI :) (CInv_P22 hI :) (CInv_P23 hI :) (CInv_P40 hI :) (CInv_P41 hI :) (CInv_P42 hI :) (CInv_P61 hI :) (CInv_P62 hI :) (CInv_P63 hI :) (CInv_P64 hI :) (CInv_P65 hI :) (CInv_P66 hI :) (CInv_P82 hI :) (CInv_P101 hI :) (CInv_P103 hI :) (CInv_P104 hI :) (CInv_P105 hI :) (CInv_P106 hI :) (CInv_P108 hI :) (CInv_P109 hI :) (CInv_P110 hI :) (CInv_P120 hI :) (CInv_P121 hI :) (CInv_P122 hI :) (CInv_P123 hI :) (CInv_P140 hI :) (CInv_P164 hI :) (CInv_P180 hI :) (CInv_P181 hI :) (CInv_P182 hI :) (CInv_P185 hI :) (CInv_P186 hI :) (CInv_P187 hI :) (CInv_P201 hI :) (CInv_P202 hI :) (CInv_P220 hI :) (CInv_P221 hI :) (CInv_P224 hI :) (CInv_P225 hI :) (CInv_P226 hI :) (CInv_P227 hI :) (CInv_P228 hI :) (CInv_P229 hI :) (CInv_P230 hI :) (CInv_P232 hI :) (CInv_P234 hI :) (CInv_P235 hI :) (CInv_P236 hI :) (CInv_V1 hI :) (CInv_V2 hI :) (CInv_V3 hI :) (CInv_V9 hI :) (CInv_O0 hI :) (CInv_O1 hI :) (CInv_O2 hI :) (CInv_RA hI :) (CInv_RB hI :) (CInv_RI hI :) (CInv_RM103 hI :) (CInv_RM104 hI :) (CInv_RM108 hI :) (CInv_LN hI :) (CInv_FL hI :) (CInv_W0 hI :) (CInv_KC hI :) (CInv_WK hI :)) hk_tx hpr17_0 hpr17_1 hB lt_tx2 (show (nl) < 100000 + 10 * cnt + 6 from by omega)) hc17
  obtain ⟨la17, ag17, hB17, p17_0, p17_1⟩ : ∃ la9 : Nat → Nat, (∀ z, z < cnt → la9 z = la z) ∧ LB la9 c17_cnt c17_P ∧ (wdl ((c17_V 0) r17) 0 (c17_ln r17) = wdl ((V 0) tx) (Int32.toNatClampNeg ((G 87) this)) (Int32.toNatClampNeg ((((G 87) this) + ((G 88) this)) - ((G 87) this)))) ∧ ((cnt ≤ r17 ∧ r17 < c17_cnt ∧ la9 r17 = nl)) := hx17
  have g16 : la17 this = la this := ag17 this hlt_this
  have lt17 : this < c17_cnt := Nat.lt_of_lt_of_le hlt_this ccf17
  have g18 : la17 tx = la tx := ag17 tx lt_tx2
  have lt19 : tx < c17_cnt := Nat.lt_of_lt_of_le lt_tx2 ccf17
  have hag17 : ∀ z, z < cnt → la17 z = la z := fun z hz => (ag17 z (Nat.lt_of_lt_of_le hz (Nat.le_refl _))).trans (rfl)
  have hle17 : cnt ≤ cnt := (Nat.le_refl _)
  have hF17_G : FRM cnt [] (fun z => True) G c17_G := FRM_trans FRM_refl fG17 hle17 (by decide) (fun _ _ _ => trivial)
  have hF17_P : FRM cnt [] (fun z => True) P c17_P := FRM_trans FRM_refl fP17 hle17 (by decide) (fun _ _ _ => trivial)
  have hF17_U : FRM cnt [] (fun z => True) U c17_U := FRM_trans FRM_refl fU17 hle17 (by decide) (fun _ _ _ => trivial)
  have hF17_V : FRM cnt [0] (fun z => True) V c17_V := FRM_trans FRM_refl fV17 hle17 (by decide) (fun _ _ _ => trivial)
  have hF17_X : FRM cnt [] (fun z => True) X c17_X := FRM_trans FRM_refl fX17 hle17 (by decide) (fun _ _ _ => trivial)
  have hF17_O : FRM cnt [] (fun z => True) O c17_O := FRM_trans FRM_refl fO17 hle17 (by decide) (fun _ _ _ => trivial)
  have hlnn17 : ∀ z, z < cnt → c17_ln z = ln z := fun z hz => (fl17 z (Nat.lt_of_lt_of_le hz hle17)).trans (rfl)
  have lt20 : r17 < c17_cnt := (p17_1).2.1
  have hn21 : (c17_P 82) this = some tx := ((hex17 this hlt_this (by omega)).2.2.1 82).trans hn1
  have lt_tx22 := ((hB17.1 82 fl_82) this tx hn21).2.1
  have hk_tx := (((CInv_P82 hCI17 :) this).2 tx hn21).1
  have hl1_tx := (((CInv_P82 hCI17 :) this).2 tx hn21).2.1
  have hl2_tx := (((CInv_P82 hCI17 :) this).2 tx hn21).2.2.1
  have hw_tx := (((CInv_P82 hCI17 :) this).2 tx hn21).2.2.2
  have qq0 : wdl ((c17_V 0) r17) 0 (c17_ln r17) = wdl ((V 0) tx) (Int32.toNatClampNeg ((G 87) this)) (Int32.toNatClampNeg ((G 88) this)) := by rw [p17_0, show ((G 87) this + (G 88) this) - (G 87) this = (G 88) this from z_e (by have h := z_sub (a := (G 87) this + (G 88) this) (b := (G 87) this) (by omega) (by omega); omega)]
  have qq1 : (cnt ≤ r17 ∧ r17 < c17_cnt ∧ la17 r17 = nl) := by exact p17_1
  exact pw_some ⟨la17, hag17, hB17, qq0, qq1⟩
abbrev QF_X1_init (κ : Nat → Nat) (wd : Nat) (la : Nat → Nat) (G : Nat → Nat → Int32) (P : Nat → Nat → Option Nat) (U : Nat → Nat → Int64) (V : Nat → Nat → Nat → Int32) (X : Nat → Nat → Nat → Int64) (O : Nat → Nat → Nat → Option Nat) (kd : Nat → Nat) (ln : Nat → Nat) (cnt : Nat) (this : Nat) (p0 : Nat) (p1 : Nat) : ((Nat → Nat → Int32) × (Nat → Nat → Option Nat) × (Nat → Nat → Int64) × (Nat → Nat → Nat → Int32) × (Nat → Nat → Nat → Int64) × (Nat → Nat → Nat → Option Nat) × (Nat → Nat) × (Nat → Nat) × Nat) → Prop := (fun t => ∃ la1 : Nat → Nat, (∀ z, z < cnt → la1 z = la z) ∧ LB la1 (t.2.2.2.2.2.2.2.2) (t.2.1) ∧ (((t.2.1) 20) this = some p0 ∧ ((t.2.1) 21) this = some p1) ∧ ((∃ a, ((t.2.1) 22) this = some a ∧ (t.2.2.2.2.2.2.2.1) a = 0) ∧ (∃ a, ((t.2.1) 23) this = some a ∧ (t.2.2.2.2.2.2.2.1) a = 0)) ∧ (((t.1) 24) this = 0 ∧ ((t.1) 25) this = 0))
set_option maxHeartbeats 4000000 in
set_option maxRecDepth 100000 in
theorem fn_X1_init (κ : Nat → Nat) (wd : Nat) (la : Nat → Nat) (G : Nat → Nat → Int32) (P : Nat → Nat → Option Nat) (U : Nat → Nat → Int64) (V : Nat → Nat → Nat → Int32) (X : Nat → Nat → Nat → Int64) (O : Nat → Nat → Nat → Option Nat) (kd : Nat → Nat) (ln : Nat → Nat) (cnt : Nat) (this : Nat) (p0 : Nat) (p1 : Nat) (hI : CInv κ wd G P V O ln cnt) (hk_this : κ this = 0) (hlt_this : this < cnt) (hln_this : ln this ≤ 2500) (hk_p0 : κ p0 = 100) (hk_p1 : κ p1 = 100) (hp0 : ln p0 ≤ 16) (hp1 : ln p1 ≤ 16) (hB : LB la cnt P) (hlt_p0 : p0 < cnt) (hlt_p1 : p1 < cnt) (hpl0 : la p0 = la this) (hpl1 : la p1 = la this) : pw (f_X1_init G P U V X O kd ln cnt this p0 p1) (sp1 (QF_X1_init κ wd la G P U V X O kd ln cnt this p0 p1)) := by
  unfold f_X1_init
  have zk0 : (0 : Int32).toInt = 0 := by decide +kernel
  refine pw_if (fun hb6 => ?_)
  obtain ⟨hbl6, hbr6⟩ := hb6
  have cl1 := clampI (x := (0 : Int32)) (by omega)
  refine pw_tk ?_
  refine pw_newd (κ := κ) (la := la) (wd := wd) (Ke := 100) (L := la this + 0) (CInv_i (CInv_G43 hI :) (CInv_G44 hI :) (CInv_G45 hI :) (CInv_G60 hI :) (CInv_G83 hI :) (CInv_G84 hI :) (CInv_G85 hI :) (CInv_G87 hI :) (CInv_G88 hI :) (CInv_G102 hI :) (CInv_G125 hI :) (CInv_G126 hI :) (CInv_G127 hI :) (CInv_G141 hI :) (CInv_G160 hI :) (CInv_G161 hI :) (CInv_G162 hI :) (CInv_G165 hI :) (CInv_G166 hI :) (CInv_G183 hI :) (CInv_G200 hI :) (CInv_G203 hI :) (CInv_G222 hI :) (CInv_G231 hI :) (CInv_G233 hI :) (CInv_P0 hI :) (CInv_P1 hI :) (CInv_P2 hI :) (CInv_P3 hI :) (CInv_P4 hI :) (CInv_P5 hI :) (CInv_P20 hI :) (CInv_P21 hI :) (CInv_P22 hI :) (CInv_P23 hI :) (CInv_P40 hI :) (CInv_P41 hI :) (CInv_P42 hI :) (CInv_P61 hI :) (CInv_P62 hI :) (CInv_P63 hI :) (CInv_P64 hI :) (CInv_P65 hI :) (CInv_P66 hI :) (CInv_P82 hI :) (CInv_P101 hI :) (CInv_P103 hI :) (CInv_P104 hI :) (CInv_P105 hI :) (CInv_P106 hI :) (CInv_P108 hI :) (CInv_P109 hI :) (CInv_P110 hI :) (CInv_P120 hI :) (CInv_P121 hI :) (CInv_P122 hI :) (CInv_P123 hI :) (CInv_P140 hI :) (CInv_P164 hI :) (CInv_P180 hI :) (CInv_P181 hI :) (CInv_P182 hI :) (CInv_P185 hI :) (CInv_P186 hI :) (CInv_P187 hI :) (CInv_P201 hI :) (CInv_P202 hI :) (CInv_P220 hI :) (CInv_P221 hI :) (CInv_P224 hI :) (CInv_P225 hI :) (CInv_P226 hI :) (CInv_P227 hI :) (CInv_P228 hI :) (CInv_P229 hI :) (CInv_P230 hI :) (CInv_P232 hI :) (CInv_P234 hI :) (CInv_P235 hI :) (CInv_P236 hI :) (CInv_V1 hI :) (CInv_V2 hI :) (CInv_V3 hI :) (CInv_V9 hI :) (CInv_O0 hI :) (CInv_O1 hI :) (CInv_O2 hI :) (CInv_RA hI :) (CInv_RB hI :) (CInv_RI hI :) (CInv_RM103 hI :) (CInv_RM104 hI :) (CInv_RM108 hI :) (CInv_LN hI :) (CInv_FL hI :) (CInv_W0 hI :) (CInv_KC hI :) (CInv_WK hI :)) (by decide) (by omega) hB (by have q2 := hB.2 this hlt_this; have q3 := hB.2 p0 hlt_p0; omega) (fun κ6 la6 G6 P6 U6 V6 X6 O6 kd6 ln6 cnt6 hCI6 hcn6 hkn6 hln6 hex6 hvz6 hfs6 hB6 hL6 ag6 fU6 fX6 => ?_)
  have hx4 : ∀ a, κ a ≠ 0 → κ6 a = κ a := fun a ha => (hex6 a (kclt (CInv_KC hI :) ha) (Nat.ne_of_lt (kclt (CInv_KC hI :) ha))).1
  have ccf6 : cnt ≤ cnt6 := by rw [hcn6]; exact Nat.le_succ _
  have kx5 : ∀ a, κ a ≠ 0 → κ6 a = κ a := hx4
  have hk6 : κ6 this = 0 := (hex6 this (by omega) (by omega)).1.trans hk_this
  have hl7 := (hex6 this (by omega) (by omega)).2.2.2.2.2
  have hl8 := (hex6 p0 (kcl0 (CInv_KC hI :) hk_p0 (by decide)) (Nat.ne_of_lt (kcl0 (CInv_KC hI :) hk_p0 (by decide)))).2.2.2.2.2
  have hk9 : κ6 p0 = 100 := kxk hx4 hk_p0 (by decide)
  have hl10 := (hex6 p1 (kcl0 (CInv_KC hI :) hk_p1 (by decide)) (Nat.ne_of_lt (kcl0 (CInv_KC hI :) hk_p1 (by decide)))).2.2.2.2.2
  have hk11 : κ6 p1 = 100 := kxk hx4 hk_p1 (by decide)
  have g12 : la6 this = la this := ag6 this hlt_this
  have lt13 : this < cnt6 := Nat.lt_of_lt_of_le hlt_this ccf6
  have g14 : la6 p0 = la p0 := ag6 p0 hlt_p0
  have lt15 : p0 < cnt6 := Nat.lt_of_lt_of_le hlt_p0 ccf6
  have g16 : la6 p1 = la p1 := ag6 p1 hlt_p1
  have lt17 : p1 < cnt6 := Nat.lt_of_lt_of_le hlt_p1 ccf6
  have hag6 : ∀ z, z < cnt → la6 z = la z := fun z hz => (ag6 z (Nat.lt_of_lt_of_le hz (Nat.le_refl _))).trans (rfl)
  have fG6 : FRM cnt [] (fun _ => True) G G6 := fun g z hz _ => (hex6 z hz (Nat.ne_of_lt hz)).2.1 g
  have fP6 : FRM cnt [] (fun _ => True) P P6 := fun g z hz _ => (hex6 z hz (Nat.ne_of_lt hz)).2.2.1 g
  have fV6 : FRM cnt [] (fun _ => True) V V6 := fun g z hz _ => (hex6 z hz (Nat.ne_of_lt hz)).2.2.2.1 g
  have fO6 : FRM cnt [] (fun _ => True) O O6 := fun g z hz _ => (hex6 z hz (Nat.ne_of_lt hz)).2.2.2.2.1 g
  have fl6 : ∀ z, z < cnt → ln6 z = ln z := fun z hz => (hex6 z hz (Nat.ne_of_lt hz)).2.2.2.2.2
  have lt18 : cnt < cnt6 := by rw [hcn6]; exact Nat.lt_succ_self _
  refine pw_vl (fun m8 em8 => ?_)
  have hl19 : LC 22 la6 cnt6 m8 := LC_up (hB6.1 22 fl_22) em8 (by omega) (by omega) (lk_22.mpr (by omega))
  have hp20 : PB κ6 ln6 wd 2 100 0 16 0 m8 := by rw [em8]; exact PB_up (CInv_P22 hCI6 :) hkn6 (by omega) (by omega) (fun h9 => absurd h9 (by decide))
  have sm8 : m8 this = some cnt := by rw [em8]; exact va_up_self _ _ _
  refine pw_if (fun hb13 => ?_)
  obtain ⟨hbl13, hbr13⟩ := hb13
  have cl21 := clampI (x := (0 : Int32)) (by omega)
  refine pw_tk ?_
  refine pw_newd (κ := κ6) (la := la6) (wd := wd) (Ke := 100) (L := la6 this + 0) (CInv_i (CInv_G43 hCI6 :) (CInv_G44 hCI6 :) (CInv_G45 hCI6 :) (CInv_G60 hCI6 :) (CInv_G83 hCI6 :) (CInv_G84 hCI6 :) (CInv_G85 hCI6 :) (CInv_G87 hCI6 :) (CInv_G88 hCI6 :) (CInv_G102 hCI6 :) (CInv_G125 hCI6 :) (CInv_G126 hCI6 :) (CInv_G127 hCI6 :) (CInv_G141 hCI6 :) (CInv_G160 hCI6 :) (CInv_G161 hCI6 :) (CInv_G162 hCI6 :) (CInv_G165 hCI6 :) (CInv_G166 hCI6 :) (CInv_G183 hCI6 :) (CInv_G200 hCI6 :) (CInv_G203 hCI6 :) (CInv_G222 hCI6 :) (CInv_G231 hCI6 :) (CInv_G233 hCI6 :) (CInv_P0 hCI6 :) (CInv_P1 hCI6 :) (CInv_P2 hCI6 :) (CInv_P3 hCI6 :) (CInv_P4 hCI6 :) (CInv_P5 hCI6 :) (CInv_P20 hCI6 :) (CInv_P21 hCI6 :) hp20 (CInv_P23 hCI6 :) (CInv_P40 hCI6 :) (CInv_P41 hCI6 :) (CInv_P42 hCI6 :) (CInv_P61 hCI6 :) (CInv_P62 hCI6 :) (CInv_P63 hCI6 :) (CInv_P64 hCI6 :) (CInv_P65 hCI6 :) (CInv_P66 hCI6 :) (CInv_P82 hCI6 :) (CInv_P101 hCI6 :) (CInv_P103 hCI6 :) (CInv_P104 hCI6 :) (CInv_P105 hCI6 :) (CInv_P106 hCI6 :) (CInv_P108 hCI6 :) (CInv_P109 hCI6 :) (CInv_P110 hCI6 :) (CInv_P120 hCI6 :) (CInv_P121 hCI6 :) (CInv_P122 hCI6 :) (CInv_P123 hCI6 :) (CInv_P140 hCI6 :) (CInv_P164 hCI6 :) (CInv_P180 hCI6 :) (CInv_P181 hCI6 :) (CInv_P182 hCI6 :) (CInv_P185 hCI6 :) (CInv_P186 hCI6 :) (CInv_P187 hCI6 :) (CInv_P201 hCI6 :) (CInv_P202 hCI6 :) (CInv_P220 hCI6 :) (CInv_P221 hCI6 :) (CInv_P224 hCI6 :) (CInv_P225 hCI6 :) (CInv_P226 hCI6 :) (CInv_P227 hCI6 :) (CInv_P228 hCI6 :) (CInv_P229 hCI6 :) (CInv_P230 hCI6 :) (CInv_P232 hCI6 :) (CInv_P234 hCI6 :) (CInv_P235 hCI6 :) (CInv_P236 hCI6 :) (CInv_V1 hCI6 :) (CInv_V2 hCI6 :) (CInv_V3 hCI6 :) (CInv_V9 hCI6 :) (CInv_O0 hCI6 :) (CInv_O1 hCI6 :) (CInv_O2 hCI6 :) (CInv_RA hCI6 :) (CInv_RB hCI6 :) (CInv_RI hCI6 :) (CInv_RM103 hCI6 :) (CInv_RM104 hCI6 :) (CInv_RM108 hCI6 :) (CInv_LN hCI6 :) (CInv_FL hCI6 :) (CInv_W0 hCI6 :) (CInv_KC hCI6 :) (CInv_WK hCI6 :)) (by decide) (by omega) (LB_set hB6 hl19) (by have q22 := hB6.2 this lt13; have q23 := hB6.2 p0 lt15; omega) (fun κ13 la13 G13 P13 U13 V13 X13 O13 kd13 ln13 cnt13 hCI13 hcn13 hkn13 hln13 hex13 hvz13 hfs13 hB13 hL13 ag13 fU13 fX13 => ?_)
  have hx24 : ∀ a, κ6 a ≠ 0 → κ13 a = κ6 a := fun a ha => (hex13 a (kclt (CInv_KC hCI6 :) ha) (Nat.ne_of_lt (kclt (CInv_KC hCI6 :) ha))).1
  have ccf13 : cnt6 ≤ cnt13 := by rw [hcn13]; exact Nat.le_succ _
  have kx25 : ∀ a, κ a ≠ 0 → κ13 a = κ a := kxt kx5 hx24
  have hk26 : κ13 this = 0 := (hex13 this (by omega) (by omega)).1.trans hk6
  have hl27 := (hex13 this (by omega) (by omega)).2.2.2.2.2
  have hl28 := (hex13 p0 (kcl0 (CInv_KC hCI6 :) hk9 (by decide)) (Nat.ne_of_lt (kcl0 (CInv_KC hCI6 :) hk9 (by decide)))).2.2.2.2.2
  have hk29 : κ13 p0 = 100 := kxk hx24 hk9 (by decide)
  have hl30 := (hex13 p1 (kcl0 (CInv_KC hCI6 :) hk11 (by decide)) (Nat.ne_of_lt (kcl0 (CInv_KC hCI6 :) hk11 (by decide)))).2.2.2.2.2
  have hk31 : κ13 p1 = 100 := kxk hx24 hk11 (by decide)
  have g32 : la13 this = la this := (ag13 this lt13).trans g12
  have lt33 : this < cnt13 := Nat.lt_of_lt_of_le lt13 ccf13
  have g34 : la13 p0 = la p0 := (ag13 p0 lt15).trans g14
  have lt35 : p0 < cnt13 := Nat.lt_of_lt_of_le lt15 ccf13
  have g36 : la13 p1 = la p1 := (ag13 p1 lt17).trans g16
  have lt37 : p1 < cnt13 := Nat.lt_of_lt_of_le lt17 ccf13
  have g38 : la13 cnt = la6 cnt := ag13 cnt lt18
  have lt39 : cnt < cnt13 := Nat.lt_of_lt_of_le lt18 ccf13
  have hag13 : ∀ z, z < cnt → la13 z = la z := fun z hz => (ag13 z (Nat.lt_of_lt_of_le hz (Nat.le_trans (Nat.le_refl _) ccf6))).trans (hag6 z hz)
  have fG13 : FRM cnt6 [] (fun _ => True) G6 G13 := fun g z hz _ => (hex13 z hz (Nat.ne_of_lt hz)).2.1 g
  have fP13 : FRM cnt6 [] (fun _ => True) (va_up P6 22 m8) P13 := fun g z hz _ => (hex13 z hz (Nat.ne_of_lt hz)).2.2.1 g
  have fV13 : FRM cnt6 [] (fun _ => True) V6 V13 := fun g z hz _ => (hex13 z hz (Nat.ne_of_lt hz)).2.2.2.1 g
  have fO13 : FRM cnt6 [] (fun _ => True) O6 O13 := fun g z hz _ => (hex13 z hz (Nat.ne_of_lt hz)).2.2.2.2.1 g
  have fl13 : ∀ z, z < cnt6 → ln13 z = ln6 z := fun z hz => (hex13 z hz (Nat.ne_of_lt hz)).2.2.2.2.2
  have lt40 : cnt6 < cnt13 := by rw [hcn13]; exact Nat.lt_succ_self _
  have hn41 : (P13 22) this = some cnt := ((hex13 this lt13 (Nat.ne_of_lt lt13)).2.2.1 22).trans sm8
  have lt_cnt42 := ((hB13.1 22 fl_22) this cnt hn41).2.1
  have lb_cnt42 : la13 cnt = la13 this + 0 := lk_22.mp ((hB13.1 22 fl_22) this cnt hn41).2.2
  have hk_cnt := (((CInv_P22 hCI13 :) this).2 cnt hn41).1
  have hl1_cnt := (((CInv_P22 hCI13 :) this).2 cnt hn41).2.1
  have hl2_cnt := (((CInv_P22 hCI13 :) this).2 cnt hn41).2.2.1
  have hw_cnt := (((CInv_P22 hCI13 :) this).2 cnt hn41).2.2.2
  have hz_cnt : (Int32.ofNat (ln13 cnt)).toInt = ((ln13 cnt : Nat) : Int) := ofN_eq (by first | exact Nat.le_trans hl2_cnt (by decide) | omega)
  refine pw_vl (fun m15 em15 => ?_)
  have hl43 : LC 23 la13 cnt13 m15 := LC_up (hB13.1 23 fl_23) em15 (by omega) (by omega) (lk_23.mpr (by omega))
  have hp44 : PB κ13 ln13 wd 2 100 0 16 0 m15 := by rw [em15]; exact PB_up (CInv_P23 hCI13 :) hkn13 (by omega) (by omega) (fun h9 => absurd h9 (by decide))
  have sm15 : m15 this = some cnt6 := by rw [em15]; exact va_up_self _ _ _
  refine pw_vl (fun m20 em20 => ?_)
  have sm20 : (m20 this).toInt = 0 := by rw [em20, va_up_self]; decide +kernel
  refine pw_vl (fun m25 em25 => ?_)
  have sm25 : (m25 this).toInt = 0 := by rw [em25, va_up_self]; decide +kernel
  refine pw_vl (fun m30 em30 => ?_)
  have hl45 : LC 20 la13 cnt13 m30 := LC_up (hB13.1 20 fl_20) em30 (by omega) (by omega) (lk_20.mpr (by omega))
  have hp46 : PB κ13 ln13 wd 2 100 0 16 0 m30 := by rw [em30]; exact PB_up (CInv_P20 hCI13 :) hk29 (by omega) (by omega) (fun h9 => absurd h9 (by decide))
  have sm30 : m30 this = some p0 := by rw [em30]; exact va_up_self _ _ _
  refine pw_vl (fun m35 em35 => ?_)
  have hl47 : LC 21 la13 cnt13 m35 := LC_up (hB13.1 21 fl_21) em35 (by omega) (by omega) (lk_21.mpr (by omega))
  have hp48 : PB κ13 ln13 wd 2 100 0 16 0 m35 := by rw [em35]; exact PB_up (CInv_P21 hCI13 :) hk31 (by omega) (by omega) (fun h9 => absurd h9 (by decide))
  have sm35 : m35 this = some p1 := by rw [em35]; exact va_up_self _ _ _
  have qq0 : m30 this = some p0 ∧ m35 this = some p1 := by exact ⟨sm30, sm35⟩
  have qq1 : (∃ a, (P13 22) this = some a ∧ ln13 a = 0) ∧ (∃ a, m15 this = some a ∧ ln13 a = 0) := by exact ⟨⟨_, hn41, by rw [(hex13 cnt (by omega) (by omega)).2.2.2.2.2, hln6]; decide⟩, ⟨_, sm15, by rw [hln13]; decide⟩⟩
  have qq2 : m20 this = 0 ∧ m25 this = 0 := by exact ⟨z_e (by omega), z_e (by omega)⟩
  exact pw_some ⟨la13, hag13, (LB_set (LB_set (LB_set hB13 hl43) hl45) hl47), qq0, qq1, qq2⟩
