abbrev QC_J7_checkLength_df160 (κ : Nat → Nat) (wd : Nat) (G : Nat → Nat → Int32) (P : Nat → Nat → Option Nat) (U : Nat → Nat → Int64) (V : Nat → Nat → Nat → Int32) (X : Nat → Nat → Nat → Int64) (O : Nat → Nat → Nat → Option Nat) (kd : Nat → Nat) (ln : Nat → Nat) (cnt : Nat) (p0 : Int32) (p1 : Int32) : (Unit) → Prop := (fun t => True)
set_option maxHeartbeats 4000000 in
set_option maxRecDepth 100000 in
theorem ok_J7_checkLength_df160 (κ : Nat → Nat) (wd : Nat) (G : Nat → Nat → Int32) (P : Nat → Nat → Option Nat) (U : Nat → Nat → Int64) (V : Nat → Nat → Nat → Int32) (X : Nat → Nat → Nat → Int64) (O : Nat → Nat → Nat → Option Nat) (kd : Nat → Nat) (ln : Nat → Nat) (cnt : Nat) (p0 : Int32) (p1 : Int32) (hzLN : LN κ ln) (hp0 : p0.toInt ≤ p1.toInt) : wp (f_J7_checkLength_df160 G P U V X O kd ln cnt p0 p1) (QC_J7_checkLength_df160 κ wd G P U V X O kd ln cnt p0 p1) := by
  unfold f_J7_checkLength_df160
  have r_p0 := i32r p0
  have r_p1 := i32r p1
  refine wp_ite (fun c2 => ?_) (fun c2 => ?_)
  · have c2 := (z_le _ _).mp c2
    exact ⟨_, rfl, trivial⟩
  · have c2 := z_nle c2
    exfalso; omega
abbrev QC_J7_copyOfRangeByte_39247 (κ : Nat → Nat) (wd : Nat) (G : Nat → Nat → Int32) (P : Nat → Nat → Option Nat) (U : Nat → Nat → Int64) (V : Nat → Nat → Nat → Int32) (X : Nat → Nat → Nat → Int64) (O : Nat → Nat → Nat → Option Nat) (kd : Nat → Nat) (ln : Nat → Nat) (cnt : Nat) (p0 : Nat) (p1 : Int32) (p2 : Int32) : ((Nat × (Nat → Nat → Int32) × (Nat → Nat → Option Nat) × (Nat → Nat → Int64) × (Nat → Nat → Nat → Int32) × (Nat → Nat → Nat → Int64) × (Nat → Nat → Nat → Option Nat) × (Nat → Nat) × (Nat → Nat) × Nat) × Nat × Nat) → Prop := (fun t => ∃ κ1 : Nat → Nat, (CInv κ1 wd (t.1.2.1) (t.1.2.2.1) (t.1.2.2.2.2.1) (t.1.2.2.2.2.2.2.1) (t.1.2.2.2.2.2.2.2.2.1) (t.1.2.2.2.2.2.2.2.2.2)) ∧ (∀ a, κ a ≠ 0 → κ1 a = κ a) ∧ (cnt ≤ (t.1.2.2.2.2.2.2.2.2.2)) ∧ (EX cnt cnt κ κ1 G (t.1.2.1) P (t.1.2.2.1) V (t.1.2.2.2.2.1) O (t.1.2.2.2.2.2.2.1) ln (t.1.2.2.2.2.2.2.2.2.1)) ∧ (κ1 (t.1.1) = 100) ∧ ((t.1.2.2.2.2.2.2.2.2.1) (t.1.1) ≤ 16) ∧ (cnt ≤ (t.1.1)) ∧ ((t.2.1) ≤ 1) ∧ ((t.2.2) ≤ 16))
set_option maxHeartbeats 4000000 in
set_option maxRecDepth 100000 in
theorem ok_J7_copyOfRangeByte_39247 (κ : Nat → Nat) (wd : Nat) (G : Nat → Nat → Int32) (P : Nat → Nat → Option Nat) (U : Nat → Nat → Int64) (V : Nat → Nat → Nat → Int32) (X : Nat → Nat → Nat → Int64) (O : Nat → Nat → Nat → Option Nat) (kd : Nat → Nat) (ln : Nat → Nat) (cnt : Nat) (p0 : Nat) (p1 : Int32) (p2 : Int32) (hI : CInv κ wd G P V O ln cnt) (hk_p0 : κ p0 = 100) (hp0 : (0 ≤ p1.toInt ∧ p1.toInt ≤ p2.toInt ∧ p2.toInt ≤ ((ln p0 : Nat) : Int) ∧ p2.toInt - p1.toInt ≤ 16)) : wp (f_J7_copyOfRangeByte_39247 G P U V X O kd ln cnt p0 p1 p2) (QC_J7_copyOfRangeByte_39247 κ wd G P U V X O kd ln cnt p0 p1 p2) := by
  unfold f_J7_copyOfRangeByte_39247
  obtain ⟨hzG43, hzG44, hzG45, hzG60, hzG83, hzG84, hzG85, hzG87, hzG88, hzG102, hzG125, hzG126, hzG127, hzG141, hzG160, hzG161, hzG162, hzG165, hzG166, hzG183, hzG200, hzG203, hzG222, hzG231, hzG233, hzP0, hzP1, hzP2, hzP3, hzP4, hzP5, hzP20, hzP21, hzP22, hzP23, hzP40, hzP41, hzP42, hzP61, hzP62, hzP63, hzP64, hzP65, hzP66, hzP82, hzP101, hzP103, hzP104, hzP105, hzP106, hzP108, hzP109, hzP110, hzP120, hzP121, hzP122, hzP123, hzP140, hzP164, hzP180, hzP181, hzP182, hzP185, hzP186, hzP187, hzP201, hzP202, hzP220, hzP221, hzP224, hzP225, hzP226, hzP227, hzP228, hzP229, hzP230, hzP232, hzP234, hzP235, hzP236, hzV1, hzV2, hzV3, hzV9, hzO0, hzO1, hzO2, hzRA, hzRB, hzRI, hzRM103, hzRM104, hzRM108, hzLN, hzFL, hzW0, hzKC, hzWK⟩ := hI
  refine wp_sh0 ?_
  have exr : EX cnt cnt κ κ G G P P V V O O ln ln := EX_refl
  have zk0 : (0 : Int32).toInt = 0 := by decide +kernel
  have r_p1 := i32r p1
  have r_p2 := i32r p2
  have hl0 := hzLN p0 (by rw [hk_p0]; decide)
  obtain ⟨u2, hc2, hq2⟩ := ok_J7_checkLength_df160 κ wd G P U V X O kd ln cnt p1 p2 hzLN (show p1.toInt ≤ p2.toInt from by omega)
  refine wp_b0 hc2 ?_
  clear hc2
  have f1 : (p2 - p1).toInt = p2.toInt - p1.toInt := z_sub (by omega) (by omega)
  refine wp_vl (fun x8 ex8 => ?_)
  have f2 : x8.toInt = (p2 - p1).toInt := congrArg Int32.toInt ex8
  clear ex8
  refine wp_if ⟨by omega, by omega⟩ ?_
  have cl3 := clampI (x := x8) (by omega)
  refine wp_tk ?_
  refine wp_newc (κ := κ) (wd := wd) (Ke := 100) ⟨hzG43, hzG44, hzG45, hzG60, hzG83, hzG84, hzG85, hzG87, hzG88, hzG102, hzG125, hzG126, hzG127, hzG141, hzG160, hzG161, hzG162, hzG165, hzG166, hzG183, hzG200, hzG203, hzG222, hzG231, hzG233, hzP0, hzP1, hzP2, hzP3, hzP4, hzP5, hzP20, hzP21, hzP22, hzP23, hzP40, hzP41, hzP42, hzP61, hzP62, hzP63, hzP64, hzP65, hzP66, hzP82, hzP101, hzP103, hzP104, hzP105, hzP106, hzP108, hzP109, hzP110, hzP120, hzP121, hzP122, hzP123, hzP140, hzP164, hzP180, hzP181, hzP182, hzP185, hzP186, hzP187, hzP201, hzP202, hzP220, hzP221, hzP224, hzP225, hzP226, hzP227, hzP228, hzP229, hzP230, hzP232, hzP234, hzP235, hzP236, hzV1, hzV2, hzV3, hzV9, hzO0, hzO1, hzO2, hzRA, hzRB, hzRI, hzRM103, hzRM104, hzRM108, hzLN, hzFL, hzW0, hzKC, hzWK⟩ (by decide) (by omega) (fun κ10 G10 P10 U10 V10 X10 O10 kd10 ln10 cnt10 hCI10 hcn10 hkn10 hln10 hex10 hvz10 hfs10 => ?_)
  obtain ⟨h10_G43, h10_G44, h10_G45, h10_G60, h10_G83, h10_G84, h10_G85, h10_G87, h10_G88, h10_G102, h10_G125, h10_G126, h10_G127, h10_G141, h10_G160, h10_G161, h10_G162, h10_G165, h10_G166, h10_G183, h10_G200, h10_G203, h10_G222, h10_G231, h10_G233, h10_P0, h10_P1, h10_P2, h10_P3, h10_P4, h10_P5, h10_P20, h10_P21, h10_P22, h10_P23, h10_P40, h10_P41, h10_P42, h10_P61, h10_P62, h10_P63, h10_P64, h10_P65, h10_P66, h10_P82, h10_P101, h10_P103, h10_P104, h10_P105, h10_P106, h10_P108, h10_P109, h10_P110, h10_P120, h10_P121, h10_P122, h10_P123, h10_P140, h10_P164, h10_P180, h10_P181, h10_P182, h10_P185, h10_P186, h10_P187, h10_P201, h10_P202, h10_P220, h10_P221, h10_P224, h10_P225, h10_P226, h10_P227, h10_P228, h10_P229, h10_P230, h10_P232, h10_P234, h10_P235, h10_P236, h10_V1, h10_V2, h10_V3, h10_V9, h10_O0, h10_O1, h10_O2, h10_RA, h10_RB, h10_RI, h10_RM103, h10_RM104, h10_RM108, h10_LN, h10_FL, h10_W0, h10_KC, h10_WK⟩ := hCI10
  have hx4 : ∀ a, κ a ≠ 0 → κ10 a = κ a := fun a ha => (hex10 a (kclt hzKC ha) (Nat.ne_of_lt (kclt hzKC ha))).1
  have kx5 : ∀ a, κ a ≠ 0 → κ10 a = κ a := hx4
  have hl6 := (hex10 p0 (kcl0 hzKC hk_p0 (by decide)) (Nat.ne_of_lt (kcl0 hzKC hk_p0 (by decide)))).2.2.2.2.2
  have hk7 : κ10 p0 = 100 := kxk hx4 hk_p0 (by decide)
  have ex8 : EX cnt cnt κ κ10 G G10 P P10 V V10 O O10 ln ln10 := EX_trans exr hex10 (by omega) (by omega)
  have hz_p0 : (Int32.ofNat (ln10 p0)).toInt = ((ln10 p0 : Nat) : Int) := ofN_eq (h10_LN p0 (by rw [hk7]; decide))
  have hzb_p0 := h10_LN p0 (by rw [hk7]; decide)
  have f9 : ((Int32.ofNat (ln10 p0)) - p1).toInt = (Int32.ofNat (ln10 p0)).toInt - p1.toInt := z_sub (by omega) (by omega)
  have mm10 := z_min x8 ((Int32.ofNat (ln10 p0)) - p1)
  refine wp_if ⟨by omega, by omega, by omega, by omega, by omega⟩ ?_
  refine wp_vl (fun m27 em27 => ?_)
  have ex11 : EX cnt cnt κ κ10 G G10 P P10 V (va_up V10 0 m27) O O10 ln ln10 := by rw [em27]; exact EX_V ex8 (by omega)
  clear em27
  exact ⟨_, rfl, ⟨κ10, (show CInv κ10 wd G10 P10 (va_up V10 0 m27) O10 ln10 cnt10 from ⟨h10_G43, h10_G44, h10_G45, h10_G60, h10_G83, h10_G84, h10_G85, h10_G87, h10_G88, h10_G102, h10_G125, h10_G126, h10_G127, h10_G141, h10_G160, h10_G161, h10_G162, h10_G165, h10_G166, h10_G183, h10_G200, h10_G203, h10_G222, h10_G231, h10_G233, h10_P0, h10_P1, h10_P2, h10_P3, h10_P4, h10_P5, h10_P20, h10_P21, h10_P22, h10_P23, h10_P40, h10_P41, h10_P42, h10_P61, h10_P62, h10_P63, h10_P64, h10_P65, h10_P66, h10_P82, h10_P101, h10_P103, h10_P104, h10_P105, h10_P106, h10_P108, h10_P109, h10_P110, h10_P120, h10_P121, h10_P122, h10_P123, h10_P140, h10_P164, h10_P180, h10_P181, h10_P182, h10_P185, h10_P186, h10_P187, h10_P201, h10_P202, h10_P220, h10_P221, h10_P224, h10_P225, h10_P226, h10_P227, h10_P228, h10_P229, h10_P230, h10_P232, h10_P234, h10_P235, h10_P236, h10_V1, h10_V2, h10_V3, h10_V9, h10_O0, h10_O1, h10_O2, h10_RA, h10_RB, h10_RI, h10_RM103, h10_RM104, h10_RM108, h10_LN, h10_FL, h10_W0, h10_KC, h10_WK⟩), kx5, (show cnt ≤ cnt10 from by omega), (show EX cnt cnt κ κ10 G G10 P P10 V (va_up V10 0 m27) O O10 ln ln10 from ex11), hkn10, (show ln10 cnt ≤ 16 from by omega), (show cnt ≤ cnt from by omega), (show (0 + 1) ≤ 1 from by omega), (show (0 + (Int32.toNatClampNeg x8)) ≤ 16 from by omega)⟩⟩
abbrev QC_J7_copyOfRange_39247 (κ : Nat → Nat) (wd : Nat) (G : Nat → Nat → Int32) (P : Nat → Nat → Option Nat) (U : Nat → Nat → Int64) (V : Nat → Nat → Nat → Int32) (X : Nat → Nat → Nat → Int64) (O : Nat → Nat → Nat → Option Nat) (kd : Nat → Nat) (ln : Nat → Nat) (cnt : Nat) (p0 : Nat) (p1 : Int32) (p2 : Int32) : ((Nat × (Nat → Nat → Int32) × (Nat → Nat → Option Nat) × (Nat → Nat → Int64) × (Nat → Nat → Nat → Int32) × (Nat → Nat → Nat → Int64) × (Nat → Nat → Nat → Option Nat) × (Nat → Nat) × (Nat → Nat) × Nat) × Nat × Nat) → Prop := (fun t => ∃ κ1 : Nat → Nat, (CInv κ1 wd (t.1.2.1) (t.1.2.2.1) (t.1.2.2.2.2.1) (t.1.2.2.2.2.2.2.1) (t.1.2.2.2.2.2.2.2.2.1) (t.1.2.2.2.2.2.2.2.2.2)) ∧ (∀ a, κ a ≠ 0 → κ1 a = κ a) ∧ (cnt ≤ (t.1.2.2.2.2.2.2.2.2.2)) ∧ (EX cnt cnt κ κ1 G (t.1.2.1) P (t.1.2.2.1) V (t.1.2.2.2.2.1) O (t.1.2.2.2.2.2.2.1) ln (t.1.2.2.2.2.2.2.2.2.1)) ∧ (κ1 (t.1.1) = 100) ∧ ((t.1.2.2.2.2.2.2.2.2.1) (t.1.1) ≤ 16) ∧ (cnt ≤ (t.1.1)) ∧ ((t.2.1) ≤ 1) ∧ ((t.2.2) ≤ 16))
set_option maxHeartbeats 4000000 in
set_option maxRecDepth 100000 in
theorem ok_J7_copyOfRange_39247 (κ : Nat → Nat) (wd : Nat) (G : Nat → Nat → Int32) (P : Nat → Nat → Option Nat) (U : Nat → Nat → Int64) (V : Nat → Nat → Nat → Int32) (X : Nat → Nat → Nat → Int64) (O : Nat → Nat → Nat → Option Nat) (kd : Nat → Nat) (ln : Nat → Nat) (cnt : Nat) (p0 : Nat) (p1 : Int32) (p2 : Int32) (hI : CInv κ wd G P V O ln cnt) (hk_p0 : κ p0 = 100) (hp0 : (0 ≤ p1.toInt ∧ p1.toInt ≤ p2.toInt ∧ p2.toInt ≤ ((ln p0 : Nat) : Int) ∧ p2.toInt - p1.toInt ≤ 16)) (hp1 : 1 ≤ p1.toInt) : wp (f_J7_copyOfRange_39247 G P U V X O kd ln cnt p0 p1 p2) (QC_J7_copyOfRange_39247 κ wd G P U V X O kd ln cnt p0 p1 p2) := by
  unfold f_J7_copyOfRange_39247
  obtain ⟨hzG43, hzG44, hzG45, hzG60, hzG83, hzG84, hzG85, hzG87, hzG88, hzG102, hzG125, hzG126, hzG127, hzG141, hzG160, hzG161, hzG162, hzG165, hzG166, hzG183, hzG200, hzG203, hzG222, hzG231, hzG233, hzP0, hzP1, hzP2, hzP3, hzP4, hzP5, hzP20, hzP21, hzP22, hzP23, hzP40, hzP41, hzP42, hzP61, hzP62, hzP63, hzP64, hzP65, hzP66, hzP82, hzP101, hzP103, hzP104, hzP105, hzP106, hzP108, hzP109, hzP110, hzP120, hzP121, hzP122, hzP123, hzP140, hzP164, hzP180, hzP181, hzP182, hzP185, hzP186, hzP187, hzP201, hzP202, hzP220, hzP221, hzP224, hzP225, hzP226, hzP227, hzP228, hzP229, hzP230, hzP232, hzP234, hzP235, hzP236, hzV1, hzV2, hzV3, hzV9, hzO0, hzO1, hzO2, hzRA, hzRB, hzRI, hzRM103, hzRM104, hzRM108, hzLN, hzFL, hzW0, hzKC, hzWK⟩ := hI
  refine wp_sh0 ?_
  have exr : EX cnt cnt κ κ G G P P V V O O ln ln := EX_refl
  have zk0 : (0 : Int32).toInt = 0 := by decide +kernel
  have r_p1 := i32r p1
  have r_p2 := i32r p2
  refine wp_jn (fun j10 => wp (j10 ()) (sh (QC_J7_copyOfRange_39247 κ wd G P U V X O kd ln cnt p0 p1 p2) 0 0)) ?_ ?_
  · show wp _ _
    obtain ⟨⟨⟨r13, c13_G, c13_P, c13_U, c13_V, c13_X, c13_O, c13_kd, c13_ln, c13_cnt⟩, v1_13, v2_13⟩, hc13, hq13⟩ := ok_J7_copyOfRangeByte_39247 κ wd G P U V X O kd ln cnt p0 p1 p2 ⟨hzG43, hzG44, hzG45, hzG60, hzG83, hzG84, hzG85, hzG87, hzG88, hzG102, hzG125, hzG126, hzG127, hzG141, hzG160, hzG161, hzG162, hzG165, hzG166, hzG183, hzG200, hzG203, hzG222, hzG231, hzG233, hzP0, hzP1, hzP2, hzP3, hzP4, hzP5, hzP20, hzP21, hzP22, hzP23, hzP40, hzP41, hzP42, hzP61, hzP62, hzP63, hzP64, hzP65, hzP66, hzP82, hzP101, hzP103, hzP104, hzP105, hzP106, hzP108, hzP109, hzP110, hzP120, hzP121, hzP122, hzP123, hzP140, hzP164, hzP180, hzP181, hzP182, hzP185, hzP186, hzP187, hzP201, hzP202, hzP220, hzP221, hzP224, hzP225, hzP226, hzP227, hzP228, hzP229, hzP230, hzP232, hzP234, hzP235, hzP236, hzV1, hzV2, hzV3, hzV9, hzO0, hzO1, hzO2, hzRA, hzRB, hzRI, hzRM103, hzRM104, hzRM108, hzLN, hzFL, hzW0, hzKC, hzWK⟩ hk_p0 (show (0 ≤ p1.toInt ∧ p1.toInt ≤ p2.toInt ∧ p2.toInt ≤ ((ln p0 : Nat) : Int) ∧ p2.toInt - p1.toInt ≤ 16) from by omega)
    obtain ⟨κ13_0, hCI13, hxx13, hcc2, hex3, hk4, f5, f6, f7, f8⟩ : ∃ κ1 : Nat → Nat, (CInv κ1 wd c13_G c13_P c13_V c13_O c13_ln c13_cnt) ∧ (∀ a, κ a ≠ 0 → κ1 a = κ a) ∧ (cnt ≤ c13_cnt) ∧ (EX cnt cnt κ κ1 G c13_G P c13_P V c13_V O c13_O ln c13_ln) ∧ (κ1 r13 = 100) ∧ (c13_ln r13 ≤ 16) ∧ (cnt ≤ r13) ∧ (v1_13 ≤ 1) ∧ (v2_13 ≤ 16) := hq13
    obtain ⟨h13_G43, h13_G44, h13_G45, h13_G60, h13_G83, h13_G84, h13_G85, h13_G87, h13_G88, h13_G102, h13_G125, h13_G126, h13_G127, h13_G141, h13_G160, h13_G161, h13_G162, h13_G165, h13_G166, h13_G183, h13_G200, h13_G203, h13_G222, h13_G231, h13_G233, h13_P0, h13_P1, h13_P2, h13_P3, h13_P4, h13_P5, h13_P20, h13_P21, h13_P22, h13_P23, h13_P40, h13_P41, h13_P42, h13_P61, h13_P62, h13_P63, h13_P64, h13_P65, h13_P66, h13_P82, h13_P101, h13_P103, h13_P104, h13_P105, h13_P106, h13_P108, h13_P109, h13_P110, h13_P120, h13_P121, h13_P122, h13_P123, h13_P140, h13_P164, h13_P180, h13_P181, h13_P182, h13_P185, h13_P186, h13_P187, h13_P201, h13_P202, h13_P220, h13_P221, h13_P224, h13_P225, h13_P226, h13_P227, h13_P228, h13_P229, h13_P230, h13_P232, h13_P234, h13_P235, h13_P236, h13_V1, h13_V2, h13_V3, h13_V9, h13_O0, h13_O1, h13_O2, h13_RA, h13_RB, h13_RI, h13_RM103, h13_RM104, h13_RM108, h13_LN, h13_FL, h13_W0, h13_KC, h13_WK⟩ := hCI13
    have kx9 : ∀ a, κ a ≠ 0 → κ13_0 a = κ a := hxx13
    have hl10 := (hex3 p0 (kcl0 hzKC hk_p0 (by decide)) (Nat.ne_of_lt (kcl0 hzKC hk_p0 (by decide)))).2.2.2.2.2
    have hk11 : κ13_0 p0 = 100 := kxk hxx13 hk_p0 (by decide)
    have ex12 : EX cnt cnt κ κ13_0 G c13_G P c13_P V c13_V O c13_O ln c13_ln := EX_trans exr hex3 (by omega) (by omega)
    refine wp_bA10 hc13 ?_
    exact ⟨_, rfl, ⟨κ13_0, (show CInv κ13_0 wd c13_G c13_P c13_V c13_O c13_ln c13_cnt from ⟨h13_G43, h13_G44, h13_G45, h13_G60, h13_G83, h13_G84, h13_G85, h13_G87, h13_G88, h13_G102, h13_G125, h13_G126, h13_G127, h13_G141, h13_G160, h13_G161, h13_G162, h13_G165, h13_G166, h13_G183, h13_G200, h13_G203, h13_G222, h13_G231, h13_G233, h13_P0, h13_P1, h13_P2, h13_P3, h13_P4, h13_P5, h13_P20, h13_P21, h13_P22, h13_P23, h13_P40, h13_P41, h13_P42, h13_P61, h13_P62, h13_P63, h13_P64, h13_P65, h13_P66, h13_P82, h13_P101, h13_P103, h13_P104, h13_P105, h13_P106, h13_P108, h13_P109, h13_P110, h13_P120, h13_P121, h13_P122, h13_P123, h13_P140, h13_P164, h13_P180, h13_P181, h13_P182, h13_P185, h13_P186, h13_P187, h13_P201, h13_P202, h13_P220, h13_P221, h13_P224, h13_P225, h13_P226, h13_P227, h13_P228, h13_P229, h13_P230, h13_P232, h13_P234, h13_P235, h13_P236, h13_V1, h13_V2, h13_V3, h13_V9, h13_O0, h13_O1, h13_O2, h13_RA, h13_RB, h13_RI, h13_RM103, h13_RM104, h13_RM108, h13_LN, h13_FL, h13_W0, h13_KC, h13_WK⟩), kx9, (show cnt ≤ c13_cnt from by omega), (show EX cnt cnt κ κ13_0 G c13_G P c13_P V c13_V O c13_O ln c13_ln from ex12), hk4, (show c13_ln r13 ≤ 16 from by omega), (show cnt ≤ r13 from by omega), (show (0 + v1_13) ≤ 1 from by omega), (show (0 + v2_13) ≤ 16 from by omega)⟩⟩
  intro j10 Jj10
  refine wp_ite (fun c1 => ?_) (fun c1 => ?_)
  · have c1 := congrArg Int32.toInt c1
    have hz_p0 : (Int32.ofNat (ln p0)).toInt = ((ln p0 : Nat) : Int) := ofN_eq (hzLN p0 (by rw [hk_p0]; decide))
    have hzb_p0 := hzLN p0 (by rw [hk_p0]; decide)
    refine wp_ite (fun c7 => ?_) (fun c7 => ?_)
    · have c7 := congrArg Int32.toInt c7
      exfalso; omega
    · have c7 := z_ne c7
      exact Jj10
  · have c1 := z_ne c1
    exact Jj10
abbrev QC_X4_letters (κ : Nat → Nat) (wd : Nat) (G : Nat → Nat → Int32) (P : Nat → Nat → Option Nat) (U : Nat → Nat → Int64) (V : Nat → Nat → Nat → Int32) (X : Nat → Nat → Nat → Int64) (O : Nat → Nat → Nat → Option Nat) (kd : Nat → Nat) (ln : Nat → Nat) (cnt : Nat) (this : Nat) : ((Nat × (Nat → Nat → Int32) × (Nat → Nat → Option Nat) × (Nat → Nat → Int64) × (Nat → Nat → Nat → Int32) × (Nat → Nat → Nat → Int64) × (Nat → Nat → Nat → Option Nat) × (Nat → Nat) × (Nat → Nat) × Nat) × Nat × Nat) → Prop := (fun t => ∃ κ1 : Nat → Nat, (CInv κ1 wd (t.1.2.1) (t.1.2.2.1) (t.1.2.2.2.2.1) (t.1.2.2.2.2.2.2.1) (t.1.2.2.2.2.2.2.2.2.1) (t.1.2.2.2.2.2.2.2.2.2)) ∧ (∀ a, κ a ≠ 0 → κ1 a = κ a) ∧ (cnt ≤ (t.1.2.2.2.2.2.2.2.2.2)) ∧ (EX cnt cnt κ κ1 G (t.1.2.1) P (t.1.2.2.1) V (t.1.2.2.2.2.1) O (t.1.2.2.2.2.2.2.1) ln (t.1.2.2.2.2.2.2.2.2.1)) ∧ (κ1 (t.1.1) = 100) ∧ ((t.1.2.2.2.2.2.2.2.2.1) (t.1.1) ≤ 16) ∧ (cnt ≤ (t.1.1)) ∧ ((t.2.1) ≤ 1) ∧ ((t.2.2) ≤ 16))
set_option maxHeartbeats 4000000 in
set_option maxRecDepth 100000 in
theorem ok_X4_letters (κ : Nat → Nat) (wd : Nat) (G : Nat → Nat → Int32) (P : Nat → Nat → Option Nat) (U : Nat → Nat → Int64) (V : Nat → Nat → Nat → Int32) (X : Nat → Nat → Nat → Int64) (O : Nat → Nat → Nat → Option Nat) (kd : Nat → Nat) (ln : Nat → Nat) (cnt : Nat) (this : Nat) (hI : CInv κ wd G P V O ln cnt) (hk_this : κ this = 5) (hp0 : (∀ tx, (P 82) this = some tx → ((G 83) this).toInt ≤ ((ln tx : Nat) : Int))) (hp1 : (1 ≤ ((G 87) this).toInt ∧ ((G 87) this).toInt + ((G 88) this).toInt ≤ ((G 83) this).toInt ∧ ((G 88) this).toInt ≤ 16)) : wp (f_X4_letters G P U V X O kd ln cnt this) (QC_X4_letters κ wd G P U V X O kd ln cnt this) := by
  unfold f_X4_letters
  obtain ⟨hzG43, hzG44, hzG45, hzG60, hzG83, hzG84, hzG85, hzG87, hzG88, hzG102, hzG125, hzG126, hzG127, hzG141, hzG160, hzG161, hzG162, hzG165, hzG166, hzG183, hzG200, hzG203, hzG222, hzG231, hzG233, hzP0, hzP1, hzP2, hzP3, hzP4, hzP5, hzP20, hzP21, hzP22, hzP23, hzP40, hzP41, hzP42, hzP61, hzP62, hzP63, hzP64, hzP65, hzP66, hzP82, hzP101, hzP103, hzP104, hzP105, hzP106, hzP108, hzP109, hzP110, hzP120, hzP121, hzP122, hzP123, hzP140, hzP164, hzP180, hzP181, hzP182, hzP185, hzP186, hzP187, hzP201, hzP202, hzP220, hzP221, hzP224, hzP225, hzP226, hzP227, hzP228, hzP229, hzP230, hzP232, hzP234, hzP235, hzP236, hzV1, hzV2, hzV3, hzV9, hzO0, hzO1, hzO2, hzRA, hzRB, hzRI, hzRM103, hzRM104, hzRM108, hzLN, hzFL, hzW0, hzKC, hzWK⟩ := hI
  refine wp_sh0 ?_
  have exr : EX cnt cnt κ κ G G P P V V O O ln ln := EX_refl
  obtain ⟨u1, hn_u1⟩ := PBs (hzP82 this) hk_this
  obtain ⟨hk_u1, hl1_u1, hl2_u1, hw_u1⟩ := (hzP82 this).2 u1 hn_u1
  have hz_u1 : (Int32.ofNat (ln u1)).toInt = ((ln u1 : Nat) : Int) := ofN_eq (by omega)
  have hsz := hp0 _ hn_u1
  refine wp_nne hn_u1 ?_
  have b2 := hzG87 this
  have b4 := hzG88 this
  have f5 : (((G 87) this) + ((G 88) this)).toInt = ((G 87) this).toInt + ((G 88) this).toInt := z_add (by omega) (by omega)
  obtain ⟨⟨⟨r17, c17_G, c17_P, c17_U, c17_V, c17_X, c17_O, c17_kd, c17_ln, c17_cnt⟩, v1_17, v2_17⟩, hc17, hq17⟩ := ok_J7_copyOfRange_39247 κ wd G P U V X O kd ln cnt u1 ((G 87) this) (((G 87) this) + ((G 88) this)) ⟨hzG43, hzG44, hzG45, hzG60, hzG83, hzG84, hzG85, hzG87, hzG88, hzG102, hzG125, hzG126, hzG127, hzG141, hzG160, hzG161, hzG162, hzG165, hzG166, hzG183, hzG200, hzG203, hzG222, hzG231, hzG233, hzP0, hzP1, hzP2, hzP3, hzP4, hzP5, hzP20, hzP21, hzP22, hzP23, hzP40, hzP41, hzP42, hzP61, hzP62, hzP63, hzP64, hzP65, hzP66, hzP82, hzP101, hzP103, hzP104, hzP105, hzP106, hzP108, hzP109, hzP110, hzP120, hzP121, hzP122, hzP123, hzP140, hzP164, hzP180, hzP181, hzP182, hzP185, hzP186, hzP187, hzP201, hzP202, hzP220, hzP221, hzP224, hzP225, hzP226, hzP227, hzP228, hzP229, hzP230, hzP232, hzP234, hzP235, hzP236, hzV1, hzV2, hzV3, hzV9, hzO0, hzO1, hzO2, hzRA, hzRB, hzRI, hzRM103, hzRM104, hzRM108, hzLN, hzFL, hzW0, hzKC, hzWK⟩ hk_u1 (show (0 ≤ ((G 87) this).toInt ∧ ((G 87) this).toInt ≤ (((G 87) this) + ((G 88) this)).toInt ∧ (((G 87) this) + ((G 88) this)).toInt ≤ ((ln u1 : Nat) : Int) ∧ (((G 87) this) + ((G 88) this)).toInt - ((G 87) this).toInt ≤ 16) from by omega) (show 1 ≤ ((G 87) this).toInt from by omega)
  obtain ⟨κ17_5, hCI17, hxx17, hcc7, hex8, hk9, f10, f11, f12, f13⟩ : ∃ κ1 : Nat → Nat, (CInv κ1 wd c17_G c17_P c17_V c17_O c17_ln c17_cnt) ∧ (∀ a, κ a ≠ 0 → κ1 a = κ a) ∧ (cnt ≤ c17_cnt) ∧ (EX cnt cnt κ κ1 G c17_G P c17_P V c17_V O c17_O ln c17_ln) ∧ (κ1 r17 = 100) ∧ (c17_ln r17 ≤ 16) ∧ (cnt ≤ r17) ∧ (v1_17 ≤ 1) ∧ (v2_17 ≤ 16) := hq17
  obtain ⟨h17_G43, h17_G44, h17_G45, h17_G60, h17_G83, h17_G84, h17_G85, h17_G87, h17_G88, h17_G102, h17_G125, h17_G126, h17_G127, h17_G141, h17_G160, h17_G161, h17_G162, h17_G165, h17_G166, h17_G183, h17_G200, h17_G203, h17_G222, h17_G231, h17_G233, h17_P0, h17_P1, h17_P2, h17_P3, h17_P4, h17_P5, h17_P20, h17_P21, h17_P22, h17_P23, h17_P40, h17_P41, h17_P42, h17_P61, h17_P62, h17_P63, h17_P64, h17_P65, h17_P66, h17_P82, h17_P101, h17_P103, h17_P104, h17_P105, h17_P106, h17_P108, h17_P109, h17_P110, h17_P120, h17_P121, h17_P122, h17_P123, h17_P140, h17_P164, h17_P180, h17_P181, h17_P182, h17_P185, h17_P186, h17_P187, h17_P201, h17_P202, h17_P220, h17_P221, h17_P224, h17_P225, h17_P226, h17_P227, h17_P228, h17_P229, h17_P230, h17_P232, h17_P234, h17_P235, h17_P236, h17_V1, h17_V2, h17_V3, h17_V9, h17_O0, h17_O1, h17_O2, h17_RA, h17_RB, h17_RI, h17_RM103, h17_RM104, h17_RM108, h17_LN, h17_FL, h17_W0, h17_KC, h17_WK⟩ := hCI17
  have kx14 : ∀ a, κ a ≠ 0 → κ17_5 a = κ a := hxx17
  have hk15 : κ17_5 this = 5 := kxk hxx17 hk_this (by decide)
  have ex16 : EX cnt cnt κ κ17_5 G c17_G P c17_P V c17_V O c17_O ln c17_ln := EX_trans exr hex8 (by omega) (by omega)
  refine wp_bA10 hc17 ?_
  exact ⟨_, rfl, ⟨κ17_5, (show CInv κ17_5 wd c17_G c17_P c17_V c17_O c17_ln c17_cnt from ⟨h17_G43, h17_G44, h17_G45, h17_G60, h17_G83, h17_G84, h17_G85, h17_G87, h17_G88, h17_G102, h17_G125, h17_G126, h17_G127, h17_G141, h17_G160, h17_G161, h17_G162, h17_G165, h17_G166, h17_G183, h17_G200, h17_G203, h17_G222, h17_G231, h17_G233, h17_P0, h17_P1, h17_P2, h17_P3, h17_P4, h17_P5, h17_P20, h17_P21, h17_P22, h17_P23, h17_P40, h17_P41, h17_P42, h17_P61, h17_P62, h17_P63, h17_P64, h17_P65, h17_P66, h17_P82, h17_P101, h17_P103, h17_P104, h17_P105, h17_P106, h17_P108, h17_P109, h17_P110, h17_P120, h17_P121, h17_P122, h17_P123, h17_P140, h17_P164, h17_P180, h17_P181, h17_P182, h17_P185, h17_P186, h17_P187, h17_P201, h17_P202, h17_P220, h17_P221, h17_P224, h17_P225, h17_P226, h17_P227, h17_P228, h17_P229, h17_P230, h17_P232, h17_P234, h17_P235, h17_P236, h17_V1, h17_V2, h17_V3, h17_V9, h17_O0, h17_O1, h17_O2, h17_RA, h17_RB, h17_RI, h17_RM103, h17_RM104, h17_RM108, h17_LN, h17_FL, h17_W0, h17_KC, h17_WK⟩), kx14, (show cnt ≤ c17_cnt from by omega), (show EX cnt cnt κ κ17_5 G c17_G P c17_P V c17_V O c17_O ln c17_ln from ex16), hk9, (show c17_ln r17 ≤ 16 from by omega), (show cnt ≤ r17 from by omega), (show (0 + v1_17) ≤ 1 from by omega), (show (0 + v2_17) ≤ 16 from by omega)⟩⟩
abbrev QC_X1_init (κ : Nat → Nat) (wd : Nat) (G : Nat → Nat → Int32) (P : Nat → Nat → Option Nat) (U : Nat → Nat → Int64) (V : Nat → Nat → Nat → Int32) (X : Nat → Nat → Nat → Int64) (O : Nat → Nat → Nat → Option Nat) (kd : Nat → Nat) (ln : Nat → Nat) (cnt : Nat) (this : Nat) (p0 : Nat) (p1 : Nat) : (((Nat → Nat → Int32) × (Nat → Nat → Option Nat) × (Nat → Nat → Int64) × (Nat → Nat → Nat → Int32) × (Nat → Nat → Nat → Int64) × (Nat → Nat → Nat → Option Nat) × (Nat → Nat) × (Nat → Nat) × Nat) × Nat × Nat) → Prop := (fun t => ∃ κ1 : Nat → Nat, (CInv κ1 wd (t.1.1) (t.1.2.1) (t.1.2.2.2.1) (t.1.2.2.2.2.2.1) (t.1.2.2.2.2.2.2.2.1) (t.1.2.2.2.2.2.2.2.2)) ∧ (∀ a, κ a ≠ 0 → κ1 a = κ a) ∧ (cnt ≤ (t.1.2.2.2.2.2.2.2.2)) ∧ (κ1 this = 2) ∧ (EX this cnt κ κ1 G (t.1.1) P (t.1.2.1) V (t.1.2.2.2.1) O (t.1.2.2.2.2.2.1) ln (t.1.2.2.2.2.2.2.2.1)) ∧ ((t.2.1) ≤ 2) ∧ ((t.2.2) ≤ 0))
set_option maxHeartbeats 4000000 in
set_option maxRecDepth 100000 in
theorem ok_X1_init (κ : Nat → Nat) (wd : Nat) (G : Nat → Nat → Int32) (P : Nat → Nat → Option Nat) (U : Nat → Nat → Int64) (V : Nat → Nat → Nat → Int32) (X : Nat → Nat → Nat → Int64) (O : Nat → Nat → Nat → Option Nat) (kd : Nat → Nat) (ln : Nat → Nat) (cnt : Nat) (this : Nat) (p0 : Nat) (p1 : Nat) (hI : CInv κ wd G P V O ln cnt) (hk_this : κ this = 0) (hlt_this : this < cnt) (hln_this : ln this ≤ 2500) (hk_p0 : κ p0 = 100) (hk_p1 : κ p1 = 100) (hp0 : ln p0 ≤ 16) (hp1 : ln p1 ≤ 16) : wp (f_X1_init G P U V X O kd ln cnt this p0 p1) (QC_X1_init κ wd G P U V X O kd ln cnt this p0 p1) := by
  unfold f_X1_init
  obtain ⟨hzG43, hzG44, hzG45, hzG60, hzG83, hzG84, hzG85, hzG87, hzG88, hzG102, hzG125, hzG126, hzG127, hzG141, hzG160, hzG161, hzG162, hzG165, hzG166, hzG183, hzG200, hzG203, hzG222, hzG231, hzG233, hzP0, hzP1, hzP2, hzP3, hzP4, hzP5, hzP20, hzP21, hzP22, hzP23, hzP40, hzP41, hzP42, hzP61, hzP62, hzP63, hzP64, hzP65, hzP66, hzP82, hzP101, hzP103, hzP104, hzP105, hzP106, hzP108, hzP109, hzP110, hzP120, hzP121, hzP122, hzP123, hzP140, hzP164, hzP180, hzP181, hzP182, hzP185, hzP186, hzP187, hzP201, hzP202, hzP220, hzP221, hzP224, hzP225, hzP226, hzP227, hzP228, hzP229, hzP230, hzP232, hzP234, hzP235, hzP236, hzV1, hzV2, hzV3, hzV9, hzO0, hzO1, hzO2, hzRA, hzRB, hzRI, hzRM103, hzRM104, hzRM108, hzLN, hzFL, hzW0, hzKC, hzWK⟩ := hI
  refine wp_sh0 ?_
  have exr : EX this cnt κ κ G G P P V V O O ln ln := EX_refl
  have zk0 : (0 : Int32).toInt = 0 := by decide +kernel
  refine wp_if ⟨by omega, by omega⟩ ?_
  have cl1 := clampI (x := (0 : Int32)) (by omega)
  refine wp_tk ?_
  refine wp_newc (κ := κ) (wd := wd) (Ke := 100) ⟨hzG43, hzG44, hzG45, hzG60, hzG83, hzG84, hzG85, hzG87, hzG88, hzG102, hzG125, hzG126, hzG127, hzG141, hzG160, hzG161, hzG162, hzG165, hzG166, hzG183, hzG200, hzG203, hzG222, hzG231, hzG233, hzP0, hzP1, hzP2, hzP3, hzP4, hzP5, hzP20, hzP21, hzP22, hzP23, hzP40, hzP41, hzP42, hzP61, hzP62, hzP63, hzP64, hzP65, hzP66, hzP82, hzP101, hzP103, hzP104, hzP105, hzP106, hzP108, hzP109, hzP110, hzP120, hzP121, hzP122, hzP123, hzP140, hzP164, hzP180, hzP181, hzP182, hzP185, hzP186, hzP187, hzP201, hzP202, hzP220, hzP221, hzP224, hzP225, hzP226, hzP227, hzP228, hzP229, hzP230, hzP232, hzP234, hzP235, hzP236, hzV1, hzV2, hzV3, hzV9, hzO0, hzO1, hzO2, hzRA, hzRB, hzRI, hzRM103, hzRM104, hzRM108, hzLN, hzFL, hzW0, hzKC, hzWK⟩ (by decide) (by omega) (fun κ6 G6 P6 U6 V6 X6 O6 kd6 ln6 cnt6 hCI6 hcn6 hkn6 hln6 hex6 hvz6 hfs6 => ?_)
  obtain ⟨h6_G43, h6_G44, h6_G45, h6_G60, h6_G83, h6_G84, h6_G85, h6_G87, h6_G88, h6_G102, h6_G125, h6_G126, h6_G127, h6_G141, h6_G160, h6_G161, h6_G162, h6_G165, h6_G166, h6_G183, h6_G200, h6_G203, h6_G222, h6_G231, h6_G233, h6_P0, h6_P1, h6_P2, h6_P3, h6_P4, h6_P5, h6_P20, h6_P21, h6_P22, h6_P23, h6_P40, h6_P41, h6_P42, h6_P61, h6_P62, h6_P63, h6_P64, h6_P65, h6_P66, h6_P82, h6_P101, h6_P103, h6_P104, h6_P105, h6_P106, h6_P108, h6_P109, h6_P110, h6_P120, h6_P121, h6_P122, h6_P123, h6_P140, h6_P164, h6_P180, h6_P181, h6_P182, h6_P185, h6_P186, h6_P187, h6_P201, h6_P202, h6_P220, h6_P221, h6_P224, h6_P225, h6_P226, h6_P227, h6_P228, h6_P229, h6_P230, h6_P232, h6_P234, h6_P235, h6_P236, h6_V1, h6_V2, h6_V3, h6_V9, h6_O0, h6_O1, h6_O2, h6_RA, h6_RB, h6_RI, h6_RM103, h6_RM104, h6_RM108, h6_LN, h6_FL, h6_W0, h6_KC, h6_WK⟩ := hCI6
  have hx2 : ∀ a, κ a ≠ 0 → κ6 a = κ a := fun a ha => (hex6 a (kclt hzKC ha) (Nat.ne_of_lt (kclt hzKC ha))).1
  have kx3 : ∀ a, κ a ≠ 0 → κ6 a = κ a := hx2
  have hk4 : κ6 this = 0 := (hex6 this (by omega) (by omega)).1.trans hk_this
  have hl5 := (hex6 this (by omega) (by omega)).2.2.2.2.2
  have hl6 := (hex6 p0 (kcl0 hzKC hk_p0 (by decide)) (Nat.ne_of_lt (kcl0 hzKC hk_p0 (by decide)))).2.2.2.2.2
  have hk7 : κ6 p0 = 100 := kxk hx2 hk_p0 (by decide)
  have hl8 := (hex6 p1 (kcl0 hzKC hk_p1 (by decide)) (Nat.ne_of_lt (kcl0 hzKC hk_p1 (by decide)))).2.2.2.2.2
  have hk9 : κ6 p1 = 100 := kxk hx2 hk_p1 (by decide)
  have ex10 : EX this cnt κ κ6 G G6 P P6 V V6 O O6 ln ln6 := EX_trans exr hex6 (by omega) (by omega)
  refine wp_vl (fun m8 em8 => ?_)
  have hp11 : PB κ6 ln6 wd 2 100 0 16 0 m8 := by rw [em8]; exact PB_up h6_P22 hkn6 (by omega) (by omega) (fun h9 => absurd h9 (by decide))
  have sm8 : m8 this = some cnt := by rw [em8]; exact va_up_self _ _ _
  have ex12 : EX this cnt κ κ6 G G6 P (va_up P6 22 m8) V V6 O O6 ln ln6 := by rw [em8]; exact EX_P ex10
  clear em8
  refine wp_if ⟨by omega, by omega⟩ ?_
  have cl13 := clampI (x := (0 : Int32)) (by omega)
  refine wp_tk ?_
  refine wp_newc (κ := κ6) (wd := wd) (Ke := 100) ⟨h6_G43, h6_G44, h6_G45, h6_G60, h6_G83, h6_G84, h6_G85, h6_G87, h6_G88, h6_G102, h6_G125, h6_G126, h6_G127, h6_G141, h6_G160, h6_G161, h6_G162, h6_G165, h6_G166, h6_G183, h6_G200, h6_G203, h6_G222, h6_G231, h6_G233, h6_P0, h6_P1, h6_P2, h6_P3, h6_P4, h6_P5, h6_P20, h6_P21, hp11, h6_P23, h6_P40, h6_P41, h6_P42, h6_P61, h6_P62, h6_P63, h6_P64, h6_P65, h6_P66, h6_P82, h6_P101, h6_P103, h6_P104, h6_P105, h6_P106, h6_P108, h6_P109, h6_P110, h6_P120, h6_P121, h6_P122, h6_P123, h6_P140, h6_P164, h6_P180, h6_P181, h6_P182, h6_P185, h6_P186, h6_P187, h6_P201, h6_P202, h6_P220, h6_P221, h6_P224, h6_P225, h6_P226, h6_P227, h6_P228, h6_P229, h6_P230, h6_P232, h6_P234, h6_P235, h6_P236, h6_V1, h6_V2, h6_V3, h6_V9, h6_O0, h6_O1, h6_O2, h6_RA, h6_RB, h6_RI, h6_RM103, h6_RM104, h6_RM108, h6_LN, h6_FL, h6_W0, h6_KC, h6_WK⟩ (by decide) (by omega) (fun κ13 G13 P13 U13 V13 X13 O13 kd13 ln13 cnt13 hCI13 hcn13 hkn13 hln13 hex13 hvz13 hfs13 => ?_)
  obtain ⟨h13_G43, h13_G44, h13_G45, h13_G60, h13_G83, h13_G84, h13_G85, h13_G87, h13_G88, h13_G102, h13_G125, h13_G126, h13_G127, h13_G141, h13_G160, h13_G161, h13_G162, h13_G165, h13_G166, h13_G183, h13_G200, h13_G203, h13_G222, h13_G231, h13_G233, h13_P0, h13_P1, h13_P2, h13_P3, h13_P4, h13_P5, h13_P20, h13_P21, h13_P22, h13_P23, h13_P40, h13_P41, h13_P42, h13_P61, h13_P62, h13_P63, h13_P64, h13_P65, h13_P66, h13_P82, h13_P101, h13_P103, h13_P104, h13_P105, h13_P106, h13_P108, h13_P109, h13_P110, h13_P120, h13_P121, h13_P122, h13_P123, h13_P140, h13_P164, h13_P180, h13_P181, h13_P182, h13_P185, h13_P186, h13_P187, h13_P201, h13_P202, h13_P220, h13_P221, h13_P224, h13_P225, h13_P226, h13_P227, h13_P228, h13_P229, h13_P230, h13_P232, h13_P234, h13_P235, h13_P236, h13_V1, h13_V2, h13_V3, h13_V9, h13_O0, h13_O1, h13_O2, h13_RA, h13_RB, h13_RI, h13_RM103, h13_RM104, h13_RM108, h13_LN, h13_FL, h13_W0, h13_KC, h13_WK⟩ := hCI13
  have hx14 : ∀ a, κ6 a ≠ 0 → κ13 a = κ6 a := fun a ha => (hex13 a (kclt h6_KC ha) (Nat.ne_of_lt (kclt h6_KC ha))).1
  have kx15 : ∀ a, κ a ≠ 0 → κ13 a = κ a := kxt kx3 hx14
  have hk16 : κ13 this = 0 := (hex13 this (by omega) (by omega)).1.trans hk4
  have hl17 := (hex13 this (by omega) (by omega)).2.2.2.2.2
  have hl18 := (hex13 p0 (kcl0 h6_KC hk7 (by decide)) (Nat.ne_of_lt (kcl0 h6_KC hk7 (by decide)))).2.2.2.2.2
  have hk19 : κ13 p0 = 100 := kxk hx14 hk7 (by decide)
  have hl20 := (hex13 p1 (kcl0 h6_KC hk9 (by decide)) (Nat.ne_of_lt (kcl0 h6_KC hk9 (by decide)))).2.2.2.2.2
  have hk21 : κ13 p1 = 100 := kxk hx14 hk9 (by decide)
  have ex22 : EX this cnt κ κ13 G G13 P P13 V V13 O O13 ln ln13 := EX_trans ex12 hex13 (by omega) (by omega)
  have hn23 : (P13 22) this = some cnt := ((hex13 this (by omega) (by omega)).2.2.1 22).trans sm8
  refine wp_vl (fun m15 em15 => ?_)
  have hp24 : PB κ13 ln13 wd 2 100 0 16 0 m15 := by rw [em15]; exact PB_up h13_P23 hkn13 (by omega) (by omega) (fun h9 => absurd h9 (by decide))
  have sm15 : m15 this = some cnt6 := by rw [em15]; exact va_up_self _ _ _
  have ex25 : EX this cnt κ κ13 G G13 P (va_up P13 23 m15) V V13 O O13 ln ln13 := by rw [em15]; exact EX_P ex22
  clear em15
  refine wp_vl (fun m20 em20 => ?_)
  have sm20 : (m20 this).toInt = 0 := by rw [em20, va_up_self]; decide +kernel
  have ex26 : EX this cnt κ κ13 G (va_up G13 24 m20) P (va_up P13 23 m15) V V13 O O13 ln ln13 := by rw [em20]; exact EX_G ex25
  clear em20
  refine wp_vl (fun m25 em25 => ?_)
  have sm25 : (m25 this).toInt = 0 := by rw [em25, va_up_self]; decide +kernel
  have ex27 : EX this cnt κ κ13 G (va_up (va_up G13 24 m20) 25 m25) P (va_up P13 23 m15) V V13 O O13 ln ln13 := by rw [em25]; exact EX_G ex26
  clear em25
  refine wp_vl (fun m30 em30 => ?_)
  have hp28 : PB κ13 ln13 wd 2 100 0 16 0 m30 := by rw [em30]; exact PB_up h13_P20 hk19 (by omega) (by omega) (fun h9 => absurd h9 (by decide))
  have sm30 : m30 this = some p0 := by rw [em30]; exact va_up_self _ _ _
  have ex29 : EX this cnt κ κ13 G (va_up (va_up G13 24 m20) 25 m25) P (va_up (va_up P13 23 m15) 20 m30) V V13 O O13 ln ln13 := by rw [em30]; exact EX_P ex27
  clear em30
  refine wp_vl (fun m35 em35 => ?_)
  have hp30 : PB κ13 ln13 wd 2 100 0 16 0 m35 := by rw [em35]; exact PB_up h13_P21 hk21 (by omega) (by omega) (fun h9 => absurd h9 (by decide))
  have sm35 : m35 this = some p1 := by rw [em35]; exact va_up_self _ _ _
  have ex31 : EX this cnt κ κ13 G (va_up (va_up G13 24 m20) 25 m25) P (va_up (va_up (va_up P13 23 m15) 20 m30) 21 m35) V V13 O O13 ln ln13 := by rw [em35]; exact EX_P ex29
  clear em35
  have hfin : CInv (va_up κ13 this 2) wd (va_up (va_up G13 24 m20) 25 m25) (va_up (va_up (va_up P13 23 m15) 20 m30) 21 m35) V13 O13 ln13 cnt13 := cinv_k2 ⟨h13_G43, h13_G44, h13_G45, h13_G60, h13_G83, h13_G84, h13_G85, h13_G87, h13_G88, h13_G102, h13_G125, h13_G126, h13_G127, h13_G141, h13_G160, h13_G161, h13_G162, h13_G165, h13_G166, h13_G183, h13_G200, h13_G203, h13_G222, h13_G231, h13_G233, h13_P0, h13_P1, h13_P2, h13_P3, h13_P4, h13_P5, hp28, hp30, h13_P22, hp24, h13_P40, h13_P41, h13_P42, h13_P61, h13_P62, h13_P63, h13_P64, h13_P65, h13_P66, h13_P82, h13_P101, h13_P103, h13_P104, h13_P105, h13_P106, h13_P108, h13_P109, h13_P110, h13_P120, h13_P121, h13_P122, h13_P123, h13_P140, h13_P164, h13_P180, h13_P181, h13_P182, h13_P185, h13_P186, h13_P187, h13_P201, h13_P202, h13_P220, h13_P221, h13_P224, h13_P225, h13_P226, h13_P227, h13_P228, h13_P229, h13_P230, h13_P232, h13_P234, h13_P235, h13_P236, h13_V1, h13_V2, h13_V3, h13_V9, h13_O0, h13_O1, h13_O2, h13_RA, h13_RB, h13_RI, h13_RM103, h13_RM104, h13_RM108, h13_LN, h13_FL, h13_W0, h13_KC, h13_WK⟩ hk16 (by omega) (by omega) (by rw [show (va_up (va_up (va_up P13 23 m15) 20 m30) 21 m35) 20 this = some p0 from sm30]; exact Option.some_ne_none _) (by rw [show (va_up (va_up (va_up P13 23 m15) 20 m30) 21 m35) 21 this = some p1 from sm35]; exact Option.some_ne_none _) (by rw [show (va_up (va_up (va_up P13 23 m15) 20 m30) 21 m35) 22 this = some cnt from hn23]; exact Option.some_ne_none _) (by rw [show (va_up (va_up (va_up P13 23 m15) 20 m30) 21 m35) 23 this = some cnt6 from sm15]; exact Option.some_ne_none _)
  exact ⟨_, rfl, ⟨(va_up κ13 this 2), hfin, (fun a ha => (va_up_ne _ _ (fun q => ha (by rw [q]; exact hk_this))).trans (kx15 a ha)), (show cnt ≤ cnt13 from by omega), (va_up_self _ _ _), (EX_k ex31), (show ((0 + 1) + 1) ≤ 2 from by omega), (show ((0 + (Int32.toNatClampNeg 0)) + (Int32.toNatClampNeg 0)) ≤ 0 from by omega)⟩⟩
abbrev QC_X10_init (κ : Nat → Nat) (wd : Nat) (G : Nat → Nat → Int32) (P : Nat → Nat → Option Nat) (U : Nat → Nat → Int64) (V : Nat → Nat → Nat → Int32) (X : Nat → Nat → Nat → Int64) (O : Nat → Nat → Nat → Option Nat) (kd : Nat → Nat) (ln : Nat → Nat) (cnt : Nat) (this : Nat) (p0 : Int32) (p1 : Int32) : (((Nat → Nat → Int32) × (Nat → Nat → Option Nat) × (Nat → Nat → Int64) × (Nat → Nat → Nat → Int32) × (Nat → Nat → Nat → Int64) × (Nat → Nat → Nat → Option Nat) × (Nat → Nat) × (Nat → Nat) × Nat) × Nat × Nat) → Prop := (fun t => ∃ κ1 : Nat → Nat, (CInv κ1 wd (t.1.1) (t.1.2.1) (t.1.2.2.2.1) (t.1.2.2.2.2.2.1) (t.1.2.2.2.2.2.2.2.1) (t.1.2.2.2.2.2.2.2.2)) ∧ (∀ a, κ a ≠ 0 → κ1 a = κ a) ∧ (cnt ≤ (t.1.2.2.2.2.2.2.2.2)) ∧ (κ1 this = 11) ∧ (EX this cnt κ κ1 G (t.1.1) P (t.1.2.1) V (t.1.2.2.2.1) O (t.1.2.2.2.2.2.1) ln (t.1.2.2.2.2.2.2.2.1)) ∧ ((∀ s, ((t.1.2.1) 202) this = some s → (t.1.2.2.2.2.2.2.2.1) s = Int32.toNatClampNeg p0)) ∧ ((t.2.1) ≤ 2) ∧ ((((t.2.2) : Nat) : Int) ≤ 25 * p0.toInt))
set_option maxHeartbeats 4000000 in
set_option maxRecDepth 100000 in
theorem ok_X10_init (κ : Nat → Nat) (wd : Nat) (G : Nat → Nat → Int32) (P : Nat → Nat → Option Nat) (U : Nat → Nat → Int64) (V : Nat → Nat → Nat → Int32) (X : Nat → Nat → Nat → Int64) (O : Nat → Nat → Nat → Option Nat) (kd : Nat → Nat) (ln : Nat → Nat) (cnt : Nat) (this : Nat) (p0 : Int32) (p1 : Int32) (hI : CInv κ wd G P V O ln cnt) (hk_this : κ this = 0) (hlt_this : this < cnt) (hln_this : ln this ≤ 2500) (hp0 : (0 ≤ p0.toInt ∧ p0.toInt ≤ 100)) (hp1 : (0 ≤ p1.toInt ∧ p1.toInt ≤ 24)) : wp (f_X10_init G P U V X O kd ln cnt this p0 p1) (QC_X10_init κ wd G P U V X O kd ln cnt this p0 p1) := by
  unfold f_X10_init
  obtain ⟨hzG43, hzG44, hzG45, hzG60, hzG83, hzG84, hzG85, hzG87, hzG88, hzG102, hzG125, hzG126, hzG127, hzG141, hzG160, hzG161, hzG162, hzG165, hzG166, hzG183, hzG200, hzG203, hzG222, hzG231, hzG233, hzP0, hzP1, hzP2, hzP3, hzP4, hzP5, hzP20, hzP21, hzP22, hzP23, hzP40, hzP41, hzP42, hzP61, hzP62, hzP63, hzP64, hzP65, hzP66, hzP82, hzP101, hzP103, hzP104, hzP105, hzP106, hzP108, hzP109, hzP110, hzP120, hzP121, hzP122, hzP123, hzP140, hzP164, hzP180, hzP181, hzP182, hzP185, hzP186, hzP187, hzP201, hzP202, hzP220, hzP221, hzP224, hzP225, hzP226, hzP227, hzP228, hzP229, hzP230, hzP232, hzP234, hzP235, hzP236, hzV1, hzV2, hzV3, hzV9, hzO0, hzO1, hzO2, hzRA, hzRB, hzRI, hzRM103, hzRM104, hzRM108, hzLN, hzFL, hzW0, hzKC, hzWK⟩ := hI
  refine wp_sh0 ?_
  have exr : EX this cnt κ κ G G P P V V O O ln ln := EX_refl
  have zk0 : (0 : Int32).toInt = 0 := by decide +kernel
  have r_p0 := i32r p0
  have r_p1 := i32r p1
  have hne : this ≠ wd := fun q => absurd (show (11 : Nat) = 0 from by rw [← hzWK, ← q]; exact hk_this) (by decide)
  have hmm : p0.toInt * p1.toInt ≤ 100 * 24 := Int.mul_le_mul (by omega) (by omega) (by omega) (by decide)
  refine wp_vl (fun m6 em6 => ?_)
  have hg1 : rng (0) 100 m6 := by rw [em6]; exact rng_vup hzG203 (by omega) (by omega)
  have sm6 : (m6 this).toInt = 0 := by rw [em6, va_up_self]; decide +kernel
  have b2 := hg1 this
  have hRB3 : RB κ ln (G 200) m6 (P 202) (V 1) := by rw [em6]; exact RB_cnt hzRB (fun s hs => by omega)
  have hFL4 : FL wd m6 (V 3) := by rw [em6]; exact FL_ne hzFL hne
  have ex5 : EX this cnt κ κ G (va_up G 203 m6) P P V V O O ln ln := by rw [em6]; exact EX_G exr
  clear em6
  refine wp_vl (fun m11 em11 => ?_)
  have hg6 : rng (0) 24 m11 := by rw [em11]; exact rng_vup hzG200 (by omega) (by omega)
  have sm11 : (m11 this).toInt = p1.toInt := by rw [em11, va_up_self]
  have b7 := hg6 this
  have hRA8 : RA κ ln m11 (P 201) (P 202) := by rw [em11]; exact RA_w hzRA (by rw [hk_this]; decide)
  have hRB9 : RB κ ln m11 m6 (P 202) (V 1) := by rw [em11]; exact RB_w hRB3 (by rw [hk_this]; decide)
  have ex10 : EX this cnt κ κ G (va_up (va_up G 203 m6) 200 m11) P P V V O O ln ln := by rw [em11]; exact EX_G ex5
  clear em11
  have f11 := zmw (x := p0) (y := p1) (by omega) (by omega) (by omega) (by omega)
  refine wp_if ⟨by omega, by omega⟩ ?_
  have cl12 := clampI (x := (p0 * p1)) (by omega)
  refine wp_tk ?_
  refine wp_newc (κ := κ) (wd := wd) (Ke := 100) ⟨hzG43, hzG44, hzG45, hzG60, hzG83, hzG84, hzG85, hzG87, hzG88, hzG102, hzG125, hzG126, hzG127, hzG141, hzG160, hzG161, hzG162, hzG165, hzG166, hzG183, hg6, hg1, hzG222, hzG231, hzG233, hzP0, hzP1, hzP2, hzP3, hzP4, hzP5, hzP20, hzP21, hzP22, hzP23, hzP40, hzP41, hzP42, hzP61, hzP62, hzP63, hzP64, hzP65, hzP66, hzP82, hzP101, hzP103, hzP104, hzP105, hzP106, hzP108, hzP109, hzP110, hzP120, hzP121, hzP122, hzP123, hzP140, hzP164, hzP180, hzP181, hzP182, hzP185, hzP186, hzP187, hzP201, hzP202, hzP220, hzP221, hzP224, hzP225, hzP226, hzP227, hzP228, hzP229, hzP230, hzP232, hzP234, hzP235, hzP236, hzV1, hzV2, hzV3, hzV9, hzO0, hzO1, hzO2, hRA8, hRB9, hzRI, hzRM103, hzRM104, hzRM108, hzLN, hFL4, hzW0, hzKC, hzWK⟩ (by decide) (by omega) (fun κ18 G18 P18 U18 V18 X18 O18 kd18 ln18 cnt18 hCI18 hcn18 hkn18 hln18 hex18 hvz18 hfs18 => ?_)
  obtain ⟨h18_G43, h18_G44, h18_G45, h18_G60, h18_G83, h18_G84, h18_G85, h18_G87, h18_G88, h18_G102, h18_G125, h18_G126, h18_G127, h18_G141, h18_G160, h18_G161, h18_G162, h18_G165, h18_G166, h18_G183, h18_G200, h18_G203, h18_G222, h18_G231, h18_G233, h18_P0, h18_P1, h18_P2, h18_P3, h18_P4, h18_P5, h18_P20, h18_P21, h18_P22, h18_P23, h18_P40, h18_P41, h18_P42, h18_P61, h18_P62, h18_P63, h18_P64, h18_P65, h18_P66, h18_P82, h18_P101, h18_P103, h18_P104, h18_P105, h18_P106, h18_P108, h18_P109, h18_P110, h18_P120, h18_P121, h18_P122, h18_P123, h18_P140, h18_P164, h18_P180, h18_P181, h18_P182, h18_P185, h18_P186, h18_P187, h18_P201, h18_P202, h18_P220, h18_P221, h18_P224, h18_P225, h18_P226, h18_P227, h18_P228, h18_P229, h18_P230, h18_P232, h18_P234, h18_P235, h18_P236, h18_V1, h18_V2, h18_V3, h18_V9, h18_O0, h18_O1, h18_O2, h18_RA, h18_RB, h18_RI, h18_RM103, h18_RM104, h18_RM108, h18_LN, h18_FL, h18_W0, h18_KC, h18_WK⟩ := hCI18
  have hx13 : ∀ a, κ a ≠ 0 → κ18 a = κ a := fun a ha => (hex18 a (kclt hzKC ha) (Nat.ne_of_lt (kclt hzKC ha))).1
  have kx14 : ∀ a, κ a ≠ 0 → κ18 a = κ a := hx13
  have hk15 : κ18 this = 0 := (hex18 this (by omega) (by omega)).1.trans hk_this
  have hl16 := (hex18 this (by omega) (by omega)).2.2.2.2.2
  have ex17 : EX this cnt κ κ18 G G18 P P18 V V18 O O18 ln ln18 := EX_trans ex10 hex18 (by omega) (by omega)
  refine wp_vl (fun m20 em20 => ?_)
  have hp18 : PB κ18 ln18 wd 11 100 0 2400 0 m20 := by rw [em20]; exact PB_up h18_P201 hkn18 (by omega) (by omega) (fun h9 => absurd h9 (by decide))
  have sm20 : m20 this = some cnt := by rw [em20]; exact va_up_self _ _ _
  have hRA19 : RA κ18 ln18 (G18 200) m20 (P18 202) := by rw [em20]; exact RA_l h18_RA (by rw [hk15]; decide)
  have ex20 : EX this cnt κ κ18 G G18 P (va_up P18 201 m20) V V18 O O18 ln ln18 := by rw [em20]; exact EX_P ex17
  clear em20
  refine wp_if ⟨by omega, by omega⟩ ?_
  have cl21 := clampI (x := p0) (by omega)
  refine wp_tk ?_
  refine wp_newc (κ := κ18) (wd := wd) (Ke := 101) ⟨h18_G43, h18_G44, h18_G45, h18_G60, h18_G83, h18_G84, h18_G85, h18_G87, h18_G88, h18_G102, h18_G125, h18_G126, h18_G127, h18_G141, h18_G160, h18_G161, h18_G162, h18_G165, h18_G166, h18_G183, h18_G200, h18_G203, h18_G222, h18_G231, h18_G233, h18_P0, h18_P1, h18_P2, h18_P3, h18_P4, h18_P5, h18_P20, h18_P21, h18_P22, h18_P23, h18_P40, h18_P41, h18_P42, h18_P61, h18_P62, h18_P63, h18_P64, h18_P65, h18_P66, h18_P82, h18_P101, h18_P103, h18_P104, h18_P105, h18_P106, h18_P108, h18_P109, h18_P110, h18_P120, h18_P121, h18_P122, h18_P123, h18_P140, h18_P164, h18_P180, h18_P181, h18_P182, h18_P185, h18_P186, h18_P187, hp18, h18_P202, h18_P220, h18_P221, h18_P224, h18_P225, h18_P226, h18_P227, h18_P228, h18_P229, h18_P230, h18_P232, h18_P234, h18_P235, h18_P236, h18_V1, h18_V2, h18_V3, h18_V9, h18_O0, h18_O1, h18_O2, hRA19, h18_RB, h18_RI, h18_RM103, h18_RM104, h18_RM108, h18_LN, h18_FL, h18_W0, h18_KC, h18_WK⟩ (by decide) (by omega) (fun κ25 G25 P25 U25 V25 X25 O25 kd25 ln25 cnt25 hCI25 hcn25 hkn25 hln25 hex25 hvz25 hfs25 => ?_)
  obtain ⟨h25_G43, h25_G44, h25_G45, h25_G60, h25_G83, h25_G84, h25_G85, h25_G87, h25_G88, h25_G102, h25_G125, h25_G126, h25_G127, h25_G141, h25_G160, h25_G161, h25_G162, h25_G165, h25_G166, h25_G183, h25_G200, h25_G203, h25_G222, h25_G231, h25_G233, h25_P0, h25_P1, h25_P2, h25_P3, h25_P4, h25_P5, h25_P20, h25_P21, h25_P22, h25_P23, h25_P40, h25_P41, h25_P42, h25_P61, h25_P62, h25_P63, h25_P64, h25_P65, h25_P66, h25_P82, h25_P101, h25_P103, h25_P104, h25_P105, h25_P106, h25_P108, h25_P109, h25_P110, h25_P120, h25_P121, h25_P122, h25_P123, h25_P140, h25_P164, h25_P180, h25_P181, h25_P182, h25_P185, h25_P186, h25_P187, h25_P201, h25_P202, h25_P220, h25_P221, h25_P224, h25_P225, h25_P226, h25_P227, h25_P228, h25_P229, h25_P230, h25_P232, h25_P234, h25_P235, h25_P236, h25_V1, h25_V2, h25_V3, h25_V9, h25_O0, h25_O1, h25_O2, h25_RA, h25_RB, h25_RI, h25_RM103, h25_RM104, h25_RM108, h25_LN, h25_FL, h25_W0, h25_KC, h25_WK⟩ := hCI25
  have hx22 : ∀ a, κ18 a ≠ 0 → κ25 a = κ18 a := fun a ha => (hex25 a (kclt h18_KC ha) (Nat.ne_of_lt (kclt h18_KC ha))).1
  have kx23 : ∀ a, κ a ≠ 0 → κ25 a = κ a := kxt kx14 hx22
  have hk24 : κ25 this = 0 := (hex25 this (by omega) (by omega)).1.trans hk15
  have hl25 := (hex25 this (by omega) (by omega)).2.2.2.2.2
  have ex26 : EX this cnt κ κ25 G G25 P P25 V V25 O O25 ln ln25 := EX_trans ex20 hex25 (by omega) (by omega)
  have hn27 : (P25 201) this = some cnt := ((hex25 this (by omega) (by omega)).2.2.1 201).trans sm20
  refine wp_vl (fun m27 em27 => ?_)
  have hp28 : PB κ25 ln25 wd 11 101 0 100 0 m27 := by rw [em27]; exact PB_up h25_P202 hkn25 (by omega) (by omega) (fun h9 => absurd h9 (by decide))
  have sm27 : m27 this = some cnt18 := by rw [em27]; exact va_up_self _ _ _
  have hRA29 : RA κ25 ln25 (G25 200) (P25 201) m27 := by rw [em27]; exact RA_s h25_RA (by rw [hk24]; decide)
  have hRB30 : RB κ25 ln25 (G25 200) (G25 203) m27 (V25 1) := by rw [em27]; exact RB_s h25_RB (by rw [hk24]; decide)
  have hRI31 : RI m27 := by rw [em27]; exact RI_s h25_RI hfs25
  have hRM10332 : RM ln25 40 (P25 103) m27 := by rw [em27]; exact RM_s h25_RM103 (fun a ha => absurd (((h25_P103 a).2 _ ha).1.symm.trans hk24) (by decide))
  have hRM10433 : RM ln25 40 (P25 104) m27 := by rw [em27]; exact RM_s h25_RM104 (fun a ha => absurd (((h25_P104 a).2 _ ha).1.symm.trans hk24) (by decide))
  have hRM10834 : RM ln25 40 (P25 108) m27 := by rw [em27]; exact RM_s h25_RM108 (fun a ha => absurd (((h25_P108 a).2 _ ha).1.symm.trans hk24) (by decide))
  have ex35 : EX this cnt κ κ25 G G25 P (va_up P25 202 m27) V V25 O O25 ln ln25 := by rw [em27]; exact EX_P ex26
  clear em27
  have hfin : CInv (va_up κ25 this 11) wd G25 (va_up P25 202 m27) V25 O25 ln25 cnt25 := cinv_k11 ⟨h25_G43, h25_G44, h25_G45, h25_G60, h25_G83, h25_G84, h25_G85, h25_G87, h25_G88, h25_G102, h25_G125, h25_G126, h25_G127, h25_G141, h25_G160, h25_G161, h25_G162, h25_G165, h25_G166, h25_G183, h25_G200, h25_G203, h25_G222, h25_G231, h25_G233, h25_P0, h25_P1, h25_P2, h25_P3, h25_P4, h25_P5, h25_P20, h25_P21, h25_P22, h25_P23, h25_P40, h25_P41, h25_P42, h25_P61, h25_P62, h25_P63, h25_P64, h25_P65, h25_P66, h25_P82, h25_P101, h25_P103, h25_P104, h25_P105, h25_P106, h25_P108, h25_P109, h25_P110, h25_P120, h25_P121, h25_P122, h25_P123, h25_P140, h25_P164, h25_P180, h25_P181, h25_P182, h25_P185, h25_P186, h25_P187, h25_P201, hp28, h25_P220, h25_P221, h25_P224, h25_P225, h25_P226, h25_P227, h25_P228, h25_P229, h25_P230, h25_P232, h25_P234, h25_P235, h25_P236, h25_V1, h25_V2, h25_V3, h25_V9, h25_O0, h25_O1, h25_O2, hRA29, hRB30, hRI31, hRM10332, hRM10433, hRM10834, h25_LN, h25_FL, h25_W0, h25_KC, h25_WK⟩ hk24 (by omega) (by omega) (by rw [show (va_up P25 202 m27) 201 this = some cnt from hn27]; exact Option.some_ne_none _) (by rw [show (va_up P25 202 m27) 202 this = some cnt18 from sm27]; exact Option.some_ne_none _) (fun l s hl hs => by obtain rfl : cnt = l := Option.some.inj ((show P25 201 this = some cnt from by assumption).symm.trans hl); obtain rfl : cnt18 = s := Option.some.inj ((show m27 this = some cnt18 from sm27).symm.trans hs); have e1 := (hex25 cnt (by omega) (by omega)).2.2.2.2.2; have e2 : G25 200 this = m11 this := ((hex25 this (by omega) (by omega)).2.1 200).trans ((hex18 this (by omega) (by omega)).2.1 200); have a1 : ((ln25 cnt : Nat) : Int) = p0.toInt * p1.toInt := (by rw [e1, hln18, clampI (by omega)]; exact (zmw (by omega) (by omega) (by omega) (by omega)).1); have a2 : ((ln25 cnt18 : Nat) : Int) = p0.toInt := (by rw [hln25, clampI (by omega)]); rw [a1, a2, e2, sm11]) (fun s hs => by obtain rfl : cnt18 = s := Option.some.inj ((show m27 this = some cnt18 from sm27).symm.trans hs); have e2 : G25 200 this = m11 this := ((hex25 this (by omega) (by omega)).2.1 200).trans ((hex18 this (by omega) (by omega)).2.1 200); have e3 : G25 203 this = m6 this := ((hex25 this (by omega) (by omega)).2.1 203).trans ((hex18 this (by omega) (by omega)).2.1 203); refine ⟨(by rw [e3]; omega), fun k => ?_⟩; rw [hvz25, e2, sm11]; omega)
  exact ⟨_, rfl, ⟨(va_up κ25 this 11), hfin, (fun a ha => (va_up_ne _ _ (fun q => ha (by rw [q]; exact hk_this))).trans (kx23 a ha)), (show cnt ≤ cnt25 from by omega), (va_up_self _ _ _), (EX_k ex35), (show (∀ s, m27 this = some s → ln25 s = Int32.toNatClampNeg p0) from by intro s hs; obtain rfl : cnt18 = s := Option.some.inj (sm27.symm.trans hs); exact hln25), (show ((0 + 1) + 1) ≤ 2 from by omega), (show ((((0 + (Int32.toNatClampNeg (p0 * p1))) + (Int32.toNatClampNeg p0)) : Nat) : Int) ≤ 25 * p0.toInt from by have h1 := clampI (x := p0 * p1) (by omega); have h2 := clampI (x := p0) (by omega); have h3 := zmw (x := p0) (y := p1) (by omega) (by omega) (by omega) (by omega); have h4 : p0.toInt * p1.toInt ≤ p0.toInt * 24 := Int.mul_le_mul_of_nonneg_left (by omega) (by omega); omega)⟩⟩
