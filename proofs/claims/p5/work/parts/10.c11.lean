abbrev QC_X11_reform (κ : Nat → Nat) (wd : Nat) (G : Nat → Nat → Int32) (P : Nat → Nat → Option Nat) (U : Nat → Nat → Int64) (V : Nat → Nat → Nat → Int32) (X : Nat → Nat → Nat → Int64) (O : Nat → Nat → Nat → Option Nat) (kd : Nat → Nat) (ln : Nat → Nat) (cnt : Nat) (this : Nat) (p0 : Int32) : ((Int32 × (Nat → Nat → Int32) × (Nat → Nat → Option Nat) × (Nat → Nat → Int64) × (Nat → Nat → Nat → Int32) × (Nat → Nat → Nat → Int64) × (Nat → Nat → Nat → Option Nat) × (Nat → Nat) × (Nat → Nat) × Nat) × Nat × Nat) → Prop := (fun t => ∃ κ1 : Nat → Nat, (CInv κ1 wd (t.1.2.1) (t.1.2.2.1) (t.1.2.2.2.2.1) (t.1.2.2.2.2.2.2.1) (t.1.2.2.2.2.2.2.2.2.1) (t.1.2.2.2.2.2.2.2.2.2)) ∧ (∀ a, κ a ≠ 0 → κ1 a = κ a) ∧ (cnt ≤ (t.1.2.2.2.2.2.2.2.2.2)) ∧ ((∀ a, κ a ≠ 0 → ((t.1.2.2.1) 220) a = (P 220) a)) ∧ ((∀ a, κ a ≠ 0 → ((t.1.2.2.1) 229) a = (P 229) a)) ∧ ((∀ a, κ a ≠ 0 → ((t.1.2.2.1) 3) a = (P 3) a)) ∧ ((∀ a, κ a ≠ 0 → ((t.1.2.2.1) 0) a = (P 0) a)) ∧ ((∀ a, κ a ≠ 0 → ((t.1.2.2.2.2.1) 3) a = (V 3) a)) ∧ ((∀ a, κ a ≠ 0 → ((t.1.2.1) 160) a = (G 160) a)) ∧ ((∀ a, κ a ≠ 0 → (t.1.2.2.2.2.2.2.2.2.1) a = ln a)) ∧ ((∀ tp, (P 220) this = some tp → (((t.1.2.1) 141) tp).toInt = 0)) ∧ ((∀ tp, (P 220) this = some tp → ((((t.2.1) : Nat) : Int) ≤ 10 * ((G 141) tp).toInt + 28) ∧ ((((t.2.2) : Nat) : Int) ≤ 118 * ((G 141) tp).toInt + 4500))))
set_option maxHeartbeats 4000000 in
set_option maxRecDepth 100000 in
theorem ok_X11_reform (κ : Nat → Nat) (wd : Nat) (G : Nat → Nat → Int32) (P : Nat → Nat → Option Nat) (U : Nat → Nat → Int64) (V : Nat → Nat → Nat → Int32) (X : Nat → Nat → Nat → Int64) (O : Nat → Nat → Nat → Option Nat) (kd : Nat → Nat) (ln : Nat → Nat) (cnt : Nat) (this : Nat) (p0 : Int32) (hI : CInv κ wd G P V O ln cnt) (hk_this : κ this = 12) : wp (f_X11_reform G P U V X O kd ln cnt this p0) (QC_X11_reform κ wd G P U V X O kd ln cnt this p0) := by
  unfold f_X11_reform
  obtain ⟨hzG43, hzG44, hzG45, hzG60, hzG83, hzG84, hzG85, hzG87, hzG88, hzG102, hzG125, hzG126, hzG127, hzG141, hzG160, hzG161, hzG162, hzG165, hzG166, hzG183, hzG200, hzG203, hzG222, hzG231, hzG233, hzP0, hzP1, hzP2, hzP3, hzP4, hzP5, hzP20, hzP21, hzP22, hzP23, hzP40, hzP41, hzP42, hzP61, hzP62, hzP63, hzP64, hzP65, hzP66, hzP82, hzP101, hzP103, hzP104, hzP105, hzP106, hzP108, hzP109, hzP110, hzP120, hzP121, hzP122, hzP123, hzP140, hzP164, hzP180, hzP181, hzP182, hzP185, hzP186, hzP187, hzP201, hzP202, hzP220, hzP221, hzP224, hzP225, hzP226, hzP227, hzP228, hzP229, hzP230, hzP232, hzP234, hzP235, hzP236, hzV1, hzV2, hzV3, hzV9, hzO0, hzO1, hzO2, hzRA, hzRB, hzRI, hzRM103, hzRM104, hzRM108, hzLN, hzFL, hzW0, hzKC, hzWK⟩ := hI
  refine wp_sh0 ?_
  have zkm3 : (-3 : Int32).toInt = -3 := by decide +kernel
  have zkm2 : (-2 : Int32).toInt = -2 := by decide +kernel
  have zkm1 : (-1 : Int32).toInt = -1 := by decide +kernel
  have zk0 : (0 : Int32).toInt = 0 := by decide +kernel
  have zk1 : (1 : Int32).toInt = 1 := by decide +kernel
  have zk6 : (6 : Int32).toInt = 6 := by decide +kernel
  have zk100000 : (100000 : Int32).toInt = 100000 := by decide +kernel
  have r_p0 := i32r p0
  obtain ⟨u1, hn_u1⟩ := PBs (hzP220 this) hk_this
  obtain ⟨hk_u1, hl1_u1, hl2_u1, hw_u1⟩ := (hzP220 this).2 u1 hn_u1
  have hul : u1 < cnt := kcl0 hzKC hk_u1 (by decide)
  have htl : this < cnt := kcl0 hzKC hk_this (by decide)
  refine wp_nne hn_u1 ?_
  obtain ⟨⟨r4, c4_G141⟩, hc4, hq4⟩ := ok_X7_take κ wd G P U V X O kd ln cnt u1 hzG141 hzLN hk_u1
  obtain ⟨hg2, f3, f4, f5⟩ : (rng (0) 2000 c4_G141) ∧ (r4.toInt = ((G 141) u1).toInt) ∧ ((c4_G141 u1).toInt = 0) ∧ ((0 ≤ r4.toInt ∧ r4.toInt ≤ 2000)) := hq4
  refine wp_b2 hc4 ?_
  clear hc4
  refine wp_jn (fun j22 => wp (j22 ()) (sh (QC_X11_reform κ wd G P U V X O kd ln cnt this p0) 0 0)) ?_ ?_
  · show wp _ _
    exact ⟨_, rfl, ⟨κ, (show CInv κ wd (va_up G 141 c4_G141) P V O ln cnt from ⟨hzG43, hzG44, hzG45, hzG60, hzG83, hzG84, hzG85, hzG87, hzG88, hzG102, hzG125, hzG126, hzG127, hg2, hzG160, hzG161, hzG162, hzG165, hzG166, hzG183, hzG200, hzG203, hzG222, hzG231, hzG233, hzP0, hzP1, hzP2, hzP3, hzP4, hzP5, hzP20, hzP21, hzP22, hzP23, hzP40, hzP41, hzP42, hzP61, hzP62, hzP63, hzP64, hzP65, hzP66, hzP82, hzP101, hzP103, hzP104, hzP105, hzP106, hzP108, hzP109, hzP110, hzP120, hzP121, hzP122, hzP123, hzP140, hzP164, hzP180, hzP181, hzP182, hzP185, hzP186, hzP187, hzP201, hzP202, hzP220, hzP221, hzP224, hzP225, hzP226, hzP227, hzP228, hzP229, hzP230, hzP232, hzP234, hzP235, hzP236, hzV1, hzV2, hzV3, hzV9, hzO0, hzO1, hzO2, hzRA, hzRB, hzRI, hzRM103, hzRM104, hzRM108, hzLN, hzFL, hzW0, hzKC, hzWK⟩), (fun _ _ => rfl), (show cnt ≤ cnt from by omega), (show (∀ a, κ a ≠ 0 → (P 220) a = (P 220) a) from (fun _ _ => rfl)), (show (∀ a, κ a ≠ 0 → (P 229) a = (P 229) a) from (fun _ _ => rfl)), (show (∀ a, κ a ≠ 0 → (P 3) a = (P 3) a) from (fun _ _ => rfl)), (show (∀ a, κ a ≠ 0 → (P 0) a = (P 0) a) from (fun _ _ => rfl)), (show (∀ a, κ a ≠ 0 → (V 3) a = (V 3) a) from (fun _ _ => rfl)), (show (∀ a, κ a ≠ 0 → (G 160) a = (G 160) a) from (fun _ _ => rfl)), (show (∀ a, κ a ≠ 0 → ln a = ln a) from (fun _ _ => rfl)), (show (∀ tp, (P 220) this = some tp → (c4_G141 tp).toInt = 0) from by intro tp htp; obtain rfl : u1 = tp := Option.some.inj (hn_u1.symm.trans htp); omega), (show (∀ tp, (P 220) this = some tp → (((0 : Nat) : Int) ≤ 10 * ((G 141) tp).toInt + 28) ∧ (((0 : Nat) : Int) ≤ 118 * ((G 141) tp).toInt + 4500)) from by intro tp htp; obtain rfl : u1 = tp := Option.some.inj (hn_u1.symm.trans htp); omega)⟩⟩
  intro j22 Jj22
  refine wp_ite (fun c13 => ?_) (fun c13 => ?_)
  · have c13 := (z_le _ _).mp c13
    exact Jj22
  · have c13 := z_nle c13
    refine wp_ite (fun c19 => ?_) (fun c19 => ?_)
    · have c19 := (z_le _ _).mp c19
      refine wp_nn ((hzP224 this).1 hk_this) (fun a26 hn_a26 => ?_)
      obtain ⟨hk_a26, hl1_a26, hl2_a26, hw_a26⟩ := (hzP224 this).2 a26 hn_a26
      obtain ⟨⟨c30_G100, c30_G102, c30_G107, c30_G203⟩, hc30, hq30⟩ := ok_X5_clear κ wd (va_up G 141 c4_G141) P U V X O kd ln cnt a26 p0 hzG102 hzG200 hzG203 hzP103 hzP104 hzP105 hzP108 hzP201 hzP202 hzV1 hzRA hzRB hzRI hzRM103 hzRM104 hzRM108 hzLN hk_a26
      obtain ⟨hg6, hg7, hRB8, f9, f10⟩ : (rng (0) 40 c30_G102) ∧ (rng (0) 100 c30_G203) ∧ (RB κ ln (G 200) c30_G203 (P 202) (V 1)) ∧ (c30_G203 wd = (G 203) wd) ∧ ((c30_G102 a26).toInt = 0) := hq30
      refine wp_b4 hc30 ?_
      clear hc30
      have hFL11 : FL wd c30_G203 (V 3) := by exact FL_eq hzFL f9
      refine wp_nn ((hzP225 this).1 hk_this) (fun a34 hn_a34 => ?_)
      obtain ⟨hk_a34, hl1_a34, hl2_a34, hw_a34⟩ := (hzP225 this).2 a34 hn_a34
      refine wp_nne hn_u1 ?_
      refine wp_nn ((hzP140 u1).1 hk_u1) (fun a41 hn_a41 => ?_)
      obtain ⟨hk_a41, hl1_a41, hl2_a41, hw_a41⟩ := (hzP140 u1).2 a41 hn_a41
      have hz_a41 : (Int32.ofNat (ln a41)).toInt = ((ln a41 : Nat) : Int) := ofN_eq (by omega)
      refine wp_nne hn_a26 ?_
      obtain ⟨⟨⟨c49_G, c49_P, c49_U, c49_V, c49_X, c49_O, c49_kd, c49_ln, c49_cnt⟩, v1_49, v2_49⟩, hc49, hq49⟩ := ok_X4_read κ wd (va_up (va_up (va_up (va_up (va_up G 141 c4_G141) 100 c30_G100) 102 c30_G102) 107 c30_G107) 203 c30_G203) P U V X O kd ln cnt a34 a41 r4 a26 ⟨hzG43, hzG44, hzG45, hzG60, hzG83, hzG84, hzG85, hzG87, hzG88, hg6, hzG125, hzG126, hzG127, hg2, hzG160, hzG161, hzG162, hzG165, hzG166, hzG183, hzG200, hg7, hzG222, hzG231, hzG233, hzP0, hzP1, hzP2, hzP3, hzP4, hzP5, hzP20, hzP21, hzP22, hzP23, hzP40, hzP41, hzP42, hzP61, hzP62, hzP63, hzP64, hzP65, hzP66, hzP82, hzP101, hzP103, hzP104, hzP105, hzP106, hzP108, hzP109, hzP110, hzP120, hzP121, hzP122, hzP123, hzP140, hzP164, hzP180, hzP181, hzP182, hzP185, hzP186, hzP187, hzP201, hzP202, hzP220, hzP221, hzP224, hzP225, hzP226, hzP227, hzP228, hzP229, hzP230, hzP232, hzP234, hzP235, hzP236, hzV1, hzV2, hzV3, hzV9, hzO0, hzO1, hzO2, hzRA, hRB8, hzRI, hzRM103, hzRM104, hzRM108, hzLN, hFL11, hzW0, hzKC, hzWK⟩ hk_a34 hk_a41 hk_a26 (show 0 ≤ r4.toInt from by omega) (show ((ln a41 : Nat) : Int) ≤ 2000 from by omega)
      obtain ⟨κ49_11, hCI49, hxx49, hcc13, hfr14, hfr15, hfr16, hfr17, hfr18, hfr19, hfr20, hfr21, f22, f23, f24⟩ : ∃ κ1 : Nat → Nat, (CInv κ1 wd c49_G c49_P c49_V c49_O c49_ln c49_cnt) ∧ (∀ a, κ a ≠ 0 → κ1 a = κ a) ∧ (cnt ≤ c49_cnt) ∧ ((∀ a, κ a ≠ 0 → (c49_P 220) a = (P 220) a)) ∧ ((∀ a, κ a ≠ 0 → (c49_P 229) a = (P 229) a)) ∧ ((∀ a, κ a ≠ 0 → (c49_P 3) a = (P 3) a)) ∧ ((∀ a, κ a ≠ 0 → (c49_G 141) a = c4_G141 a)) ∧ ((∀ a, κ a ≠ 0 → (c49_P 0) a = (P 0) a)) ∧ ((∀ a, κ a ≠ 0 → (c49_V 3) a = (V 3) a)) ∧ ((∀ a, κ a ≠ 0 → (c49_G 160) a = (G 160) a)) ∧ ((∀ a, κ a ≠ 0 → c49_ln a = ln a)) ∧ ((c49_G 203) wd = c30_G203 wd) ∧ (((v1_49 : Nat) : Int) ≤ 10 * r4.toInt + 10) ∧ (((v2_49 : Nat) : Int) ≤ 118 * r4.toInt + 118) := hq49
      obtain ⟨h49_G43, h49_G44, h49_G45, h49_G60, h49_G83, h49_G84, h49_G85, h49_G87, h49_G88, h49_G102, h49_G125, h49_G126, h49_G127, h49_G141, h49_G160, h49_G161, h49_G162, h49_G165, h49_G166, h49_G183, h49_G200, h49_G203, h49_G222, h49_G231, h49_G233, h49_P0, h49_P1, h49_P2, h49_P3, h49_P4, h49_P5, h49_P20, h49_P21, h49_P22, h49_P23, h49_P40, h49_P41, h49_P42, h49_P61, h49_P62, h49_P63, h49_P64, h49_P65, h49_P66, h49_P82, h49_P101, h49_P103, h49_P104, h49_P105, h49_P106, h49_P108, h49_P109, h49_P110, h49_P120, h49_P121, h49_P122, h49_P123, h49_P140, h49_P164, h49_P180, h49_P181, h49_P182, h49_P185, h49_P186, h49_P187, h49_P201, h49_P202, h49_P220, h49_P221, h49_P224, h49_P225, h49_P226, h49_P227, h49_P228, h49_P229, h49_P230, h49_P232, h49_P234, h49_P235, h49_P236, h49_V1, h49_V2, h49_V3, h49_V9, h49_O0, h49_O1, h49_O2, h49_RA, h49_RB, h49_RI, h49_RM103, h49_RM104, h49_RM108, h49_LN, h49_FL, h49_W0, h49_KC, h49_WK⟩ := hCI49
      have kx25 : ∀ a, κ a ≠ 0 → κ49_11 a = κ a := hxx49
      have hk26 : κ49_11 this = 12 := kxk hxx49 hk_this (by decide)
      have hF27 : (∀ a, κ a ≠ 0 → (c49_P 220) a = (P 220) a) := fun a ha => (hfr14 a (ha)).trans (rfl)
      have hF28 : (∀ a, κ a ≠ 0 → (c49_P 229) a = (P 229) a) := fun a ha => (hfr15 a (ha)).trans (rfl)
      have hF29 : (∀ a, κ a ≠ 0 → (c49_P 3) a = (P 3) a) := fun a ha => (hfr16 a (ha)).trans (rfl)
      have hF30 : (∀ a, κ a ≠ 0 → (c49_P 0) a = (P 0) a) := fun a ha => (hfr18 a (ha)).trans (rfl)
      have hF31 : (∀ a, κ a ≠ 0 → (c49_V 3) a = (V 3) a) := fun a ha => (hfr19 a (ha)).trans (rfl)
      have hF32 : (∀ a, κ a ≠ 0 → (c49_G 160) a = (G 160) a) := fun a ha => (hfr20 a (ha)).trans (rfl)
      have hF33 : (∀ a, κ a ≠ 0 → c49_ln a = ln a) := fun a ha => (hfr21 a (ha)).trans (rfl)
      refine wp_bA9 hc49 ?_
      have hT49 : ((c49_G 141) u1).toInt = (c4_G141 u1).toInt := congrArg Int32.toInt (hfr17 u1 (by rw [hk_u1]; decide))
      refine wp_nn ((h49_P225 this).1 hk26) (fun a53 hn_a53 => ?_)
      obtain ⟨hk_a53, hl1_a53, hl2_a53, hw_a53⟩ := (h49_P225 this).2 a53 hn_a53
      refine wp_ite (fun c59 => ?_) (fun c59 => ?_)
      · have c59 := congrArg Int32.toInt c59
        have b34 := h49_G222 this
        refine wp_ite (fun c70 => ?_) (fun c70 => ?_)
        · have c70 := (z_lt _ _).mp c70
          refine wp_nn ((h49_P226 this).1 hk26) (fun a77 hn_a77 => ?_)
          obtain ⟨hk_a77, hl1_a77, hl2_a77, hw_a77⟩ := (h49_P226 this).2 a77 hn_a77
          refine wp_nn ((h49_P224 this).1 hk26) (fun a81 hn_a81 => ?_)
          obtain ⟨hk_a81, hl1_a81, hl2_a81, hw_a81⟩ := (h49_P224 this).2 a81 hn_a81
          obtain ⟨⟨c84_G183, c84_G203, c84_P181, c84_P182, c84_U184, c84_V0, c84_V1, c84_V11, c84_X0⟩, hc84, hq84⟩ := ok_X9_turnParts κ49_11 wd c49_G c49_P c49_U c49_V c49_X c49_O c49_kd c49_ln c49_cnt a77 a81 h49_G102 h49_G183 h49_G200 h49_G203 h49_P20 h49_P21 h49_P22 h49_P23 h49_P101 h49_P103 h49_P108 h49_P109 h49_P110 h49_P181 h49_P182 h49_P201 h49_P202 h49_V1 h49_O0 h49_RA h49_RB h49_RI h49_RM103 h49_RM108 h49_LN hk_a77 hk_a81
          obtain ⟨hg35, hg36, hg37, hg38, hg39, hRB40, f41⟩ : (rng (0) 40 c84_G183) ∧ (rng (0) 100 c84_G203) ∧ (PB κ49_11 c49_ln wd 10 100 40 40 0 c84_P181) ∧ (PB κ49_11 c49_ln wd 10 100 40 40 0 c84_P182) ∧ (rng2 (0) 24 c84_V1) ∧ (RB κ49_11 c49_ln (c49_G 200) c84_G203 (c49_P 202) c84_V1) ∧ (c84_G203 wd = (c49_G 203) wd) := hq84
          refine wp_b9 hc84 ?_
          clear hc84
          have hFL42 : FL wd c84_G203 (c49_V 3) := by exact FL_eq h49_FL f41
          refine wp_nn ((h49_P221 this).1 hk26) (fun a88 hn_a88 => ?_)
          obtain ⟨hk_a88, hl1_a88, hl2_a88, hw_a88⟩ := (h49_P221 this).2 a88 hn_a88
          have hz_a88 : (Int32.ofNat (c49_ln a88)).toInt = ((c49_ln a88 : Nat) : Int) := ofN_eq (by omega)
          refine wp_nne hn_a81 ?_
          refine wp_if ⟨by omega, by omega⟩ ?_
          refine wp_vl (fun m99 em99 => ?_)
          have ho44 : OB κ49_11 6 m99 := by rw [em99]; exact OB_up h49_O2 hk_a81
          clear em99
          refine wp_tk ?_
          refine wp_newc (κ := κ49_11) (wd := wd) (Ke := 0) ⟨h49_G43, h49_G44, h49_G45, h49_G60, h49_G83, h49_G84, h49_G85, h49_G87, h49_G88, h49_G102, h49_G125, h49_G126, h49_G127, h49_G141, h49_G160, h49_G161, h49_G162, h49_G165, h49_G166, hg35, h49_G200, hg36, h49_G222, h49_G231, h49_G233, h49_P0, h49_P1, h49_P2, h49_P3, h49_P4, h49_P5, h49_P20, h49_P21, h49_P22, h49_P23, h49_P40, h49_P41, h49_P42, h49_P61, h49_P62, h49_P63, h49_P64, h49_P65, h49_P66, h49_P82, h49_P101, h49_P103, h49_P104, h49_P105, h49_P106, h49_P108, h49_P109, h49_P110, h49_P120, h49_P121, h49_P122, h49_P123, h49_P140, h49_P164, h49_P180, hg37, hg38, h49_P185, h49_P186, h49_P187, h49_P201, h49_P202, h49_P220, h49_P221, h49_P224, h49_P225, h49_P226, h49_P227, h49_P228, h49_P229, h49_P230, h49_P232, h49_P234, h49_P235, h49_P236, hg39, h49_V2, h49_V3, h49_V9, h49_O0, h49_O1, ho44, h49_RA, hRB40, h49_RI, h49_RM103, h49_RM104, h49_RM108, h49_LN, hFL42, h49_W0, h49_KC, h49_WK⟩ (by decide) (by omega) (fun κ101 G101 P101 U101 V101 X101 O101 kd101 ln101 cnt101 hCI101 hcn101 hkn101 hln101 hex101 hvz101 hfs101 => ?_)
          obtain ⟨h101_G43, h101_G44, h101_G45, h101_G60, h101_G83, h101_G84, h101_G85, h101_G87, h101_G88, h101_G102, h101_G125, h101_G126, h101_G127, h101_G141, h101_G160, h101_G161, h101_G162, h101_G165, h101_G166, h101_G183, h101_G200, h101_G203, h101_G222, h101_G231, h101_G233, h101_P0, h101_P1, h101_P2, h101_P3, h101_P4, h101_P5, h101_P20, h101_P21, h101_P22, h101_P23, h101_P40, h101_P41, h101_P42, h101_P61, h101_P62, h101_P63, h101_P64, h101_P65, h101_P66, h101_P82, h101_P101, h101_P103, h101_P104, h101_P105, h101_P106, h101_P108, h101_P109, h101_P110, h101_P120, h101_P121, h101_P122, h101_P123, h101_P140, h101_P164, h101_P180, h101_P181, h101_P182, h101_P185, h101_P186, h101_P187, h101_P201, h101_P202, h101_P220, h101_P221, h101_P224, h101_P225, h101_P226, h101_P227, h101_P228, h101_P229, h101_P230, h101_P232, h101_P234, h101_P235, h101_P236, h101_V1, h101_V2, h101_V3, h101_V9, h101_O0, h101_O1, h101_O2, h101_RA, h101_RB, h101_RI, h101_RM103, h101_RM104, h101_RM108, h101_LN, h101_FL, h101_W0, h101_KC, h101_WK⟩ := hCI101
          have hx45 : ∀ a, κ49_11 a ≠ 0 → κ101 a = κ49_11 a := fun a ha => (hex101 a (kclt h49_KC ha) (Nat.ne_of_lt (kclt h49_KC ha))).1
          have kx46 : ∀ a, κ a ≠ 0 → κ101 a = κ a := kxt kx25 hx45
          have hk47 : κ101 this = 12 := kxk hx45 hk26 (by decide)
          have hF48 : (∀ a, κ a ≠ 0 → (P101 220) a = (P 220) a) := fun a ha => ((hex101 a (kclt h49_KC (kxn kx25 ha)) (Nat.ne_of_lt (kclt h49_KC (kxn kx25 ha)))).2.2.1 220).trans (hF27 a ha)
          have hF49 : (∀ a, κ a ≠ 0 → (P101 229) a = (P 229) a) := fun a ha => ((hex101 a (kclt h49_KC (kxn kx25 ha)) (Nat.ne_of_lt (kclt h49_KC (kxn kx25 ha)))).2.2.1 229).trans (hF28 a ha)
          have hF50 : (∀ a, κ a ≠ 0 → (P101 3) a = (P 3) a) := fun a ha => ((hex101 a (kclt h49_KC (kxn kx25 ha)) (Nat.ne_of_lt (kclt h49_KC (kxn kx25 ha)))).2.2.1 3).trans (hF29 a ha)
          have hF51 : (∀ a, κ a ≠ 0 → (P101 0) a = (P 0) a) := fun a ha => ((hex101 a (kclt h49_KC (kxn kx25 ha)) (Nat.ne_of_lt (kclt h49_KC (kxn kx25 ha)))).2.2.1 0).trans (hF30 a ha)
          have hF52 : (∀ a, κ a ≠ 0 → (V101 3) a = (V 3) a) := fun a ha => ((hex101 a (kclt h49_KC (kxn kx25 ha)) (Nat.ne_of_lt (kclt h49_KC (kxn kx25 ha)))).2.2.2.1 3).trans (hF31 a ha)
          have hF53 : (∀ a, κ a ≠ 0 → (G101 160) a = (G 160) a) := fun a ha => ((hex101 a (kclt h49_KC (kxn kx25 ha)) (Nat.ne_of_lt (kclt h49_KC (kxn kx25 ha)))).2.1 160).trans (hF32 a ha)
          have hF54 : (∀ a, κ a ≠ 0 → ln101 a = ln a) := fun a ha => ((hex101 a (kclt h49_KC (kxn kx25 ha)) (Nat.ne_of_lt (kclt h49_KC (kxn kx25 ha)))).2.2.2.2.2).trans (hF33 a ha)
          have hT101 : ((G101 141) u1).toInt = ((c49_G 141) u1).toInt := congrArg Int32.toInt ((hex101 u1 (by omega) (by omega)).2.1 141)
          have hS101 : ((G101 222) this).toInt = ((c49_G 222) this).toInt := congrArg Int32.toInt ((hex101 this (by omega) (by omega)).2.1 222)
          obtain ⟨⟨⟨c105_G, c105_P, c105_U, c105_V, c105_X, c105_O, c105_kd, c105_ln, c105_cnt⟩, v1_105, v2_105⟩, hc105, hq105⟩ := ok_X5_init κ101 wd G101 P101 U101 V101 X101 O101 kd101 ln101 cnt101 c49_cnt ⟨h101_G43, h101_G44, h101_G45, h101_G60, h101_G83, h101_G84, h101_G85, h101_G87, h101_G88, h101_G102, h101_G125, h101_G126, h101_G127, h101_G141, h101_G160, h101_G161, h101_G162, h101_G165, h101_G166, h101_G183, h101_G200, h101_G203, h101_G222, h101_G231, h101_G233, h101_P0, h101_P1, h101_P2, h101_P3, h101_P4, h101_P5, h101_P20, h101_P21, h101_P22, h101_P23, h101_P40, h101_P41, h101_P42, h101_P61, h101_P62, h101_P63, h101_P64, h101_P65, h101_P66, h101_P82, h101_P101, h101_P103, h101_P104, h101_P105, h101_P106, h101_P108, h101_P109, h101_P110, h101_P120, h101_P121, h101_P122, h101_P123, h101_P140, h101_P164, h101_P180, h101_P181, h101_P182, h101_P185, h101_P186, h101_P187, h101_P201, h101_P202, h101_P220, h101_P221, h101_P224, h101_P225, h101_P226, h101_P227, h101_P228, h101_P229, h101_P230, h101_P232, h101_P234, h101_P235, h101_P236, h101_V1, h101_V2, h101_V3, h101_V9, h101_O0, h101_O1, h101_O2, h101_RA, h101_RB, h101_RI, h101_RM103, h101_RM104, h101_RM108, h101_LN, h101_FL, h101_W0, h101_KC, h101_WK⟩ hkn101 (by omega) (by omega)
          obtain ⟨κ105_54, hCI105, hxx105, hcc56, hk57, hex58, f59, f60⟩ : ∃ κ1 : Nat → Nat, (CInv κ1 wd c105_G c105_P c105_V c105_O c105_ln c105_cnt) ∧ (∀ a, κ101 a ≠ 0 → κ1 a = κ101 a) ∧ (cnt101 ≤ c105_cnt) ∧ (κ1 c49_cnt = 6) ∧ (EX c49_cnt cnt101 κ101 κ1 G101 c105_G P101 c105_P V101 c105_V O101 c105_O ln101 c105_ln) ∧ (v1_105 ≤ 17) ∧ (v2_105 ≤ 4300) := hq105
          obtain ⟨h105_G43, h105_G44, h105_G45, h105_G60, h105_G83, h105_G84, h105_G85, h105_G87, h105_G88, h105_G102, h105_G125, h105_G126, h105_G127, h105_G141, h105_G160, h105_G161, h105_G162, h105_G165, h105_G166, h105_G183, h105_G200, h105_G203, h105_G222, h105_G231, h105_G233, h105_P0, h105_P1, h105_P2, h105_P3, h105_P4, h105_P5, h105_P20, h105_P21, h105_P22, h105_P23, h105_P40, h105_P41, h105_P42, h105_P61, h105_P62, h105_P63, h105_P64, h105_P65, h105_P66, h105_P82, h105_P101, h105_P103, h105_P104, h105_P105, h105_P106, h105_P108, h105_P109, h105_P110, h105_P120, h105_P121, h105_P122, h105_P123, h105_P140, h105_P164, h105_P180, h105_P181, h105_P182, h105_P185, h105_P186, h105_P187, h105_P201, h105_P202, h105_P220, h105_P221, h105_P224, h105_P225, h105_P226, h105_P227, h105_P228, h105_P229, h105_P230, h105_P232, h105_P234, h105_P235, h105_P236, h105_V1, h105_V2, h105_V3, h105_V9, h105_O0, h105_O1, h105_O2, h105_RA, h105_RB, h105_RI, h105_RM103, h105_RM104, h105_RM108, h105_LN, h105_FL, h105_W0, h105_KC, h105_WK⟩ := hCI105
          have kx61 : ∀ a, κ a ≠ 0 → κ105_54 a = κ a := kxt kx46 hxx105
          have hk62 : κ105_54 this = 12 := kxk hxx105 hk47 (by decide)
          have hF63 : (∀ a, κ a ≠ 0 → (c105_P 220) a = (P 220) a) := fun a ha => ((fun a ha => (hex58 a (kclt h101_KC ha) (kcne hkn101 ha)).2.2.1 220) a (kxn kx46 ha)).trans (hF48 a ha)
          have hF64 : (∀ a, κ a ≠ 0 → (c105_P 229) a = (P 229) a) := fun a ha => ((fun a ha => (hex58 a (kclt h101_KC ha) (kcne hkn101 ha)).2.2.1 229) a (kxn kx46 ha)).trans (hF49 a ha)
          have hF65 : (∀ a, κ a ≠ 0 → (c105_P 3) a = (P 3) a) := fun a ha => ((fun a ha => (hex58 a (kclt h101_KC ha) (kcne hkn101 ha)).2.2.1 3) a (kxn kx46 ha)).trans (hF50 a ha)
          have hF66 : (∀ a, κ a ≠ 0 → (c105_P 0) a = (P 0) a) := fun a ha => ((fun a ha => (hex58 a (kclt h101_KC ha) (kcne hkn101 ha)).2.2.1 0) a (kxn kx46 ha)).trans (hF51 a ha)
          have hF67 : (∀ a, κ a ≠ 0 → (c105_V 3) a = (V 3) a) := fun a ha => ((fun a ha => (hex58 a (kclt h101_KC ha) (kcne hkn101 ha)).2.2.2.1 3) a (kxn kx46 ha)).trans (hF52 a ha)
          have hF68 : (∀ a, κ a ≠ 0 → (c105_G 160) a = (G 160) a) := fun a ha => ((fun a ha => (hex58 a (kclt h101_KC ha) (kcne hkn101 ha)).2.1 160) a (kxn kx46 ha)).trans (hF53 a ha)
          have hF69 : (∀ a, κ a ≠ 0 → c105_ln a = ln a) := fun a ha => ((fun a ha => (hex58 a (kclt h101_KC ha) (kcne hkn101 ha)).2.2.2.2.2) a (kxn kx46 ha)).trans (hF54 a ha)
          have hlo_c49_cnt := h105_LN c49_cnt (by rw [hk57]; decide)
          refine wp_bA9 hc105 ?_
          have hT105 : ((c105_G 141) u1).toInt = ((G101 141) u1).toInt := congrArg Int32.toInt ((hex58 u1 (by omega) (by omega)).2.1 141)
          have hS105 : ((c105_G 222) this).toInt = ((G101 222) this).toInt := congrArg Int32.toInt ((hex58 this (by omega) (by omega)).2.1 222)
          refine wp_vl (fun m108 em108 => ?_)
          have hp70 : PB κ105_54 c105_ln wd 12 6 0 2500 0 m108 := by rw [em108]; exact PB_up h105_P224 hk57 (by omega) (by omega) (fun h9 => absurd h9 (by decide))
          have sm108 : m108 this = some c49_cnt := by rw [em108]; exact va_up_self _ _ _
          clear em108
          refine wp_vl (fun m113 em113 => ?_)
          have sm113 : (m113 this).toInt = p0.toInt := by rw [em113, va_up_self]
          clear em113
          have b71 := h105_G222 this
          have f72 : (((c105_G 222) this) + 1).toInt = ((c105_G 222) this).toInt + 1 := z_addc (by decide +kernel) (by omega) (by omega)
          refine wp_vl (fun x123 ex123 => ?_)
          have f73 : x123.toInt = (((c105_G 222) this) + 1).toInt := congrArg Int32.toInt ex123
          clear ex123
          refine wp_vl (fun m123 em123 => ?_)
          have hg74 : rng (0) 6 m123 := by rw [em123]; exact rng_vup h105_G222 (by omega) (by omega)
          have sm123 : (m123 this).toInt = x123.toInt := by rw [em123, va_up_self]
          have b75 := hg74 this
          clear em123
          have f77 : ((m123 this) - 1).toInt = (m123 this).toInt - 1 := z_subc (by decide +kernel) (by omega) (by omega)
          exact ⟨_, rfl, ⟨κ105_54, (show CInv κ105_54 wd (va_up (va_up c105_G 223 m113) 222 m123) (va_up c105_P 224 m108) c105_V c105_O c105_ln c105_cnt from ⟨h105_G43, h105_G44, h105_G45, h105_G60, h105_G83, h105_G84, h105_G85, h105_G87, h105_G88, h105_G102, h105_G125, h105_G126, h105_G127, h105_G141, h105_G160, h105_G161, h105_G162, h105_G165, h105_G166, h105_G183, h105_G200, h105_G203, hg74, h105_G231, h105_G233, h105_P0, h105_P1, h105_P2, h105_P3, h105_P4, h105_P5, h105_P20, h105_P21, h105_P22, h105_P23, h105_P40, h105_P41, h105_P42, h105_P61, h105_P62, h105_P63, h105_P64, h105_P65, h105_P66, h105_P82, h105_P101, h105_P103, h105_P104, h105_P105, h105_P106, h105_P108, h105_P109, h105_P110, h105_P120, h105_P121, h105_P122, h105_P123, h105_P140, h105_P164, h105_P180, h105_P181, h105_P182, h105_P185, h105_P186, h105_P187, h105_P201, h105_P202, h105_P220, h105_P221, hp70, h105_P225, h105_P226, h105_P227, h105_P228, h105_P229, h105_P230, h105_P232, h105_P234, h105_P235, h105_P236, h105_V1, h105_V2, h105_V3, h105_V9, h105_O0, h105_O1, h105_O2, h105_RA, h105_RB, h105_RI, h105_RM103, h105_RM104, h105_RM108, h105_LN, h105_FL, h105_W0, h105_KC, h105_WK⟩), kx61, (show cnt ≤ c105_cnt from by omega), (show (∀ a, κ a ≠ 0 → (c105_P 220) a = (P 220) a) from hF63), (show (∀ a, κ a ≠ 0 → (c105_P 229) a = (P 229) a) from hF64), (show (∀ a, κ a ≠ 0 → (c105_P 3) a = (P 3) a) from hF65), (show (∀ a, κ a ≠ 0 → (c105_P 0) a = (P 0) a) from hF66), (show (∀ a, κ a ≠ 0 → (c105_V 3) a = (V 3) a) from hF67), (show (∀ a, κ a ≠ 0 → (c105_G 160) a = (G 160) a) from hF68), (show (∀ a, κ a ≠ 0 → c105_ln a = ln a) from hF69), (show (∀ tp, (P 220) this = some tp → ((c105_G 141) tp).toInt = 0) from by intro tp htp; obtain rfl : u1 = tp := Option.some.inj (hn_u1.symm.trans htp); omega), (show (∀ tp, (P 220) this = some tp → ((((((0 + v1_49) + 1) + v1_105) : Nat) : Int) ≤ 10 * ((G 141) tp).toInt + 28) ∧ ((((((0 + v2_49) + 11) + v2_105) : Nat) : Int) ≤ 118 * ((G 141) tp).toInt + 4500)) from by intro tp htp; obtain rfl : u1 = tp := Option.some.inj (hn_u1.symm.trans htp); omega)⟩⟩
        · have c70 := z_nlt c70
          exact ⟨_, rfl, ⟨κ49_11, (show CInv κ49_11 wd c49_G c49_P c49_V c49_O c49_ln c49_cnt from ⟨h49_G43, h49_G44, h49_G45, h49_G60, h49_G83, h49_G84, h49_G85, h49_G87, h49_G88, h49_G102, h49_G125, h49_G126, h49_G127, h49_G141, h49_G160, h49_G161, h49_G162, h49_G165, h49_G166, h49_G183, h49_G200, h49_G203, h49_G222, h49_G231, h49_G233, h49_P0, h49_P1, h49_P2, h49_P3, h49_P4, h49_P5, h49_P20, h49_P21, h49_P22, h49_P23, h49_P40, h49_P41, h49_P42, h49_P61, h49_P62, h49_P63, h49_P64, h49_P65, h49_P66, h49_P82, h49_P101, h49_P103, h49_P104, h49_P105, h49_P106, h49_P108, h49_P109, h49_P110, h49_P120, h49_P121, h49_P122, h49_P123, h49_P140, h49_P164, h49_P180, h49_P181, h49_P182, h49_P185, h49_P186, h49_P187, h49_P201, h49_P202, h49_P220, h49_P221, h49_P224, h49_P225, h49_P226, h49_P227, h49_P228, h49_P229, h49_P230, h49_P232, h49_P234, h49_P235, h49_P236, h49_V1, h49_V2, h49_V3, h49_V9, h49_O0, h49_O1, h49_O2, h49_RA, h49_RB, h49_RI, h49_RM103, h49_RM104, h49_RM108, h49_LN, h49_FL, h49_W0, h49_KC, h49_WK⟩), kx25, (show cnt ≤ c49_cnt from by omega), (show (∀ a, κ a ≠ 0 → (c49_P 220) a = (P 220) a) from hF27), (show (∀ a, κ a ≠ 0 → (c49_P 229) a = (P 229) a) from hF28), (show (∀ a, κ a ≠ 0 → (c49_P 3) a = (P 3) a) from hF29), (show (∀ a, κ a ≠ 0 → (c49_P 0) a = (P 0) a) from hF30), (show (∀ a, κ a ≠ 0 → (c49_V 3) a = (V 3) a) from hF31), (show (∀ a, κ a ≠ 0 → (c49_G 160) a = (G 160) a) from hF32), (show (∀ a, κ a ≠ 0 → c49_ln a = ln a) from hF33), (show (∀ tp, (P 220) this = some tp → ((c49_G 141) tp).toInt = 0) from by intro tp htp; obtain rfl : u1 = tp := Option.some.inj (hn_u1.symm.trans htp); omega), (show (∀ tp, (P 220) this = some tp → ((((0 + v1_49) : Nat) : Int) ≤ 10 * ((G 141) tp).toInt + 28) ∧ ((((0 + v2_49) : Nat) : Int) ≤ 118 * ((G 141) tp).toInt + 4500)) from by intro tp htp; obtain rfl : u1 = tp := Option.some.inj (hn_u1.symm.trans htp); omega)⟩⟩
      · have c59 := z_ne c59
        exact ⟨_, rfl, ⟨κ49_11, (show CInv κ49_11 wd c49_G c49_P c49_V c49_O c49_ln c49_cnt from ⟨h49_G43, h49_G44, h49_G45, h49_G60, h49_G83, h49_G84, h49_G85, h49_G87, h49_G88, h49_G102, h49_G125, h49_G126, h49_G127, h49_G141, h49_G160, h49_G161, h49_G162, h49_G165, h49_G166, h49_G183, h49_G200, h49_G203, h49_G222, h49_G231, h49_G233, h49_P0, h49_P1, h49_P2, h49_P3, h49_P4, h49_P5, h49_P20, h49_P21, h49_P22, h49_P23, h49_P40, h49_P41, h49_P42, h49_P61, h49_P62, h49_P63, h49_P64, h49_P65, h49_P66, h49_P82, h49_P101, h49_P103, h49_P104, h49_P105, h49_P106, h49_P108, h49_P109, h49_P110, h49_P120, h49_P121, h49_P122, h49_P123, h49_P140, h49_P164, h49_P180, h49_P181, h49_P182, h49_P185, h49_P186, h49_P187, h49_P201, h49_P202, h49_P220, h49_P221, h49_P224, h49_P225, h49_P226, h49_P227, h49_P228, h49_P229, h49_P230, h49_P232, h49_P234, h49_P235, h49_P236, h49_V1, h49_V2, h49_V3, h49_V9, h49_O0, h49_O1, h49_O2, h49_RA, h49_RB, h49_RI, h49_RM103, h49_RM104, h49_RM108, h49_LN, h49_FL, h49_W0, h49_KC, h49_WK⟩), kx25, (show cnt ≤ c49_cnt from by omega), (show (∀ a, κ a ≠ 0 → (c49_P 220) a = (P 220) a) from hF27), (show (∀ a, κ a ≠ 0 → (c49_P 229) a = (P 229) a) from hF28), (show (∀ a, κ a ≠ 0 → (c49_P 3) a = (P 3) a) from hF29), (show (∀ a, κ a ≠ 0 → (c49_P 0) a = (P 0) a) from hF30), (show (∀ a, κ a ≠ 0 → (c49_V 3) a = (V 3) a) from hF31), (show (∀ a, κ a ≠ 0 → (c49_G 160) a = (G 160) a) from hF32), (show (∀ a, κ a ≠ 0 → c49_ln a = ln a) from hF33), (show (∀ tp, (P 220) this = some tp → ((c49_G 141) tp).toInt = 0) from by intro tp htp; obtain rfl : u1 = tp := Option.some.inj (hn_u1.symm.trans htp); omega), (show (∀ tp, (P 220) this = some tp → ((((0 + v1_49) : Nat) : Int) ≤ 10 * ((G 141) tp).toInt + 28) ∧ ((((0 + v2_49) : Nat) : Int) ≤ 118 * ((G 141) tp).toInt + 4500)) from by intro tp htp; obtain rfl : u1 = tp := Option.some.inj (hn_u1.symm.trans htp); omega)⟩⟩
    · have c19 := z_nle c19
      exact Jj22
