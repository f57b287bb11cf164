abbrev QC_X11_back (κ : Nat → Nat) (wd : Nat) (G : Nat → Nat → Int32) (P : Nat → Nat → Option Nat) (U : Nat → Nat → Int64) (V : Nat → Nat → Nat → Int32) (X : Nat → Nat → Nat → Int64) (O : Nat → Nat → Nat → Option Nat) (kd : Nat → Nat) (ln : Nat → Nat) (cnt : Nat) (this : Nat) (p0 : Int32) : ((Int32 × (Nat → Nat → Int32) × (Nat → Nat → Option Nat) × (Nat → Nat → Int64) × (Nat → Nat → Nat → Int32) × (Nat → Nat → Nat → Int64) × (Nat → Nat → Nat → Option Nat) × (Nat → Nat) × (Nat → Nat) × Nat) × Nat × Nat) → Prop := (fun t => ∃ κ1 : Nat → Nat, (CInv κ1 wd (t.1.2.1) (t.1.2.2.1) (t.1.2.2.2.2.1) (t.1.2.2.2.2.2.2.1) (t.1.2.2.2.2.2.2.2.2.1) (t.1.2.2.2.2.2.2.2.2.2)) ∧ (∀ a, κ a ≠ 0 → κ1 a = κ a) ∧ (cnt ≤ (t.1.2.2.2.2.2.2.2.2.2)) ∧ ((∀ a, κ a ≠ 0 → ((t.1.2.2.1) 220) a = (P 220) a)) ∧ ((∀ a, κ a ≠ 0 → ((t.1.2.2.1) 229) a = (P 229) a)) ∧ ((∀ a, κ a ≠ 0 → ((t.1.2.2.1) 3) a = (P 3) a)) ∧ ((∀ a, κ a ≠ 0 → ((t.1.2.1) 83) a = (G 83) a)) ∧ ((∀ a, κ a ≠ 0 → ((t.1.2.2.1) 82) a = (P 82) a)) ∧ ((∀ a, κ a ≠ 0 → ((t.1.2.2.1) 0) a = (P 0) a)) ∧ ((∀ a, κ a ≠ 0 → ((t.1.2.1) 160) a = (G 160) a)) ∧ ((∀ a, κ a ≠ 0 → (t.1.2.2.2.2.2.2.2.2.1) a = ln a)) ∧ ((∀ bk fl, (P 229) this = some bk → (P 3) bk = some fl → ((((t.2.1) : Nat) : Int) + 3 * s7 ((V 3) fl) ≤ 3 * s7 (((t.1.2.2.2.2.1) 3) fl)) ∧ ((((t.2.2) : Nat) : Int) + 2504 * s7 ((V 3) fl) ≤ 2504 * s7 (((t.1.2.2.2.2.1) 3) fl)))) ∧ ((∀ tp, (P 220) this = some tp → (((t.1.2.1) 141) tp).toInt = 0)))
set_option maxHeartbeats 4000000 in
set_option maxRecDepth 100000 in
theorem ok_X11_back (κ : Nat → Nat) (wd : Nat) (G : Nat → Nat → Int32) (P : Nat → Nat → Option Nat) (U : Nat → Nat → Int64) (V : Nat → Nat → Nat → Int32) (X : Nat → Nat → Nat → Int64) (O : Nat → Nat → Nat → Option Nat) (kd : Nat → Nat) (ln : Nat → Nat) (cnt : Nat) (this : Nat) (p0 : Int32) (hI : CInv κ wd G P V O ln cnt) (hk_this : κ this = 12) : wp (f_X11_back G P U V X O kd ln cnt this p0) (QC_X11_back κ wd G P U V X O kd ln cnt this p0) := by
  unfold f_X11_back
  obtain ⟨hzG43, hzG44, hzG45, hzG60, hzG83, hzG84, hzG85, hzG87, hzG88, hzG102, hzG125, hzG126, hzG127, hzG141, hzG160, hzG161, hzG162, hzG165, hzG166, hzG183, hzG200, hzG203, hzG222, hzG231, hzG233, hzP0, hzP1, hzP2, hzP3, hzP4, hzP5, hzP20, hzP21, hzP22, hzP23, hzP40, hzP41, hzP42, hzP61, hzP62, hzP63, hzP64, hzP65, hzP66, hzP82, hzP101, hzP103, hzP104, hzP105, hzP106, hzP108, hzP109, hzP110, hzP120, hzP121, hzP122, hzP123, hzP140, hzP164, hzP180, hzP181, hzP182, hzP185, hzP186, hzP187, hzP201, hzP202, hzP220, hzP221, hzP224, hzP225, hzP226, hzP227, hzP228, hzP229, hzP230, hzP232, hzP234, hzP235, hzP236, hzV1, hzV2, hzV3, hzV9, hzO0, hzO1, hzO2, hzRA, hzRB, hzRI, hzRM103, hzRM104, hzRM108, hzLN, hzFL, hzW0, hzKC, hzWK⟩ := hI
  refine wp_sh0 ?_
  have zkm2 : (-2 : Int32).toInt = -2 := by decide +kernel
  have zkm1 : (-1 : Int32).toInt = -1 := by decide +kernel
  have zk0 : (0 : Int32).toInt = 0 := by decide +kernel
  have zk1 : (1 : Int32).toInt = 1 := by decide +kernel
  have r_p0 := i32r p0
  obtain ⟨u1, hn_u1⟩ := PBs (hzP220 this) hk_this
  obtain ⟨hk_u1, hl1_u1, hl2_u1, hw_u1⟩ := (hzP220 this).2 u1 hn_u1
  obtain ⟨u2, hn_u2⟩ := PBs (hzP229 this) hk_this
  obtain ⟨hk_u2, hl1_u2, hl2_u2, hw_u2⟩ := (hzP229 this).2 u2 hn_u2
  obtain ⟨u3, hn_u3⟩ := PBs (hzP3 u2) hk_u2
  obtain ⟨hk_u3, hl1_u3, hl2_u3, hw_u3⟩ := (hzP3 u2).2 u3 hn_u3
  have hz_u3 : (Int32.ofNat (ln u3)).toInt = ((ln u3 : Nat) : Int) := ofN_eq (by first | exact Nat.le_trans hl2_u3 (by decide) | omega)
  have hb222 := hzG222 this
  refine wp_nne hn_u1 ?_
  obtain ⟨⟨r4, c4_G141⟩, hc4, hq4⟩ := ok_X7_take κ wd G P U V X O kd ln cnt u1 hzG141 hzLN hk_u1
  obtain ⟨hg4, f5, f6, f7⟩ : (rng (0) 2000 c4_G141) ∧ (r4.toInt = ((G 141) u1).toInt) ∧ ((c4_G141 u1).toInt = 0) ∧ ((0 ≤ r4.toInt ∧ r4.toInt ≤ 2000)) := hq4
  refine wp_b2 hc4 ?_
  clear hc4
  obtain ⟨r10, hc10, hq10⟩ := ok_X11_isStage κ wd (va_up G 141 c4_G141) P U V X O kd ln cnt this p0 hzG222 hzLN hk_this
  obtain ⟨f8, f9⟩ : ((0 ≤ r10.toInt ∧ r10.toInt ≤ 1)) ∧ ((r10.toInt = 1 → 0 ≤ p0.toInt ∧ p0.toInt ≤ ((G 222) this).toInt)) := hq10
  refine wp_b1 hc10 ?_
  clear hc10
  refine wp_jn (fun j27 => wp (j27 ()) (sh (QC_X11_back κ wd G P U V X O kd ln cnt this p0) 0 0)) ?_ ?_
  · show wp _ _
    exact ⟨_, rfl, ⟨κ, (show CInv κ wd (va_up G 141 c4_G141) P V O ln cnt from ⟨hzG43, hzG44, hzG45, hzG60, hzG83, hzG84, hzG85, hzG87, hzG88, hzG102, hzG125, hzG126, hzG127, hg4, hzG160, hzG161, hzG162, hzG165, hzG166, hzG183, hzG200, hzG203, hzG222, hzG231, hzG233, hzP0, hzP1, hzP2, hzP3, hzP4, hzP5, hzP20, hzP21, hzP22, hzP23, hzP40, hzP41, hzP42, hzP61, hzP62, hzP63, hzP64, hzP65, hzP66, hzP82, hzP101, hzP103, hzP104, hzP105, hzP106, hzP108, hzP109, hzP110, hzP120, hzP121, hzP122, hzP123, hzP140, hzP164, hzP180, hzP181, hzP182, hzP185, hzP186, hzP187, hzP201, hzP202, hzP220, hzP221, hzP224, hzP225, hzP226, hzP227, hzP228, hzP229, hzP230, hzP232, hzP234, hzP235, hzP236, hzV1, hzV2, hzV3, hzV9, hzO0, hzO1, hzO2, hzRA, hzRB, hzRI, hzRM103, hzRM104, hzRM108, hzLN, hzFL, hzW0, hzKC, hzWK⟩), (fun _ _ => rfl), (show cnt ≤ cnt from by omega), (show (∀ a, κ a ≠ 0 → (P 220) a = (P 220) a) from (fun _ _ => rfl)), (show (∀ a, κ a ≠ 0 → (P 229) a = (P 229) a) from (fun _ _ => rfl)), (show (∀ a, κ a ≠ 0 → (P 3) a = (P 3) a) from (fun _ _ => rfl)), (show (∀ a, κ a ≠ 0 → (G 83) a = (G 83) a) from (fun _ _ => rfl)), (show (∀ a, κ a ≠ 0 → (P 82) a = (P 82) a) from (fun _ _ => rfl)), (show (∀ a, κ a ≠ 0 → (P 0) a = (P 0) a) from (fun _ _ => rfl)), (show (∀ a, κ a ≠ 0 → (G 160) a = (G 160) a) from (fun _ _ => rfl)), (show (∀ a, κ a ≠ 0 → ln a = ln a) from (fun _ _ => rfl)), (show (∀ bk fl, (P 229) this = some bk → (P 3) bk = some fl → (((0 : Nat) : Int) + 3 * s7 ((V 3) fl) ≤ 3 * s7 ((V 3) fl)) ∧ (((0 : Nat) : Int) + 2504 * s7 ((V 3) fl) ≤ 2504 * s7 ((V 3) fl))) from by intro bk fl hbk hfl; obtain rfl : u2 = bk := Option.some.inj (hn_u2.symm.trans hbk); obtain rfl : u3 = fl := Option.some.inj (hn_u3.symm.trans hfl); omega), (show (∀ tp, (P 220) this = some tp → (c4_G141 tp).toInt = 0) from by intro tp htp; obtain rfl : u1 = tp := Option.some.inj (hn_u1.symm.trans htp); omega)⟩⟩
  intro j27 Jj27
  refine wp_ite (fun c13 => ?_) (fun c13 => ?_)
  · have c13 := congrArg Int32.toInt c13
    exact Jj27
  · have c13 := z_ne c13
    refine wp_nne hn_u1 ?_
    obtain ⟨r21, hc21, hq21⟩ := ok_X7_isWord κ wd (va_up G 141 c4_G141) P U V X O kd ln cnt u1 r4 hzP140 hzLN hk_u1
    obtain ⟨f10, f11⟩ : ((0 ≤ r21.toInt ∧ r21.toInt ≤ 1)) ∧ ((r21.toInt = 1 → 1 ≤ r4.toInt ∧ r4.toInt ≤ 24)) := hq21
    refine wp_b1 hc21 ?_
    clear hc21
    refine wp_ite (fun c24 => ?_) (fun c24 => ?_)
    · have c24 := congrArg Int32.toInt c24
      exact Jj27
    · have c24 := z_ne c24
      refine wp_nne hn_u2 ?_
      refine wp_nn ((hzP221 this).1 hk_this) (fun a36 hn_a36 => ?_)
      obtain ⟨hk_a36, hl1_a36, hl2_a36, hw_a36⟩ := (hzP221 this).2 a36 hn_a36
      have hz_a36 : (Int32.ofNat (ln a36)).toInt = ((ln a36 : Nat) : Int) := ofN_eq (by first | exact Nat.le_trans hl2_a36 (by decide) | omega)
      refine wp_nn ((hzP226 this).1 hk_this) (fun a40 hn_a40 => ?_)
      obtain ⟨hk_a40, hl1_a40, hl2_a40, hw_a40⟩ := (hzP226 this).2 a40 hn_a40
      obtain ⟨⟨⟨c43_G, c43_P, c43_U, c43_V, c43_X, c43_O, c43_kd, c43_ln, c43_cnt⟩, v1_43, v2_43⟩, hc43, hq43⟩ := ok_X0_fill κ wd (va_up G 141 c4_G141) P U V X O kd ln cnt u2 p0 a36 a40 ⟨hzG43, hzG44, hzG45, hzG60, hzG83, hzG84, hzG85, hzG87, hzG88, hzG102, hzG125, hzG126, hzG127, hg4, hzG160, hzG161, hzG162, hzG165, hzG166, hzG183, hzG200, hzG203, hzG222, hzG231, hzG233, hzP0, hzP1, hzP2, hzP3, hzP4, hzP5, hzP20, hzP21, hzP22, hzP23, hzP40, hzP41, hzP42, hzP61, hzP62, hzP63, hzP64, hzP65, hzP66, hzP82, hzP101, hzP103, hzP104, hzP105, hzP106, hzP108, hzP109, hzP110, hzP120, hzP121, hzP122, hzP123, hzP140, hzP164, hzP180, hzP181, hzP182, hzP185, hzP186, hzP187, hzP201, hzP202, hzP220, hzP221, hzP224, hzP225, hzP226, hzP227, hzP228, hzP229, hzP230, hzP232, hzP234, hzP235, hzP236, hzV1, hzV2, hzV3, hzV9, hzO0, hzO1, hzO2, hzRA, hzRB, hzRI, hzRM103, hzRM104, hzRM108, hzLN, hzFL, hzW0, hzKC, hzWK⟩ hk_u2 hk_a36 hk_a40 (show ln a36 = 6 from by omega)
      obtain ⟨κ43_11, hCI43, hxx43, hcc13, hfr14, hfr15, hfr16, hfr17, hfr18, hfr19, hfr20, hfr21, hfr22, f23, f24⟩ : ∃ κ1 : Nat → Nat, (CInv κ1 wd c43_G c43_P c43_V c43_O c43_ln c43_cnt) ∧ (∀ a, κ a ≠ 0 → κ1 a = κ a) ∧ (cnt ≤ c43_cnt) ∧ ((∀ a, κ a ≠ 0 → (c43_P 220) a = (P 220) a)) ∧ ((∀ a, κ a ≠ 0 → (c43_P 229) a = (P 229) a)) ∧ ((∀ a, κ a ≠ 0 → (c43_P 3) a = (P 3) a)) ∧ ((∀ a, κ a ≠ 0 → (c43_G 141) a = c4_G141 a)) ∧ ((∀ a, κ a ≠ 0 → (c43_G 83) a = (G 83) a)) ∧ ((∀ a, κ a ≠ 0 → (c43_P 82) a = (P 82) a)) ∧ ((∀ a, κ a ≠ 0 → (c43_P 0) a = (P 0) a)) ∧ ((∀ a, κ a ≠ 0 → (c43_G 160) a = (G 160) a)) ∧ ((∀ a, κ a ≠ 0 → c43_ln a = ln a)) ∧ ((c43_G 203) wd = (G 203) wd) ∧ ((∀ fl, (P 3) u2 = some fl → (((v1_43 : Nat) : Int) + 3 * s7 ((V 3) fl) ≤ 3 * s7 ((c43_V 3) fl)) ∧ (((v2_43 : Nat) : Int) + 2504 * s7 ((V 3) fl) ≤ 2504 * s7 ((c43_V 3) fl)))) := hq43
      obtain ⟨h43_G43, h43_G44, h43_G45, h43_G60, h43_G83, h43_G84, h43_G85, h43_G87, h43_G88, h43_G102, h43_G125, h43_G126, h43_G127, h43_G141, h43_G160, h43_G161, h43_G162, h43_G165, h43_G166, h43_G183, h43_G200, h43_G203, h43_G222, h43_G231, h43_G233, h43_P0, h43_P1, h43_P2, h43_P3, h43_P4, h43_P5, h43_P20, h43_P21, h43_P22, h43_P23, h43_P40, h43_P41, h43_P42, h43_P61, h43_P62, h43_P63, h43_P64, h43_P65, h43_P66, h43_P82, h43_P101, h43_P103, h43_P104, h43_P105, h43_P106, h43_P108, h43_P109, h43_P110, h43_P120, h43_P121, h43_P122, h43_P123, h43_P140, h43_P164, h43_P180, h43_P181, h43_P182, h43_P185, h43_P186, h43_P187, h43_P201, h43_P202, h43_P220, h43_P221, h43_P224, h43_P225, h43_P226, h43_P227, h43_P228, h43_P229, h43_P230, h43_P232, h43_P234, h43_P235, h43_P236, h43_V1, h43_V2, h43_V3, h43_V9, h43_O0, h43_O1, h43_O2, h43_RA, h43_RB, h43_RI, h43_RM103, h43_RM104, h43_RM108, h43_LN, h43_FL, h43_W0, h43_KC, h43_WK⟩ := hCI43
      clear hg4 hzG43 hzG44 hzG45 hzG60 hzG83 hzG84 hzG85 hzG87 hzG88 hzG102 hzG125 hzG126 hzG127 hzG141 hzG160 hzG161 hzG162 hzG165 hzG166 hzG183 hzG200 hzG203 hzG222 hzG231 hzG233 hzP0 hzP1 hzP2 hzP3 hzP4 hzP5 hzP20 hzP21 hzP22 hzP23 hzP40 hzP41 hzP42 hzP61 hzP62 hzP63 hzP64 hzP65 hzP66 hzP82 hzP101 hzP103 hzP104 hzP105 hzP106 hzP108 hzP109 hzP110 hzP120 hzP121 hzP122 hzP123 hzP140 hzP164 hzP180 hzP181 hzP182 hzP185 hzP186 hzP187 hzP201 hzP202 hzP220 hzP221 hzP224 hzP225 hzP226 hzP227 hzP228 hzP229 hzP230 hzP232 hzP234 hzP235 hzP236 hzV1 hzV2 hzV3 hzV9 hzO0 hzO1 hzO2 hzRA hzRB hzRI hzRM103 hzRM104 hzRM108 hzLN hzFL hzW0 hzKC hzWK
      have kx25 : ∀ a, κ a ≠ 0 → κ43_11 a = κ a := hxx43
      have hk26 : κ43_11 this = 12 := kxk hxx43 hk_this (by decide)
      have hF27 : (∀ a, κ a ≠ 0 → (c43_P 220) a = (P 220) a) := fun a ha => (hfr14 a (ha)).trans (rfl)
      have hF28 : (∀ a, κ a ≠ 0 → (c43_P 229) a = (P 229) a) := fun a ha => (hfr15 a (ha)).trans (rfl)
      have hF29 : (∀ a, κ a ≠ 0 → (c43_P 3) a = (P 3) a) := fun a ha => (hfr16 a (ha)).trans (rfl)
      have hF30 : (∀ a, κ a ≠ 0 → (c43_G 83) a = (G 83) a) := fun a ha => (hfr18 a (ha)).trans (rfl)
      have hF31 : (∀ a, κ a ≠ 0 → (c43_P 82) a = (P 82) a) := fun a ha => (hfr19 a (ha)).trans (rfl)
      have hF32 : (∀ a, κ a ≠ 0 → (c43_P 0) a = (P 0) a) := fun a ha => (hfr20 a (ha)).trans (rfl)
      have hF33 : (∀ a, κ a ≠ 0 → (c43_G 160) a = (G 160) a) := fun a ha => (hfr21 a (ha)).trans (rfl)
      have hF34 : (∀ a, κ a ≠ 0 → c43_ln a = ln a) := fun a ha => (hfr22 a (ha)).trans (rfl)
      refine wp_bA9 hc43 ?_
      have hpot := f24 _ hn_u3
      have hT : ((c43_G 141) u1).toInt = (c4_G141 u1).toInt := congrArg Int32.toInt (hfr17 u1 (by rw [hk_u1]; decide))
      refine wp_vl (fun m48 em48 => ?_)
      have hg35 : rng (0) 100 m48 := by rw [em48]; exact rng_vup h43_G231 (by omega) (by omega)
      have sm48 : (m48 this).toInt = 0 := by rw [em48, va_up_self]; decide +kernel
      have b36 := hg35 this
      clear em48
      have lp53 : ∀ (n53 : Nat) (y53_3 : Int32) (d53_G231 : Nat → Int32) (d53_V4 : Nat → Nat → Int32), (100 - y53_3.toInt).toNat < n53 → rng (0) 100 d53_G231 → (0 ≤ y53_3.toInt ∧ y53_3.toInt ≤ 100) → (0 ≤ (d53_G231 this).toInt ∧ (d53_G231 this).toInt ≤ y53_3.toInt) → wp (L_X11_back_53 this p0 r4 c43_G c43_P c43_U c43_V c43_X c43_O c43_kd c43_ln c43_cnt n53 y53_3 d53_G231 d53_V4) (sh (QC_X11_back κ wd G P U V X O kd ln cnt this p0) (0 + v1_43) (0 + v2_43)) := by
        intro n53
        induction n53 with
        | zero => intro y53_3 d53_G231 d53_V4 hm; exact absurd hm (Nat.not_lt_zero _)
        | succ n53 ih53 =>
          intro y53_3 d53_G231 d53_V4 hm53 hg37 f38 f39
          show wp (B_X11_back_53 this p0 r4 c43_G c43_P c43_U c43_V c43_X c43_O c43_kd c43_ln c43_cnt (L_X11_back_53 this p0 r4 c43_G c43_P c43_U c43_V c43_X c43_O c43_kd c43_ln c43_cnt n53) y53_3 d53_G231 d53_V4) _
          unfold B_X11_back_53
          refine wp_nn ((h43_P229 this).1 hk26) (fun a55 hn_a55 => ?_)
          obtain ⟨hk_a55, hl1_a55, hl2_a55, hw_a55⟩ := (h43_P229 this).2 a55 hn_a55
          refine wp_nn ((h43_P0 a55).1 hk_a55) (fun a58 hn_a58 => ?_)
          obtain rfl : wd = a58 := (h43_W0 _ _ hn_a58).symm
          obtain ⟨hk_wd, hl1_wd, hl2_wd, hw_wd⟩ := (h43_P0 a55).2 wd hn_a58
          have b40 := h43_G203 wd
          refine wp_ite (fun c64 => ?_) (fun c64 => ?_)
          · have c64 := (z_le _ _).mp c64
            have b41 := hg37 this
            exact ⟨_, rfl, ⟨κ43_11, (show CInv κ43_11 wd (va_up c43_G 231 d53_G231) c43_P (va_up c43_V 4 d53_V4) c43_O c43_ln c43_cnt from ⟨h43_G43, h43_G44, h43_G45, h43_G60, h43_G83, h43_G84, h43_G85, h43_G87, h43_G88, h43_G102, h43_G125, h43_G126, h43_G127, h43_G141, h43_G160, h43_G161, h43_G162, h43_G165, h43_G166, h43_G183, h43_G200, h43_G203, h43_G222, hg37, h43_G233, h43_P0, h43_P1, h43_P2, h43_P3, h43_P4, h43_P5, h43_P20, h43_P21, h43_P22, h43_P23, h43_P40, h43_P41, h43_P42, h43_P61, h43_P62, h43_P63, h43_P64, h43_P65, h43_P66, h43_P82, h43_P101, h43_P103, h43_P104, h43_P105, h43_P106, h43_P108, h43_P109, h43_P110, h43_P120, h43_P121, h43_P122, h43_P123, h43_P140, h43_P164, h43_P180, h43_P181, h43_P182, h43_P185, h43_P186, h43_P187, h43_P201, h43_P202, h43_P220, h43_P221, h43_P224, h43_P225, h43_P226, h43_P227, h43_P228, h43_P229, h43_P230, h43_P232, h43_P234, h43_P235, h43_P236, h43_V1, h43_V2, h43_V3, h43_V9, h43_O0, h43_O1, h43_O2, h43_RA, h43_RB, h43_RI, h43_RM103, h43_RM104, h43_RM108, h43_LN, h43_FL, h43_W0, h43_KC, h43_WK⟩), kx25, (show cnt ≤ c43_cnt from by omega), (show (∀ a, κ a ≠ 0 → (c43_P 220) a = (P 220) a) from hF27), (show (∀ a, κ a ≠ 0 → (c43_P 229) a = (P 229) a) from hF28), (show (∀ a, κ a ≠ 0 → (c43_P 3) a = (P 3) a) from hF29), (show (∀ a, κ a ≠ 0 → (c43_G 83) a = (G 83) a) from hF30), (show (∀ a, κ a ≠ 0 → (c43_P 82) a = (P 82) a) from hF31), (show (∀ a, κ a ≠ 0 → (c43_P 0) a = (P 0) a) from hF32), (show (∀ a, κ a ≠ 0 → (c43_G 160) a = (G 160) a) from hF33), (show (∀ a, κ a ≠ 0 → c43_ln a = ln a) from hF34), (show (∀ bk fl, (P 229) this = some bk → (P 3) bk = some fl → ((((0 + v1_43) : Nat) : Int) + 3 * s7 ((V 3) fl) ≤ 3 * s7 ((c43_V 3) fl)) ∧ ((((0 + v2_43) : Nat) : Int) + 2504 * s7 ((V 3) fl) ≤ 2504 * s7 ((c43_V 3) fl))) from by intro bk fl hbk hfl; obtain rfl : u2 = bk := Option.some.inj (hn_u2.symm.trans hbk); obtain rfl : u3 = fl := Option.some.inj (hn_u3.symm.trans hfl); omega), (show (∀ tp, (P 220) this = some tp → ((c43_G 141) tp).toInt = 0) from by intro tp htp; obtain rfl : u1 = tp := Option.some.inj (hn_u1.symm.trans htp); omega)⟩⟩
          · have c64 := z_nle c64
            refine wp_nne hn_a55 ?_
            obtain ⟨r73, hc73, hq73⟩ := ok_X0_formsAt κ43_11 wd (va_up c43_G 231 d53_G231) c43_P c43_U (va_up c43_V 4 d53_V4) c43_X c43_O c43_kd c43_ln c43_cnt a55 p0 y53_3 h43_P1 h43_P5 h43_O1 h43_LN hk_a55 (show (0 ≤ p0.toInt ∧ p0.toInt ≤ 6) from by omega) (show (0 ≤ y53_3.toInt ∧ y53_3.toInt < 100) from by omega)
            have hk42 : κ43_11 r73 = 11 := hq73
            refine wp_b1 hc73 ?_
            clear hc73
            refine wp_nn ((h43_P220 this).1 hk26) (fun a77 hn_a77 => ?_)
            obtain ⟨hk_a77, hl1_a77, hl2_a77, hw_a77⟩ := (h43_P220 this).2 a77 hn_a77
            refine wp_nn ((h43_P140 a77).1 hk_a77) (fun a80 hn_a80 => ?_)
            obtain ⟨hk_a80, hl1_a80, hl2_a80, hw_a80⟩ := (h43_P140 a77).2 a80 hn_a80
            have hz_a80 : (Int32.ofNat (c43_ln a80)).toInt = ((c43_ln a80 : Nat) : Int) := ofN_eq (by first | exact Nat.le_trans hl2_a80 (by decide) | omega)
            obtain ⟨r85, hc85, hq85⟩ := ok_X10_find κ43_11 wd (va_up c43_G 231 d53_G231) c43_P c43_U (va_up c43_V 4 d53_V4) c43_X c43_O c43_kd c43_ln c43_cnt r73 a80 (0 : Int32) r4 h43_G200 h43_G203 h43_P201 h43_P202 h43_V1 h43_RA h43_RB h43_RI h43_LN hk42 hk_a80
            obtain ⟨f43, f44⟩ : (((-1) ≤ r85.toInt ∧ r85.toInt < 100)) ∧ ((r85.toInt = -1 ∨ r85.toInt < ((c43_G 203) r73).toInt)) := hq85
            refine wp_b1 hc85 ?_
            clear hc85
            refine wp_jn (fun j112 => ∀ (c112_G231 : Nat → Int32) (c112_V4 : Nat → Nat → Int32), rng (0) 100 c112_G231 → (0 ≤ (c112_G231 this).toInt ∧ (c112_G231 this).toInt ≤ y53_3.toInt + 1) → wp (j112 c112_G231 c112_V4) (sh (QC_X11_back κ wd G P U V X O kd ln cnt this p0) (0 + v1_43) (0 + v2_43))) ?_ ?_
            · intro c112_G231 c112_V4 hg45 f46
              show wp _ _
              have f47 : (y53_3 + 1).toInt = y53_3.toInt + (1) := z_addc (by decide +kernel) (by omega) (by omega)
              exact ih53 (y53_3 + 1) c112_G231 c112_V4 (show (100 - (y53_3 + 1).toInt).toNat < n53 from by omega) hg45 (show (0 ≤ (y53_3 + 1).toInt ∧ (y53_3 + 1).toInt ≤ 100) from by omega) (show (0 ≤ (c112_G231 this).toInt ∧ (c112_G231 this).toInt ≤ (y53_3 + 1).toInt) from by omega)
            intro j112 Jj112
            refine wp_ite (fun c89 => ?_) (fun c89 => ?_)
            · have c89 := congrArg Int32.toInt c89
              exact Jj112 d53_G231 d53_V4 hg37 (show (0 ≤ (d53_G231 this).toInt ∧ (d53_G231 this).toInt ≤ y53_3.toInt + 1) from by omega)
            · have c89 := z_ne c89
              refine wp_nn ((h43_P230 this).1 hk26) (fun a93 hn_a93 => ?_)
              obtain ⟨hk_a93, hl1_a93, hl2_a93, hw_a93⟩ := (h43_P230 this).2 a93 hn_a93
              have hz_a93 : (Int32.ofNat (c43_ln a93)).toInt = ((c43_ln a93 : Nat) : Int) := ofN_eq (by first | exact Nat.le_trans hl2_a93 (by decide) | omega)
              have b48 := hg37 this
              refine wp_if ⟨by omega, by omega⟩ ?_
              refine wp_vl (fun m101 em101 => ?_)
              clear em101
              have f50 : ((d53_G231 this) + 1).toInt = (d53_G231 this).toInt + 1 := z_addc (by decide +kernel) (by omega) (by omega)
              refine wp_vl (fun x109 ex109 => ?_)
              have f51 : x109.toInt = ((d53_G231 this) + 1).toInt := congrArg Int32.toInt ex109
              clear ex109
              refine wp_vl (fun m109 em109 => ?_)
              have hg52 : rng (0) 100 m109 := by rw [em109]; exact rng_vup hg37 (by omega) (by omega)
              have sm109 : (m109 this).toInt = x109.toInt := by rw [em109, va_up_self]
              have b53 := hg52 this
              clear em109
              exact Jj112 m109 m101 hg52 (show (0 ≤ (m109 this).toInt ∧ (m109 this).toInt ≤ y53_3.toInt + 1) from by omega)
      exact lp53 NN (0 : Int32) m48 (c43_V 4) (by have := NN_eq; omega) hg35 (show (0 ≤ (0 : Int32).toInt ∧ (0 : Int32).toInt ≤ 100) from by omega) (show (0 ≤ (m48 this).toInt ∧ (m48 this).toInt ≤ (0 : Int32).toInt) from by omega)
abbrev QC_X11_collisions (κ : Nat → Nat) (wd : Nat) (G : Nat → Nat → Int32) (P : Nat → Nat → Option Nat) (U : Nat → Nat → Int64) (V : Nat → Nat → Nat → Int32) (X : Nat → Nat → Nat → Int64) (O : Nat → Nat → Nat → Option Nat) (kd : Nat → Nat) (ln : Nat → Nat) (cnt : Nat) (this : Nat) (p0 : Int32) : ((Int32 × (Nat → Nat → Int32) × (Nat → Nat → Option Nat) × (Nat → Nat → Int64) × (Nat → Nat → Nat → Int32) × (Nat → Nat → Nat → Int64) × (Nat → Nat → Nat → Option Nat) × (Nat → Nat) × (Nat → Nat) × Nat) × Nat × Nat) → Prop := (fun t => ∃ κ1 : Nat → Nat, (CInv κ1 wd (t.1.2.1) (t.1.2.2.1) (t.1.2.2.2.2.1) (t.1.2.2.2.2.2.2.1) (t.1.2.2.2.2.2.2.2.2.1) (t.1.2.2.2.2.2.2.2.2.2)) ∧ (∀ a, κ a ≠ 0 → κ1 a = κ a) ∧ (cnt ≤ (t.1.2.2.2.2.2.2.2.2.2)) ∧ ((∀ a, κ a ≠ 0 → ((t.1.2.2.1) 220) a = (P 220) a)) ∧ ((∀ a, κ a ≠ 0 → ((t.1.2.2.1) 229) a = (P 229) a)) ∧ ((∀ a, κ a ≠ 0 → ((t.1.2.2.1) 3) a = (P 3) a)) ∧ ((∀ a, κ a ≠ 0 → ((t.1.2.1) 141) a = (G 141) a)) ∧ ((∀ a, κ a ≠ 0 → ((t.1.2.1) 83) a = (G 83) a)) ∧ ((∀ a, κ a ≠ 0 → ((t.1.2.2.1) 82) a = (P 82) a)) ∧ ((∀ a, κ a ≠ 0 → ((t.1.2.2.1) 0) a = (P 0) a)) ∧ ((∀ a, κ a ≠ 0 → ((t.1.2.1) 160) a = (G 160) a)) ∧ ((∀ a, κ a ≠ 0 → (t.1.2.2.2.2.2.2.2.2.1) a = ln a)) ∧ ((∀ bk fl, (P 229) this = some bk → (P 3) bk = some fl → ((((t.2.1) : Nat) : Int) + 3 * s7 ((V 3) fl) ≤ 3 * s7 (((t.1.2.2.2.2.1) 3) fl)) ∧ ((((t.2.2) : Nat) : Int) + 2504 * s7 ((V 3) fl) ≤ 2504 * s7 (((t.1.2.2.2.2.1) 3) fl)))))
set_option maxHeartbeats 4000000 in
set_option maxRecDepth 100000 in
theorem ok_X11_collisions (κ : Nat → Nat) (wd : Nat) (G : Nat → Nat → Int32) (P : Nat → Nat → Option Nat) (U : Nat → Nat → Int64) (V : Nat → Nat → Nat → Int32) (X : Nat → Nat → Nat → Int64) (O : Nat → Nat → Nat → Option Nat) (kd : Nat → Nat) (ln : Nat → Nat) (cnt : Nat) (this : Nat) (p0 : Int32) (hI : CInv κ wd G P V O ln cnt) (hk_this : κ this = 12) : wp (f_X11_collisions G P U V X O kd ln cnt this p0) (QC_X11_collisions κ wd G P U V X O kd ln cnt this p0) := by
  unfold f_X11_collisions
  obtain ⟨hzG43, hzG44, hzG45, hzG60, hzG83, hzG84, hzG85, hzG87, hzG88, hzG102, hzG125, hzG126, hzG127, hzG141, hzG160, hzG161, hzG162, hzG165, hzG166, hzG183, hzG200, hzG203, hzG222, hzG231, hzG233, hzP0, hzP1, hzP2, hzP3, hzP4, hzP5, hzP20, hzP21, hzP22, hzP23, hzP40, hzP41, hzP42, hzP61, hzP62, hzP63, hzP64, hzP65, hzP66, hzP82, hzP101, hzP103, hzP104, hzP105, hzP106, hzP108, hzP109, hzP110, hzP120, hzP121, hzP122, hzP123, hzP140, hzP164, hzP180, hzP181, hzP182, hzP185, hzP186, hzP187, hzP201, hzP202, hzP220, hzP221, hzP224, hzP225, hzP226, hzP227, hzP228, hzP229, hzP230, hzP232, hzP234, hzP235, hzP236, hzV1, hzV2, hzV3, hzV9, hzO0, hzO1, hzO2, hzRA, hzRB, hzRI, hzRM103, hzRM104, hzRM108, hzLN, hzFL, hzW0, hzKC, hzWK⟩ := hI
  refine wp_sh0 ?_
  have zkm2 : (-2 : Int32).toInt = -2 := by decide +kernel
  have zk0 : (0 : Int32).toInt = 0 := by decide +kernel
  have zk1 : (1 : Int32).toInt = 1 := by decide +kernel
  have zk1000 : (1000 : Int32).toInt = 1000 := by decide +kernel
  have r_p0 := i32r p0
  obtain ⟨u1, hn_u1⟩ := PBs (hzP220 this) hk_this
  obtain ⟨hk_u1, hl1_u1, hl2_u1, hw_u1⟩ := (hzP220 this).2 u1 hn_u1
  obtain ⟨u2, hn_u2⟩ := PBs (hzP229 this) hk_this
  obtain ⟨hk_u2, hl1_u2, hl2_u2, hw_u2⟩ := (hzP229 this).2 u2 hn_u2
  obtain ⟨u3, hn_u3⟩ := PBs (hzP3 u2) hk_u2
  obtain ⟨hk_u3, hl1_u3, hl2_u3, hw_u3⟩ := (hzP3 u2).2 u3 hn_u3
  have hz_u3 : (Int32.ofNat (ln u3)).toInt = ((ln u3 : Nat) : Int) := ofN_eq (by first | exact Nat.le_trans hl2_u3 (by decide) | omega)
  have hb222 := hzG222 this
  refine wp_vl (fun m2 em2 => ?_)
  have hg4 : rng (0) 200 m2 := by rw [em2]; exact rng_vup hzG233 (by omega) (by omega)
  have sm2 : (m2 this).toInt = 0 := by rw [em2, va_up_self]; decide +kernel
  have b5 := hg4 this
  clear em2
  obtain ⟨r7, hc7, hq7⟩ := ok_X11_isStage κ wd (va_up G 233 m2) P U V X O kd ln cnt this p0 hzG222 hzLN hk_this
  obtain ⟨f6, f7⟩ : ((0 ≤ r7.toInt ∧ r7.toInt ≤ 1)) ∧ ((r7.toInt = 1 → 0 ≤ p0.toInt ∧ p0.toInt ≤ ((G 222) this).toInt)) := hq7
  refine wp_b1 hc7 ?_
  clear hc7
  refine wp_ite (fun c10 => ?_) (fun c10 => ?_)
  · have c10 := congrArg Int32.toInt c10
    exact ⟨_, rfl, ⟨κ, (show CInv κ wd (va_up G 233 m2) P V O ln cnt from ⟨hzG43, hzG44, hzG45, hzG60, hzG83, hzG84, hzG85, hzG87, hzG88, hzG102, hzG125, hzG126, hzG127, hzG141, hzG160, hzG161, hzG162, hzG165, hzG166, hzG183, hzG200, hzG203, hzG222, hzG231, hg4, hzP0, hzP1, hzP2, hzP3, hzP4, hzP5, hzP20, hzP21, hzP22, hzP23, hzP40, hzP41, hzP42, hzP61, hzP62, hzP63, hzP64, hzP65, hzP66, hzP82, hzP101, hzP103, hzP104, hzP105, hzP106, hzP108, hzP109, hzP110, hzP120, hzP121, hzP122, hzP123, hzP140, hzP164, hzP180, hzP181, hzP182, hzP185, hzP186, hzP187, hzP201, hzP202, hzP220, hzP221, hzP224, hzP225, hzP226, hzP227, hzP228, hzP229, hzP230, hzP232, hzP234, hzP235, hzP236, hzV1, hzV2, hzV3, hzV9, hzO0, hzO1, hzO2, hzRA, hzRB, hzRI, hzRM103, hzRM104, hzRM108, hzLN, hzFL, hzW0, hzKC, hzWK⟩), (fun _ _ => rfl), (show cnt ≤ cnt from by omega), (show (∀ a, κ a ≠ 0 → (P 220) a = (P 220) a) from (fun _ _ => rfl)), (show (∀ a, κ a ≠ 0 → (P 229) a = (P 229) a) from (fun _ _ => rfl)), (show (∀ a, κ a ≠ 0 → (P 3) a = (P 3) a) from (fun _ _ => rfl)), (show (∀ a, κ a ≠ 0 → (G 141) a = (G 141) a) from (fun _ _ => rfl)), (show (∀ a, κ a ≠ 0 → (G 83) a = (G 83) a) from (fun _ _ => rfl)), (show (∀ a, κ a ≠ 0 → (P 82) a = (P 82) a) from (fun _ _ => rfl)), (show (∀ a, κ a ≠ 0 → (P 0) a = (P 0) a) from (fun _ _ => rfl)), (show (∀ a, κ a ≠ 0 → (G 160) a = (G 160) a) from (fun _ _ => rfl)), (show (∀ a, κ a ≠ 0 → ln a = ln a) from (fun _ _ => rfl)), (show (∀ bk fl, (P 229) this = some bk → (P 3) bk = some fl → (((0 : Nat) : Int) + 3 * s7 ((V 3) fl) ≤ 3 * s7 ((V 3) fl)) ∧ (((0 : Nat) : Int) + 2504 * s7 ((V 3) fl) ≤ 2504 * s7 ((V 3) fl))) from by intro bk fl hbk hfl; obtain rfl : u2 = bk := Option.some.inj (hn_u2.symm.trans hbk); obtain rfl : u3 = fl := Option.some.inj (hn_u3.symm.trans hfl); omega)⟩⟩
  · have c10 := z_ne c10
    refine wp_nne hn_u2 ?_
    refine wp_nn ((hzP221 this).1 hk_this) (fun a22 hn_a22 => ?_)
    obtain ⟨hk_a22, hl1_a22, hl2_a22, hw_a22⟩ := (hzP221 this).2 a22 hn_a22
    have hz_a22 : (Int32.ofNat (ln a22)).toInt = ((ln a22 : Nat) : Int) := ofN_eq (by first | exact Nat.le_trans hl2_a22 (by decide) | omega)
    refine wp_nn ((hzP226 this).1 hk_this) (fun a26 hn_a26 => ?_)
    obtain ⟨hk_a26, hl1_a26, hl2_a26, hw_a26⟩ := (hzP226 this).2 a26 hn_a26
    obtain ⟨⟨⟨c29_G, c29_P, c29_U, c29_V, c29_X, c29_O, c29_kd, c29_ln, c29_cnt⟩, v1_29, v2_29⟩, hc29, hq29⟩ := ok_X0_fill κ wd (va_up G 233 m2) P U V X O kd ln cnt u2 p0 a22 a26 ⟨hzG43, hzG44, hzG45, hzG60, hzG83, hzG84, hzG85, hzG87, hzG88, hzG102, hzG125, hzG126, hzG127, hzG141, hzG160, hzG161, hzG162, hzG165, hzG166, hzG183, hzG200, hzG203, hzG222, hzG231, hg4, hzP0, hzP1, hzP2, hzP3, hzP4, hzP5, hzP20, hzP21, hzP22, hzP23, hzP40, hzP41, hzP42, hzP61, hzP62, hzP63, hzP64, hzP65, hzP66, hzP82, hzP101, hzP103, hzP104, hzP105, hzP106, hzP108, hzP109, hzP110, hzP120, hzP121, hzP122, hzP123, hzP140, hzP164, hzP180, hzP181, hzP182, hzP185, hzP186, hzP187, hzP201, hzP202, hzP220, hzP221, hzP224, hzP225, hzP226, hzP227, hzP228, hzP229, hzP230, hzP232, hzP234, hzP235, hzP236, hzV1, hzV2, hzV3, hzV9, hzO0, hzO1, hzO2, hzRA, hzRB, hzRI, hzRM103, hzRM104, hzRM108, hzLN, hzFL, hzW0, hzKC, hzWK⟩ hk_u2 hk_a22 hk_a26 (show ln a22 = 6 from by omega)
    obtain ⟨κ29_7, hCI29, hxx29, hcc9, hfr10, hfr11, hfr12, hfr13, hfr14, hfr15, hfr16, hfr17, hfr18, f19, f20⟩ : ∃ κ1 : Nat → Nat, (CInv κ1 wd c29_G c29_P c29_V c29_O c29_ln c29_cnt) ∧ (∀ a, κ a ≠ 0 → κ1 a = κ a) ∧ (cnt ≤ c29_cnt) ∧ ((∀ a, κ a ≠ 0 → (c29_P 220) a = (P 220) a)) ∧ ((∀ a, κ a ≠ 0 → (c29_P 229) a = (P 229) a)) ∧ ((∀ a, κ a ≠ 0 → (c29_P 3) a = (P 3) a)) ∧ ((∀ a, κ a ≠ 0 → (c29_G 141) a = (G 141) a)) ∧ ((∀ a, κ a ≠ 0 → (c29_G 83) a = (G 83) a)) ∧ ((∀ a, κ a ≠ 0 → (c29_P 82) a = (P 82) a)) ∧ ((∀ a, κ a ≠ 0 → (c29_P 0) a = (P 0) a)) ∧ ((∀ a, κ a ≠ 0 → (c29_G 160) a = (G 160) a)) ∧ ((∀ a, κ a ≠ 0 → c29_ln a = ln a)) ∧ ((c29_G 203) wd = (G 203) wd) ∧ ((∀ fl, (P 3) u2 = some fl → (((v1_29 : Nat) : Int) + 3 * s7 ((V 3) fl) ≤ 3 * s7 ((c29_V 3) fl)) ∧ (((v2_29 : Nat) : Int) + 2504 * s7 ((V 3) fl) ≤ 2504 * s7 ((c29_V 3) fl)))) := hq29
    obtain ⟨h29_G43, h29_G44, h29_G45, h29_G60, h29_G83, h29_G84, h29_G85, h29_G87, h29_G88, h29_G102, h29_G125, h29_G126, h29_G127, h29_G141, h29_G160, h29_G161, h29_G162, h29_G165, h29_G166, h29_G183, h29_G200, h29_G203, h29_G222, h29_G231, h29_G233, h29_P0, h29_P1, h29_P2, h29_P3, h29_P4, h29_P5, h29_P20, h29_P21, h29_P22, h29_P23, h29_P40, h29_P41, h29_P42, h29_P61, h29_P62, h29_P63, h29_P64, h29_P65, h29_P66, h29_P82, h29_P101, h29_P103, h29_P104, h29_P105, h29_P106, h29_P108, h29_P109, h29_P110, h29_P120, h29_P121, h29_P122, h29_P123, h29_P140, h29_P164, h29_P180, h29_P181, h29_P182, h29_P185, h29_P186, h29_P187, h29_P201, h29_P202, h29_P220, h29_P221, h29_P224, h29_P225, h29_P226, h29_P227, h29_P228, h29_P229, h29_P230, h29_P232, h29_P234, h29_P235, h29_P236, h29_V1, h29_V2, h29_V3, h29_V9, h29_O0, h29_O1, h29_O2, h29_RA, h29_RB, h29_RI, h29_RM103, h29_RM104, h29_RM108, h29_LN, h29_FL, h29_W0, h29_KC, h29_WK⟩ := hCI29
    clear hg4 hzG43 hzG44 hzG45 hzG60 hzG83 hzG84 hzG85 hzG87 hzG88 hzG102 hzG125 hzG126 hzG127 hzG141 hzG160 hzG161 hzG162 hzG165 hzG166 hzG183 hzG200 hzG203 hzG222 hzG231 hzG233 hzP0 hzP1 hzP2 hzP3 hzP4 hzP5 hzP20 hzP21 hzP22 hzP23 hzP40 hzP41 hzP42 hzP61 hzP62 hzP63 hzP64 hzP65 hzP66 hzP82 hzP101 hzP103 hzP104 hzP105 hzP106 hzP108 hzP109 hzP110 hzP120 hzP121 hzP122 hzP123 hzP140 hzP164 hzP180 hzP181 hzP182 hzP185 hzP186 hzP187 hzP201 hzP202 hzP220 hzP221 hzP224 hzP225 hzP226 hzP227 hzP228 hzP229 hzP230 hzP232 hzP234 hzP235 hzP236 hzV1 hzV2 hzV3 hzV9 hzO0 hzO1 hzO2 hzRA hzRB hzRI hzRM103 hzRM104 hzRM108 hzLN hzFL hzW0 hzKC hzWK
    have kx21 : ∀ a, κ a ≠ 0 → κ29_7 a = κ a := hxx29
    have hk22 : κ29_7 this = 12 := kxk hxx29 hk_this (by decide)
    have hF23 : (∀ a, κ a ≠ 0 → (c29_P 220) a = (P 220) a) := fun a ha => (hfr10 a (ha)).trans (rfl)
    have hF24 : (∀ a, κ a ≠ 0 → (c29_P 229) a = (P 229) a) := fun a ha => (hfr11 a (ha)).trans (rfl)
    have hF25 : (∀ a, κ a ≠ 0 → (c29_P 3) a = (P 3) a) := fun a ha => (hfr12 a (ha)).trans (rfl)
    have hF26 : (∀ a, κ a ≠ 0 → (c29_G 141) a = (G 141) a) := fun a ha => (hfr13 a (ha)).trans (rfl)
    have hF27 : (∀ a, κ a ≠ 0 → (c29_G 83) a = (G 83) a) := fun a ha => (hfr14 a (ha)).trans (rfl)
    have hF28 : (∀ a, κ a ≠ 0 → (c29_P 82) a = (P 82) a) := fun a ha => (hfr15 a (ha)).trans (rfl)
    have hF29 : (∀ a, κ a ≠ 0 → (c29_P 0) a = (P 0) a) := fun a ha => (hfr16 a (ha)).trans (rfl)
    have hF30 : (∀ a, κ a ≠ 0 → (c29_G 160) a = (G 160) a) := fun a ha => (hfr17 a (ha)).trans (rfl)
    have hF31 : (∀ a, κ a ≠ 0 → c29_ln a = ln a) := fun a ha => (hfr18 a (ha)).trans (rfl)
    refine wp_bA9 hc29 ?_
    have hpot := f20 _ hn_u3
    have hT : ((c29_G 141) u1).toInt = ((G 141) u1).toInt := congrArg Int32.toInt (hfr13 u1 (by rw [hk_u1]; decide))
    have lp36 : ∀ (n36 : Nat) (y36_2 : Int32) (y36_3 : Int32) (d36_G233 : Nat → Int32) (d36_V5 : Nat → Nat → Int32), (100 - y36_3.toInt).toNat < n36 → rng (0) 200 d36_G233 → (0 ≤ y36_3.toInt ∧ y36_3.toInt ≤ 100) → (0 ≤ y36_2.toInt ∧ y36_2.toInt ≤ 100 * y36_3.toInt) → wp (L_X11_collisions_36 this p0 c29_G c29_P c29_U c29_V c29_X c29_O c29_kd c29_ln c29_cnt n36 y36_2 y36_3 d36_G233 d36_V5) (sh (QC_X11_collisions κ wd G P U V X O kd ln cnt this p0) (0 + v1_29) (0 + v2_29)) := by
      intro n36
      induction n36 with
      | zero => intro y36_2 y36_3 d36_G233 d36_V5 hm; exact absurd hm (Nat.not_lt_zero _)
      | succ n36 ih36 =>
        intro y36_2 y36_3 d36_G233 d36_V5 hm36 hg32 f33 f34
        show wp (B_X11_collisions_36 this p0 c29_G c29_P c29_U c29_V c29_X c29_O c29_kd c29_ln c29_cnt (L_X11_collisions_36 this p0 c29_G c29_P c29_U c29_V c29_X c29_O c29_kd c29_ln c29_cnt n36) y36_2 y36_3 d36_G233 d36_V5) _
        unfold B_X11_collisions_36
        refine wp_nn ((h29_P229 this).1 hk22) (fun a38 hn_a38 => ?_)
        obtain ⟨hk_a38, hl1_a38, hl2_a38, hw_a38⟩ := (h29_P229 this).2 a38 hn_a38
        refine wp_nn ((h29_P0 a38).1 hk_a38) (fun a41 hn_a41 => ?_)
        obtain rfl : wd = a41 := (h29_W0 _ _ hn_a41).symm
        obtain ⟨hk_wd, hl1_wd, hl2_wd, hw_wd⟩ := (h29_P0 a38).2 wd hn_a41
        have b35 := h29_G203 wd
        refine wp_ite (fun c47 => ?_) (fun c47 => ?_)
        · have c47 := (z_le _ _).mp c47
          exact ⟨_, rfl, ⟨κ29_7, (show CInv κ29_7 wd (va_up c29_G 233 d36_G233) c29_P (va_up c29_V 5 d36_V5) c29_O c29_ln c29_cnt from ⟨h29_G43, h29_G44, h29_G45, h29_G60, h29_G83, h29_G84, h29_G85, h29_G87, h29_G88, h29_G102, h29_G125, h29_G126, h29_G127, h29_G141, h29_G160, h29_G161, h29_G162, h29_G165, h29_G166, h29_G183, h29_G200, h29_G203, h29_G222, h29_G231, hg32, h29_P0, h29_P1, h29_P2, h29_P3, h29_P4, h29_P5, h29_P20, h29_P21, h29_P22, h29_P23, h29_P40, h29_P41, h29_P42, h29_P61, h29_P62, h29_P63, h29_P64, h29_P65, h29_P66, h29_P82, h29_P101, h29_P103, h29_P104, h29_P105, h29_P106, h29_P108, h29_P109, h29_P110, h29_P120, h29_P121, h29_P122, h29_P123, h29_P140, h29_P164, h29_P180, h29_P181, h29_P182, h29_P185, h29_P186, h29_P187, h29_P201, h29_P202, h29_P220, h29_P221, h29_P224, h29_P225, h29_P226, h29_P227, h29_P228, h29_P229, h29_P230, h29_P232, h29_P234, h29_P235, h29_P236, h29_V1, h29_V2, h29_V3, h29_V9, h29_O0, h29_O1, h29_O2, h29_RA, h29_RB, h29_RI, h29_RM103, h29_RM104, h29_RM108, h29_LN, h29_FL, h29_W0, h29_KC, h29_WK⟩), kx21, (show cnt ≤ c29_cnt from by omega), (show (∀ a, κ a ≠ 0 → (c29_P 220) a = (P 220) a) from hF23), (show (∀ a, κ a ≠ 0 → (c29_P 229) a = (P 229) a) from hF24), (show (∀ a, κ a ≠ 0 → (c29_P 3) a = (P 3) a) from hF25), (show (∀ a, κ a ≠ 0 → (c29_G 141) a = (G 141) a) from hF26), (show (∀ a, κ a ≠ 0 → (c29_G 83) a = (G 83) a) from hF27), (show (∀ a, κ a ≠ 0 → (c29_P 82) a = (P 82) a) from hF28), (show (∀ a, κ a ≠ 0 → (c29_P 0) a = (P 0) a) from hF29), (show (∀ a, κ a ≠ 0 → (c29_G 160) a = (G 160) a) from hF30), (show (∀ a, κ a ≠ 0 → c29_ln a = ln a) from hF31), (show (∀ bk fl, (P 229) this = some bk → (P 3) bk = some fl → ((((0 + v1_29) : Nat) : Int) + 3 * s7 ((V 3) fl) ≤ 3 * s7 ((c29_V 3) fl)) ∧ ((((0 + v2_29) : Nat) : Int) + 2504 * s7 ((V 3) fl) ≤ 2504 * s7 ((c29_V 3) fl))) from by intro bk fl hbk hfl; obtain rfl : u2 = bk := Option.some.inj (hn_u2.symm.trans hbk); obtain rfl : u3 = fl := Option.some.inj (hn_u3.symm.trans hfl); omega)⟩⟩
        · have c47 := z_nle c47
          have f36 : (y36_3 + 1).toInt = y36_3.toInt + 1 := z_addc (by decide +kernel) (by omega) (by omega)
          refine wp_vl (fun x53 ex53 => ?_)
          have f37 : x53.toInt = (y36_3 + 1).toInt := congrArg Int32.toInt ex53
          clear ex53
          refine wp_jn (fun k105 => ∀ (x105_2 : Int32) (c105_G233 : Nat → Int32) (c105_V5 : Nat → Nat → Int32), rng (0) 200 c105_G233 → (0 ≤ x105_2.toInt ∧ x105_2.toInt ≤ 100 * y36_3.toInt + 100) → wp (k105 x105_2 c105_G233 c105_V5) (sh (QC_X11_collisions κ wd G P U V X O kd ln cnt this p0) (0 + v1_29) (0 + v2_29))) ?_ ?_
          · intro x105_2 c105_G233 c105_V5 hg38 f39
            show wp _ _
            exact ih36 x105_2 (y36_3 + 1) c105_G233 c105_V5 (show (100 - (y36_3 + 1).toInt).toNat < n36 from by omega) hg38 (show (0 ≤ (y36_3 + 1).toInt ∧ (y36_3 + 1).toInt ≤ 100) from by omega) (show (0 ≤ x105_2.toInt ∧ x105_2.toInt ≤ 100 * (y36_3 + 1).toInt) from by omega)
          intro k105 Jk105
          have lp55 : ∀ (n55 : Nat) (y55_2 : Int32) (y55_4 : Int32) (d55_G233 : Nat → Int32) (d55_V5 : Nat → Nat → Int32), (101 - y55_4.toInt).toNat < n55 → rng (0) 200 d55_G233 → (1 ≤ y55_4.toInt ∧ y55_4.toInt ≤ 101) → (0 ≤ y55_2.toInt ∧ y55_2.toInt ≤ 100 * y36_3.toInt + y55_4.toInt - 1) → wp (L_X11_collisions_55 this p0 c29_G c29_P c29_U c29_V c29_X c29_O c29_kd c29_ln c29_cnt y36_3 k105 n55 y55_2 y55_4 d55_G233 d55_V5) (sh (QC_X11_collisions κ wd G P U V X O kd ln cnt this p0) (0 + v1_29) (0 + v2_29)) := by
            intro n55
            induction n55 with
            | zero => intro y55_2 y55_4 d55_G233 d55_V5 hm; exact absurd hm (Nat.not_lt_zero _)
            | succ n55 ih55 =>
              intro y55_2 y55_4 d55_G233 d55_V5 hm55 hg41 f42 f43
              show wp (B_X11_collisions_55 this p0 c29_G c29_P c29_U c29_V c29_X c29_O c29_kd c29_ln c29_cnt y36_3 k105 (L_X11_collisions_55 this p0 c29_G c29_P c29_U c29_V c29_X c29_O c29_kd c29_ln c29_cnt y36_3 k105 n55) y55_2 y55_4 d55_G233 d55_V5) _
              unfold B_X11_collisions_55
              refine wp_nne hn_a38 ?_
              refine wp_nne hn_a41 ?_
              refine wp_ite (fun c67 => ?_) (fun c67 => ?_)
              · have c67 := (z_le _ _).mp c67
                exact Jk105 y55_2 d55_G233 d55_V5 hg41 (show (0 ≤ y55_2.toInt ∧ y55_2.toInt ≤ 100 * y36_3.toInt + 100) from by omega)
              · have c67 := z_nle c67
                refine wp_nne hn_a38 ?_
                obtain ⟨r78, hc78, hq78⟩ := ok_X0_collide κ29_7 wd (va_up c29_G 233 d55_G233) c29_P c29_U (va_up c29_V 5 d55_V5) c29_X c29_O c29_kd c29_ln c29_cnt a38 p0 y36_3 y55_4 h29_G200 h29_G203 h29_P1 h29_P5 h29_P201 h29_P202 h29_V1 h29_O1 h29_RA h29_RB h29_RI h29_LN hk_a38 (show (0 ≤ p0.toInt ∧ p0.toInt ≤ 6) from by omega) (show (0 ≤ y36_3.toInt ∧ y36_3.toInt < 100) from by omega) (show (0 ≤ y55_4.toInt ∧ y55_4.toInt < 100) from by omega)
                have f45 : (0 ≤ r78.toInt ∧ r78.toInt ≤ 1) := hq78
                refine wp_b1 hc78 ?_
                clear hc78
                refine wp_jn (fun j99 => ∀ (x99_2 : Int32) (c99_G233 : Nat → Int32) (c99_V5 : Nat → Nat → Int32), rng (0) 200 c99_G233 → (0 ≤ x99_2.toInt ∧ x99_2.toInt ≤ 100 * y36_3.toInt + y55_4.toInt) → wp (j99 x99_2 c99_G233 c99_V5) (sh (QC_X11_collisions κ wd G P U V X O kd ln cnt this p0) (0 + v1_29) (0 + v2_29))) ?_ ?_
                · intro x99_2 c99_G233 c99_V5 hg46 f47
                  show wp _ _
                  have f48 : (y55_4 + 1).toInt = y55_4.toInt + (1) := z_addc (by decide +kernel) (by omega) (by omega)
                  exact ih55 x99_2 (y55_4 + 1) c99_G233 c99_V5 (show (101 - (y55_4 + 1).toInt).toNat < n55 from by omega) hg46 (show (1 ≤ (y55_4 + 1).toInt ∧ (y55_4 + 1).toInt ≤ 101) from by omega) (show (0 ≤ x99_2.toInt ∧ x99_2.toInt ≤ 100 * y36_3.toInt + (y55_4 + 1).toInt - 1) from by omega)
                intro j99 Jj99
                refine wp_ite (fun c81 => ?_) (fun c81 => ?_)
                · have c81 := congrArg Int32.toInt c81
                  exact Jj99 y55_2 d55_G233 d55_V5 hg41 (show (0 ≤ y55_2.toInt ∧ y55_2.toInt ≤ 100 * y36_3.toInt + y55_4.toInt) from by omega)
                · have c81 := z_ne c81
                  have f49 : (1000 * y36_3).toInt = 1000 * y36_3.toInt := z_muld (by decide +kernel) (by omega) (by omega)
                  have f50 : ((1000 * y36_3) + y55_4).toInt = (1000 * y36_3).toInt + y55_4.toInt := z_add (by omega) (by omega)
                  obtain ⟨⟨c93_G233, c93_V5⟩, hc93, hq93⟩ := ok_X11_notePair κ29_7 wd (va_up c29_G 233 d55_G233) c29_P c29_U (va_up c29_V 5 d55_V5) c29_X c29_O c29_kd c29_ln c29_cnt this ((1000 * y36_3) + y55_4) hg41 h29_P232 h29_LN hk22
                  have hg51 : rng (0) 200 c93_G233 := hq93
                  refine wp_b2 hc93 ?_
                  clear hc93
                  have f52 : (y55_2 + 1).toInt = y55_2.toInt + (1) := z_addc (by decide +kernel) (by omega) (by omega)
                  exact Jj99 (y55_2 + 1) c93_G233 c93_V5 hg51 (show (0 ≤ (y55_2 + 1).toInt ∧ (y55_2 + 1).toInt ≤ 100 * y36_3.toInt + y55_4.toInt) from by omega)
          exact lp55 NN y36_2 x53 d36_G233 d36_V5 (by have := NN_eq; omega) hg32 (show (1 ≤ x53.toInt ∧ x53.toInt ≤ 101) from by omega) (show (0 ≤ y36_2.toInt ∧ y36_2.toInt ≤ 100 * y36_3.toInt + x53.toInt - 1) from by omega)
    exact lp36 NN (0 : Int32) (0 : Int32) (c29_G 233) (c29_V 5) (by have := NN_eq; omega) h29_G233 (show (0 ≤ (0 : Int32).toInt ∧ (0 : Int32).toInt ≤ 100) from by omega) (show (0 ≤ (0 : Int32).toInt ∧ (0 : Int32).toInt ≤ 100 * (0 : Int32).toInt) from by omega)
abbrev QC_X11_rhymes (κ : Nat → Nat) (wd : Nat) (G : Nat → Nat → Int32) (P : Nat → Nat → Option Nat) (U : Nat → Nat → Int64) (V : Nat → Nat → Nat → Int32) (X : Nat → Nat → Nat → Int64) (O : Nat → Nat → Nat → Option Nat) (kd : Nat → Nat) (ln : Nat → Nat) (cnt : Nat) (this : Nat) (p0 : Int32) : ((Int32 × (Nat → Nat → Int32) × (Nat → Nat → Option Nat) × (Nat → Nat → Int64) × (Nat → Nat → Nat → Int32) × (Nat → Nat → Nat → Int64) × (Nat → Nat → Nat → Option Nat) × (Nat → Nat) × (Nat → Nat) × Nat) × Nat × Nat) → Prop := (fun t => ∃ κ1 : Nat → Nat, (CInv κ1 wd (t.1.2.1) (t.1.2.2.1) (t.1.2.2.2.2.1) (t.1.2.2.2.2.2.2.1) (t.1.2.2.2.2.2.2.2.2.1) (t.1.2.2.2.2.2.2.2.2.2)) ∧ (∀ a, κ a ≠ 0 → κ1 a = κ a) ∧ (cnt ≤ (t.1.2.2.2.2.2.2.2.2.2)) ∧ ((∀ a, κ a ≠ 0 → ((t.1.2.2.1) 220) a = (P 220) a)) ∧ ((∀ a, κ a ≠ 0 → ((t.1.2.2.1) 229) a = (P 229) a)) ∧ ((∀ a, κ a ≠ 0 → ((t.1.2.2.1) 3) a = (P 3) a)) ∧ ((∀ a, κ a ≠ 0 → ((t.1.2.1) 141) a = (G 141) a)) ∧ ((∀ a, κ a ≠ 0 → ((t.1.2.1) 83) a = (G 83) a)) ∧ ((∀ a, κ a ≠ 0 → ((t.1.2.2.1) 82) a = (P 82) a)) ∧ ((∀ a, κ a ≠ 0 → ((t.1.2.2.1) 0) a = (P 0) a)) ∧ ((∀ a, κ a ≠ 0 → ((t.1.2.1) 160) a = (G 160) a)) ∧ ((∀ a, κ a ≠ 0 → (t.1.2.2.2.2.2.2.2.2.1) a = ln a)) ∧ ((∀ bk fl, (P 229) this = some bk → (P 3) bk = some fl → ((((t.2.1) : Nat) : Int) + 3 * s7 ((V 3) fl) ≤ 3 * s7 (((t.1.2.2.2.2.1) 3) fl)) ∧ ((((t.2.2) : Nat) : Int) + 2504 * s7 ((V 3) fl) ≤ 2504 * s7 (((t.1.2.2.2.2.1) 3) fl)))))
set_option maxHeartbeats 4000000 in
set_option maxRecDepth 100000 in
theorem ok_X11_rhymes (κ : Nat → Nat) (wd : Nat) (G : Nat → Nat → Int32) (P : Nat → Nat → Option Nat) (U : Nat → Nat → Int64) (V : Nat → Nat → Nat → Int32) (X : Nat → Nat → Nat → Int64) (O : Nat → Nat → Nat → Option Nat) (kd : Nat → Nat) (ln : Nat → Nat) (cnt : Nat) (this : Nat) (p0 : Int32) (hI : CInv κ wd G P V O ln cnt) (hk_this : κ this = 12) : wp (f_X11_rhymes G P U V X O kd ln cnt this p0) (QC_X11_rhymes κ wd G P U V X O kd ln cnt this p0) := by
  unfold f_X11_rhymes
  obtain ⟨hzG43, hzG44, hzG45, hzG60, hzG83, hzG84, hzG85, hzG87, hzG88, hzG102, hzG125, hzG126, hzG127, hzG141, hzG160, hzG161, hzG162, hzG165, hzG166, hzG183, hzG200, hzG203, hzG222, hzG231, hzG233, hzP0, hzP1, hzP2, hzP3, hzP4, hzP5, hzP20, hzP21, hzP22, hzP23, hzP40, hzP41, hzP42, hzP61, hzP62, hzP63, hzP64, hzP65, hzP66, hzP82, hzP101, hzP103, hzP104, hzP105, hzP106, hzP108, hzP109, hzP110, hzP120, hzP121, hzP122, hzP123, hzP140, hzP164, hzP180, hzP181, hzP182, hzP185, hzP186, hzP187, hzP201, hzP202, hzP220, hzP221, hzP224, hzP225, hzP226, hzP227, hzP228, hzP229, hzP230, hzP232, hzP234, hzP235, hzP236, hzV1, hzV2, hzV3, hzV9, hzO0, hzO1, hzO2, hzRA, hzRB, hzRI, hzRM103, hzRM104, hzRM108, hzLN, hzFL, hzW0, hzKC, hzWK⟩ := hI
  refine wp_sh0 ?_
  have zkm2 : (-2 : Int32).toInt = -2 := by decide +kernel
  have zk0 : (0 : Int32).toInt = 0 := by decide +kernel
  have zk1 : (1 : Int32).toInt = 1 := by decide +kernel
  have r_p0 := i32r p0
  obtain ⟨u1, hn_u1⟩ := PBs (hzP220 this) hk_this
  obtain ⟨hk_u1, hl1_u1, hl2_u1, hw_u1⟩ := (hzP220 this).2 u1 hn_u1
  obtain ⟨u2, hn_u2⟩ := PBs (hzP229 this) hk_this
  obtain ⟨hk_u2, hl1_u2, hl2_u2, hw_u2⟩ := (hzP229 this).2 u2 hn_u2
  obtain ⟨u3, hn_u3⟩ := PBs (hzP3 u2) hk_u2
  obtain ⟨hk_u3, hl1_u3, hl2_u3, hw_u3⟩ := (hzP3 u2).2 u3 hn_u3
  have hz_u3 : (Int32.ofNat (ln u3)).toInt = ((ln u3 : Nat) : Int) := ofN_eq (by first | exact Nat.le_trans hl2_u3 (by decide) | omega)
  have hb222 := hzG222 this
  obtain ⟨r2, hc2, hq2⟩ := ok_X11_isStage κ wd G P U V X O kd ln cnt this p0 hzG222 hzLN hk_this
  obtain ⟨f4, f5⟩ : ((0 ≤ r2.toInt ∧ r2.toInt ≤ 1)) ∧ ((r2.toInt = 1 → 0 ≤ p0.toInt ∧ p0.toInt ≤ ((G 222) this).toInt)) := hq2
  refine wp_b1 hc2 ?_
  clear hc2
  refine wp_ite (fun c5 => ?_) (fun c5 => ?_)
  · have c5 := congrArg Int32.toInt c5
    exact ⟨_, rfl, ⟨κ, (show CInv κ wd G P V O ln cnt from ⟨hzG43, hzG44, hzG45, hzG60, hzG83, hzG84, hzG85, hzG87, hzG88, hzG102, hzG125, hzG126, hzG127, hzG141, hzG160, hzG161, hzG162, hzG165, hzG166, hzG183, hzG200, hzG203, hzG222, hzG231, hzG233, hzP0, hzP1, hzP2, hzP3, hzP4, hzP5, hzP20, hzP21, hzP22, hzP23, hzP40, hzP41, hzP42, hzP61, hzP62, hzP63, hzP64, hzP65, hzP66, hzP82, hzP101, hzP103, hzP104, hzP105, hzP106, hzP108, hzP109, hzP110, hzP120, hzP121, hzP122, hzP123, hzP140, hzP164, hzP180, hzP181, hzP182, hzP185, hzP186, hzP187, hzP201, hzP202, hzP220, hzP221, hzP224, hzP225, hzP226, hzP227, hzP228, hzP229, hzP230, hzP232, hzP234, hzP235, hzP236, hzV1, hzV2, hzV3, hzV9, hzO0, hzO1, hzO2, hzRA, hzRB, hzRI, hzRM103, hzRM104, hzRM108, hzLN, hzFL, hzW0, hzKC, hzWK⟩), (fun _ _ => rfl), (show cnt ≤ cnt from by omega), (show (∀ a, κ a ≠ 0 → (P 220) a = (P 220) a) from (fun _ _ => rfl)), (show (∀ a, κ a ≠ 0 → (P 229) a = (P 229) a) from (fun _ _ => rfl)), (show (∀ a, κ a ≠ 0 → (P 3) a = (P 3) a) from (fun _ _ => rfl)), (show (∀ a, κ a ≠ 0 → (G 141) a = (G 141) a) from (fun _ _ => rfl)), (show (∀ a, κ a ≠ 0 → (G 83) a = (G 83) a) from (fun _ _ => rfl)), (show (∀ a, κ a ≠ 0 → (P 82) a = (P 82) a) from (fun _ _ => rfl)), (show (∀ a, κ a ≠ 0 → (P 0) a = (P 0) a) from (fun _ _ => rfl)), (show (∀ a, κ a ≠ 0 → (G 160) a = (G 160) a) from (fun _ _ => rfl)), (show (∀ a, κ a ≠ 0 → ln a = ln a) from (fun _ _ => rfl)), (show (∀ bk fl, (P 229) this = some bk → (P 3) bk = some fl → (((0 : Nat) : Int) + 3 * s7 ((V 3) fl) ≤ 3 * s7 ((V 3) fl)) ∧ (((0 : Nat) : Int) + 2504 * s7 ((V 3) fl) ≤ 2504 * s7 ((V 3) fl))) from by intro bk fl hbk hfl; obtain rfl : u2 = bk := Option.some.inj (hn_u2.symm.trans hbk); obtain rfl : u3 = fl := Option.some.inj (hn_u3.symm.trans hfl); omega)⟩⟩
  · have c5 := z_ne c5
    refine wp_nne hn_u2 ?_
    refine wp_nn ((hzP221 this).1 hk_this) (fun a17 hn_a17 => ?_)
    obtain ⟨hk_a17, hl1_a17, hl2_a17, hw_a17⟩ := (hzP221 this).2 a17 hn_a17
    have hz_a17 : (Int32.ofNat (ln a17)).toInt = ((ln a17 : Nat) : Int) := ofN_eq (by first | exact Nat.le_trans hl2_a17 (by decide) | omega)
    refine wp_nn ((hzP226 this).1 hk_this) (fun a21 hn_a21 => ?_)
    obtain ⟨hk_a21, hl1_a21, hl2_a21, hw_a21⟩ := (hzP226 this).2 a21 hn_a21
    obtain ⟨⟨⟨c24_G, c24_P, c24_U, c24_V, c24_X, c24_O, c24_kd, c24_ln, c24_cnt⟩, v1_24, v2_24⟩, hc24, hq24⟩ := ok_X0_fill κ wd G P U V X O kd ln cnt u2 p0 a17 a21 ⟨hzG43, hzG44, hzG45, hzG60, hzG83, hzG84, hzG85, hzG87, hzG88, hzG102, hzG125, hzG126, hzG127, hzG141, hzG160, hzG161, hzG162, hzG165, hzG166, hzG183, hzG200, hzG203, hzG222, hzG231, hzG233, hzP0, hzP1, hzP2, hzP3, hzP4, hzP5, hzP20, hzP21, hzP22, hzP23, hzP40, hzP41, hzP42, hzP61, hzP62, hzP63, hzP64, hzP65, hzP66, hzP82, hzP101, hzP103, hzP104, hzP105, hzP106, hzP108, hzP109, hzP110, hzP120, hzP121, hzP122, hzP123, hzP140, hzP164, hzP180, hzP181, hzP182, hzP185, hzP186, hzP187, hzP201, hzP202, hzP220, hzP221, hzP224, hzP225, hzP226, hzP227, hzP228, hzP229, hzP230, hzP232, hzP234, hzP235, hzP236, hzV1, hzV2, hzV3, hzV9, hzO0, hzO1, hzO2, hzRA, hzRB, hzRI, hzRM103, hzRM104, hzRM108, hzLN, hzFL, hzW0, hzKC, hzWK⟩ hk_u2 hk_a17 hk_a21 (show ln a17 = 6 from by omega)
    obtain ⟨κ24_5, hCI24, hxx24, hcc7, hfr8, hfr9, hfr10, hfr11, hfr12, hfr13, hfr14, hfr15, hfr16, f17, f18⟩ : ∃ κ1 : Nat → Nat, (CInv κ1 wd c24_G c24_P c24_V c24_O c24_ln c24_cnt) ∧ (∀ a, κ a ≠ 0 → κ1 a = κ a) ∧ (cnt ≤ c24_cnt) ∧ ((∀ a, κ a ≠ 0 → (c24_P 220) a = (P 220) a)) ∧ ((∀ a, κ a ≠ 0 → (c24_P 229) a = (P 229) a)) ∧ ((∀ a, κ a ≠ 0 → (c24_P 3) a = (P 3) a)) ∧ ((∀ a, κ a ≠ 0 → (c24_G 141) a = (G 141) a)) ∧ ((∀ a, κ a ≠ 0 → (c24_G 83) a = (G 83) a)) ∧ ((∀ a, κ a ≠ 0 → (c24_P 82) a = (P 82) a)) ∧ ((∀ a, κ a ≠ 0 → (c24_P 0) a = (P 0) a)) ∧ ((∀ a, κ a ≠ 0 → (c24_G 160) a = (G 160) a)) ∧ ((∀ a, κ a ≠ 0 → c24_ln a = ln a)) ∧ ((c24_G 203) wd = (G 203) wd) ∧ ((∀ fl, (P 3) u2 = some fl → (((v1_24 : Nat) : Int) + 3 * s7 ((V 3) fl) ≤ 3 * s7 ((c24_V 3) fl)) ∧ (((v2_24 : Nat) : Int) + 2504 * s7 ((V 3) fl) ≤ 2504 * s7 ((c24_V 3) fl)))) := hq24
    obtain ⟨h24_G43, h24_G44, h24_G45, h24_G60, h24_G83, h24_G84, h24_G85, h24_G87, h24_G88, h24_G102, h24_G125, h24_G126, h24_G127, h24_G141, h24_G160, h24_G161, h24_G162, h24_G165, h24_G166, h24_G183, h24_G200, h24_G203, h24_G222, h24_G231, h24_G233, h24_P0, h24_P1, h24_P2, h24_P3, h24_P4, h24_P5, h24_P20, h24_P21, h24_P22, h24_P23, h24_P40, h24_P41, h24_P42, h24_P61, h24_P62, h24_P63, h24_P64, h24_P65, h24_P66, h24_P82, h24_P101, h24_P103, h24_P104, h24_P105, h24_P106, h24_P108, h24_P109, h24_P110, h24_P120, h24_P121, h24_P122, h24_P123, h24_P140, h24_P164, h24_P180, h24_P181, h24_P182, h24_P185, h24_P186, h24_P187, h24_P201, h24_P202, h24_P220, h24_P221, h24_P224, h24_P225, h24_P226, h24_P227, h24_P228, h24_P229, h24_P230, h24_P232, h24_P234, h24_P235, h24_P236, h24_V1, h24_V2, h24_V3, h24_V9, h24_O0, h24_O1, h24_O2, h24_RA, h24_RB, h24_RI, h24_RM103, h24_RM104, h24_RM108, h24_LN, h24_FL, h24_W0, h24_KC, h24_WK⟩ := hCI24
    clear hzG43 hzG44 hzG45 hzG60 hzG83 hzG84 hzG85 hzG87 hzG88 hzG102 hzG125 hzG126 hzG127 hzG141 hzG160 hzG161 hzG162 hzG165 hzG166 hzG183 hzG200 hzG203 hzG222 hzG231 hzG233 hzP0 hzP1 hzP2 hzP3 hzP4 hzP5 hzP20 hzP21 hzP22 hzP23 hzP40 hzP41 hzP42 hzP61 hzP62 hzP63 hzP64 hzP65 hzP66 hzP82 hzP101 hzP103 hzP104 hzP105 hzP106 hzP108 hzP109 hzP110 hzP120 hzP121 hzP122 hzP123 hzP140 hzP164 hzP180 hzP181 hzP182 hzP185 hzP186 hzP187 hzP201 hzP202 hzP220 hzP221 hzP224 hzP225 hzP226 hzP227 hzP228 hzP229 hzP230 hzP232 hzP234 hzP235 hzP236 hzV1 hzV2 hzV3 hzV9 hzO0 hzO1 hzO2 hzRA hzRB hzRI hzRM103 hzRM104 hzRM108 hzLN hzFL hzW0 hzKC hzWK
    have kx19 : ∀ a, κ a ≠ 0 → κ24_5 a = κ a := hxx24
    have hk20 : κ24_5 this = 12 := kxk hxx24 hk_this (by decide)
    have hF21 : (∀ a, κ a ≠ 0 → (c24_P 220) a = (P 220) a) := fun a ha => (hfr8 a (ha)).trans (rfl)
    have hF22 : (∀ a, κ a ≠ 0 → (c24_P 229) a = (P 229) a) := fun a ha => (hfr9 a (ha)).trans (rfl)
    have hF23 : (∀ a, κ a ≠ 0 → (c24_P 3) a = (P 3) a) := fun a ha => (hfr10 a (ha)).trans (rfl)
    have hF24 : (∀ a, κ a ≠ 0 → (c24_G 141) a = (G 141) a) := fun a ha => (hfr11 a (ha)).trans (rfl)
    have hF25 : (∀ a, κ a ≠ 0 → (c24_G 83) a = (G 83) a) := fun a ha => (hfr12 a (ha)).trans (rfl)
    have hF26 : (∀ a, κ a ≠ 0 → (c24_P 82) a = (P 82) a) := fun a ha => (hfr13 a (ha)).trans (rfl)
    have hF27 : (∀ a, κ a ≠ 0 → (c24_P 0) a = (P 0) a) := fun a ha => (hfr14 a (ha)).trans (rfl)
    have hF28 : (∀ a, κ a ≠ 0 → (c24_G 160) a = (G 160) a) := fun a ha => (hfr15 a (ha)).trans (rfl)
    have hF29 : (∀ a, κ a ≠ 0 → c24_ln a = ln a) := fun a ha => (hfr16 a (ha)).trans (rfl)
    refine wp_bA9 hc24 ?_
    have hpot := f18 _ hn_u3
    have hT : ((c24_G 141) u1).toInt = ((G 141) u1).toInt := congrArg Int32.toInt (hfr11 u1 (by rw [hk_u1]; decide))
    have lp31 : ∀ (n31 : Nat) (y31_2 : Int32) (y31_3 : Int32), (100 - y31_3.toInt).toNat < n31 → (0 ≤ y31_3.toInt ∧ y31_3.toInt ≤ 100) → (0 ≤ y31_2.toInt ∧ y31_2.toInt ≤ 100 * y31_3.toInt) → wp (L_X11_rhymes_31 this p0 c24_G c24_P c24_U c24_V c24_X c24_O c24_kd c24_ln c24_cnt n31 y31_2 y31_3) (sh (QC_X11_rhymes κ wd G P U V X O kd ln cnt this p0) (0 + v1_24) (0 + v2_24)) := by
      intro n31
      induction n31 with
      | zero => intro y31_2 y31_3 hm; exact absurd hm (Nat.not_lt_zero _)
      | succ n31 ih31 =>
        intro y31_2 y31_3 hm31 f30 f31
        show wp (B_X11_rhymes_31 this p0 c24_G c24_P c24_U c24_V c24_X c24_O c24_kd c24_ln c24_cnt (L_X11_rhymes_31 this p0 c24_G c24_P c24_U c24_V c24_X c24_O c24_kd c24_ln c24_cnt n31) y31_2 y31_3) _
        unfold B_X11_rhymes_31
        refine wp_nn ((h24_P229 this).1 hk20) (fun a33 hn_a33 => ?_)
        obtain ⟨hk_a33, hl1_a33, hl2_a33, hw_a33⟩ := (h24_P229 this).2 a33 hn_a33
        refine wp_nn ((h24_P0 a33).1 hk_a33) (fun a36 hn_a36 => ?_)
        obtain rfl : wd = a36 := (h24_W0 _ _ hn_a36).symm
        obtain ⟨hk_wd, hl1_wd, hl2_wd, hw_wd⟩ := (h24_P0 a33).2 wd hn_a36
        have b32 := h24_G203 wd
        refine wp_ite (fun c42 => ?_) (fun c42 => ?_)
        · have c42 := (z_le _ _).mp c42
          exact ⟨_, rfl, ⟨κ24_5, (show CInv κ24_5 wd c24_G c24_P c24_V c24_O c24_ln c24_cnt from ⟨h24_G43, h24_G44, h24_G45, h24_G60, h24_G83, h24_G84, h24_G85, h24_G87, h24_G88, h24_G102, h24_G125, h24_G126, h24_G127, h24_G141, h24_G160, h24_G161, h24_G162, h24_G165, h24_G166, h24_G183, h24_G200, h24_G203, h24_G222, h24_G231, h24_G233, h24_P0, h24_P1, h24_P2, h24_P3, h24_P4, h24_P5, h24_P20, h24_P21, h24_P22, h24_P23, h24_P40, h24_P41, h24_P42, h24_P61, h24_P62, h24_P63, h24_P64, h24_P65, h24_P66, h24_P82, h24_P101, h24_P103, h24_P104, h24_P105, h24_P106, h24_P108, h24_P109, h24_P110, h24_P120, h24_P121, h24_P122, h24_P123, h24_P140, h24_P164, h24_P180, h24_P181, h24_P182, h24_P185, h24_P186, h24_P187, h24_P201, h24_P202, h24_P220, h24_P221, h24_P224, h24_P225, h24_P226, h24_P227, h24_P228, h24_P229, h24_P230, h24_P232, h24_P234, h24_P235, h24_P236, h24_V1, h24_V2, h24_V3, h24_V9, h24_O0, h24_O1, h24_O2, h24_RA, h24_RB, h24_RI, h24_RM103, h24_RM104, h24_RM108, h24_LN, h24_FL, h24_W0, h24_KC, h24_WK⟩), kx19, (show cnt ≤ c24_cnt from by omega), (show (∀ a, κ a ≠ 0 → (c24_P 220) a = (P 220) a) from hF21), (show (∀ a, κ a ≠ 0 → (c24_P 229) a = (P 229) a) from hF22), (show (∀ a, κ a ≠ 0 → (c24_P 3) a = (P 3) a) from hF23), (show (∀ a, κ a ≠ 0 → (c24_G 141) a = (G 141) a) from hF24), (show (∀ a, κ a ≠ 0 → (c24_G 83) a = (G 83) a) from hF25), (show (∀ a, κ a ≠ 0 → (c24_P 82) a = (P 82) a) from hF26), (show (∀ a, κ a ≠ 0 → (c24_P 0) a = (P 0) a) from hF27), (show (∀ a, κ a ≠ 0 → (c24_G 160) a = (G 160) a) from hF28), (show (∀ a, κ a ≠ 0 → c24_ln a = ln a) from hF29), (show (∀ bk fl, (P 229) this = some bk → (P 3) bk = some fl → ((((0 + v1_24) : Nat) : Int) + 3 * s7 ((V 3) fl) ≤ 3 * s7 ((c24_V 3) fl)) ∧ ((((0 + v2_24) : Nat) : Int) + 2504 * s7 ((V 3) fl) ≤ 2504 * s7 ((c24_V 3) fl))) from by intro bk fl hbk hfl; obtain rfl : u2 = bk := Option.some.inj (hn_u2.symm.trans hbk); obtain rfl : u3 = fl := Option.some.inj (hn_u3.symm.trans hfl); omega)⟩⟩
        · have c42 := z_nle c42
          have f33 : (y31_3 + 1).toInt = y31_3.toInt + 1 := z_addc (by decide +kernel) (by omega) (by omega)
          refine wp_vl (fun x48 ex48 => ?_)
          have f34 : x48.toInt = (y31_3 + 1).toInt := congrArg Int32.toInt ex48
          clear ex48
          refine wp_jn (fun k111 => ∀ (x111_2 : Int32), (0 ≤ x111_2.toInt ∧ x111_2.toInt ≤ 100 * y31_3.toInt + 100) → wp (k111 x111_2) (sh (QC_X11_rhymes κ wd G P U V X O kd ln cnt this p0) (0 + v1_24) (0 + v2_24))) ?_ ?_
          · intro x111_2 f35
            show wp _ _
            exact ih31 x111_2 (y31_3 + 1) (show (100 - (y31_3 + 1).toInt).toNat < n31 from by omega) (show (0 ≤ (y31_3 + 1).toInt ∧ (y31_3 + 1).toInt ≤ 100) from by omega) (show (0 ≤ x111_2.toInt ∧ x111_2.toInt ≤ 100 * (y31_3 + 1).toInt) from by omega)
          intro k111 Jk111
          have lp50 : ∀ (n50 : Nat) (y50_2 : Int32) (y50_4 : Int32), (101 - y50_4.toInt).toNat < n50 → (1 ≤ y50_4.toInt ∧ y50_4.toInt ≤ 101) → (0 ≤ y50_2.toInt ∧ y50_2.toInt ≤ 100 * y31_3.toInt + y50_4.toInt - 1) → wp (L_X11_rhymes_50 this p0 c24_G c24_P c24_U c24_V c24_X c24_O c24_kd c24_ln c24_cnt y31_3 k111 n50 y50_2 y50_4) (sh (QC_X11_rhymes κ wd G P U V X O kd ln cnt this p0) (0 + v1_24) (0 + v2_24)) := by
            intro n50
            induction n50 with
            | zero => intro y50_2 y50_4 hm; exact absurd hm (Nat.not_lt_zero _)
            | succ n50 ih50 =>
              intro y50_2 y50_4 hm50 f37 f38
              show wp (B_X11_rhymes_50 this p0 c24_G c24_P c24_U c24_V c24_X c24_O c24_kd c24_ln c24_cnt y31_3 k111 (L_X11_rhymes_50 this p0 c24_G c24_P c24_U c24_V c24_X c24_O c24_kd c24_ln c24_cnt y31_3 k111 n50) y50_2 y50_4) _
              unfold B_X11_rhymes_50
              refine wp_nne hn_a33 ?_
              refine wp_nne hn_a36 ?_
              refine wp_ite (fun c62 => ?_) (fun c62 => ?_)
              · have c62 := (z_le _ _).mp c62
                exact Jk111 y50_2 (show (0 ≤ y50_2.toInt ∧ y50_2.toInt ≤ 100 * y31_3.toInt + 100) from by omega)
              · have c62 := z_nle c62
                refine wp_nne hn_a33 ?_
                refine wp_nne hn_a36 ?_
                refine wp_nne hn_a33 ?_
                refine wp_nne hn_a36 ?_
                obtain ⟨r82, hc82, hq82⟩ := ok_X10_endsAlike κ24_5 wd c24_G c24_P c24_U c24_V c24_X c24_O c24_kd c24_ln c24_cnt wd y31_3 wd y50_4 h24_G200 h24_G203 h24_P201 h24_P202 h24_V1 h24_RA h24_RB h24_RI h24_LN hk_wd hk_wd (show (0 ≤ y31_3.toInt ∧ y31_3.toInt < ((c24_G 203) wd).toInt) from by omega) (show (0 ≤ y50_4.toInt ∧ y50_4.toInt < ((c24_G 203) wd).toInt) from by omega)
                have f40 : (0 ≤ r82.toInt ∧ r82.toInt ≤ 1) := hq82
                refine wp_b1 hc82 ?_
                clear hc82
                refine wp_jn (fun j105 => ∀ (x105_2 : Int32), (0 ≤ x105_2.toInt ∧ x105_2.toInt ≤ 100 * y31_3.toInt + y50_4.toInt) → wp (j105 x105_2) (sh (QC_X11_rhymes κ wd G P U V X O kd ln cnt this p0) (0 + v1_24) (0 + v2_24))) ?_ ?_
                · intro x105_2 f41
                  show wp _ _
                  have f42 : (y50_4 + 1).toInt = y50_4.toInt + (1) := z_addc (by decide +kernel) (by omega) (by omega)
                  exact ih50 x105_2 (y50_4 + 1) (show (101 - (y50_4 + 1).toInt).toNat < n50 from by omega) (show (1 ≤ (y50_4 + 1).toInt ∧ (y50_4 + 1).toInt ≤ 101) from by omega) (show (0 ≤ x105_2.toInt ∧ x105_2.toInt ≤ 100 * y31_3.toInt + (y50_4 + 1).toInt - 1) from by omega)
                intro j105 Jj105
                refine wp_ite (fun c85 => ?_) (fun c85 => ?_)
                · have c85 := congrArg Int32.toInt c85
                  exact Jj105 y50_2 (show (0 ≤ y50_2.toInt ∧ y50_2.toInt ≤ 100 * y31_3.toInt + y50_4.toInt) from by omega)
                · have c85 := z_ne c85
                  refine wp_nne hn_a33 ?_
                  obtain ⟨r96, hc96, hq96⟩ := ok_X0_formsRhyme κ24_5 wd c24_G c24_P c24_U c24_V c24_X c24_O c24_kd c24_ln c24_cnt a33 p0 y31_3 y50_4 h24_G200 h24_G203 h24_P1 h24_P5 h24_P201 h24_P202 h24_V1 h24_O1 h24_RA h24_RB h24_RI h24_LN hk_a33 (show (0 ≤ p0.toInt ∧ p0.toInt ≤ 6) from by omega) (show (0 ≤ y31_3.toInt ∧ y31_3.toInt < 100) from by omega) (show (0 ≤ y50_4.toInt ∧ y50_4.toInt < 100) from by omega)
                  have f43 : (0 ≤ r96.toInt ∧ r96.toInt ≤ 1) := hq96
                  refine wp_b1 hc96 ?_
                  clear hc96
                  refine wp_ite (fun c99 => ?_) (fun c99 => ?_)
                  · have c99 := congrArg Int32.toInt c99
                    have f44 : (y50_2 + 1).toInt = y50_2.toInt + (1) := z_addc (by decide +kernel) (by omega) (by omega)
                    exact Jj105 (y50_2 + 1) (show (0 ≤ (y50_2 + 1).toInt ∧ (y50_2 + 1).toInt ≤ 100 * y31_3.toInt + y50_4.toInt) from by omega)
                  · have c99 := z_ne c99
                    exact Jj105 y50_2 (show (0 ≤ y50_2.toInt ∧ y50_2.toInt ≤ 100 * y31_3.toInt + y50_4.toInt) from by omega)
          exact lp50 NN y31_2 x48 (by have := NN_eq; omega) (show (1 ≤ x48.toInt ∧ x48.toInt ≤ 101) from by omega) (show (0 ≤ y31_2.toInt ∧ y31_2.toInt ≤ 100 * y31_3.toInt + x48.toInt - 1) from by omega)
    exact lp31 NN (0 : Int32) (0 : Int32) (by have := NN_eq; omega) (show (0 ≤ (0 : Int32).toInt ∧ (0 : Int32).toInt ≤ 100) from by omega) (show (0 ≤ (0 : Int32).toInt ∧ (0 : Int32).toInt ≤ 100 * (0 : Int32).toInt) from by omega)
abbrev QC_X11_tell (κ : Nat → Nat) (wd : Nat) (G : Nat → Nat → Int32) (P : Nat → Nat → Option Nat) (U : Nat → Nat → Int64) (V : Nat → Nat → Nat → Int32) (X : Nat → Nat → Nat → Int64) (O : Nat → Nat → Nat → Option Nat) (kd : Nat → Nat) (ln : Nat → Nat) (cnt : Nat) (this : Nat) (p0 : Int32) (p1 : Int32) : ((Int32 × (Nat → Nat → Int32) × (Nat → Nat → Option Nat) × (Nat → Nat → Int64) × (Nat → Nat → Nat → Int32) × (Nat → Nat → Nat → Int64) × (Nat → Nat → Nat → Option Nat) × (Nat → Nat) × (Nat → Nat) × Nat) × Nat × Nat) → Prop := (fun t => ∃ κ1 : Nat → Nat, (CInv κ1 wd (t.1.2.1) (t.1.2.2.1) (t.1.2.2.2.2.1) (t.1.2.2.2.2.2.2.1) (t.1.2.2.2.2.2.2.2.2.1) (t.1.2.2.2.2.2.2.2.2.2)) ∧ (∀ a, κ a ≠ 0 → κ1 a = κ a) ∧ (cnt ≤ (t.1.2.2.2.2.2.2.2.2.2)) ∧ ((∀ a, κ a ≠ 0 → ((t.1.2.2.1) 220) a = (P 220) a)) ∧ ((∀ a, κ a ≠ 0 → ((t.1.2.2.1) 229) a = (P 229) a)) ∧ ((∀ a, κ a ≠ 0 → ((t.1.2.2.1) 3) a = (P 3) a)) ∧ ((∀ a, κ a ≠ 0 → ((t.1.2.1) 141) a = (G 141) a)) ∧ ((∀ a, κ a ≠ 0 → ((t.1.2.1) 83) a = (G 83) a)) ∧ ((∀ a, κ a ≠ 0 → ((t.1.2.2.1) 82) a = (P 82) a)) ∧ ((∀ a, κ a ≠ 0 → ((t.1.2.2.1) 0) a = (P 0) a)) ∧ ((∀ a, κ a ≠ 0 → ((t.1.2.1) 160) a = (G 160) a)) ∧ ((∀ a, κ a ≠ 0 → (t.1.2.2.2.2.2.2.2.2.1) a = ln a)) ∧ ((∀ bk fl, (P 229) this = some bk → (P 3) bk = some fl → ((((t.2.1) : Nat) : Int) + 3 * s7 ((V 3) fl) ≤ 3 * s7 (((t.1.2.2.2.2.1) 3) fl)) ∧ ((((t.2.2) : Nat) : Int) + 2504 * s7 ((V 3) fl) ≤ 2504 * s7 (((t.1.2.2.2.2.1) 3) fl)))))
set_option maxHeartbeats 4000000 in
set_option maxRecDepth 100000 in
theorem ok_X11_tell (κ : Nat → Nat) (wd : Nat) (G : Nat → Nat → Int32) (P : Nat → Nat → Option Nat) (U : Nat → Nat → Int64) (V : Nat → Nat → Nat → Int32) (X : Nat → Nat → Nat → Int64) (O : Nat → Nat → Nat → Option Nat) (kd : Nat → Nat) (ln : Nat → Nat) (cnt : Nat) (this : Nat) (p0 : Int32) (p1 : Int32) (hI : CInv κ wd G P V O ln cnt) (hk_this : κ this = 12) : wp (f_X11_tell G P U V X O kd ln cnt this p0 p1) (QC_X11_tell κ wd G P U V X O kd ln cnt this p0 p1) := by
  unfold f_X11_tell
  obtain ⟨hzG43, hzG44, hzG45, hzG60, hzG83, hzG84, hzG85, hzG87, hzG88, hzG102, hzG125, hzG126, hzG127, hzG141, hzG160, hzG161, hzG162, hzG165, hzG166, hzG183, hzG200, hzG203, hzG222, hzG231, hzG233, hzP0, hzP1, hzP2, hzP3, hzP4, hzP5, hzP20, hzP21, hzP22, hzP23, hzP40, hzP41, hzP42, hzP61, hzP62, hzP63, hzP64, hzP65, hzP66, hzP82, hzP101, hzP103, hzP104, hzP105, hzP106, hzP108, hzP109, hzP110, hzP120, hzP121, hzP122, hzP123, hzP140, hzP164, hzP180, hzP181, hzP182, hzP185, hzP186, hzP187, hzP201, hzP202, hzP220, hzP221, hzP224, hzP225, hzP226, hzP227, hzP228, hzP229, hzP230, hzP232, hzP234, hzP235, hzP236, hzV1, hzV2, hzV3, hzV9, hzO0, hzO1, hzO2, hzRA, hzRB, hzRI, hzRM103, hzRM104, hzRM108, hzLN, hzFL, hzW0, hzKC, hzWK⟩ := hI
  refine wp_sh0 ?_
  have zkm2 : (-2 : Int32).toInt = -2 := by decide +kernel
  have zk0 : (0 : Int32).toInt = 0 := by decide +kernel
  have zk2 : (2 : Int32).toInt = 2 := by decide +kernel
  have r_p0 := i32r p0
  have r_p1 := i32r p1
  obtain ⟨u1, hn_u1⟩ := PBs (hzP220 this) hk_this
  obtain ⟨hk_u1, hl1_u1, hl2_u1, hw_u1⟩ := (hzP220 this).2 u1 hn_u1
  obtain ⟨u2, hn_u2⟩ := PBs (hzP229 this) hk_this
  obtain ⟨hk_u2, hl1_u2, hl2_u2, hw_u2⟩ := (hzP229 this).2 u2 hn_u2
  obtain ⟨u3, hn_u3⟩ := PBs (hzP3 u2) hk_u2
  obtain ⟨hk_u3, hl1_u3, hl2_u3, hw_u3⟩ := (hzP3 u2).2 u3 hn_u3
  have hz_u3 : (Int32.ofNat (ln u3)).toInt = ((ln u3 : Nat) : Int) := ofN_eq (by first | exact Nat.le_trans hl2_u3 (by decide) | omega)
  have hb222 := hzG222 this
  obtain ⟨r2, hc2, hq2⟩ := ok_X11_isStage κ wd G P U V X O kd ln cnt this p0 hzG222 hzLN hk_this
  obtain ⟨f4, f5⟩ : ((0 ≤ r2.toInt ∧ r2.toInt ≤ 1)) ∧ ((r2.toInt = 1 → 0 ≤ p0.toInt ∧ p0.toInt ≤ ((G 222) this).toInt)) := hq2
  refine wp_b1 hc2 ?_
  clear hc2
  refine wp_jn (fun j17 => wp (j17 ()) (sh (QC_X11_tell κ wd G P U V X O kd ln cnt this p0 p1) 0 0)) ?_ ?_
  · show wp _ _
    exact ⟨_, rfl, ⟨κ, (show CInv κ wd G P V O ln cnt from ⟨hzG43, hzG44, hzG45, hzG60, hzG83, hzG84, hzG85, hzG87, hzG88, hzG102, hzG125, hzG126, hzG127, hzG141, hzG160, hzG161, hzG162, hzG165, hzG166, hzG183, hzG200, hzG203, hzG222, hzG231, hzG233, hzP0, hzP1, hzP2, hzP3, hzP4, hzP5, hzP20, hzP21, hzP22, hzP23, hzP40, hzP41, hzP42, hzP61, hzP62, hzP63, hzP64, hzP65, hzP66, hzP82, hzP101, hzP103, hzP104, hzP105, hzP106, hzP108, hzP109, hzP110, hzP120, hzP121, hzP122, hzP123, hzP140, hzP164, hzP180, hzP181, hzP182, hzP185, hzP186, hzP187, hzP201, hzP202, hzP220, hzP221, hzP224, hzP225, hzP226, hzP227, hzP228, hzP229, hzP230, hzP232, hzP234, hzP235, hzP236, hzV1, hzV2, hzV3, hzV9, hzO0, hzO1, hzO2, hzRA, hzRB, hzRI, hzRM103, hzRM104, hzRM108, hzLN, hzFL, hzW0, hzKC, hzWK⟩), (fun _ _ => rfl), (show cnt ≤ cnt from by omega), (show (∀ a, κ a ≠ 0 → (P 220) a = (P 220) a) from (fun _ _ => rfl)), (show (∀ a, κ a ≠ 0 → (P 229) a = (P 229) a) from (fun _ _ => rfl)), (show (∀ a, κ a ≠ 0 → (P 3) a = (P 3) a) from (fun _ _ => rfl)), (show (∀ a, κ a ≠ 0 → (G 141) a = (G 141) a) from (fun _ _ => rfl)), (show (∀ a, κ a ≠ 0 → (G 83) a = (G 83) a) from (fun _ _ => rfl)), (show (∀ a, κ a ≠ 0 → (P 82) a = (P 82) a) from (fun _ _ => rfl)), (show (∀ a, κ a ≠ 0 → (P 0) a = (P 0) a) from (fun _ _ => rfl)), (show (∀ a, κ a ≠ 0 → (G 160) a = (G 160) a) from (fun _ _ => rfl)), (show (∀ a, κ a ≠ 0 → ln a = ln a) from (fun _ _ => rfl)), (show (∀ bk fl, (P 229) this = some bk → (P 3) bk = some fl → (((0 : Nat) : Int) + 3 * s7 ((V 3) fl) ≤ 3 * s7 ((V 3) fl)) ∧ (((0 : Nat) : Int) + 2504 * s7 ((V 3) fl) ≤ 2504 * s7 ((V 3) fl))) from by intro bk fl hbk hfl; obtain rfl : u2 = bk := Option.some.inj (hn_u2.symm.trans hbk); obtain rfl : u3 = fl := Option.some.inj (hn_u3.symm.trans hfl); omega)⟩⟩
  intro j17 Jj17
  refine wp_ite (fun c5 => ?_) (fun c5 => ?_)
  · have c5 := congrArg Int32.toInt c5
    exact Jj17
  · have c5 := z_ne c5
    refine wp_ite (fun c9 => ?_) (fun c9 => ?_)
    · have c9 := (z_lt _ _).mp c9
      exact Jj17
    · have c9 := z_nlt c9
      refine wp_ite (fun c14 => ?_) (fun c14 => ?_)
      · have c14 := (z_le _ _).mp c14
        refine wp_nne hn_u2 ?_
        refine wp_nn ((hzP221 this).1 hk_this) (fun a26 hn_a26 => ?_)
        obtain ⟨hk_a26, hl1_a26, hl2_a26, hw_a26⟩ := (hzP221 this).2 a26 hn_a26
        have hz_a26 : (Int32.ofNat (ln a26)).toInt = ((ln a26 : Nat) : Int) := ofN_eq (by first | exact Nat.le_trans hl2_a26 (by decide) | omega)
        refine wp_nn ((hzP226 this).1 hk_this) (fun a30 hn_a30 => ?_)
        obtain ⟨hk_a30, hl1_a30, hl2_a30, hw_a30⟩ := (hzP226 this).2 a30 hn_a30
        obtain ⟨⟨⟨c33_G, c33_P, c33_U, c33_V, c33_X, c33_O, c33_kd, c33_ln, c33_cnt⟩, v1_33, v2_33⟩, hc33, hq33⟩ := ok_X0_fill κ wd G P U V X O kd ln cnt u2 p0 a26 a30 ⟨hzG43, hzG44, hzG45, hzG60, hzG83, hzG84, hzG85, hzG87, hzG88, hzG102, hzG125, hzG126, hzG127, hzG141, hzG160, hzG161, hzG162, hzG165, hzG166, hzG183, hzG200, hzG203, hzG222, hzG231, hzG233, hzP0, hzP1, hzP2, hzP3, hzP4, hzP5, hzP20, hzP21, hzP22, hzP23, hzP40, hzP41, hzP42, hzP61, hzP62, hzP63, hzP64, hzP65, hzP66, hzP82, hzP101, hzP103, hzP104, hzP105, hzP106, hzP108, hzP109, hzP110, hzP120, hzP121, hzP122, hzP123, hzP140, hzP164, hzP180, hzP181, hzP182, hzP185, hzP186, hzP187, hzP201, hzP202, hzP220, hzP221, hzP224, hzP225, hzP226, hzP227, hzP228, hzP229, hzP230, hzP232, hzP234, hzP235, hzP236, hzV1, hzV2, hzV3, hzV9, hzO0, hzO1, hzO2, hzRA, hzRB, hzRI, hzRM103, hzRM104, hzRM108, hzLN, hzFL, hzW0, hzKC, hzWK⟩ hk_u2 hk_a26 hk_a30 (show ln a26 = 6 from by omega)
        obtain ⟨κ33_5, hCI33, hxx33, hcc7, hfr8, hfr9, hfr10, hfr11, hfr12, hfr13, hfr14, hfr15, hfr16, f17, f18⟩ : ∃ κ1 : Nat → Nat, (CInv κ1 wd c33_G c33_P c33_V c33_O c33_ln c33_cnt) ∧ (∀ a, κ a ≠ 0 → κ1 a = κ a) ∧ (cnt ≤ c33_cnt) ∧ ((∀ a, κ a ≠ 0 → (c33_P 220) a = (P 220) a)) ∧ ((∀ a, κ a ≠ 0 → (c33_P 229) a = (P 229) a)) ∧ ((∀ a, κ a ≠ 0 → (c33_P 3) a = (P 3) a)) ∧ ((∀ a, κ a ≠ 0 → (c33_G 141) a = (G 141) a)) ∧ ((∀ a, κ a ≠ 0 → (c33_G 83) a = (G 83) a)) ∧ ((∀ a, κ a ≠ 0 → (c33_P 82) a = (P 82) a)) ∧ ((∀ a, κ a ≠ 0 → (c33_P 0) a = (P 0) a)) ∧ ((∀ a, κ a ≠ 0 → (c33_G 160) a = (G 160) a)) ∧ ((∀ a, κ a ≠ 0 → c33_ln a = ln a)) ∧ ((c33_G 203) wd = (G 203) wd) ∧ ((∀ fl, (P 3) u2 = some fl → (((v1_33 : Nat) : Int) + 3 * s7 ((V 3) fl) ≤ 3 * s7 ((c33_V 3) fl)) ∧ (((v2_33 : Nat) : Int) + 2504 * s7 ((V 3) fl) ≤ 2504 * s7 ((c33_V 3) fl)))) := hq33
        obtain ⟨h33_G43, h33_G44, h33_G45, h33_G60, h33_G83, h33_G84, h33_G85, h33_G87, h33_G88, h33_G102, h33_G125, h33_G126, h33_G127, h33_G141, h33_G160, h33_G161, h33_G162, h33_G165, h33_G166, h33_G183, h33_G200, h33_G203, h33_G222, h33_G231, h33_G233, h33_P0, h33_P1, h33_P2, h33_P3, h33_P4, h33_P5, h33_P20, h33_P21, h33_P22, h33_P23, h33_P40, h33_P41, h33_P42, h33_P61, h33_P62, h33_P63, h33_P64, h33_P65, h33_P66, h33_P82, h33_P101, h33_P103, h33_P104, h33_P105, h33_P106, h33_P108, h33_P109, h33_P110, h33_P120, h33_P121, h33_P122, h33_P123, h33_P140, h33_P164, h33_P180, h33_P181, h33_P182, h33_P185, h33_P186, h33_P187, h33_P201, h33_P202, h33_P220, h33_P221, h33_P224, h33_P225, h33_P226, h33_P227, h33_P228, h33_P229, h33_P230, h33_P232, h33_P234, h33_P235, h33_P236, h33_V1, h33_V2, h33_V3, h33_V9, h33_O0, h33_O1, h33_O2, h33_RA, h33_RB, h33_RI, h33_RM103, h33_RM104, h33_RM108, h33_LN, h33_FL, h33_W0, h33_KC, h33_WK⟩ := hCI33
        clear hzG43 hzG44 hzG45 hzG60 hzG83 hzG84 hzG85 hzG87 hzG88 hzG102 hzG125 hzG126 hzG127 hzG141 hzG160 hzG161 hzG162 hzG165 hzG166 hzG183 hzG200 hzG203 hzG222 hzG231 hzG233 hzP0 hzP1 hzP2 hzP3 hzP4 hzP5 hzP20 hzP21 hzP22 hzP23 hzP40 hzP41 hzP42 hzP61 hzP62 hzP63 hzP64 hzP65 hzP66 hzP82 hzP101 hzP103 hzP104 hzP105 hzP106 hzP108 hzP109 hzP110 hzP120 hzP121 hzP122 hzP123 hzP140 hzP164 hzP180 hzP181 hzP182 hzP185 hzP186 hzP187 hzP201 hzP202 hzP220 hzP221 hzP224 hzP225 hzP226 hzP227 hzP228 hzP229 hzP230 hzP232 hzP234 hzP235 hzP236 hzV1 hzV2 hzV3 hzV9 hzO0 hzO1 hzO2 hzRA hzRB hzRI hzRM103 hzRM104 hzRM108 hzLN hzFL hzW0 hzKC hzWK
        have kx19 : ∀ a, κ a ≠ 0 → κ33_5 a = κ a := hxx33
        have hk20 : κ33_5 this = 12 := kxk hxx33 hk_this (by decide)
        have hF21 : (∀ a, κ a ≠ 0 → (c33_P 220) a = (P 220) a) := fun a ha => (hfr8 a (ha)).trans (rfl)
        have hF22 : (∀ a, κ a ≠ 0 → (c33_P 229) a = (P 229) a) := fun a ha => (hfr9 a (ha)).trans (rfl)
        have hF23 : (∀ a, κ a ≠ 0 → (c33_P 3) a = (P 3) a) := fun a ha => (hfr10 a (ha)).trans (rfl)
        have hF24 : (∀ a, κ a ≠ 0 → (c33_G 141) a = (G 141) a) := fun a ha => (hfr11 a (ha)).trans (rfl)
        have hF25 : (∀ a, κ a ≠ 0 → (c33_G 83) a = (G 83) a) := fun a ha => (hfr12 a (ha)).trans (rfl)
        have hF26 : (∀ a, κ a ≠ 0 → (c33_P 82) a = (P 82) a) := fun a ha => (hfr13 a (ha)).trans (rfl)
        have hF27 : (∀ a, κ a ≠ 0 → (c33_P 0) a = (P 0) a) := fun a ha => (hfr14 a (ha)).trans (rfl)
        have hF28 : (∀ a, κ a ≠ 0 → (c33_G 160) a = (G 160) a) := fun a ha => (hfr15 a (ha)).trans (rfl)
        have hF29 : (∀ a, κ a ≠ 0 → c33_ln a = ln a) := fun a ha => (hfr16 a (ha)).trans (rfl)
        refine wp_bA9 hc33 ?_
        have hpot := f18 _ hn_u3
        have hT : ((c33_G 141) u1).toInt = ((G 141) u1).toInt := congrArg Int32.toInt (hfr11 u1 (by rw [hk_u1]; decide))
        have lp41 : ∀ (n41 : Nat) (y41_3 : Int32) (y41_4 : Int32), (100 - y41_4.toInt).toNat < n41 → (0 ≤ y41_4.toInt ∧ y41_4.toInt ≤ 100) → (0 ≤ y41_3.toInt ∧ y41_3.toInt ≤ y41_4.toInt) → wp (L_X11_tell_41 this p0 p1 c33_G c33_P c33_U c33_V c33_X c33_O c33_kd c33_ln c33_cnt n41 y41_3 y41_4) (sh (QC_X11_tell κ wd G P U V X O kd ln cnt this p0 p1) (0 + v1_33) (0 + v2_33)) := by
          intro n41
          induction n41 with
          | zero => intro y41_3 y41_4 hm; exact absurd hm (Nat.not_lt_zero _)
          | succ n41 ih41 =>
            intro y41_3 y41_4 hm41 f30 f31
            show wp (B_X11_tell_41 this p0 p1 c33_G c33_P c33_U c33_V c33_X c33_O c33_kd c33_ln c33_cnt (L_X11_tell_41 this p0 p1 c33_G c33_P c33_U c33_V c33_X c33_O c33_kd c33_ln c33_cnt n41) y41_3 y41_4) _
            unfold B_X11_tell_41
            refine wp_nn ((h33_P229 this).1 hk20) (fun a44 hn_a44 => ?_)
            obtain ⟨hk_a44, hl1_a44, hl2_a44, hw_a44⟩ := (h33_P229 this).2 a44 hn_a44
            refine wp_nn ((h33_P0 a44).1 hk_a44) (fun a47 hn_a47 => ?_)
            obtain rfl : wd = a47 := (h33_W0 _ _ hn_a47).symm
            obtain ⟨hk_wd, hl1_wd, hl2_wd, hw_wd⟩ := (h33_P0 a44).2 wd hn_a47
            have b32 := h33_G203 wd
            refine wp_ite (fun c53 => ?_) (fun c53 => ?_)
            · have c53 := (z_le _ _).mp c53
              exact ⟨_, rfl, ⟨κ33_5, (show CInv κ33_5 wd c33_G c33_P c33_V c33_O c33_ln c33_cnt from ⟨h33_G43, h33_G44, h33_G45, h33_G60, h33_G83, h33_G84, h33_G85, h33_G87, h33_G88, h33_G102, h33_G125, h33_G126, h33_G127, h33_G141, h33_G160, h33_G161, h33_G162, h33_G165, h33_G166, h33_G183, h33_G200, h33_G203, h33_G222, h33_G231, h33_G233, h33_P0, h33_P1, h33_P2, h33_P3, h33_P4, h33_P5, h33_P20, h33_P21, h33_P22, h33_P23, h33_P40, h33_P41, h33_P42, h33_P61, h33_P62, h33_P63, h33_P64, h33_P65, h33_P66, h33_P82, h33_P101, h33_P103, h33_P104, h33_P105, h33_P106, h33_P108, h33_P109, h33_P110, h33_P120, h33_P121, h33_P122, h33_P123, h33_P140, h33_P164, h33_P180, h33_P181, h33_P182, h33_P185, h33_P186, h33_P187, h33_P201, h33_P202, h33_P220, h33_P221, h33_P224, h33_P225, h33_P226, h33_P227, h33_P228, h33_P229, h33_P230, h33_P232, h33_P234, h33_P235, h33_P236, h33_V1, h33_V2, h33_V3, h33_V9, h33_O0, h33_O1, h33_O2, h33_RA, h33_RB, h33_RI, h33_RM103, h33_RM104, h33_RM108, h33_LN, h33_FL, h33_W0, h33_KC, h33_WK⟩), kx19, (show cnt ≤ c33_cnt from by omega), (show (∀ a, κ a ≠ 0 → (c33_P 220) a = (P 220) a) from hF21), (show (∀ a, κ a ≠ 0 → (c33_P 229) a = (P 229) a) from hF22), (show (∀ a, κ a ≠ 0 → (c33_P 3) a = (P 3) a) from hF23), (show (∀ a, κ a ≠ 0 → (c33_G 141) a = (G 141) a) from hF24), (show (∀ a, κ a ≠ 0 → (c33_G 83) a = (G 83) a) from hF25), (show (∀ a, κ a ≠ 0 → (c33_P 82) a = (P 82) a) from hF26), (show (∀ a, κ a ≠ 0 → (c33_P 0) a = (P 0) a) from hF27), (show (∀ a, κ a ≠ 0 → (c33_G 160) a = (G 160) a) from hF28), (show (∀ a, κ a ≠ 0 → c33_ln a = ln a) from hF29), (show (∀ bk fl, (P 229) this = some bk → (P 3) bk = some fl → ((((0 + v1_33) : Nat) : Int) + 3 * s7 ((V 3) fl) ≤ 3 * s7 ((c33_V 3) fl)) ∧ ((((0 + v2_33) : Nat) : Int) + 2504 * s7 ((V 3) fl) ≤ 2504 * s7 ((c33_V 3) fl))) from by intro bk fl hbk hfl; obtain rfl : u2 = bk := Option.some.inj (hn_u2.symm.trans hbk); obtain rfl : u3 = fl := Option.some.inj (hn_u3.symm.trans hfl); omega)⟩⟩
            · have c53 := z_nle c53
              refine wp_nne hn_a44 ?_
              obtain ⟨r64, hc64, hq64⟩ := ok_X0_isSuch κ33_5 wd c33_G c33_P c33_U c33_V c33_X c33_O c33_kd c33_ln c33_cnt a44 p0 y41_4 p1 h33_G200 h33_G203 h33_P0 h33_P1 h33_P5 h33_P201 h33_P202 h33_V1 h33_O1 h33_RA h33_RB h33_RI h33_LN h33_W0 hk_a44 (show (0 ≤ p0.toInt ∧ p0.toInt ≤ 6) from by omega) (show (0 ≤ y41_4.toInt ∧ y41_4.toInt < ((c33_G 203) wd).toInt) from by omega)
              have f33 : (0 ≤ r64.toInt ∧ r64.toInt ≤ 1) := hq64
              refine wp_b1 hc64 ?_
              clear hc64
              refine wp_jn (fun j73 => ∀ (x73_3 : Int32), (0 ≤ x73_3.toInt ∧ x73_3.toInt ≤ y41_4.toInt + 1) → wp (j73 x73_3) (sh (QC_X11_tell κ wd G P U V X O kd ln cnt this p0 p1) (0 + v1_33) (0 + v2_33))) ?_ ?_
              · intro x73_3 f34
                show wp _ _
                have f35 : (y41_4 + 1).toInt = y41_4.toInt + (1) := z_addc (by decide +kernel) (by omega) (by omega)
                exact ih41 x73_3 (y41_4 + 1) (show (100 - (y41_4 + 1).toInt).toNat < n41 from by omega) (show (0 ≤ (y41_4 + 1).toInt ∧ (y41_4 + 1).toInt ≤ 100) from by omega) (show (0 ≤ x73_3.toInt ∧ x73_3.toInt ≤ (y41_4 + 1).toInt) from by omega)
              intro j73 Jj73
              refine wp_ite (fun c67 => ?_) (fun c67 => ?_)
              · have c67 := congrArg Int32.toInt c67
                exact Jj73 y41_3 (show (0 ≤ y41_3.toInt ∧ y41_3.toInt ≤ y41_4.toInt + 1) from by omega)
              · have c67 := z_ne c67
                have f36 : (y41_3 + 1).toInt = y41_3.toInt + (1) := z_addc (by decide +kernel) (by omega) (by omega)
                exact Jj73 (y41_3 + 1) (show (0 ≤ (y41_3 + 1).toInt ∧ (y41_3 + 1).toInt ≤ y41_4.toInt + 1) from by omega)
        exact lp41 NN (0 : Int32) (0 : Int32) (by have := NN_eq; omega) (show (0 ≤ (0 : Int32).toInt ∧ (0 : Int32).toInt ≤ 100) from by omega) (show (0 ≤ (0 : Int32).toInt ∧ (0 : Int32).toInt ≤ (0 : Int32).toInt) from by omega)
      · have c14 := z_nle c14
        exact Jj17
abbrev QC_X11_uses (κ : Nat → Nat) (wd : Nat) (G : Nat → Nat → Int32) (P : Nat → Nat → Option Nat) (U : Nat → Nat → Int64) (V : Nat → Nat → Nat → Int32) (X : Nat → Nat → Nat → Int64) (O : Nat → Nat → Nat → Option Nat) (kd : Nat → Nat) (ln : Nat → Nat) (cnt : Nat) (this : Nat) (p0 : Int32) (p1 : Int32) : ((Int32 × (Nat → Nat → Int32) × (Nat → Nat → Option Nat) × (Nat → Nat → Int64) × (Nat → Nat → Nat → Int32) × (Nat → Nat → Nat → Int64) × (Nat → Nat → Nat → Option Nat) × (Nat → Nat) × (Nat → Nat) × Nat) × Nat × Nat) → Prop := (fun t => ∃ κ1 : Nat → Nat, (CInv κ1 wd (t.1.2.1) (t.1.2.2.1) (t.1.2.2.2.2.1) (t.1.2.2.2.2.2.2.1) (t.1.2.2.2.2.2.2.2.2.1) (t.1.2.2.2.2.2.2.2.2.2)) ∧ (∀ a, κ a ≠ 0 → κ1 a = κ a) ∧ (cnt ≤ (t.1.2.2.2.2.2.2.2.2.2)) ∧ ((∀ a, κ a ≠ 0 → ((t.1.2.2.1) 220) a = (P 220) a)) ∧ ((∀ a, κ a ≠ 0 → ((t.1.2.2.1) 229) a = (P 229) a)) ∧ ((∀ a, κ a ≠ 0 → ((t.1.2.2.1) 3) a = (P 3) a)) ∧ ((∀ a, κ a ≠ 0 → ((t.1.2.1) 141) a = (G 141) a)) ∧ ((∀ a, κ a ≠ 0 → ((t.1.2.1) 83) a = (G 83) a)) ∧ ((∀ a, κ a ≠ 0 → ((t.1.2.2.1) 82) a = (P 82) a)) ∧ ((∀ a, κ a ≠ 0 → ((t.1.2.2.1) 0) a = (P 0) a)) ∧ ((∀ a, κ a ≠ 0 → ((t.1.2.1) 160) a = (G 160) a)) ∧ ((∀ a, κ a ≠ 0 → (t.1.2.2.2.2.2.2.2.2.1) a = ln a)) ∧ ((∀ bk fl, (P 229) this = some bk → (P 3) bk = some fl → ((((t.2.1) : Nat) : Int) + 3 * s7 ((V 3) fl) ≤ 3 * s7 (((t.1.2.2.2.2.1) 3) fl)) ∧ ((((t.2.2) : Nat) : Int) + 2504 * s7 ((V 3) fl) ≤ 2504 * s7 (((t.1.2.2.2.2.1) 3) fl)))))
set_option maxHeartbeats 4000000 in
set_option maxRecDepth 100000 in
theorem ok_X11_uses (κ : Nat → Nat) (wd : Nat) (G : Nat → Nat → Int32) (P : Nat → Nat → Option Nat) (U : Nat → Nat → Int64) (V : Nat → Nat → Nat → Int32) (X : Nat → Nat → Nat → Int64) (O : Nat → Nat → Nat → Option Nat) (kd : Nat → Nat) (ln : Nat → Nat) (cnt : Nat) (this : Nat) (p0 : Int32) (p1 : Int32) (hI : CInv κ wd G P V O ln cnt) (hk_this : κ this = 12) : wp (f_X11_uses G P U V X O kd ln cnt this p0 p1) (QC_X11_uses κ wd G P U V X O kd ln cnt this p0 p1) := by
  unfold f_X11_uses
  obtain ⟨hzG43, hzG44, hzG45, hzG60, hzG83, hzG84, hzG85, hzG87, hzG88, hzG102, hzG125, hzG126, hzG127, hzG141, hzG160, hzG161, hzG162, hzG165, hzG166, hzG183, hzG200, hzG203, hzG222, hzG231, hzG233, hzP0, hzP1, hzP2, hzP3, hzP4, hzP5, hzP20, hzP21, hzP22, hzP23, hzP40, hzP41, hzP42, hzP61, hzP62, hzP63, hzP64, hzP65, hzP66, hzP82, hzP101, hzP103, hzP104, hzP105, hzP106, hzP108, hzP109, hzP110, hzP120, hzP121, hzP122, hzP123, hzP140, hzP164, hzP180, hzP181, hzP182, hzP185, hzP186, hzP187, hzP201, hzP202, hzP220, hzP221, hzP224, hzP225, hzP226, hzP227, hzP228, hzP229, hzP230, hzP232, hzP234, hzP235, hzP236, hzV1, hzV2, hzV3, hzV9, hzO0, hzO1, hzO2, hzRA, hzRB, hzRI, hzRM103, hzRM104, hzRM108, hzLN, hzFL, hzW0, hzKC, hzWK⟩ := hI
  refine wp_sh0 ?_
  have zkm2 : (-2 : Int32).toInt = -2 := by decide +kernel
  have zk0 : (0 : Int32).toInt = 0 := by decide +kernel
  have zk1 : (1 : Int32).toInt = 1 := by decide +kernel
  have r_p0 := i32r p0
  have r_p1 := i32r p1
  obtain ⟨u1, hn_u1⟩ := PBs (hzP220 this) hk_this
  obtain ⟨hk_u1, hl1_u1, hl2_u1, hw_u1⟩ := (hzP220 this).2 u1 hn_u1
  obtain ⟨u2, hn_u2⟩ := PBs (hzP229 this) hk_this
  obtain ⟨hk_u2, hl1_u2, hl2_u2, hw_u2⟩ := (hzP229 this).2 u2 hn_u2
  obtain ⟨u3, hn_u3⟩ := PBs (hzP3 u2) hk_u2
  obtain ⟨hk_u3, hl1_u3, hl2_u3, hw_u3⟩ := (hzP3 u2).2 u3 hn_u3
  have hz_u3 : (Int32.ofNat (ln u3)).toInt = ((ln u3 : Nat) : Int) := ofN_eq (by first | exact Nat.le_trans hl2_u3 (by decide) | omega)
  have hb222 := hzG222 this
  obtain ⟨r2, hc2, hq2⟩ := ok_X11_reformAt κ wd G P U V X O kd ln cnt this p0 hzG222 hzP221 hzO2 hzLN hk_this
  obtain ⟨hk4, f5⟩ : ((∀ b, r2 = some b → κ b = 6)) ∧ ((∀ b, r2 = some b → 0 ≤ p0.toInt ∧ p0.toInt < ((G 222) this).toInt)) := hq2
  refine wp_b1 hc2 ?_
  clear hc2
  have hq2r := f5
  refine wp_jn (fun j22 => wp (j22 ()) (sh (QC_X11_uses κ wd G P U V X O kd ln cnt this p0 p1) 0 0)) ?_ ?_
  · show wp _ _
    exact ⟨_, rfl, ⟨κ, (show CInv κ wd G P V O ln cnt from ⟨hzG43, hzG44, hzG45, hzG60, hzG83, hzG84, hzG85, hzG87, hzG88, hzG102, hzG125, hzG126, hzG127, hzG141, hzG160, hzG161, hzG162, hzG165, hzG166, hzG183, hzG200, hzG203, hzG222, hzG231, hzG233, hzP0, hzP1, hzP2, hzP3, hzP4, hzP5, hzP20, hzP21, hzP22, hzP23, hzP40, hzP41, hzP42, hzP61, hzP62, hzP63, hzP64, hzP65, hzP66, hzP82, hzP101, hzP103, hzP104, hzP105, hzP106, hzP108, hzP109, hzP110, hzP120, hzP121, hzP122, hzP123, hzP140, hzP164, hzP180, hzP181, hzP182, hzP185, hzP186, hzP187, hzP201, hzP202, hzP220, hzP221, hzP224, hzP225, hzP226, hzP227, hzP228, hzP229, hzP230, hzP232, hzP234, hzP235, hzP236, hzV1, hzV2, hzV3, hzV9, hzO0, hzO1, hzO2, hzRA, hzRB, hzRI, hzRM103, hzRM104, hzRM108, hzLN, hzFL, hzW0, hzKC, hzWK⟩), (fun _ _ => rfl), (show cnt ≤ cnt from by omega), (show (∀ a, κ a ≠ 0 → (P 220) a = (P 220) a) from (fun _ _ => rfl)), (show (∀ a, κ a ≠ 0 → (P 229) a = (P 229) a) from (fun _ _ => rfl)), (show (∀ a, κ a ≠ 0 → (P 3) a = (P 3) a) from (fun _ _ => rfl)), (show (∀ a, κ a ≠ 0 → (G 141) a = (G 141) a) from (fun _ _ => rfl)), (show (∀ a, κ a ≠ 0 → (G 83) a = (G 83) a) from (fun _ _ => rfl)), (show (∀ a, κ a ≠ 0 → (P 82) a = (P 82) a) from (fun _ _ => rfl)), (show (∀ a, κ a ≠ 0 → (P 0) a = (P 0) a) from (fun _ _ => rfl)), (show (∀ a, κ a ≠ 0 → (G 160) a = (G 160) a) from (fun _ _ => rfl)), (show (∀ a, κ a ≠ 0 → ln a = ln a) from (fun _ _ => rfl)), (show (∀ bk fl, (P 229) this = some bk → (P 3) bk = some fl → (((0 : Nat) : Int) + 3 * s7 ((V 3) fl) ≤ 3 * s7 ((V 3) fl)) ∧ (((0 : Nat) : Int) + 2504 * s7 ((V 3) fl) ≤ 2504 * s7 ((V 3) fl))) from by intro bk fl hbk hfl; obtain rfl : u2 = bk := Option.some.inj (hn_u2.symm.trans hbk); obtain rfl : u3 = fl := Option.some.inj (hn_u3.symm.trans hfl); omega)⟩⟩
  intro j22 Jj22
  refine wp_oc (fun c7 => ?_) (fun b7 c7 => ?_)
  · skip
    exact Jj22
  · skip
    have hk_b7 := hk4 b7 c7
    have hr7 := hq2r b7 c7
    refine wp_ite (fun c11 => ?_) (fun c11 => ?_)
    · have c11 := (z_lt _ _).mp c11
      exact Jj22
    · have c11 := z_nlt c11
      have b6 := hzG102 b7
      refine wp_ite (fun c19 => ?_) (fun c19 => ?_)
      · have c19 := (z_lt _ _).mp c19
        refine wp_nne hn_u2 ?_
        have f7 : (p0 + 1).toInt = p0.toInt + 1 := z_addc (by decide +kernel) (by omega) (by omega)
        refine wp_nn ((hzP221 this).1 hk_this) (fun a33 hn_a33 => ?_)
        obtain ⟨hk_a33, hl1_a33, hl2_a33, hw_a33⟩ := (hzP221 this).2 a33 hn_a33
        have hz_a33 : (Int32.ofNat (ln a33)).toInt = ((ln a33 : Nat) : Int) := ofN_eq (by first | exact Nat.le_trans hl2_a33 (by decide) | omega)
        refine wp_nn ((hzP226 this).1 hk_this) (fun a37 hn_a37 => ?_)
        obtain ⟨hk_a37, hl1_a37, hl2_a37, hw_a37⟩ := (hzP226 this).2 a37 hn_a37
        obtain ⟨⟨⟨c40_G, c40_P, c40_U, c40_V, c40_X, c40_O, c40_kd, c40_ln, c40_cnt⟩, v1_40, v2_40⟩, hc40, hq40⟩ := ok_X0_fill κ wd G P U V X O kd ln cnt u2 (p0 + 1) a33 a37 ⟨hzG43, hzG44, hzG45, hzG60, hzG83, hzG84, hzG85, hzG87, hzG88, hzG102, hzG125, hzG126, hzG127, hzG141, hzG160, hzG161, hzG162, hzG165, hzG166, hzG183, hzG200, hzG203, hzG222, hzG231, hzG233, hzP0, hzP1, hzP2, hzP3, hzP4, hzP5, hzP20, hzP21, hzP22, hzP23, hzP40, hzP41, hzP42, hzP61, hzP62, hzP63, hzP64, hzP65, hzP66, hzP82, hzP101, hzP103, hzP104, hzP105, hzP106, hzP108, hzP109, hzP110, hzP120, hzP121, hzP122, hzP123, hzP140, hzP164, hzP180, hzP181, hzP182, hzP185, hzP186, hzP187, hzP201, hzP202, hzP220, hzP221, hzP224, hzP225, hzP226, hzP227, hzP228, hzP229, hzP230, hzP232, hzP234, hzP235, hzP236, hzV1, hzV2, hzV3, hzV9, hzO0, hzO1, hzO2, hzRA, hzRB, hzRI, hzRM103, hzRM104, hzRM108, hzLN, hzFL, hzW0, hzKC, hzWK⟩ hk_u2 hk_a33 hk_a37 (show ln a33 = 6 from by omega)
        obtain ⟨κ40_7, hCI40, hxx40, hcc9, hfr10, hfr11, hfr12, hfr13, hfr14, hfr15, hfr16, hfr17, hfr18, f19, f20⟩ : ∃ κ1 : Nat → Nat, (CInv κ1 wd c40_G c40_P c40_V c40_O c40_ln c40_cnt) ∧ (∀ a, κ a ≠ 0 → κ1 a = κ a) ∧ (cnt ≤ c40_cnt) ∧ ((∀ a, κ a ≠ 0 → (c40_P 220) a = (P 220) a)) ∧ ((∀ a, κ a ≠ 0 → (c40_P 229) a = (P 229) a)) ∧ ((∀ a, κ a ≠ 0 → (c40_P 3) a = (P 3) a)) ∧ ((∀ a, κ a ≠ 0 → (c40_G 141) a = (G 141) a)) ∧ ((∀ a, κ a ≠ 0 → (c40_G 83) a = (G 83) a)) ∧ ((∀ a, κ a ≠ 0 → (c40_P 82) a = (P 82) a)) ∧ ((∀ a, κ a ≠ 0 → (c40_P 0) a = (P 0) a)) ∧ ((∀ a, κ a ≠ 0 → (c40_G 160) a = (G 160) a)) ∧ ((∀ a, κ a ≠ 0 → c40_ln a = ln a)) ∧ ((c40_G 203) wd = (G 203) wd) ∧ ((∀ fl, (P 3) u2 = some fl → (((v1_40 : Nat) : Int) + 3 * s7 ((V 3) fl) ≤ 3 * s7 ((c40_V 3) fl)) ∧ (((v2_40 : Nat) : Int) + 2504 * s7 ((V 3) fl) ≤ 2504 * s7 ((c40_V 3) fl)))) := hq40
        obtain ⟨h40_G43, h40_G44, h40_G45, h40_G60, h40_G83, h40_G84, h40_G85, h40_G87, h40_G88, h40_G102, h40_G125, h40_G126, h40_G127, h40_G141, h40_G160, h40_G161, h40_G162, h40_G165, h40_G166, h40_G183, h40_G200, h40_G203, h40_G222, h40_G231, h40_G233, h40_P0, h40_P1, h40_P2, h40_P3, h40_P4, h40_P5, h40_P20, h40_P21, h40_P22, h40_P23, h40_P40, h40_P41, h40_P42, h40_P61, h40_P62, h40_P63, h40_P64, h40_P65, h40_P66, h40_P82, h40_P101, h40_P103, h40_P104, h40_P105, h40_P106, h40_P108, h40_P109, h40_P110, h40_P120, h40_P121, h40_P122, h40_P123, h40_P140, h40_P164, h40_P180, h40_P181, h40_P182, h40_P185, h40_P186, h40_P187, h40_P201, h40_P202, h40_P220, h40_P221, h40_P224, h40_P225, h40_P226, h40_P227, h40_P228, h40_P229, h40_P230, h40_P232, h40_P234, h40_P235, h40_P236, h40_V1, h40_V2, h40_V3, h40_V9, h40_O0, h40_O1, h40_O2, h40_RA, h40_RB, h40_RI, h40_RM103, h40_RM104, h40_RM108, h40_LN, h40_FL, h40_W0, h40_KC, h40_WK⟩ := hCI40
        clear hzG43 hzG44 hzG45 hzG60 hzG83 hzG84 hzG85 hzG87 hzG88 hzG102 hzG125 hzG126 hzG127 hzG141 hzG160 hzG161 hzG162 hzG165 hzG166 hzG183 hzG200 hzG203 hzG222 hzG231 hzG233 hzP0 hzP1 hzP2 hzP3 hzP4 hzP5 hzP20 hzP21 hzP22 hzP23 hzP40 hzP41 hzP42 hzP61 hzP62 hzP63 hzP64 hzP65 hzP66 hzP82 hzP101 hzP103 hzP104 hzP105 hzP106 hzP108 hzP109 hzP110 hzP120 hzP121 hzP122 hzP123 hzP140 hzP164 hzP180 hzP181 hzP182 hzP185 hzP186 hzP187 hzP201 hzP202 hzP220 hzP221 hzP224 hzP225 hzP226 hzP227 hzP228 hzP229 hzP230 hzP232 hzP234 hzP235 hzP236 hzV1 hzV2 hzV3 hzV9 hzO0 hzO1 hzO2 hzRA hzRB hzRI hzRM103 hzRM104 hzRM108 hzLN hzFL hzW0 hzKC hzWK
        have kx21 : ∀ a, κ a ≠ 0 → κ40_7 a = κ a := hxx40
        have hk22 : κ40_7 this = 12 := kxk hxx40 hk_this (by decide)
        have hk23 : κ40_7 b7 = 6 := kxk hxx40 hk_b7 (by decide)
        have hF24 : (∀ a, κ a ≠ 0 → (c40_P 220) a = (P 220) a) := fun a ha => (hfr10 a (ha)).trans (rfl)
        have hF25 : (∀ a, κ a ≠ 0 → (c40_P 229) a = (P 229) a) := fun a ha => (hfr11 a (ha)).trans (rfl)
        have hF26 : (∀ a, κ a ≠ 0 → (c40_P 3) a = (P 3) a) := fun a ha => (hfr12 a (ha)).trans (rfl)
        have hF27 : (∀ a, κ a ≠ 0 → (c40_G 141) a = (G 141) a) := fun a ha => (hfr13 a (ha)).trans (rfl)
        have hF28 : (∀ a, κ a ≠ 0 → (c40_G 83) a = (G 83) a) := fun a ha => (hfr14 a (ha)).trans (rfl)
        have hF29 : (∀ a, κ a ≠ 0 → (c40_P 82) a = (P 82) a) := fun a ha => (hfr15 a (ha)).trans (rfl)
        have hF30 : (∀ a, κ a ≠ 0 → (c40_P 0) a = (P 0) a) := fun a ha => (hfr16 a (ha)).trans (rfl)
        have hF31 : (∀ a, κ a ≠ 0 → (c40_G 160) a = (G 160) a) := fun a ha => (hfr17 a (ha)).trans (rfl)
        have hF32 : (∀ a, κ a ≠ 0 → c40_ln a = ln a) := fun a ha => (hfr18 a (ha)).trans (rfl)
        refine wp_bA9 hc40 ?_
        have hpot := f20 _ hn_u3
        have hT : ((c40_G 141) u1).toInt = ((G 141) u1).toInt := congrArg Int32.toInt (hfr13 u1 (by rw [hk_u1]; decide))
        have lp49 : ∀ (n49 : Nat) (y49_4 : Int32) (y49_5 : Int32), (100 - y49_5.toInt).toNat < n49 → (0 ≤ y49_5.toInt ∧ y49_5.toInt ≤ 100) → (0 ≤ y49_4.toInt ∧ y49_4.toInt ≤ y49_5.toInt) → wp (L_X11_uses_49 this p0 p1 c40_G c40_P c40_U c40_V c40_X c40_O c40_kd c40_ln c40_cnt n49 y49_4 y49_5) (sh (QC_X11_uses κ wd G P U V X O kd ln cnt this p0 p1) (0 + v1_40) (0 + v2_40)) := by
          intro n49
          induction n49 with
          | zero => intro y49_4 y49_5 hm; exact absurd hm (Nat.not_lt_zero _)
          | succ n49 ih49 =>
            intro y49_4 y49_5 hm49 f33 f34
            show wp (B_X11_uses_49 this p0 p1 c40_G c40_P c40_U c40_V c40_X c40_O c40_kd c40_ln c40_cnt (L_X11_uses_49 this p0 p1 c40_G c40_P c40_U c40_V c40_X c40_O c40_kd c40_ln c40_cnt n49) y49_4 y49_5) _
            unfold B_X11_uses_49
            refine wp_nn ((h40_P229 this).1 hk22) (fun a52 hn_a52 => ?_)
            obtain ⟨hk_a52, hl1_a52, hl2_a52, hw_a52⟩ := (h40_P229 this).2 a52 hn_a52
            refine wp_nn ((h40_P0 a52).1 hk_a52) (fun a55 hn_a55 => ?_)
            obtain rfl : wd = a55 := (h40_W0 _ _ hn_a55).symm
            obtain ⟨hk_wd, hl1_wd, hl2_wd, hw_wd⟩ := (h40_P0 a52).2 wd hn_a55
            have b35 := h40_G203 wd
            refine wp_ite (fun c61 => ?_) (fun c61 => ?_)
            · have c61 := (z_le _ _).mp c61
              exact ⟨_, rfl, ⟨κ40_7, (show CInv κ40_7 wd c40_G c40_P c40_V c40_O c40_ln c40_cnt from ⟨h40_G43, h40_G44, h40_G45, h40_G60, h40_G83, h40_G84, h40_G85, h40_G87, h40_G88, h40_G102, h40_G125, h40_G126, h40_G127, h40_G141, h40_G160, h40_G161, h40_G162, h40_G165, h40_G166, h40_G183, h40_G200, h40_G203, h40_G222, h40_G231, h40_G233, h40_P0, h40_P1, h40_P2, h40_P3, h40_P4, h40_P5, h40_P20, h40_P21, h40_P22, h40_P23, h40_P40, h40_P41, h40_P42, h40_P61, h40_P62, h40_P63, h40_P64, h40_P65, h40_P66, h40_P82, h40_P101, h40_P103, h40_P104, h40_P105, h40_P106, h40_P108, h40_P109, h40_P110, h40_P120, h40_P121, h40_P122, h40_P123, h40_P140, h40_P164, h40_P180, h40_P181, h40_P182, h40_P185, h40_P186, h40_P187, h40_P201, h40_P202, h40_P220, h40_P221, h40_P224, h40_P225, h40_P226, h40_P227, h40_P228, h40_P229, h40_P230, h40_P232, h40_P234, h40_P235, h40_P236, h40_V1, h40_V2, h40_V3, h40_V9, h40_O0, h40_O1, h40_O2, h40_RA, h40_RB, h40_RI, h40_RM103, h40_RM104, h40_RM108, h40_LN, h40_FL, h40_W0, h40_KC, h40_WK⟩), kx21, (show cnt ≤ c40_cnt from by omega), (show (∀ a, κ a ≠ 0 → (c40_P 220) a = (P 220) a) from hF24), (show (∀ a, κ a ≠ 0 → (c40_P 229) a = (P 229) a) from hF25), (show (∀ a, κ a ≠ 0 → (c40_P 3) a = (P 3) a) from hF26), (show (∀ a, κ a ≠ 0 → (c40_G 141) a = (G 141) a) from hF27), (show (∀ a, κ a ≠ 0 → (c40_G 83) a = (G 83) a) from hF28), (show (∀ a, κ a ≠ 0 → (c40_P 82) a = (P 82) a) from hF29), (show (∀ a, κ a ≠ 0 → (c40_P 0) a = (P 0) a) from hF30), (show (∀ a, κ a ≠ 0 → (c40_G 160) a = (G 160) a) from hF31), (show (∀ a, κ a ≠ 0 → c40_ln a = ln a) from hF32), (show (∀ bk fl, (P 229) this = some bk → (P 3) bk = some fl → ((((0 + v1_40) : Nat) : Int) + 3 * s7 ((V 3) fl) ≤ 3 * s7 ((c40_V 3) fl)) ∧ ((((0 + v2_40) : Nat) : Int) + 2504 * s7 ((V 3) fl) ≤ 2504 * s7 ((c40_V 3) fl))) from by intro bk fl hbk hfl; obtain rfl : u2 = bk := Option.some.inj (hn_u2.symm.trans hbk); obtain rfl : u3 = fl := Option.some.inj (hn_u3.symm.trans hfl); omega)⟩⟩
            · have c61 := z_nle c61
              refine wp_nne hn_a52 ?_
              obtain ⟨r72, hc72, hq72⟩ := ok_X0_usesLaw κ40_7 wd c40_G c40_P c40_U c40_V c40_X c40_O c40_kd c40_ln c40_cnt a52 p0 y49_5 p1 h40_P2 h40_LN hk_a52 (show (0 ≤ p0.toInt ∧ p0.toInt ≤ 5) from by omega) (show (0 ≤ y49_5.toInt ∧ y49_5.toInt < 100) from by omega)
              have f36 : (0 ≤ r72.toInt ∧ r72.toInt ≤ 1) := hq72
              refine wp_b1 hc72 ?_
              clear hc72
              refine wp_jn (fun j81 => ∀ (x81_4 : Int32), (0 ≤ x81_4.toInt ∧ x81_4.toInt ≤ y49_5.toInt + 1) → wp (j81 x81_4) (sh (QC_X11_uses κ wd G P U V X O kd ln cnt this p0 p1) (0 + v1_40) (0 + v2_40))) ?_ ?_
              · intro x81_4 f37
                show wp _ _
                have f38 : (y49_5 + 1).toInt = y49_5.toInt + (1) := z_addc (by decide +kernel) (by omega) (by omega)
                exact ih49 x81_4 (y49_5 + 1) (show (100 - (y49_5 + 1).toInt).toNat < n49 from by omega) (show (0 ≤ (y49_5 + 1).toInt ∧ (y49_5 + 1).toInt ≤ 100) from by omega) (show (0 ≤ x81_4.toInt ∧ x81_4.toInt ≤ (y49_5 + 1).toInt) from by omega)
              intro j81 Jj81
              refine wp_ite (fun c75 => ?_) (fun c75 => ?_)
              · have c75 := congrArg Int32.toInt c75
                exact Jj81 y49_4 (show (0 ≤ y49_4.toInt ∧ y49_4.toInt ≤ y49_5.toInt + 1) from by omega)
              · have c75 := z_ne c75
                have f39 : (y49_4 + 1).toInt = y49_4.toInt + (1) := z_addc (by decide +kernel) (by omega) (by omega)
                exact Jj81 (y49_4 + 1) (show (0 ≤ (y49_4 + 1).toInt ∧ (y49_4 + 1).toInt ≤ y49_5.toInt + 1) from by omega)
        exact lp49 NN (0 : Int32) (0 : Int32) (by have := NN_eq; omega) (show (0 ≤ (0 : Int32).toInt ∧ (0 : Int32).toInt ≤ 100) from by omega) (show (0 ≤ (0 : Int32).toInt ∧ (0 : Int32).toInt ≤ (0 : Int32).toInt) from by omega)
      · have c19 := z_nlt c19
        exact Jj22
abbrev QC_X11_mixed (κ : Nat → Nat) (wd : Nat) (G : Nat → Nat → Int32) (P : Nat → Nat → Option Nat) (U : Nat → Nat → Int64) (V : Nat → Nat → Nat → Int32) (X : Nat → Nat → Nat → Int64) (O : Nat → Nat → Nat → Option Nat) (kd : Nat → Nat) (ln : Nat → Nat) (cnt : Nat) (this : Nat) (p0 : Int32) : ((Int32 × (Nat → Nat → Int32) × (Nat → Nat → Option Nat) × (Nat → Nat → Int64) × (Nat → Nat → Nat → Int32) × (Nat → Nat → Nat → Int64) × (Nat → Nat → Nat → Option Nat) × (Nat → Nat) × (Nat → Nat) × Nat) × Nat × Nat) → Prop := (fun t => ∃ κ1 : Nat → Nat, (CInv κ1 wd (t.1.2.1) (t.1.2.2.1) (t.1.2.2.2.2.1) (t.1.2.2.2.2.2.2.1) (t.1.2.2.2.2.2.2.2.2.1) (t.1.2.2.2.2.2.2.2.2.2)) ∧ (∀ a, κ a ≠ 0 → κ1 a = κ a) ∧ (cnt ≤ (t.1.2.2.2.2.2.2.2.2.2)) ∧ ((∀ a, κ a ≠ 0 → ((t.1.2.2.1) 220) a = (P 220) a)) ∧ ((∀ a, κ a ≠ 0 → ((t.1.2.2.1) 229) a = (P 229) a)) ∧ ((∀ a, κ a ≠ 0 → ((t.1.2.2.1) 3) a = (P 3) a)) ∧ ((∀ a, κ a ≠ 0 → ((t.1.2.1) 83) a = (G 83) a)) ∧ ((∀ a, κ a ≠ 0 → ((t.1.2.2.1) 82) a = (P 82) a)) ∧ ((∀ a, κ a ≠ 0 → ((t.1.2.2.1) 0) a = (P 0) a)) ∧ ((∀ a, κ a ≠ 0 → (t.1.2.2.2.2.2.2.2.2.1) a = ln a)) ∧ ((∀ bk fl, (P 229) this = some bk → (P 3) bk = some fl → ((((t.2.1) : Nat) : Int) + 3 * s7 ((V 3) fl) ≤ 3 * s7 (((t.1.2.2.2.2.1) 3) fl)) ∧ ((((t.2.2) : Nat) : Int) + 2504 * s7 ((V 3) fl) ≤ 2504 * s7 (((t.1.2.2.2.2.1) 3) fl)))) ∧ ((∀ tp, (P 220) this = some tp → (((t.1.2.1) 141) tp).toInt = 0)))
set_option maxHeartbeats 4000000 in
set_option maxRecDepth 100000 in
theorem ok_X11_mixed (κ : Nat → Nat) (wd : Nat) (G : Nat → Nat → Int32) (P : Nat → Nat → Option Nat) (U : Nat → Nat → Int64) (V : Nat → Nat → Nat → Int32) (X : Nat → Nat → Nat → Int64) (O : Nat → Nat → Nat → Option Nat) (kd : Nat → Nat) (ln : Nat → Nat) (cnt : Nat) (this : Nat) (p0 : Int32) (hI : CInv κ wd G P V O ln cnt) (hk_this : κ this = 12) : wp (f_X11_mixed G P U V X O kd ln cnt this p0) (QC_X11_mixed κ wd G P U V X O kd ln cnt this p0) := by
  unfold f_X11_mixed
  obtain ⟨hzG43, hzG44, hzG45, hzG60, hzG83, hzG84, hzG85, hzG87, hzG88, hzG102, hzG125, hzG126, hzG127, hzG141, hzG160, hzG161, hzG162, hzG165, hzG166, hzG183, hzG200, hzG203, hzG222, hzG231, hzG233, hzP0, hzP1, hzP2, hzP3, hzP4, hzP5, hzP20, hzP21, hzP22, hzP23, hzP40, hzP41, hzP42, hzP61, hzP62, hzP63, hzP64, hzP65, hzP66, hzP82, hzP101, hzP103, hzP104, hzP105, hzP106, hzP108, hzP109, hzP110, hzP120, hzP121, hzP122, hzP123, hzP140, hzP164, hzP180, hzP181, hzP182, hzP185, hzP186, hzP187, hzP201, hzP202, hzP220, hzP221, hzP224, hzP225, hzP226, hzP227, hzP228, hzP229, hzP230, hzP232, hzP234, hzP235, hzP236, hzV1, hzV2, hzV3, hzV9, hzO0, hzO1, hzO2, hzRA, hzRB, hzRI, hzRM103, hzRM104, hzRM108, hzLN, hzFL, hzW0, hzKC, hzWK⟩ := hI
  refine wp_sh0 ?_
  have zkm2 : (-2 : Int32).toInt = -2 := by decide +kernel
  have zkm1 : (-1 : Int32).toInt = -1 := by decide +kernel
  have zk0 : (0 : Int32).toInt = 0 := by decide +kernel
  have zk1 : (1 : Int32).toInt = 1 := by decide +kernel
  have zk40 : (40 : Int32).toInt = 40 := by decide +kernel
  have zk50 : (50 : Int32).toInt = 50 := by decide +kernel
  have r_p0 := i32r p0
  obtain ⟨u1, hn_u1⟩ := PBs (hzP220 this) hk_this
  obtain ⟨hk_u1, hl1_u1, hl2_u1, hw_u1⟩ := (hzP220 this).2 u1 hn_u1
  obtain ⟨u2, hn_u2⟩ := PBs (hzP229 this) hk_this
  obtain ⟨hk_u2, hl1_u2, hl2_u2, hw_u2⟩ := (hzP229 this).2 u2 hn_u2
  obtain ⟨u3, hn_u3⟩ := PBs (hzP3 u2) hk_u2
  obtain ⟨hk_u3, hl1_u3, hl2_u3, hw_u3⟩ := (hzP3 u2).2 u3 hn_u3
  have hz_u3 : (Int32.ofNat (ln u3)).toInt = ((ln u3 : Nat) : Int) := ofN_eq (by first | exact Nat.le_trans hl2_u3 (by decide) | omega)
  have hb222 := hzG222 this
  refine wp_nne hn_u1 ?_
  obtain ⟨⟨r4, c4_G141⟩, hc4, hq4⟩ := ok_X7_take κ wd G P U V X O kd ln cnt u1 hzG141 hzLN hk_u1
  obtain ⟨hg4, f5, f6, f7⟩ : (rng (0) 2000 c4_G141) ∧ (r4.toInt = ((G 141) u1).toInt) ∧ ((c4_G141 u1).toInt = 0) ∧ ((0 ≤ r4.toInt ∧ r4.toInt ≤ 2000)) := hq4
  refine wp_b2 hc4 ?_
  clear hc4
  refine wp_jn (fun j18 => wp (j18 ()) (sh (QC_X11_mixed κ wd G P U V X O kd ln cnt this p0) 0 0)) ?_ ?_
  · show wp _ _
    exact ⟨_, rfl, ⟨κ, (show CInv κ wd (va_up G 141 c4_G141) P V O ln cnt from ⟨hzG43, hzG44, hzG45, hzG60, hzG83, hzG84, hzG85, hzG87, hzG88, hzG102, hzG125, hzG126, hzG127, hg4, hzG160, hzG161, hzG162, hzG165, hzG166, hzG183, hzG200, hzG203, hzG222, hzG231, hzG233, hzP0, hzP1, hzP2, hzP3, hzP4, hzP5, hzP20, hzP21, hzP22, hzP23, hzP40, hzP41, hzP42, hzP61, hzP62, hzP63, hzP64, hzP65, hzP66, hzP82, hzP101, hzP103, hzP104, hzP105, hzP106, hzP108, hzP109, hzP110, hzP120, hzP121, hzP122, hzP123, hzP140, hzP164, hzP180, hzP181, hzP182, hzP185, hzP186, hzP187, hzP201, hzP202, hzP220, hzP221, hzP224, hzP225, hzP226, hzP227, hzP228, hzP229, hzP230, hzP232, hzP234, hzP235, hzP236, hzV1, hzV2, hzV3, hzV9, hzO0, hzO1, hzO2, hzRA, hzRB, hzRI, hzRM103, hzRM104, hzRM108, hzLN, hzFL, hzW0, hzKC, hzWK⟩), (fun _ _ => rfl), (show cnt ≤ cnt from by omega), (show (∀ a, κ a ≠ 0 → (P 220) a = (P 220) a) from (fun _ _ => rfl)), (show (∀ a, κ a ≠ 0 → (P 229) a = (P 229) a) from (fun _ _ => rfl)), (show (∀ a, κ a ≠ 0 → (P 3) a = (P 3) a) from (fun _ _ => rfl)), (show (∀ a, κ a ≠ 0 → (G 83) a = (G 83) a) from (fun _ _ => rfl)), (show (∀ a, κ a ≠ 0 → (P 82) a = (P 82) a) from (fun _ _ => rfl)), (show (∀ a, κ a ≠ 0 → (P 0) a = (P 0) a) from (fun _ _ => rfl)), (show (∀ a, κ a ≠ 0 → ln a = ln a) from (fun _ _ => rfl)), (show (∀ bk fl, (P 229) this = some bk → (P 3) bk = some fl → (((0 : Nat) : Int) + 3 * s7 ((V 3) fl) ≤ 3 * s7 ((V 3) fl)) ∧ (((0 : Nat) : Int) + 2504 * s7 ((V 3) fl) ≤ 2504 * s7 ((V 3) fl))) from by intro bk fl hbk hfl; obtain rfl : u2 = bk := Option.some.inj (hn_u2.symm.trans hbk); obtain rfl : u3 = fl := Option.some.inj (hn_u3.symm.trans hfl); omega), (show (∀ tp, (P 220) this = some tp → (c4_G141 tp).toInt = 0) from by intro tp htp; obtain rfl : u1 = tp := Option.some.inj (hn_u1.symm.trans htp); omega)⟩⟩
  intro j18 Jj18
  refine wp_ite (fun c9 => ?_) (fun c9 => ?_)
  · have c9 := (z_lt _ _).mp c9
    exact Jj18
  · have c9 := z_nlt c9
    refine wp_ite (fun c15 => ?_) (fun c15 => ?_)
    · have c15 := (z_le _ _).mp c15
      refine wp_nne hn_u1 ?_
      obtain ⟨r26, hc26, hq26⟩ := ok_X7_lines κ wd (va_up G 141 c4_G141) P U V X O kd ln cnt u1 r4 hzP140 hzLN hk_u1
      have f8 : (1 ≤ r26.toInt ∧ r26.toInt ≤ 2001) := hq26
      refine wp_b1 hc26 ?_
      clear hc26
      refine wp_nne hn_u1 ?_
      obtain ⟨r35, hc35, hq35⟩ := ok_X7_hasZero κ wd (va_up G 141 c4_G141) P U V X O kd ln cnt u1 r4 hzP140 hzLN hk_u1
      have f9 : (0 ≤ r35.toInt ∧ r35.toInt ≤ 1) := hq35
      refine wp_b1 hc35 ?_
      clear hc35
      refine wp_jn (fun j47 => wp (j47 ()) (sh (QC_X11_mixed κ wd G P U V X O kd ln cnt this p0) 0 0)) ?_ ?_
      · show wp _ _
        exact ⟨_, rfl, ⟨κ, (show CInv κ wd (va_up G 141 c4_G141) P V O ln cnt from ⟨hzG43, hzG44, hzG45, hzG60, hzG83, hzG84, hzG85, hzG87, hzG88, hzG102, hzG125, hzG126, hzG127, hg4, hzG160, hzG161, hzG162, hzG165, hzG166, hzG183, hzG200, hzG203, hzG222, hzG231, hzG233, hzP0, hzP1, hzP2, hzP3, hzP4, hzP5, hzP20, hzP21, hzP22, hzP23, hzP40, hzP41, hzP42, hzP61, hzP62, hzP63, hzP64, hzP65, hzP66, hzP82, hzP101, hzP103, hzP104, hzP105, hzP106, hzP108, hzP109, hzP110, hzP120, hzP121, hzP122, hzP123, hzP140, hzP164, hzP180, hzP181, hzP182, hzP185, hzP186, hzP187, hzP201, hzP202, hzP220, hzP221, hzP224, hzP225, hzP226, hzP227, hzP228, hzP229, hzP230, hzP232, hzP234, hzP235, hzP236, hzV1, hzV2, hzV3, hzV9, hzO0, hzO1, hzO2, hzRA, hzRB, hzRI, hzRM103, hzRM104, hzRM108, hzLN, hzFL, hzW0, hzKC, hzWK⟩), (fun _ _ => rfl), (show cnt ≤ cnt from by omega), (show (∀ a, κ a ≠ 0 → (P 220) a = (P 220) a) from (fun _ _ => rfl)), (show (∀ a, κ a ≠ 0 → (P 229) a = (P 229) a) from (fun _ _ => rfl)), (show (∀ a, κ a ≠ 0 → (P 3) a = (P 3) a) from (fun _ _ => rfl)), (show (∀ a, κ a ≠ 0 → (G 83) a = (G 83) a) from (fun _ _ => rfl)), (show (∀ a, κ a ≠ 0 → (P 82) a = (P 82) a) from (fun _ _ => rfl)), (show (∀ a, κ a ≠ 0 → (P 0) a = (P 0) a) from (fun _ _ => rfl)), (show (∀ a, κ a ≠ 0 → ln a = ln a) from (fun _ _ => rfl)), (show (∀ bk fl, (P 229) this = some bk → (P 3) bk = some fl → (((0 : Nat) : Int) + 3 * s7 ((V 3) fl) ≤ 3 * s7 ((V 3) fl)) ∧ (((0 : Nat) : Int) + 2504 * s7 ((V 3) fl) ≤ 2504 * s7 ((V 3) fl))) from by intro bk fl hbk hfl; obtain rfl : u2 = bk := Option.some.inj (hn_u2.symm.trans hbk); obtain rfl : u3 = fl := Option.some.inj (hn_u3.symm.trans hfl); omega), (show (∀ tp, (P 220) this = some tp → (c4_G141 tp).toInt = 0) from by intro tp htp; obtain rfl : u1 = tp := Option.some.inj (hn_u1.symm.trans htp); omega)⟩⟩
      intro j47 Jj47
      refine wp_ite (fun c38 => ?_) (fun c38 => ?_)
      · have c38 := congrArg Int32.toInt c38
        refine wp_ite (fun c44 => ?_) (fun c44 => ?_)
        · have c44 := (z_le _ _).mp c44
          refine wp_nne hn_u2 ?_
          have b10 := hzG222 this
          refine wp_nn ((hzP221 this).1 hk_this) (fun a58 hn_a58 => ?_)
          obtain ⟨hk_a58, hl1_a58, hl2_a58, hw_a58⟩ := (hzP221 this).2 a58 hn_a58
          have hz_a58 : (Int32.ofNat (ln a58)).toInt = ((ln a58 : Nat) : Int) := ofN_eq (by first | exact Nat.le_trans hl2_a58 (by decide) | omega)
          refine wp_nn ((hzP226 this).1 hk_this) (fun a62 hn_a62 => ?_)
          obtain ⟨hk_a62, hl1_a62, hl2_a62, hw_a62⟩ := (hzP226 this).2 a62 hn_a62
          obtain ⟨⟨⟨c65_G, c65_P, c65_U, c65_V, c65_X, c65_O, c65_kd, c65_ln, c65_cnt⟩, v1_65, v2_65⟩, hc65, hq65⟩ := ok_X0_fill κ wd (va_up G 141 c4_G141) P U V X O kd ln cnt u2 ((G 222) this) a58 a62 ⟨hzG43, hzG44, hzG45, hzG60, hzG83, hzG84, hzG85, hzG87, hzG88, hzG102, hzG125, hzG126, hzG127, hg4, hzG160, hzG161, hzG162, hzG165, hzG166, hzG183, hzG200, hzG203, hzG222, hzG231, hzG233, hzP0, hzP1, hzP2, hzP3, hzP4, hzP5, hzP20, hzP21, hzP22, hzP23, hzP40, hzP41, hzP42, hzP61, hzP62, hzP63, hzP64, hzP65, hzP66, hzP82, hzP101, hzP103, hzP104, hzP105, hzP106, hzP108, hzP109, hzP110, hzP120, hzP121, hzP122, hzP123, hzP140, hzP164, hzP180, hzP181, hzP182, hzP185, hzP186, hzP187, hzP201, hzP202, hzP220, hzP221, hzP224, hzP225, hzP226, hzP227, hzP228, hzP229, hzP230, hzP232, hzP234, hzP235, hzP236, hzV1, hzV2, hzV3, hzV9, hzO0, hzO1, hzO2, hzRA, hzRB, hzRI, hzRM103, hzRM104, hzRM108, hzLN, hzFL, hzW0, hzKC, hzWK⟩ hk_u2 hk_a58 hk_a62 (show ln a58 = 6 from by omega)
          obtain ⟨κ65_10, hCI65, hxx65, hcc12, hfr13, hfr14, hfr15, hfr16, hfr17, hfr18, hfr19, hfr20, hfr21, f22, f23⟩ : ∃ κ1 : Nat → Nat, (CInv κ1 wd c65_G c65_P c65_V c65_O c65_ln c65_cnt) ∧ (∀ a, κ a ≠ 0 → κ1 a = κ a) ∧ (cnt ≤ c65_cnt) ∧ ((∀ a, κ a ≠ 0 → (c65_P 220) a = (P 220) a)) ∧ ((∀ a, κ a ≠ 0 → (c65_P 229) a = (P 229) a)) ∧ ((∀ a, κ a ≠ 0 → (c65_P 3) a = (P 3) a)) ∧ ((∀ a, κ a ≠ 0 → (c65_G 141) a = c4_G141 a)) ∧ ((∀ a, κ a ≠ 0 → (c65_G 83) a = (G 83) a)) ∧ ((∀ a, κ a ≠ 0 → (c65_P 82) a = (P 82) a)) ∧ ((∀ a, κ a ≠ 0 → (c65_P 0) a = (P 0) a)) ∧ ((∀ a, κ a ≠ 0 → (c65_G 160) a = (G 160) a)) ∧ ((∀ a, κ a ≠ 0 → c65_ln a = ln a)) ∧ ((c65_G 203) wd = (G 203) wd) ∧ ((∀ fl, (P 3) u2 = some fl → (((v1_65 : Nat) : Int) + 3 * s7 ((V 3) fl) ≤ 3 * s7 ((c65_V 3) fl)) ∧ (((v2_65 : Nat) : Int) + 2504 * s7 ((V 3) fl) ≤ 2504 * s7 ((c65_V 3) fl)))) := hq65
          obtain ⟨h65_G43, h65_G44, h65_G45, h65_G60, h65_G83, h65_G84, h65_G85, h65_G87, h65_G88, h65_G102, h65_G125, h65_G126, h65_G127, h65_G141, h65_G160, h65_G161, h65_G162, h65_G165, h65_G166, h65_G183, h65_G200, h65_G203, h65_G222, h65_G231, h65_G233, h65_P0, h65_P1, h65_P2, h65_P3, h65_P4, h65_P5, h65_P20, h65_P21, h65_P22, h65_P23, h65_P40, h65_P41, h65_P42, h65_P61, h65_P62, h65_P63, h65_P64, h65_P65, h65_P66, h65_P82, h65_P101, h65_P103, h65_P104, h65_P105, h65_P106, h65_P108, h65_P109, h65_P110, h65_P120, h65_P121, h65_P122, h65_P123, h65_P140, h65_P164, h65_P180, h65_P181, h65_P182, h65_P185, h65_P186, h65_P187, h65_P201, h65_P202, h65_P220, h65_P221, h65_P224, h65_P225, h65_P226, h65_P227, h65_P228, h65_P229, h65_P230, h65_P232, h65_P234, h65_P235, h65_P236, h65_V1, h65_V2, h65_V3, h65_V9, h65_O0, h65_O1, h65_O2, h65_RA, h65_RB, h65_RI, h65_RM103, h65_RM104, h65_RM108, h65_LN, h65_FL, h65_W0, h65_KC, h65_WK⟩ := hCI65
          clear hfr20 hq35 hq26 hg4 hzG43 hzG44 hzG45 hzG60 hzG83 hzG84 hzG85 hzG87 hzG88 hzG102 hzG125 hzG126 hzG127 hzG141 hzG160 hzG161 hzG162 hzG165 hzG166 hzG183 hzG200 hzG203 hzG222 hzG231 hzG233 hzP0 hzP1 hzP2 hzP3 hzP4 hzP5 hzP20 hzP21 hzP22 hzP23 hzP40 hzP41 hzP42 hzP61 hzP62 hzP63 hzP64 hzP65 hzP66 hzP82 hzP101 hzP103 hzP104 hzP105 hzP106 hzP108 hzP109 hzP110 hzP120 hzP121 hzP122 hzP123 hzP140 hzP164 hzP180 hzP181 hzP182 hzP185 hzP186 hzP187 hzP201 hzP202 hzP220 hzP221 hzP224 hzP225 hzP226 hzP227 hzP228 hzP229 hzP230 hzP232 hzP234 hzP235 hzP236 hzV1 hzV2 hzV3 hzV9 hzO0 hzO1 hzO2 hzRA hzRB hzRI hzRM103 hzRM104 hzRM108 hzLN hzFL hzW0 hzKC hzWK
          have kx24 : ∀ a, κ a ≠ 0 → κ65_10 a = κ a := hxx65
          have hk25 : κ65_10 this = 12 := kxk hxx65 hk_this (by decide)
          have hF26 : (∀ a, κ a ≠ 0 → (c65_P 220) a = (P 220) a) := fun a ha => (hfr13 a (ha)).trans (rfl)
          have hF27 : (∀ a, κ a ≠ 0 → (c65_P 229) a = (P 229) a) := fun a ha => (hfr14 a (ha)).trans (rfl)
          have hF28 : (∀ a, κ a ≠ 0 → (c65_P 3) a = (P 3) a) := fun a ha => (hfr15 a (ha)).trans (rfl)
          have hF29 : (∀ a, κ a ≠ 0 → (c65_G 83) a = (G 83) a) := fun a ha => (hfr17 a (ha)).trans (rfl)
          have hF30 : (∀ a, κ a ≠ 0 → (c65_P 82) a = (P 82) a) := fun a ha => (hfr18 a (ha)).trans (rfl)
          have hF31 : (∀ a, κ a ≠ 0 → (c65_P 0) a = (P 0) a) := fun a ha => (hfr19 a (ha)).trans (rfl)
          have hF32 : (∀ a, κ a ≠ 0 → c65_ln a = ln a) := fun a ha => (hfr21 a (ha)).trans (rfl)
          refine wp_bA9 hc65 ?_
          have hpot := f23 _ hn_u3
          have hT : ((c65_G 141) u1).toInt = (c4_G141 u1).toInt := congrArg Int32.toInt (hfr16 u1 (by rw [hk_u1]; decide))
          refine wp_nn ((h65_P236 this).1 hk25) (fun a69 hn_a69 => ?_)
          obtain ⟨hk_a69, hl1_a69, hl2_a69, hw_a69⟩ := (h65_P236 this).2 a69 hn_a69
          have b33 := h65_G222 this
          have f34 : (((c65_G 222) this) + 1).toInt = ((c65_G 222) this).toInt + 1 := z_addc (by decide +kernel) (by omega) (by omega)
          obtain ⟨⟨c79_G44, c79_G45, c79_V7⟩, hc79, hq79⟩ := ok_X2_begin κ65_10 wd c65_G c65_P c65_U c65_V c65_X c65_O c65_kd c65_ln c65_cnt a69 r26 (((c65_G 222) this) + 1) h65_G44 h65_G45 h65_P40 h65_LN hk_a69 (show (0 ≤ r26.toInt ∧ r26.toInt ≤ 3000) from by omega) (show (0 ≤ (((c65_G 222) this) + 1).toInt ∧ (((c65_G 222) this) + 1).toInt ≤ 100) from by omega)
          obtain ⟨hg35, hg36⟩ : (rng (0) 40 c79_G44) ∧ (rng (0) 7 c79_G45) := hq79
          refine wp_b3 hc79 ?_
          clear hc79
          refine wp_nn ((h65_P234 this).1 hk25) (fun a83 hn_a83 => ?_)
          obtain ⟨hk_a83, hl1_a83, hl2_a83, hw_a83⟩ := (h65_P234 this).2 a83 hn_a83
          refine wp_nn ((h65_P220 this).1 hk25) (fun a87 hn_a87 => ?_)
          obtain ⟨hk_a87, hl1_a87, hl2_a87, hw_a87⟩ := (h65_P220 this).2 a87 hn_a87
          refine wp_nn ((h65_P140 a87).1 hk_a87) (fun a90 hn_a90 => ?_)
          obtain ⟨hk_a90, hl1_a90, hl2_a90, hw_a90⟩ := (h65_P140 a87).2 a90 hn_a90
          have hz_a90 : (Int32.ofNat (c65_ln a90)).toInt = ((c65_ln a90 : Nat) : Int) := ofN_eq (by first | exact Nat.le_trans hl2_a90 (by decide) | omega)
          obtain ⟨⟨c94_G162, c94_G165, c94_G166, c94_G167, c94_P164⟩, hc94, hq94⟩ := ok_X8_begin κ65_10 wd (va_up (va_up c65_G 44 c79_G44) 45 c79_G45) c65_P c65_U (va_up c65_V 7 c79_V7) c65_X c65_O c65_kd c65_ln c65_cnt a83 a90 r4 h65_G162 h65_G165 h65_G166 h65_P164 h65_LN hk_a83 hk_a90 (show 0 ≤ r4.toInt from by omega) (show ((c65_ln a90 : Nat) : Int) ≤ 2000 from by omega)
          obtain ⟨hg37, hg38, hg39, hg40, f41, f42, f43, f44, f45⟩ : (rng (0) 2000 c94_G162) ∧ (rng (0) 2000 c94_G165) ∧ (rng (0) 2000 c94_G166) ∧ (PB κ65_10 c65_ln wd 9 100 0 2000 0 c94_P164) ∧ ((c94_G166 a83).toInt = 0) ∧ ((c94_G165 a83).toInt ≤ r4.toInt) ∧ (c94_P164 a83 = some a90) ∧ ((c94_G162 a83).toInt = 0) ∧ ((c94_G165 a83).toInt ≤ ((c65_ln a90 : Nat) : Int)) := hq94
          refine wp_b5 hc94 ?_
          clear hc94
          have htx := f43
          have hb94 := hg38 a83
          refine wp_jn (fun k136 => ∀ (c136_G160 : Nat → Int32) (c136_G161 : Nat → Int32) (c136_G162 : Nat → Int32) (c136_G163 : Nat → Int32) (c136_G166 : Nat → Int32) (c136_G167 : Nat → Int32) (c136_V7 : Nat → Nat → Int32), rng (0) 2000 c136_G160 → rng (0) 2000 c136_G161 → rng (0) 2000 c136_G162 → rng (0) 2000 c136_G166 → (c136_G166 a83).toInt ≤ (c94_G165 a83).toInt → (c136_G162 a83).toInt ≤ (c136_G166 a83).toInt → wp (k136 c136_G160 c136_G161 c136_G162 c136_G163 c136_G166 c136_G167 c136_V7) (sh (QC_X11_mixed κ wd G P U V X O kd ln cnt this p0) (0 + v1_65) (0 + v2_65))) ?_ ?_
          · intro c136_G160 c136_G161 c136_G162 c136_G163 c136_G166 c136_G167 c136_V7 hg46 hg47 hg48 hg49 f50 f51
            show wp _ _
            refine wp_nne hn_a69 ?_
            obtain ⟨⟨r141, c141_G43, c141_V8, c141_V9⟩, hc141, hq141⟩ := ok_X2_settle κ65_10 wd (va_up (va_up (va_up (va_up (va_up (va_up (va_up (va_up (va_up c65_G 44 c79_G44) 45 c79_G45) 160 c136_G160) 161 c136_G161) 162 c136_G162) 163 c136_G163) 165 c94_G165) 166 c136_G166) 167 c136_G167) (va_up c65_P 164 c94_P164) c65_U (va_up c65_V 7 c136_V7) c65_X c65_O c65_kd c65_ln c65_cnt a69 p0 h65_G43 hg35 hg36 h65_P40 h65_P41 h65_P42 h65_V9 h65_LN hk_a69
            obtain ⟨hg52, hg53⟩ : (rng (0) 40 c141_G43) ∧ (rng2 (0) 6 c141_V9) := hq141
            refine wp_b4 hc141 ?_
            clear hc141
            exact ⟨_, rfl, ⟨κ65_10, (show CInv κ65_10 wd (va_up (va_up (va_up (va_up (va_up (va_up (va_up (va_up (va_up (va_up c65_G 44 c79_G44) 45 c79_G45) 160 c136_G160) 161 c136_G161) 162 c136_G162) 163 c136_G163) 165 c94_G165) 166 c136_G166) 167 c136_G167) 43 c141_G43) (va_up c65_P 164 c94_P164) (va_up (va_up (va_up c65_V 7 c136_V7) 8 c141_V8) 9 c141_V9) c65_O c65_ln c65_cnt from ⟨hg52, hg35, hg36, h65_G60, h65_G83, h65_G84, h65_G85, h65_G87, h65_G88, h65_G102, h65_G125, h65_G126, h65_G127, h65_G141, hg46, hg47, hg48, hg38, hg49, h65_G183, h65_G200, h65_G203, h65_G222, h65_G231, h65_G233, h65_P0, h65_P1, h65_P2, h65_P3, h65_P4, h65_P5, h65_P20, h65_P21, h65_P22, h65_P23, h65_P40, h65_P41, h65_P42, h65_P61, h65_P62, h65_P63, h65_P64, h65_P65, h65_P66, h65_P82, h65_P101, h65_P103, h65_P104, h65_P105, h65_P106, h65_P108, h65_P109, h65_P110, h65_P120, h65_P121, h65_P122, h65_P123, h65_P140, hg40, h65_P180, h65_P181, h65_P182, h65_P185, h65_P186, h65_P187, h65_P201, h65_P202, h65_P220, h65_P221, h65_P224, h65_P225, h65_P226, h65_P227, h65_P228, h65_P229, h65_P230, h65_P232, h65_P234, h65_P235, h65_P236, h65_V1, h65_V2, h65_V3, hg53, h65_O0, h65_O1, h65_O2, h65_RA, h65_RB, h65_RI, h65_RM103, h65_RM104, h65_RM108, h65_LN, h65_FL, h65_W0, h65_KC, h65_WK⟩), kx24, (show cnt ≤ c65_cnt from by omega), (show (∀ a, κ a ≠ 0 → (c65_P 220) a = (P 220) a) from hF26), (show (∀ a, κ a ≠ 0 → (c65_P 229) a = (P 229) a) from hF27), (show (∀ a, κ a ≠ 0 → (c65_P 3) a = (P 3) a) from hF28), (show (∀ a, κ a ≠ 0 → (c65_G 83) a = (G 83) a) from hF29), (show (∀ a, κ a ≠ 0 → (c65_P 82) a = (P 82) a) from hF30), (show (∀ a, κ a ≠ 0 → (c65_P 0) a = (P 0) a) from hF31), (show (∀ a, κ a ≠ 0 → c65_ln a = ln a) from hF32), (show (∀ bk fl, (P 229) this = some bk → (P 3) bk = some fl → ((((0 + v1_65) : Nat) : Int) + 3 * s7 ((V 3) fl) ≤ 3 * s7 ((c65_V 3) fl)) ∧ ((((0 + v2_65) : Nat) : Int) + 2504 * s7 ((V 3) fl) ≤ 2504 * s7 ((c65_V 3) fl))) from by intro bk fl hbk hfl; obtain rfl : u2 = bk := Option.some.inj (hn_u2.symm.trans hbk); obtain rfl : u3 = fl := Option.some.inj (hn_u3.symm.trans hfl); omega), (show (∀ tp, (P 220) this = some tp → ((c65_G 141) tp).toInt = 0) from by intro tp htp; obtain rfl : u1 = tp := Option.some.inj (hn_u1.symm.trans htp); omega)⟩⟩
          intro k136 Jk136
          have lp100 : ∀ (n100 : Nat) (y100_4 : Int32) (d100_G160 : Nat → Int32) (d100_G161 : Nat → Int32) (d100_G162 : Nat → Int32) (d100_G163 : Nat → Int32) (d100_G166 : Nat → Int32) (d100_G167 : Nat → Int32) (d100_V7 : Nat → Nat → Int32), (2000 - y100_4.toInt).toNat < n100 → rng (0) 2000 d100_G160 → rng (0) 2000 d100_G161 → rng (0) 2000 d100_G162 → rng (0) 2000 d100_G166 → 0 ≤ y100_4.toInt → (d100_G166 a83).toInt ≤ (c94_G165 a83).toInt → (d100_G162 a83).toInt ≤ (d100_G166 a83).toInt → wp (L_X11_mixed_100 this r4 c65_G c65_P c65_U c65_V c65_X c65_O c65_kd c65_ln c65_cnt c79_G44 c79_G45 c94_G165 c94_P164 k136 n100 y100_4 d100_G160 d100_G161 d100_G162 d100_G163 d100_G166 d100_G167 d100_V7) (sh (QC_X11_mixed κ wd G P U V X O kd ln cnt this p0) (0 + v1_65) (0 + v2_65)) := by
            intro n100
            induction n100 with
            | zero => intro y100_4 d100_G160 d100_G161 d100_G162 d100_G163 d100_G166 d100_G167 d100_V7 hm; exact absurd hm (Nat.not_lt_zero _)
            | succ n100 ih100 =>
              intro y100_4 d100_G160 d100_G161 d100_G162 d100_G163 d100_G166 d100_G167 d100_V7 hm100 hg54 hg55 hg56 hg57 f58 f59 f60
              show wp (B_X11_mixed_100 this r4 c65_G c65_P c65_U c65_V c65_X c65_O c65_kd c65_ln c65_cnt c79_G44 c79_G45 c94_G165 c94_P164 k136 (L_X11_mixed_100 this r4 c65_G c65_P c65_U c65_V c65_X c65_O c65_kd c65_ln c65_cnt c79_G44 c79_G45 c94_G165 c94_P164 k136 n100) y100_4 d100_G160 d100_G161 d100_G162 d100_G163 d100_G166 d100_G167 d100_V7) _
              unfold B_X11_mixed_100
              refine wp_ite (fun c103 => ?_) (fun c103 => ?_)
              · have c103 := (z_le _ _).mp c103
                exact Jk136 d100_G160 d100_G161 d100_G162 d100_G163 d100_G166 d100_G167 d100_V7 hg54 hg55 hg56 hg57 (show (d100_G166 a83).toInt ≤ (c94_G165 a83).toInt from by omega) (show (d100_G162 a83).toInt ≤ (d100_G166 a83).toInt from by omega)
              · have c103 := z_nle c103
                refine wp_nne hn_a83 ?_
                obtain ⟨⟨r110, c110_G160, c110_G161, c110_G162, c110_G163, c110_G166, c110_G167⟩, hc110, hq110⟩ := ok_X8_next κ65_10 wd (va_up (va_up (va_up (va_up (va_up (va_up (va_up (va_up (va_up c65_G 44 c79_G44) 45 c79_G45) 160 d100_G160) 161 d100_G161) 162 d100_G162) 163 d100_G163) 165 c94_G165) 166 d100_G166) 167 d100_G167) (va_up c65_P 164 c94_P164) c65_U (va_up c65_V 7 d100_V7) c65_X c65_O c65_kd c65_ln c65_cnt a83 hg54 hg55 hg56 hg38 hg57 hg40 h65_LN hk_a83 (show (∀ tx, c94_P164 a83 = some tx → (c94_G165 a83).toInt ≤ ((c65_ln tx : Nat) : Int)) from by intro tx htx2; obtain rfl := Option.some.inj (htx.symm.trans htx2); omega) (show (d100_G166 a83).toInt ≤ (c94_G165 a83).toInt from by omega) (show (d100_G162 a83).toInt ≤ (d100_G166 a83).toInt from by omega)
                obtain ⟨hg61, hg62, hg63, hg64, f65, f66, f67, f68, f69⟩ : (rng (0) 2000 c110_G160) ∧ (rng (0) 2000 c110_G161) ∧ (rng (0) 2000 c110_G162) ∧ (rng (0) 2000 c110_G166) ∧ ((0 ≤ r110.toInt ∧ r110.toInt ≤ 1)) ∧ ((r110.toInt = 1 → (d100_G166 a83).toInt ≤ (c110_G160 a83).toInt ∧ (c110_G160 a83).toInt + (c110_G161 a83).toInt = (c110_G166 a83).toInt)) ∧ ((c110_G166 a83).toInt ≤ (c94_G165 a83).toInt) ∧ ((c110_G162 a83).toInt ≤ (c110_G166 a83).toInt) ∧ ((d100_G166 a83).toInt ≤ (c110_G166 a83).toInt) := hq110
                refine wp_b7 hc110 ?_
                clear hc110
                refine wp_ite (fun c113 => ?_) (fun c113 => ?_)
                · have c113 := congrArg Int32.toInt c113
                  exact Jk136 c110_G160 c110_G161 c110_G162 c110_G163 c110_G166 c110_G167 d100_V7 hg61 hg62 hg63 hg64 (show (c110_G166 a83).toInt ≤ (c94_G165 a83).toInt from by omega) (show (c110_G162 a83).toInt ≤ (c110_G166 a83).toInt from by omega)
                · have c113 := z_ne c113
                  refine wp_nne hn_a83 ?_
                  refine wp_jn (fun j130 => ∀ (c130_V7 : Nat → Nat → Int32), wp (j130 c130_V7) (sh (QC_X11_mixed κ wd G P U V X O kd ln cnt this p0) (0 + v1_65) (0 + v2_65))) ?_ ?_
                  · intro c130_V7
                    show wp _ _
                    have f70 : (y100_4 + 1).toInt = y100_4.toInt + (1) := z_addc (by decide +kernel) (by omega) (by omega)
                    exact ih100 (y100_4 + 1) c110_G160 c110_G161 c110_G162 c110_G163 c110_G166 c110_G167 c130_V7 (show (2000 - (y100_4 + 1).toInt).toNat < n100 from by omega) hg61 hg62 hg63 hg64 (show 0 ≤ (y100_4 + 1).toInt from by omega) (show (c110_G166 a83).toInt ≤ (c94_G165 a83).toInt from by omega) (show (c110_G162 a83).toInt ≤ (c110_G166 a83).toInt from by omega)
                  intro j130 Jj130
                  refine wp_ite (fun c123 => ?_) (fun c123 => ?_)
                  · have c123 := congrArg Int32.toInt c123
                    obtain ⟨c127_V7, hc127, hq127⟩ := ok_X11_chargeWord κ65_10 wd (va_up (va_up (va_up (va_up (va_up (va_up (va_up (va_up (va_up (va_up (va_up (va_up (va_up (va_up (va_up c65_G 44 c79_G44) 45 c79_G45) 160 d100_G160) 161 d100_G161) 162 d100_G162) 163 d100_G163) 165 c94_G165) 166 d100_G166) 167 d100_G167) 160 c110_G160) 161 c110_G161) 162 c110_G162) 163 c110_G163) 166 c110_G166) 167 c110_G167) (va_up c65_P 164 c94_P164) c65_U (va_up c65_V 7 d100_V7) c65_X c65_O c65_kd c65_ln c65_cnt this hg35 hg36 hg61 hg62 hg63 h65_G200 h65_G203 h65_G222 h65_P0 h65_P1 h65_P5 h65_P40 h65_P140 h65_P201 h65_P202 h65_P220 h65_P229 h65_P234 h65_P236 h65_V1 h65_O1 h65_RA h65_RB h65_RI h65_LN h65_W0 hk25
                    refine wp_b1 hc127 ?_
                    clear hc127
                    exact Jj130 c127_V7
                  · have c123 := z_ne c123
                    exact Jj130 d100_V7
          exact lp100 NN (0 : Int32) (c65_G 160) (c65_G 161) c94_G162 (c65_G 163) c94_G166 c94_G167 c79_V7 (by have := NN_eq; omega) h65_G160 h65_G161 hg37 hg39 (show 0 ≤ (0 : Int32).toInt from by omega) (show (c94_G166 a83).toInt ≤ (c94_G165 a83).toInt from by omega) (show (c94_G162 a83).toInt ≤ (c94_G166 a83).toInt from by omega)
        · have c44 := z_nle c44
          exact Jj47
      · have c38 := z_ne c38
        exact Jj47
    · have c15 := z_nle c15
      exact Jj18
