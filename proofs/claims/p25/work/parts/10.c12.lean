abbrev QC_X11_back (κ : Nat → Nat) (wd : Nat) (G : Nat → Nat → Int32) (P : Nat → Nat → Option Nat) (U : Nat → Nat → Int64) (V : Nat → Nat → Nat → Int32) (X : Nat → Nat → Nat → Int64) (O : Nat → Nat → Nat → Option Nat) (kd : Nat → Nat) (ln : Nat → Nat) (cnt : Nat) (this : Nat) (p0 : Int32) : ((Int32 × (Nat → Nat → Int32) × (Nat → Nat → Option Nat) × (Nat → Nat → Int64) × (Nat → Nat → Nat → Int32) × (Nat → Nat → Nat → Int64) × (Nat → Nat → Nat → Option Nat) × (Nat → Nat) × (Nat → Nat) × Nat) × Nat × Nat) → Prop := (fun t => ∃ κ1 : Nat → Nat, (CInv κ1 wd (t.1.2.1) (t.1.2.2.1) (t.1.2.2.2.2.1) (t.1.2.2.2.2.2.2.1) (t.1.2.2.2.2.2.2.2.2.1) (t.1.2.2.2.2.2.2.2.2.2)) ∧ (∀ a, κ a ≠ 0 → κ1 a = κ a) ∧ (cnt ≤ (t.1.2.2.2.2.2.2.2.2.2)) ∧ ((∀ a, κ a ≠ 0 → ((t.1.2.2.1) 220) a = (P 220) a)) ∧ ((∀ a, κ a ≠ 0 → ((t.1.2.2.1) 229) a = (P 229) a)) ∧ ((∀ a, κ a ≠ 0 → ((t.1.2.2.1) 3) a = (P 3) a)) ∧ ((∀ a, κ a ≠ 0 → ((t.1.2.1) 83) a = (G 83) a)) ∧ ((∀ a, κ a ≠ 0 → ((t.1.2.2.1) 82) a = (P 82) a)) ∧ ((∀ a, κ a ≠ 0 → ((t.1.2.2.1) 0) a = (P 0) a)) ∧ ((∀ a, κ a ≠ 0 → ((t.1.2.1) 160) a = (G 160) a)) ∧ ((∀ a, κ a ≠ 0 → (t.1.2.2.2.2.2.2.2.2.1) a = ln a)) ∧ ((∀ bk fl, (P 229) this = some bk → (P 3) bk = some fl → ((((t.2.1) : Nat) : Int) + 3 * s7 ((V 3) fl) ≤ 3 * s7 (((t.1.2.2.2.2.1) 3) fl)) ∧ ((((t.2.2) : Nat) : Int) + 2504 * s7 ((V 3) fl) ≤ 2504 * s7 (((t.1.2.2.2.2.1) 3) fl)))) ∧ ((∀ tp, (P 220) this = some tp → (((t.1.2.1) 141) tp).toInt = 0)))
set_option maxHeartbeats 4000000 in
set_option maxRecDepth 100000 in
theorem ok_X11_back (κ : Nat → Nat) (wd : Nat) (G : Nat → Nat → Int32) (P : Nat → Nat → Option Nat) (U : Nat → Nat → Int64) (V : Nat → Nat → Nat → Int32) (X : Nat → Nat → Nat → Int64) (O : Nat → Nat → Nat → Option Nat) (kd : Nat → Nat) (ln : Nat → Nat) (cnt : Nat) (this : Nat) (p0 : Int32) (hI : CInv κ wd G P V O ln cnt) (hk_this : κ this = 12) : wp (f_X11_back G P U V X O kd ln cnt this p0) (QC_X11_back κ wd G P U V X O kd ln cnt this p0) := by
  unfold f_X11_back
  refine wp_sh0 ?_
  have zkm2 : (-2 : Int32).toInt = -2 := by decide +kernel
  have zkm1 : (-1 : Int32).toInt = -1 := by decide +kernel
  have zk0 : (0 : Int32).toInt = 0 := by decide +kernel
  have zk1 : (1 : Int32).toInt = 1 := by decide +kernel
  have r_p0 := i32r p0
  obtain ⟨u1, hn_u1⟩ := PBs ((CInv_P220 hI :) this) hk_this
  have hk_u1 := (((CInv_P220 hI :) this).2 u1 hn_u1).1
  have hl1_u1 := (((CInv_P220 hI :) this).2 u1 hn_u1).2.1
  have hl2_u1 := (((CInv_P220 hI :) this).2 u1 hn_u1).2.2.1
  have hw_u1 := (((CInv_P220 hI :) this).2 u1 hn_u1).2.2.2
  obtain ⟨u2, hn_u2⟩ := PBs ((CInv_P229 hI :) this) hk_this
  have hk_u2 := (((CInv_P229 hI :) this).2 u2 hn_u2).1
  have hl1_u2 := (((CInv_P229 hI :) this).2 u2 hn_u2).2.1
  have hl2_u2 := (((CInv_P229 hI :) this).2 u2 hn_u2).2.2.1
  have hw_u2 := (((CInv_P229 hI :) this).2 u2 hn_u2).2.2.2
  obtain ⟨u3, hn_u3⟩ := PBs ((CInv_P3 hI :) u2) hk_u2
  have hk_u3 := (((CInv_P3 hI :) u2).2 u3 hn_u3).1
  have hl1_u3 := (((CInv_P3 hI :) u2).2 u3 hn_u3).2.1
  have hl2_u3 := (((CInv_P3 hI :) u2).2 u3 hn_u3).2.2.1
  have hw_u3 := (((CInv_P3 hI :) u2).2 u3 hn_u3).2.2.2
  have hz_u3 : (Int32.ofNat (ln u3)).toInt = ((ln u3 : Nat) : Int) := ofN_eq (by first | exact Nat.le_trans hl2_u3 (by decide) | omega)
  have hb222 := (CInv_G222 hI :) this
  refine wp_nne hn_u1 ?_
  obtain ⟨⟨r4, c4_G141⟩, hc4, hq4⟩ := ok_X7_take κ wd G P U V X O kd ln cnt u1 (CInv_G141 hI :) (CInv_LN hI :) hk_u1
  obtain ⟨hg4, f5, f6, f7⟩ : (rng (0) 2000 c4_G141) ∧ (r4.toInt = ((G 141) u1).toInt) ∧ ((c4_G141 u1).toInt = 0) ∧ ((0 ≤ r4.toInt ∧ r4.toInt ≤ 2000)) := hq4
  refine wp_b2 hc4 ?_
  clear hc4
  obtain ⟨r10, hc10, hq10⟩ := ok_X11_isStage κ wd (va_up G 141 c4_G141) P U V X O kd ln cnt this p0 (CInv_G222 hI :) (CInv_LN hI :) hk_this
  obtain ⟨f8, f9⟩ : ((0 ≤ r10.toInt ∧ r10.toInt ≤ 1)) ∧ ((r10.toInt = 1 → 0 ≤ p0.toInt ∧ p0.toInt ≤ ((G 222) this).toInt)) := hq10
  refine wp_b1 hc10 ?_
  clear hc10
  refine wp_jn (fun j27 => wp (j27 ()) (sh (QC_X11_back κ wd G P U V X O kd ln cnt this p0) 0 0)) ?_ ?_
  · show wp _ _
    exact ⟨_, rfl, ⟨κ, (show CInv κ wd (va_up G 141 c4_G141) P V O ln cnt from (CInv_i (CInv_G43 hI :) (CInv_G44 hI :) (CInv_G45 hI :) (CInv_G60 hI :) (CInv_G83 hI :) (CInv_G84 hI :) (CInv_G85 hI :) (CInv_G87 hI :) (CInv_G88 hI :) (CInv_G102 hI :) (CInv_G125 hI :) (CInv_G126 hI :) (CInv_G127 hI :) hg4 (CInv_G160 hI :) (CInv_G161 hI :) (CInv_G162 hI :) (CInv_G165 hI :) (CInv_G166 hI :) (CInv_G183 hI :) (CInv_G200 hI :) (CInv_G203 hI :) (CInv_G222 hI :) (CInv_G231 hI :) (CInv_G233 hI :) (CInv_P0 hI :) (CInv_P1 hI :) (CInv_P2 hI :) (CInv_P3 hI :) (CInv_P4 hI :) (CInv_P5 hI :) (CInv_P20 hI :) (CInv_P21 hI :) (CInv_P22 hI :) (CInv_P23 hI :) (CInv_P40 hI :) (CInv_P41 hI :) (CInv_P42 hI :) (CInv_P61 hI :) (CInv_P62 hI :) (CInv_P63 hI :) (CInv_P64 hI :) (CInv_P65 hI :) (CInv_P66 hI :) (CInv_P82 hI :) (CInv_P101 hI :) (CInv_P103 hI :) (CInv_P104 hI :) (CInv_P105 hI :) (CInv_P106 hI :) (CInv_P108 hI :) (CInv_P109 hI :) (CInv_P110 hI :) (CInv_P120 hI :) (CInv_P121 hI :) (CInv_P122 hI :) (CInv_P123 hI :) (CInv_P140 hI :) (CInv_P164 hI :) (CInv_P180 hI :) (CInv_P181 hI :) (CInv_P182 hI :) (CInv_P185 hI :) (CInv_P186 hI :) (CInv_P187 hI :) (CInv_P201 hI :) (CInv_P202 hI :) (CInv_P220 hI :) (CInv_P221 hI :) (CInv_P224 hI :) (CInv_P225 hI :) (CInv_P226 hI :) (CInv_P227 hI :) (CInv_P228 hI :) (CInv_P229 hI :) (CInv_P230 hI :) (CInv_P232 hI :) (CInv_P234 hI :) (CInv_P235 hI :) (CInv_P236 hI :) (CInv_V1 hI :) (CInv_V2 hI :) (CInv_V3 hI :) (CInv_V9 hI :) (CInv_O0 hI :) (CInv_O1 hI :) (CInv_O2 hI :) (CInv_RA hI :) (CInv_RB hI :) (CInv_RI hI :) (CInv_RM103 hI :) (CInv_RM104 hI :) (CInv_RM108 hI :) (CInv_LN hI :) (CInv_FL hI :) (CInv_W0 hI :) (CInv_KC hI :) (CInv_WK hI :))), (fun _ _ => rfl), (show cnt ≤ cnt from by omega), (show (∀ a, κ a ≠ 0 → (P 220) a = (P 220) a) from (fun _ _ => rfl)), (show (∀ a, κ a ≠ 0 → (P 229) a = (P 229) a) from (fun _ _ => rfl)), (show (∀ a, κ a ≠ 0 → (P 3) a = (P 3) a) from (fun _ _ => rfl)), (show (∀ a, κ a ≠ 0 → (G 83) a = (G 83) a) from (fun _ _ => rfl)), (show (∀ a, κ a ≠ 0 → (P 82) a = (P 82) a) from (fun _ _ => rfl)), (show (∀ a, κ a ≠ 0 → (P 0) a = (P 0) a) from (fun _ _ => rfl)), (show (∀ a, κ a ≠ 0 → (G 160) a = (G 160) a) from (fun _ _ => rfl)), (show (∀ a, κ a ≠ 0 → ln a = ln a) from (fun _ _ => rfl)), (show (∀ bk fl, (P 229) this = some bk → (P 3) bk = some fl → (((0 : Nat) : Int) + 3 * s7 ((V 3) fl) ≤ 3 * s7 ((V 3) fl)) ∧ (((0 : Nat) : Int) + 2504 * s7 ((V 3) fl) ≤ 2504 * s7 ((V 3) fl))) from by intro bk fl hbk hfl; obtain rfl : u2 = bk := Option.some.inj (hn_u2.symm.trans hbk); obtain rfl : u3 = fl := Option.some.inj (hn_u3.symm.trans hfl); omega), (show (∀ tp, (P 220) this = some tp → (c4_G141 tp).toInt = 0) from by intro tp htp; obtain rfl : u1 = tp := Option.some.inj (hn_u1.symm.trans htp); omega)⟩⟩
  intro j27 Jj27
  refine wp_ite (fun c13 => ?_) (fun c13 => ?_)
  · have c13 := congrArg Int32.toInt c13
    exact Jj27
  · have c13 := z_ne c13
    refine wp_nne hn_u1 ?_
    obtain ⟨r21, hc21, hq21⟩ := ok_X7_isWord κ wd (va_up G 141 c4_G141) P U V X O kd ln cnt u1 r4 (CInv_P140 hI :) (CInv_LN hI :) hk_u1
    obtain ⟨f10, f11⟩ : ((0 ≤ r21.toInt ∧ r21.toInt ≤ 1)) ∧ ((r21.toInt = 1 → 1 ≤ r4.toInt ∧ r4.toInt ≤ 24)) := hq21
    refine wp_b1 hc21 ?_
    clear hc21
    refine wp_ite (fun c24 => ?_) (fun c24 => ?_)
    · have c24 := congrArg Int32.toInt c24
      exact Jj27
    · have c24 := z_ne c24
      refine wp_nne hn_u2 ?_
      refine wp_nn (((CInv_P221 hI :) this).1 hk_this) (fun a36 hn_a36 => ?_)
      have hk_a36 := (((CInv_P221 hI :) this).2 a36 hn_a36).1
      have hl1_a36 := (((CInv_P221 hI :) this).2 a36 hn_a36).2.1
      have hl2_a36 := (((CInv_P221 hI :) this).2 a36 hn_a36).2.2.1
      have hw_a36 := (((CInv_P221 hI :) this).2 a36 hn_a36).2.2.2
      have hz_a36 : (Int32.ofNat (ln a36)).toInt = ((ln a36 : Nat) : Int) := ofN_eq (by first | exact Nat.le_trans hl2_a36 (by decide) | omega)
      refine wp_nn (((CInv_P226 hI :) this).1 hk_this) (fun a40 hn_a40 => ?_)
      have hk_a40 := (((CInv_P226 hI :) this).2 a40 hn_a40).1
      have hl1_a40 := (((CInv_P226 hI :) this).2 a40 hn_a40).2.1
      have hl2_a40 := (((CInv_P226 hI :) this).2 a40 hn_a40).2.2.1
      have hw_a40 := (((CInv_P226 hI :) this).2 a40 hn_a40).2.2.2
      obtain ⟨⟨⟨c43_G, c43_P, c43_U, c43_V, c43_X, c43_O, c43_kd, c43_ln, c43_cnt⟩, v1_43, v2_43⟩, hc43, hq43⟩ := ok_X0_fill κ wd (va_up G 141 c4_G141) P U V X O kd ln cnt u2 p0 a36 a40 (CInv_i (CInv_G43 hI :) (CInv_G44 hI :) (CInv_G45 hI :) (CInv_G60 hI :) (CInv_G83 hI :) (CInv_G84 hI :) (CInv_G85 hI :) (CInv_G87 hI :) (CInv_G88 hI :) (CInv_G102 hI :) (CInv_G125 hI :) (CInv_G126 hI :) (CInv_G127 hI :) hg4 (CInv_G160 hI :) (CInv_G161 hI :) (CInv_G162 hI :) (CInv_G165 hI :) (CInv_G166 hI :) (CInv_G183 hI :) (CInv_G200 hI :) (CInv_G203 hI :) (CInv_G222 hI :) (CInv_G231 hI :) (CInv_G233 hI :) (CInv_P0 hI :) (CInv_P1 hI :) (CInv_P2 hI :) (CInv_P3 hI :) (CInv_P4 hI :) (CInv_P5 hI :) (CInv_P20 hI :) (CInv_P21 hI :) (CInv_P22 hI :) (CInv_P23 hI :) (CInv_P40 hI :) (CInv_P41 hI :) (CInv_P42 hI :) (CInv_P61 hI :) (CInv_P62 hI :) (CInv_P63 hI :) (CInv_P64 hI :) (CInv_P65 hI :) (CInv_P66 hI :) (CInv_P82 hI :) (CInv_P101 hI :) (CInv_P103 hI :) (CInv_P104 hI :) (CInv_P105 hI :) (CInv_P106 hI :) (CInv_P108 hI :) (CInv_P109 hI :) (CInv_P110 hI :) (CInv_P120 hI :) (CInv_P121 hI :) (CInv_P122 hI :) (CInv_P123 hI :) (CInv_P140 hI :) (CInv_P164 hI :) (CInv_P180 hI :) (CInv_P181 hI :) (CInv_P182 hI :) (CInv_P185 hI :) (CInv_P186 hI :) (CInv_P187 hI :) (CInv_P201 hI :) (CInv_P202 hI :) (CInv_P220 hI :) (CInv_P221 hI :) (CInv_P224 hI :) (CInv_P225 hI :) (CInv_P226 hI :) (CInv_P227 hI :) (CInv_P228 hI :) (CInv_P229 hI :) (CInv_P230 hI :) (CInv_P232 hI :) (CInv_P234 hI :) (CInv_P235 hI :) (CInv_P236 hI :) (CInv_V1 hI :) (CInv_V2 hI :) (CInv_V3 hI :) (CInv_V9 hI :) (CInv_O0 hI :) (CInv_O1 hI :) (CInv_O2 hI :) (CInv_RA hI :) (CInv_RB hI :) (CInv_RI hI :) (CInv_RM103 hI :) (CInv_RM104 hI :) (CInv_RM108 hI :) (CInv_LN hI :) (CInv_FL hI :) (CInv_W0 hI :) (CInv_KC hI :) (CInv_WK hI :)) hk_u2 hk_a36 hk_a40 (show ln a36 = 6 from by omega)
      obtain ⟨κ43_11, hCI43, hxx43, hcc13, hfr14, hfr15, hfr16, hfr17, hfr18, hfr19, hfr20, hfr21, hfr22, f23, f24⟩ : ∃ κ1 : Nat → Nat, (CInv κ1 wd c43_G c43_P c43_V c43_O c43_ln c43_cnt) ∧ (∀ a, κ a ≠ 0 → κ1 a = κ a) ∧ (cnt ≤ c43_cnt) ∧ ((∀ a, κ a ≠ 0 → (c43_P 220) a = (P 220) a)) ∧ ((∀ a, κ a ≠ 0 → (c43_P 229) a = (P 229) a)) ∧ ((∀ a, κ a ≠ 0 → (c43_P 3) a = (P 3) a)) ∧ ((∀ a, κ a ≠ 0 → (c43_G 141) a = c4_G141 a)) ∧ ((∀ a, κ a ≠ 0 → (c43_G 83) a = (G 83) a)) ∧ ((∀ a, κ a ≠ 0 → (c43_P 82) a = (P 82) a)) ∧ ((∀ a, κ a ≠ 0 → (c43_P 0) a = (P 0) a)) ∧ ((∀ a, κ a ≠ 0 → (c43_G 160) a = (G 160) a)) ∧ ((∀ a, κ a ≠ 0 → c43_ln a = ln a)) ∧ ((c43_G 203) wd = (G 203) wd) ∧ ((∀ fl, (P 3) u2 = some fl → (((v1_43 : Nat) : Int) + 3 * s7 ((V 3) fl) ≤ 3 * s7 ((c43_V 3) fl)) ∧ (((v2_43 : Nat) : Int) + 2504 * s7 ((V 3) fl) ≤ 2504 * s7 ((c43_V 3) fl)))) := hq43
      clear hg4
      have kx25 : ∀ a, κ a ≠ 0 → κ43_11 a = κ a := hxx43
      have hk26 : κ43_11 this = 12 := kxk hxx43 hk_this (by decide)
      have hF27 : (∀ a, κ a ≠ 0 → (c43_P 220) a = (P 220) a) := fun a ha => (hfr14 a (ha)).trans (rfl)
      have hF28 : (∀ a, κ a ≠ 0 → (c43_P 229) a = (P 229) a) := fun a ha => (hfr15 a (ha)).trans (rfl)
      have hF29 : (∀ a, κ a ≠ 0 → (c43_P 3) a = (P 3) a) := fun a ha => (hfr16 a (ha)).trans (rfl)
      have hF30 : (∀ a, κ a ≠ 0 → (c43_G 83) a = (G 83) a) := fun a ha => (hfr18 a (ha)).trans (rfl)
      have hF31 : (∀ a, κ a ≠ 0 → (c43_P 82) a = (P 82) a) := fun a ha => (hfr19 a (ha)).trans (rfl)
      have hF32 : (∀ a, κ a ≠ 0 → (c43_P 0) a = (P 0) a) := fun a ha => (hfr20 a (ha)).trans (rfl)
      have hF33 : (∀ a, κ a ≠ 0 → (c43_G 160) a = (G 160) a) := fun a ha => (hfr21 a (ha)).trans (rfl)
      have hF34 : (∀ a, κ a ≠ 0 → c43_ln a = ln a) := fun a ha => (hfr22 a (ha)).trans (rfl)
      refine wp_bA9 hc43 ?_
      have hpot := f24 _ hn_u3
      have hT : ((c43_G 141) u1).toInt = (c4_G141 u1).toInt := congrArg Int32.toInt (hfr17 u1 (by rw [hk_u1]; decide))
      refine wp_vl (fun m48 em48 => ?_)
      have hg35 : rng (0) 100 m48 := by rw [em48]; exact rng_vup (CInv_G231 hCI43 :) (by omega) (by omega)
      have sm48 : (m48 this).toInt = 0 := by rw [em48, va_up_self]; decide +kernel
      have b36 := hg35 this
      clear em48
      have lp53 : ∀ (n53 : Nat) (y53_3 : Int32) (d53_G231 : Nat → Int32) (d53_V4 : Nat → Nat → Int32), (100 - y53_3.toInt).toNat < n53 → rng (0) 100 d53_G231 → (0 ≤ y53_3.toInt ∧ y53_3.toInt ≤ 100) → (0 ≤ (d53_G231 this).toInt ∧ (d53_G231 this).toInt ≤ y53_3.toInt) → wp (L_X11_back_53 this p0 r4 c43_G c43_P c43_U c43_V c43_X c43_O c43_kd c43_ln c43_cnt n53 y53_3 d53_G231 d53_V4) (sh (QC_X11_back κ wd G P U V X O kd ln cnt this p0) (0 + v1_43) (0 + v2_43)) := by
        intro n53
        induction n53 with
        | zero => intro y53_3 d53_G231 d53_V4 hm; exact absurd hm (Nat.not_lt_zero _)
        | succ n53 ih53 =>
          intro y53_3 d53_G231 d53_V4 hm53 hg37 f38 f39
          show wp (B_X11_back_53 this p0 r4 c43_G c43_P c43_U c43_V c43_X c43_O c43_kd c43_ln c43_cnt (L_X11_back_53 this p0 r4 c43_G c43_P c43_U c43_V c43_X c43_O c43_kd c43_ln c43_cnt n53) y53_3 d53_G231 d53_V4) _
          unfold B_X11_back_53
          refine wp_nn (((CInv_P229 hCI43 :) this).1 hk26) (fun a55 hn_a55 => ?_)
          have hk_a55 := (((CInv_P229 hCI43 :) this).2 a55 hn_a55).1
          have hl1_a55 := (((CInv_P229 hCI43 :) this).2 a55 hn_a55).2.1
          have hl2_a55 := (((CInv_P229 hCI43 :) this).2 a55 hn_a55).2.2.1
          have hw_a55 := (((CInv_P229 hCI43 :) this).2 a55 hn_a55).2.2.2
          refine wp_nn (((CInv_P0 hCI43 :) a55).1 hk_a55) (fun a58 hn_a58 => ?_)
          obtain rfl : wd = a58 := ((CInv_W0 hCI43 :) _ _ hn_a58).symm
          have hk_wd := (((CInv_P0 hCI43 :) a55).2 wd hn_a58).1
          have hl1_wd := (((CInv_P0 hCI43 :) a55).2 wd hn_a58).2.1
          have hl2_wd := (((CInv_P0 hCI43 :) a55).2 wd hn_a58).2.2.1
          have hw_wd := (((CInv_P0 hCI43 :) a55).2 wd hn_a58).2.2.2
          have b40 := (CInv_G203 hCI43 :) wd
          refine wp_ite (fun c64 => ?_) (fun c64 => ?_)
          · have c64 := (z_le _ _).mp c64
            have b41 := hg37 this
            exact ⟨_, rfl, ⟨κ43_11, (show CInv κ43_11 wd (va_up c43_G 231 d53_G231) c43_P (va_up c43_V 4 d53_V4) c43_O c43_ln c43_cnt from (CInv_i (CInv_G43 hCI43 :) (CInv_G44 hCI43 :) (CInv_G45 hCI43 :) (CInv_G60 hCI43 :) (CInv_G83 hCI43 :) (CInv_G84 hCI43 :) (CInv_G85 hCI43 :) (CInv_G87 hCI43 :) (CInv_G88 hCI43 :) (CInv_G102 hCI43 :) (CInv_G125 hCI43 :) (CInv_G126 hCI43 :) (CInv_G127 hCI43 :) (CInv_G141 hCI43 :) (CInv_G160 hCI43 :) (CInv_G161 hCI43 :) (CInv_G162 hCI43 :) (CInv_G165 hCI43 :) (CInv_G166 hCI43 :) (CInv_G183 hCI43 :) (CInv_G200 hCI43 :) (CInv_G203 hCI43 :) (CInv_G222 hCI43 :) hg37 (CInv_G233 hCI43 :) (CInv_P0 hCI43 :) (CInv_P1 hCI43 :) (CInv_P2 hCI43 :) (CInv_P3 hCI43 :) (CInv_P4 hCI43 :) (CInv_P5 hCI43 :) (CInv_P20 hCI43 :) (CInv_P21 hCI43 :) (CInv_P22 hCI43 :) (CInv_P23 hCI43 :) (CInv_P40 hCI43 :) (CInv_P41 hCI43 :) (CInv_P42 hCI43 :) (CInv_P61 hCI43 :) (CInv_P62 hCI43 :) (CInv_P63 hCI43 :) (CInv_P64 hCI43 :) (CInv_P65 hCI43 :) (CInv_P66 hCI43 :) (CInv_P82 hCI43 :) (CInv_P101 hCI43 :) (CInv_P103 hCI43 :) (CInv_P104 hCI43 :) (CInv_P105 hCI43 :) (CInv_P106 hCI43 :) (CInv_P108 hCI43 :) (CInv_P109 hCI43 :) (CInv_P110 hCI43 :) (CInv_P120 hCI43 :) (CInv_P121 hCI43 :) (CInv_P122 hCI43 :) (CInv_P123 hCI43 :) (CInv_P140 hCI43 :) (CInv_P164 hCI43 :) (CInv_P180 hCI43 :) (CInv_P181 hCI43 :) (CInv_P182 hCI43 :) (CInv_P185 hCI43 :) (CInv_P186 hCI43 :) (CInv_P187 hCI43 :) (CInv_P201 hCI43 :) (CInv_P202 hCI43 :) (CInv_P220 hCI43 :) (CInv_P221 hCI43 :) (CInv_P224 hCI43 :) (CInv_P225 hCI43 :) (CInv_P226 hCI43 :) (CInv_P227 hCI43 :) (CInv_P228 hCI43 :) (CInv_P229 hCI43 :) (CInv_P230 hCI43 :) (CInv_P232 hCI43 :) (CInv_P234 hCI43 :) (CInv_P235 hCI43 :) (CInv_P236 hCI43 :) (CInv_V1 hCI43 :) (CInv_V2 hCI43 :) (CInv_V3 hCI43 :) (CInv_V9 hCI43 :) (CInv_O0 hCI43 :) (CInv_O1 hCI43 :) (CInv_O2 hCI43 :) (CInv_RA hCI43 :) (CInv_RB hCI43 :) (CInv_RI hCI43 :) (CInv_RM103 hCI43 :) (CInv_RM104 hCI43 :) (CInv_RM108 hCI43 :) (CInv_LN hCI43 :) (CInv_FL hCI43 :) (CInv_W0 hCI43 :) (CInv_KC hCI43 :) (CInv_WK hCI43 :))), kx25, (show cnt ≤ c43_cnt from by omega), (show (∀ a, κ a ≠ 0 → (c43_P 220) a = (P 220) a) from hF27), (show (∀ a, κ a ≠ 0 → (c43_P 229) a = (P 229) a) from hF28), (show (∀ a, κ a ≠ 0 → (c43_P 3) a = (P 3) a) from hF29), (show (∀ a, κ a ≠ 0 → (c43_G 83) a = (G 83) a) from hF30), (show (∀ a, κ a ≠ 0 → (c43_P 82) a = (P 82) a) from hF31), (show (∀ a, κ a ≠ 0 → (c43_P 0) a = (P 0) a) from hF32), (show (∀ a, κ a ≠ 0 → (c43_G 160) a = (G 160) a) from hF33), (show (∀ a, κ a ≠ 0 → c43_ln a = ln a) from hF34), (show (∀ bk fl, (P 229) this = some bk → (P 3) bk = some fl → ((((0 + v1_43) : Nat) : Int) + 3 * s7 ((V 3) fl) ≤ 3 * s7 ((c43_V 3) fl)) ∧ ((((0 + v2_43) : Nat) : Int) + 2504 * s7 ((V 3) fl) ≤ 2504 * s7 ((c43_V 3) fl))) from by intro bk fl hbk hfl; obtain rfl : u2 = bk := Option.some.inj (hn_u2.symm.trans hbk); obtain rfl : u3 = fl := Option.some.inj (hn_u3.symm.trans hfl); omega), (show (∀ tp, (P 220) this = some tp → ((c43_G 141) tp).toInt = 0) from by intro tp htp; obtain rfl : u1 = tp := Option.some.inj (hn_u1.symm.trans htp); omega)⟩⟩
          · have c64 := z_nle c64
            refine wp_nne hn_a55 ?_
            obtain ⟨r73, hc73, hq73⟩ := ok_X0_formsAt κ43_11 wd (va_up c43_G 231 d53_G231) c43_P c43_U (va_up c43_V 4 d53_V4) c43_X c43_O c43_kd c43_ln c43_cnt a55 p0 y53_3 (CInv_P1 hCI43 :) (CInv_P5 hCI43 :) (CInv_O1 hCI43 :) (CInv_LN hCI43 :) hk_a55 (show (0 ≤ p0.toInt ∧ p0.toInt ≤ 6) from by omega) (show (0 ≤ y53_3.toInt ∧ y53_3.toInt < 100) from by omega)
            have hk42 : κ43_11 r73 = 11 := hq73
            refine wp_b1 hc73 ?_
            clear hc73
            refine wp_nn (((CInv_P220 hCI43 :) this).1 hk26) (fun a77 hn_a77 => ?_)
            have hk_a77 := (((CInv_P220 hCI43 :) this).2 a77 hn_a77).1
            have hl1_a77 := (((CInv_P220 hCI43 :) this).2 a77 hn_a77).2.1
            have hl2_a77 := (((CInv_P220 hCI43 :) this).2 a77 hn_a77).2.2.1
            have hw_a77 := (((CInv_P220 hCI43 :) this).2 a77 hn_a77).2.2.2
            refine wp_nn (((CInv_P140 hCI43 :) a77).1 hk_a77) (fun a80 hn_a80 => ?_)
            have hk_a80 := (((CInv_P140 hCI43 :) a77).2 a80 hn_a80).1
            have hl1_a80 := (((CInv_P140 hCI43 :) a77).2 a80 hn_a80).2.1
            have hl2_a80 := (((CInv_P140 hCI43 :) a77).2 a80 hn_a80).2.2.1
            have hw_a80 := (((CInv_P140 hCI43 :) a77).2 a80 hn_a80).2.2.2
            have hz_a80 : (Int32.ofNat (c43_ln a80)).toInt = ((c43_ln a80 : Nat) : Int) := ofN_eq (by first | exact Nat.le_trans hl2_a80 (by decide) | omega)
            obtain ⟨r85, hc85, hq85⟩ := ok_X10_find κ43_11 wd (va_up c43_G 231 d53_G231) c43_P c43_U (va_up c43_V 4 d53_V4) c43_X c43_O c43_kd c43_ln c43_cnt r73 a80 (0 : Int32) r4 (CInv_G200 hCI43 :) (CInv_G203 hCI43 :) (CInv_P201 hCI43 :) (CInv_P202 hCI43 :) (CInv_V1 hCI43 :) (CInv_RA hCI43 :) (CInv_RB hCI43 :) (CInv_RI hCI43 :) (CInv_LN hCI43 :) hk42 hk_a80
            obtain ⟨f43, f44⟩ : (((-1) ≤ r85.toInt ∧ r85.toInt < 100)) ∧ ((r85.toInt = -1 ∨ r85.toInt < ((c43_G 203) r73).toInt)) := hq85
            refine wp_b1 hc85 ?_
            clear hc85
            refine wp_jn (fun j112 => ∀ (c112_G231 : Nat → Int32) (c112_V4 : Nat → Nat → Int32), rng (0) 100 c112_G231 → (0 ≤ (c112_G231 this).toInt ∧ (c112_G231 this).toInt ≤ y53_3.toInt + 1) → wp (j112 c112_G231 c112_V4) (sh (QC_X11_back κ wd G P U V X O kd ln cnt this p0) (0 + v1_43) (0 + v2_43))) ?_ ?_
            · intro c112_G231 c112_V4 hg45 f46
              show wp _ _
              have f47 : (y53_3 + 1).toInt = y53_3.toInt + (1) := z_addc (by decide +kernel) (by omega) (by omega)
              exact ih53 (y53_3 + 1) c112_G231 c112_V4 (show (100 - (y53_3 + 1).toInt).toNat < n53 from by omega) hg45 (show (0 ≤ (y53_3 + 1).toInt ∧ (y53_3 + 1).toInt ≤ 100) from by omega) (show (0 ≤ (c112_G231 this).toInt ∧ (c112_G231 this).toInt ≤ (y53_3 + 1).toInt) from by omega)
            intro j112 Jj112
            refine wp_ite (fun c89 => ?_) (fun c89 => ?_)
            · have c89 := congrArg Int32.toInt c89
              exact Jj112 d53_G231 d53_V4 hg37 (show (0 ≤ (d53_G231 this).toInt ∧ (d53_G231 this).toInt ≤ y53_3.toInt + 1) from by omega)
            · have c89 := z_ne c89
              refine wp_nn (((CInv_P230 hCI43 :) this).1 hk26) (fun a93 hn_a93 => ?_)
              have hk_a93 := (((CInv_P230 hCI43 :) this).2 a93 hn_a93).1
              have hl1_a93 := (((CInv_P230 hCI43 :) this).2 a93 hn_a93).2.1
              have hl2_a93 := (((CInv_P230 hCI43 :) this).2 a93 hn_a93).2.2.1
              have hw_a93 := (((CInv_P230 hCI43 :) this).2 a93 hn_a93).2.2.2
              have hz_a93 : (Int32.ofNat (c43_ln a93)).toInt = ((c43_ln a93 : Nat) : Int) := ofN_eq (by first | exact Nat.le_trans hl2_a93 (by decide) | omega)
              have b48 := hg37 this
              refine wp_if ⟨by omega, by omega⟩ ?_
              refine wp_vl (fun m101 em101 => ?_)
              clear em101
              have f50 : ((d53_G231 this) + 1).toInt = (d53_G231 this).toInt + 1 := z_addc (by decide +kernel) (by omega) (by omega)
              refine wp_vl (fun x109 ex109 => ?_)
              have f51 : x109.toInt = ((d53_G231 this) + 1).toInt := congrArg Int32.toInt ex109
              clear ex109
              refine wp_vl (fun m109 em109 => ?_)
              have hg52 : rng (0) 100 m109 := by rw [em109]; exact rng_vup hg37 (by omega) (by omega)
              have sm109 : (m109 this).toInt = x109.toInt := by rw [em109, va_up_self]
              have b53 := hg52 this
              clear em109
              exact Jj112 m109 m101 hg52 (show (0 ≤ (m109 this).toInt ∧ (m109 this).toInt ≤ y53_3.toInt + 1) from by omega)
      exact lp53 NN (0 : Int32) m48 (c43_V 4) (by have := NN_eq; omega) hg35 (show (0 ≤ (0 : Int32).toInt ∧ (0 : Int32).toInt ≤ 100) from by omega) (show (0 ≤ (m48 this).toInt ∧ (m48 this).toInt ≤ (0 : Int32).toInt) from by omega)
abbrev QC_X11_collisions (κ : Nat → Nat) (wd : Nat) (G : Nat → Nat → Int32) (P : Nat → Nat → Option Nat) (U : Nat → Nat → Int64) (V : Nat → Nat → Nat → Int32) (X : Nat → Nat → Nat → Int64) (O : Nat → Nat → Nat → Option Nat) (kd : Nat → Nat) (ln : Nat → Nat) (cnt : Nat) (this : Nat) (p0 : Int32) : ((Int32 × (Nat → Nat → Int32) × (Nat → Nat → Option Nat) × (Nat → Nat → Int64) × (Nat → Nat → Nat → Int32) × (Nat → Nat → Nat → Int64) × (Nat → Nat → Nat → Option Nat) × (Nat → Nat) × (Nat → Nat) × Nat) × Nat × Nat) → Prop := (fun t => ∃ κ1 : Nat → Nat, (CInv κ1 wd (t.1.2.1) (t.1.2.2.1) (t.1.2.2.2.2.1) (t.1.2.2.2.2.2.2.1) (t.1.2.2.2.2.2.2.2.2.1) (t.1.2.2.2.2.2.2.2.2.2)) ∧ (∀ a, κ a ≠ 0 → κ1 a = κ a) ∧ (cnt ≤ (t.1.2.2.2.2.2.2.2.2.2)) ∧ ((∀ a, κ a ≠ 0 → ((t.1.2.2.1) 220) a = (P 220) a)) ∧ ((∀ a, κ a ≠ 0 → ((t.1.2.2.1) 229) a = (P 229) a)) ∧ ((∀ a, κ a ≠ 0 → ((t.1.2.2.1) 3) a = (P 3) a)) ∧ ((∀ a, κ a ≠ 0 → ((t.1.2.1) 141) a = (G 141) a)) ∧ ((∀ a, κ a ≠ 0 → ((t.1.2.1) 83) a = (G 83) a)) ∧ ((∀ a, κ a ≠ 0 → ((t.1.2.2.1) 82) a = (P 82) a)) ∧ ((∀ a, κ a ≠ 0 → ((t.1.2.2.1) 0) a = (P 0) a)) ∧ ((∀ a, κ a ≠ 0 → ((t.1.2.1) 160) a = (G 160) a)) ∧ ((∀ a, κ a ≠ 0 → (t.1.2.2.2.2.2.2.2.2.1) a = ln a)) ∧ ((∀ bk fl, (P 229) this = some bk → (P 3) bk = some fl → ((((t.2.1) : Nat) : Int) + 3 * s7 ((V 3) fl) ≤ 3 * s7 (((t.1.2.2.2.2.1) 3) fl)) ∧ ((((t.2.2) : Nat) : Int) + 2504 * s7 ((V 3) fl) ≤ 2504 * s7 (((t.1.2.2.2.2.1) 3) fl)))))
set_option maxHeartbeats 4000000 in
set_option maxRecDepth 100000 in
theorem ok_X11_collisions (κ : Nat → Nat) (wd : Nat) (G : Nat → Nat → Int32) (P : Nat → Nat → Option Nat) (U : Nat → Nat → Int64) (V : Nat → Nat → Nat → Int32) (X : Nat → Nat → Nat → Int64) (O : Nat → Nat → Nat → Option Nat) (kd : Nat → Nat) (ln : Nat → Nat) (cnt : Nat) (this : Nat) (p0 : Int32) (hI : CInv κ wd G P V O ln cnt) (hk_this : κ this = 12) : wp (f_X11_collisions G P U V X O kd ln cnt this p0) (QC_X11_collisions κ wd G P U V X O kd ln cnt this p0) := by
  unfold f_X11_collisions
  refine wp_sh0 ?_
  have zkm2 : (-2 : Int32).toInt = -2 := by decide +kernel
  have zk0 : (0 : Int32).toInt = 0 := by decide +kernel
  have zk1 : (1 : Int32).toInt = 1 := by decide +kernel
  have zk1000 : (1000 : Int32).toInt = 1000 := by decide +kernel
  have r_p0 := i32r p0
  obtain ⟨u1, hn_u1⟩ := PBs ((CInv_P220 hI :) this) hk_this
  have hk_u1 := (((CInv_P220 hI :) this).2 u1 hn_u1).1
  have hl1_u1 := (((CInv_P220 hI :) this).2 u1 hn_u1).2.1
  have hl2_u1 := (((CInv_P220 hI :) this).2 u1 hn_u1).2.2.1
  have hw_u1 := (((CInv_P220 hI :) this).2 u1 hn_u1).2.2.2
  obtain ⟨u2, hn_u2⟩ := PBs ((CInv_P229 hI :) this) hk_this
  have hk_u2 := (((CInv_P229 hI :) this).2 u2 hn_u2).1
  have hl1_u2 := (((CInv_P229 hI :) this).2 u2 hn_u2).2.1
  have hl2_u2 := (((CInv_P229 hI :) this).2 u2 hn_u2).2.2.1
  have hw_u2 := (((CInv_P229 hI :) this).2 u2 hn_u2).2.2.2
  obtain ⟨u3, hn_u3⟩ := PBs ((CInv_P3 hI :) u2) hk_u2
  have hk_u3 := (((CInv_P3 hI :) u2).2 u3 hn_u3).1
  have hl1_u3 := (((CInv_P3 hI :) u2).2 u3 hn_u3).2.1
  have hl2_u3 := (((CInv_P3 hI :) u2).2 u3 hn_u3).2.2.1
  have hw_u3 := (((CInv_P3 hI :) u2).2 u3 hn_u3).2.2.2
  have hz_u3 : (Int32.ofNat (ln u3)).toInt = ((ln u3 : Nat) : Int) := ofN_eq (by first | exact Nat.le_trans hl2_u3 (by decide) | omega)
  have hb222 := (CInv_G222 hI :) this
  refine wp_vl (fun m2 em2 => ?_)
  have hg4 : rng (0) 200 m2 := by rw [em2]; exact rng_vup (CInv_G233 hI :) (by omega) (by omega)
  have sm2 : (m2 this).toInt = 0 := by rw [em2, va_up_self]; decide +kernel
  have b5 := hg4 this
  clear em2
  obtain ⟨r7, hc7, hq7⟩ := ok_X11_isStage κ wd (va_up G 233 m2) P U V X O kd ln cnt this p0 (CInv_G222 hI :) (CInv_LN hI :) hk_this
  obtain ⟨f6, f7⟩ : ((0 ≤ r7.toInt ∧ r7.toInt ≤ 1)) ∧ ((r7.toInt = 1 → 0 ≤ p0.toInt ∧ p0.toInt ≤ ((G 222) this).toInt)) := hq7
  refine wp_b1 hc7 ?_
  clear hc7
  refine wp_ite (fun c10 => ?_) (fun c10 => ?_)
  · have c10 := congrArg Int32.toInt c10
    exact ⟨_, rfl, ⟨κ, (show CInv κ wd (va_up G 233 m2) P V O ln cnt from (CInv_i (CInv_G43 hI :) (CInv_G44 hI :) (CInv_G45 hI :) (CInv_G60 hI :) (CInv_G83 hI :) (CInv_G84 hI :) (CInv_G85 hI :) (CInv_G87 hI :) (CInv_G88 hI :) (CInv_G102 hI :) (CInv_G125 hI :) (CInv_G126 hI :) (CInv_G127 hI :) (CInv_G141 hI :) (CInv_G160 hI :) (CInv_G161 hI :) (CInv_G162 hI :) (CInv_G165 hI :) (CInv_G166 hI :) (CInv_G183 hI :) (CInv_G200 hI :) (CInv_G203 hI :) (CInv_G222 hI :) (CInv_G231 hI :) hg4 (CInv_P0 hI :) (CInv_P1 hI :) (CInv_P2 hI :) (CInv_P3 hI :) (CInv_P4 hI :) (CInv_P5 hI :) (CInv_P20 hI :) (CInv_P21 hI :) (CInv_P22 hI :) (CInv_P23 hI :) (CInv_P40 hI :) (CInv_P41 hI :) (CInv_P42 hI :) (CInv_P61 hI :) (CInv_P62 hI :) (CInv_P63 hI :) (CInv_P64 hI :) (CInv_P65 hI :) (CInv_P66 hI :) (CInv_P82 hI :) (CInv_P101 hI :) (CInv_P103 hI :) (CInv_P104 hI :) (CInv_P105 hI :) (CInv_P106 hI :) (CInv_P108 hI :) (CInv_P109 hI :) (CInv_P110 hI :) (CInv_P120 hI :) (CInv_P121 hI :) (CInv_P122 hI :) (CInv_P123 hI :) (CInv_P140 hI :) (CInv_P164 hI :) (CInv_P180 hI :) (CInv_P181 hI :) (CInv_P182 hI :) (CInv_P185 hI :) (CInv_P186 hI :) (CInv_P187 hI :) (CInv_P201 hI :) (CInv_P202 hI :) (CInv_P220 hI :) (CInv_P221 hI :) (CInv_P224 hI :) (CInv_P225 hI :) (CInv_P226 hI :) (CInv_P227 hI :) (CInv_P228 hI :) (CInv_P229 hI :) (CInv_P230 hI :) (CInv_P232 hI :) (CInv_P234 hI :) (CInv_P235 hI :) (CInv_P236 hI :) (CInv_V1 hI :) (CInv_V2 hI :) (CInv_V3 hI :) (CInv_V9 hI :) (CInv_O0 hI :) (CInv_O1 hI :) (CInv_O2 hI :) (CInv_RA hI :) (CInv_RB hI :) (CInv_RI hI :) (CInv_RM103 hI :) (CInv_RM104 hI :) (CInv_RM108 hI :) (CInv_LN hI :) (CInv_FL hI :) (CInv_W0 hI :) (CInv_KC hI :) (CInv_WK hI :))), (fun _ _ => rfl), (show cnt ≤ cnt from by omega), (show (∀ a, κ a ≠ 0 → (P 220) a = (P 220) a) from (fun _ _ => rfl)), (show (∀ a, κ a ≠ 0 → (P 229) a = (P 229) a) from (fun _ _ => rfl)), (show (∀ a, κ a ≠ 0 → (P 3) a = (P 3) a) from (fun _ _ => rfl)), (show (∀ a, κ a ≠ 0 → (G 141) a = (G 141) a) from (fun _ _ => rfl)), (show (∀ a, κ a ≠ 0 → (G 83) a = (G 83) a) from (fun _ _ => rfl)), (show (∀ a, κ a ≠ 0 → (P 82) a = (P 82) a) from (fun _ _ => rfl)), (show (∀ a, κ a ≠ 0 → (P 0) a = (P 0) a) from (fun _ _ => rfl)), (show (∀ a, κ a ≠ 0 → (G 160) a = (G 160) a) from (fun _ _ => rfl)), (show (∀ a, κ a ≠ 0 → ln a = ln a) from (fun _ _ => rfl)), (show (∀ bk fl, (P 229) this = some bk → (P 3) bk = some fl → (((0 : Nat) : Int) + 3 * s7 ((V 3) fl) ≤ 3 * s7 ((V 3) fl)) ∧ (((0 : Nat) : Int) + 2504 * s7 ((V 3) fl) ≤ 2504 * s7 ((V 3) fl))) from by intro bk fl hbk hfl; obtain rfl : u2 = bk := Option.some.inj (hn_u2.symm.trans hbk); obtain rfl : u3 = fl := Option.some.inj (hn_u3.symm.trans hfl); omega)⟩⟩
  · have c10 := z_ne c10
    refine wp_nne hn_u2 ?_
    refine wp_nn (((CInv_P221 hI :) this).1 hk_this) (fun a22 hn_a22 => ?_)
    have hk_a22 := (((CInv_P221 hI :) this).2 a22 hn_a22).1
    have hl1_a22 := (((CInv_P221 hI :) this).2 a22 hn_a22).2.1
    have hl2_a22 := (((CInv_P221 hI :) this).2 a22 hn_a22).2.2.1
    have hw_a22 := (((CInv_P221 hI :) this).2 a22 hn_a22).2.2.2
    have hz_a22 : (Int32.ofNat (ln a22)).toInt = ((ln a22 : Nat) : Int) := ofN_eq (by first | exact Nat.le_trans hl2_a22 (by decide) | omega)
    refine wp_nn (((CInv_P226 hI :) this).1 hk_this) (fun a26 hn_a26 => ?_)
    have hk_a26 := (((CInv_P226 hI :) this).2 a26 hn_a26).1
    have hl1_a26 := (((CInv_P226 hI :) this).2 a26 hn_a26).2.1
    have hl2_a26 := (((CInv_P226 hI :) this).2 a26 hn_a26).2.2.1
    have hw_a26 := (((CInv_P226 hI :) this).2 a26 hn_a26).2.2.2
    obtain ⟨⟨⟨c29_G, c29_P, c29_U, c29_V, c29_X, c29_O, c29_kd, c29_ln, c29_cnt⟩, v1_29, v2_29⟩, hc29, hq29⟩ := ok_X0_fill κ wd (va_up G 233 m2) P U V X O kd ln cnt u2 p0 a22 a26 (CInv_i (CInv_G43 hI :) (CInv_G44 hI :) (CInv_G45 hI :) (CInv_G60 hI :) (CInv_G83 hI :) (CInv_G84 hI :) (CInv_G85 hI :) (CInv_G87 hI :) (CInv_G88 hI :) (CInv_G102 hI :) (CInv_G125 hI :) (CInv_G126 hI :) (CInv_G127 hI :) (CInv_G141 hI :) (CInv_G160 hI :) (CInv_G161 hI :) (CInv_G162 hI :) (CInv_G165 hI :) (CInv_G166 hI :) (CInv_G183 hI :) (CInv_G200 hI :) (CInv_G203 hI :) (CInv_G222 hI :) (CInv_G231 hI :) hg4 (CInv_P0 hI :) (CInv_P1 hI :) (CInv_P2 hI :) (CInv_P3 hI :) (CInv_P4 hI :) (CInv_P5 hI :) (CInv_P20 hI :) (CInv_P21 hI :) (CInv_P22 hI :) (CInv_P23 hI :) (CInv_P40 hI :) (CInv_P41 hI :) (CInv_P42 hI :) (CInv_P61 hI :) (CInv_P62 hI :) (CInv_P63 hI :) (CInv_P64 hI :) (CInv_P65 hI :) (CInv_P66 hI :) (CInv_P82 hI :) (CInv_P101 hI :) (CInv_P103 hI :) (CInv_P104 hI :) (CInv_P105 hI :) (CInv_P106 hI :) (CInv_P108 hI :) (CInv_P109 hI :) (CInv_P110 hI :) (CInv_P120 hI :) (CInv_P121 hI :) (CInv_P122 hI :) (CInv_P123 hI :) (CInv_P140 hI :) (CInv_P164 hI :) (CInv_P180 hI :) (CInv_P181 hI :) (CInv_P182 hI :) (CInv_P185 hI :) (CInv_P186 hI :) (CInv_P187 hI :) (CInv_P201 hI :) (CInv_P202 hI :) (CInv_P220 hI :) (CInv_P221 hI :) (CInv_P224 hI :) (CInv_P225 hI :) (CInv_P226 hI :) (CInv_P227 hI :) (CInv_P228 hI :) (CInv_P229 hI :) (CInv_P230 hI :) (CInv_P232 hI :) (CInv_P234 hI :) (CInv_P235 hI :) (CInv_P236 hI :) (CInv_V1 hI :) (CInv_V2 hI :) (CInv_V3 hI :) (CInv_V9 hI :) (CInv_O0 hI :) (CInv_O1 hI :) (CInv_O2 hI :) (CInv_RA hI :) (CInv_RB hI :) (CInv_RI hI :) (CInv_RM103 hI :) (CInv_RM104 hI :) (CInv_RM108 hI :) (CInv_LN hI :) (CInv_FL hI :) (CInv_W0 hI :) (CInv_KC hI :) (CInv_WK hI :)) hk_u2 hk_a22 hk_a26 (show ln a22 = 6 from by omega)
    obtain ⟨κ29_7, hCI29, hxx29, hcc9, hfr10, hfr11, hfr12, hfr13, hfr14, hfr15, hfr16, hfr17, hfr18, f19, f20⟩ : ∃ κ1 : Nat → Nat, (CInv κ1 wd c29_G c29_P c29_V c29_O c29_ln c29_cnt) ∧ (∀ a, κ a ≠ 0 → κ1 a = κ a) ∧ (cnt ≤ c29_cnt) ∧ ((∀ a, κ a ≠ 0 → (c29_P 220) a = (P 220) a)) ∧ ((∀ a, κ a ≠ 0 → (c29_P 229) a = (P 229) a)) ∧ ((∀ a, κ a ≠ 0 → (c29_P 3) a = (P 3) a)) ∧ ((∀ a, κ a ≠ 0 → (c29_G 141) a = (G 141) a)) ∧ ((∀ a, κ a ≠ 0 → (c29_G 83) a = (G 83) a)) ∧ ((∀ a, κ a ≠ 0 → (c29_P 82) a = (P 82) a)) ∧ ((∀ a, κ a ≠ 0 → (c29_P 0) a = (P 0) a)) ∧ ((∀ a, κ a ≠ 0 → (c29_G 160) a = (G 160) a)) ∧ ((∀ a, κ a ≠ 0 → c29_ln a = ln a)) ∧ ((c29_G 203) wd = (G 203) wd) ∧ ((∀ fl, (P 3) u2 = some fl → (((v1_29 : Nat) : Int) + 3 * s7 ((V 3) fl) ≤ 3 * s7 ((c29_V 3) fl)) ∧ (((v2_29 : Nat) : Int) + 2504 * s7 ((V 3) fl) ≤ 2504 * s7 ((c29_V 3) fl)))) := hq29
    clear hg4
    have kx21 : ∀ a, κ a ≠ 0 → κ29_7 a = κ a := hxx29
    have hk22 : κ29_7 this = 12 := kxk hxx29 hk_this (by decide)
    have hF23 : (∀ a, κ a ≠ 0 → (c29_P 220) a = (P 220) a) := fun a ha => (hfr10 a (ha)).trans (rfl)
    have hF24 : (∀ a, κ a ≠ 0 → (c29_P 229) a = (P 229) a) := fun a ha => (hfr11 a (ha)).trans (rfl)
    have hF25 : (∀ a, κ a ≠ 0 → (c29_P 3) a = (P 3) a) := fun a ha => (hfr12 a (ha)).trans (rfl)
    have hF26 : (∀ a, κ a ≠ 0 → (c29_G 141) a = (G 141) a) := fun a ha => (hfr13 a (ha)).trans (rfl)
    have hF27 : (∀ a, κ a ≠ 0 → (c29_G 83) a = (G 83) a) := fun a ha => (hfr14 a (ha)).trans (rfl)
    have hF28 : (∀ a, κ a ≠ 0 → (c29_P 82) a = (P 82) a) := fun a ha => (hfr15 a (ha)).trans (rfl)
    have hF29 : (∀ a, κ a ≠ 0 → (c29_P 0) a = (P 0) a) := fun a ha => (hfr16 a (ha)).trans (rfl)
    have hF30 : (∀ a, κ a ≠ 0 → (c29_G 160) a = (G 160) a) := fun a ha => (hfr17 a (ha)).trans (rfl)
    have hF31 : (∀ a, κ a ≠ 0 → c29_ln a = ln a) := fun a ha => (hfr18 a (ha)).trans (rfl)
    refine wp_bA9 hc29 ?_
    have hpot := f20 _ hn_u3
    have hT : ((c29_G 141) u1).toInt = ((G 141) u1).toInt := congrArg Int32.toInt (hfr13 u1 (by rw [hk_u1]; decide))
    have lp36 : ∀ (n36 : Nat) (y36_2 : Int32) (y36_3 : Int32) (d36_G233 : Nat → Int32) (d36_V5 : Nat → Nat → Int32), (100 - y36_3.toInt).toNat < n36 → rng (0) 200 d36_G233 → (0 ≤ y36_3.toInt ∧ y36_3.toInt ≤ 100) → (0 ≤ y36_2.toInt ∧ y36_2.toInt ≤ 100 * y36_3.toInt) → wp (L_X11_collisions_36 this p0 c29_G c29_P c29_U c29_V c29_X c29_O c29_kd c29_ln c29_cnt n36 y36_2 y36_3 d36_G233 d36_V5) (sh (QC_X11_collisions κ wd G P U V X O kd ln cnt this p0) (0 + v1_29) (0 + v2_29)) := by
      intro n36
      induction n36 with
      | zero => intro y36_2 y36_3 d36_G233 d36_V5 hm; exact absurd hm (Nat.not_lt_zero _)
      | succ n36 ih36 =>
        intro y36_2 y36_3 d36_G233 d36_V5 hm36 hg32 f33 f34
        show wp (B_X11_collisions_36 this p0 c29_G c29_P c29_U c29_V c29_X c29_O c29_kd c29_ln c29_cnt (L_X11_collisions_36 this p0 c29_G c29_P c29_U c29_V c29_X c29_O c29_kd c29_ln c29_cnt n36) y36_2 y36_3 d36_G233 d36_V5) _
        unfold B_X11_collisions_36
        refine wp_nn (((CInv_P229 hCI29 :) this).1 hk22) (fun a38 hn_a38 => ?_)
        have hk_a38 := (((CInv_P229 hCI29 :) this).2 a38 hn_a38).1
        have hl1_a38 := (((CInv_P229 hCI29 :) this).2 a38 hn_a38).2.1
        have hl2_a38 := (((CInv_P229 hCI29 :) this).2 a38 hn_a38).2.2.1
        have hw_a38 := (((CInv_P229 hCI29 :) this).2 a38 hn_a38).2.2.2
        refine wp_nn (((CInv_P0 hCI29 :) a38).1 hk_a38) (fun a41 hn_a41 => ?_)
        obtain rfl : wd = a41 := ((CInv_W0 hCI29 :) _ _ hn_a41).symm
        have hk_wd := (((CInv_P0 hCI29 :) a38).2 wd hn_a41).1
        have hl1_wd := (((CInv_P0 hCI29 :) a38).2 wd hn_a41).2.1
        have hl2_wd := (((CInv_P0 hCI29 :) a38).2 wd hn_a41).2.2.1
        have hw_wd := (((CInv_P0 hCI29 :) a38).2 wd hn_a41).2.2.2
        have b35 := (CInv_G203 hCI29 :) wd
        refine wp_ite (fun c47 => ?_) (fun c47 => ?_)
        · have c47 := (z_le _ _).mp c47
          exact ⟨_, rfl, ⟨κ29_7, (show CInv κ29_7 wd (va_up c29_G 233 d36_G233) c29_P (va_up c29_V 5 d36_V5) c29_O c29_ln c29_cnt from (CInv_i (CInv_G43 hCI29 :) (CInv_G44 hCI29 :) (CInv_G45 hCI29 :) (CInv_G60 hCI29 :) (CInv_G83 hCI29 :) (CInv_G84 hCI29 :) (CInv_G85 hCI29 :) (CInv_G87 hCI29 :) (CInv_G88 hCI29 :) (CInv_G102 hCI29 :) (CInv_G125 hCI29 :) (CInv_G126 hCI29 :) (CInv_G127 hCI29 :) (CInv_G141 hCI29 :) (CInv_G160 hCI29 :) (CInv_G161 hCI29 :) (CInv_G162 hCI29 :) (CInv_G165 hCI29 :) (CInv_G166 hCI29 :) (CInv_G183 hCI29 :) (CInv_G200 hCI29 :) (CInv_G203 hCI29 :) (CInv_G222 hCI29 :) (CInv_G231 hCI29 :) hg32 (CInv_P0 hCI29 :) (CInv_P1 hCI29 :) (CInv_P2 hCI29 :) (CInv_P3 hCI29 :) (CInv_P4 hCI29 :) (CInv_P5 hCI29 :) (CInv_P20 hCI29 :) (CInv_P21 hCI29 :) (CInv_P22 hCI29 :) (CInv_P23 hCI29 :) (CInv_P40 hCI29 :) (CInv_P41 hCI29 :) (CInv_P42 hCI29 :) (CInv_P61 hCI29 :) (CInv_P62 hCI29 :) (CInv_P63 hCI29 :) (CInv_P64 hCI29 :) (CInv_P65 hCI29 :) (CInv_P66 hCI29 :) (CInv_P82 hCI29 :) (CInv_P101 hCI29 :) (CInv_P103 hCI29 :) (CInv_P104 hCI29 :) (CInv_P105 hCI29 :) (CInv_P106 hCI29 :) (CInv_P108 hCI29 :) (CInv_P109 hCI29 :) (CInv_P110 hCI29 :) (CInv_P120 hCI29 :) (CInv_P121 hCI29 :) (CInv_P122 hCI29 :) (CInv_P123 hCI29 :) (CInv_P140 hCI29 :) (CInv_P164 hCI29 :) (CInv_P180 hCI29 :) (CInv_P181 hCI29 :) (CInv_P182 hCI29 :) (CInv_P185 hCI29 :) (CInv_P186 hCI29 :) (CInv_P187 hCI29 :) (CInv_P201 hCI29 :) (CInv_P202 hCI29 :) (CInv_P220 hCI29 :) (CInv_P221 hCI29 :) (CInv_P224 hCI29 :) (CInv_P225 hCI29 :) (CInv_P226 hCI29 :) (CInv_P227 hCI29 :) (CInv_P228 hCI29 :) (CInv_P229 hCI29 :) (CInv_P230 hCI29 :) (CInv_P232 hCI29 :) (CInv_P234 hCI29 :) (CInv_P235 hCI29 :) (CInv_P236 hCI29 :) (CInv_V1 hCI29 :) (CInv_V2 hCI29 :) (CInv_V3 hCI29 :) (CInv_V9 hCI29 :) (CInv_O0 hCI29 :) (CInv_O1 hCI29 :) (CInv_O2 hCI29 :) (CInv_RA hCI29 :) (CInv_RB hCI29 :) (CInv_RI hCI29 :) (CInv_RM103 hCI29 :) (CInv_RM104 hCI29 :) (CInv_RM108 hCI29 :) (CInv_LN hCI29 :) (CInv_FL hCI29 :) (CInv_W0 hCI29 :) (CInv_KC hCI29 :) (CInv_WK hCI29 :))), kx21, (show cnt ≤ c29_cnt from by omega), (show (∀ a, κ a ≠ 0 → (c29_P 220) a = (P 220) a) from hF23), (show (∀ a, κ a ≠ 0 → (c29_P 229) a = (P 229) a) from hF24), (show (∀ a, κ a ≠ 0 → (c29_P 3) a = (P 3) a) from hF25), (show (∀ a, κ a ≠ 0 → (c29_G 141) a = (G 141) a) from hF26), (show (∀ a, κ a ≠ 0 → (c29_G 83) a = (G 83) a) from hF27), (show (∀ a, κ a ≠ 0 → (c29_P 82) a = (P 82) a) from hF28), (show (∀ a, κ a ≠ 0 → (c29_P 0) a = (P 0) a) from hF29), (show (∀ a, κ a ≠ 0 → (c29_G 160) a = (G 160) a) from hF30), (show (∀ a, κ a ≠ 0 → c29_ln a = ln a) from hF31), (show (∀ bk fl, (P 229) this = some bk → (P 3) bk = some fl → ((((0 + v1_29) : Nat) : Int) + 3 * s7 ((V 3) fl) ≤ 3 * s7 ((c29_V 3) fl)) ∧ ((((0 + v2_29) : Nat) : Int) + 2504 * s7 ((V 3) fl) ≤ 2504 * s7 ((c29_V 3) fl))) from by intro bk fl hbk hfl; obtain rfl : u2 = bk := Option.some.inj (hn_u2.symm.trans hbk); obtain rfl : u3 = fl := Option.some.inj (hn_u3.symm.trans hfl); omega)⟩⟩
        · have c47 := z_nle c47
          have f36 : (y36_3 + 1).toInt = y36_3.toInt + 1 := z_addc (by decide +kernel) (by omega) (by omega)
          refine wp_vl (fun x53 ex53 => ?_)
          have f37 : x53.toInt = (y36_3 + 1).toInt := congrArg Int32.toInt ex53
          clear ex53
          refine wp_jn (fun k105 => ∀ (x105_2 : Int32) (c105_G233 : Nat → Int32) (c105_V5 : Nat → Nat → Int32), rng (0) 200 c105_G233 → (0 ≤ x105_2.toInt ∧ x105_2.toInt ≤ 100 * y36_3.toInt + 100) → wp (k105 x105_2 c105_G233 c105_V5) (sh (QC_X11_collisions κ wd G P U V X O kd ln cnt this p0) (0 + v1_29) (0 + v2_29))) ?_ ?_
          · intro x105_2 c105_G233 c105_V5 hg38 f39
            show wp _ _
            exact ih36 x105_2 (y36_3 + 1) c105_G233 c105_V5 (show (100 - (y36_3 + 1).toInt).toNat < n36 from by omega) hg38 (show (0 ≤ (y36_3 + 1).toInt ∧ (y36_3 + 1).toInt ≤ 100) from by omega) (show (0 ≤ x105_2.toInt ∧ x105_2.toInt ≤ 100 * (y36_3 + 1).toInt) from by omega)
          intro k105 Jk105
          have lp55 : ∀ (n55 : Nat) (y55_2 : Int32) (y55_4 : Int32) (d55_G233 : Nat → Int32) (d55_V5 : Nat → Nat → Int32), (101 - y55_4.toInt).toNat < n55 → rng (0) 200 d55_G233 → (1 ≤ y55_4.toInt ∧ y55_4.toInt ≤ 101) → (0 ≤ y55_2.toInt ∧ y55_2.toInt ≤ 100 * y36_3.toInt + y55_4.toInt - 1) → wp (L_X11_collisions_55 this p0 c29_G c29_P c29_U c29_V c29_X c29_O c29_kd c29_ln c29_cnt y36_3 k105 n55 y55_2 y55_4 d55_G233 d55_V5) (sh (QC_X11_collisions κ wd G P U V X O kd ln cnt this p0) (0 + v1_29) (0 + v2_29)) := by
            intro n55
            induction n55 with
            | zero => intro y55_2 y55_4 d55_G233 d55_V5 hm; exact absurd hm (Nat.not_lt_zero _)
            | succ n55 ih55 =>
              intro y55_2 y55_4 d55_G233 d55_V5 hm55 hg41 f42 f43
              show wp (B_X11_collisions_55 this p0 c29_G c29_P c29_U c29_V c29_X c29_O c29_kd c29_ln c29_cnt y36_3 k105 (L_X11_collisions_55 this p0 c29_G c29_P c29_U c29_V c29_X c29_O c29_kd c29_ln c29_cnt y36_3 k105 n55) y55_2 y55_4 d55_G233 d55_V5) _
              unfold B_X11_collisions_55
              refine wp_nne hn_a38 ?_
              refine wp_nne hn_a41 ?_
              refine wp_ite (fun c67 => ?_) (fun c67 => ?_)
              · have c67 := (z_le _ _).mp c67
                exact Jk105 y55_2 d55_G233 d55_V5 hg41 (show (0 ≤ y55_2.toInt ∧ y55_2.toInt ≤ 100 * y36_3.toInt + 100) from by omega)
              · have c67 := z_nle c67
                refine wp_nne hn_a38 ?_
                obtain ⟨r78, hc78, hq78⟩ := ok_X0_collide κ29_7 wd (va_up c29_G 233 d55_G233) c29_P c29_U (va_up c29_V 5 d55_V5) c29_X c29_O c29_kd c29_ln c29_cnt a38 p0 y36_3 y55_4 (CInv_G200 hCI29 :) (CInv_G203 hCI29 :) (CInv_P1 hCI29 :) (CInv_P5 hCI29 :) (CInv_P201 hCI29 :) (CInv_P202 hCI29 :) (CInv_V1 hCI29 :) (CInv_O1 hCI29 :) (CInv_RA hCI29 :) (CInv_RB hCI29 :) (CInv_RI hCI29 :) (CInv_LN hCI29 :) hk_a38 (show (0 ≤ p0.toInt ∧ p0.toInt ≤ 6) from by omega) (show (0 ≤ y36_3.toInt ∧ y36_3.toInt < 100) from by omega) (show (0 ≤ y55_4.toInt ∧ y55_4.toInt < 100) from by omega)
                have f45 : (0 ≤ r78.toInt ∧ r78.toInt ≤ 1) := hq78
                refine wp_b1 hc78 ?_
                clear hc78
                refine wp_jn (fun j99 => ∀ (x99_2 : Int32) (c99_G233 : Nat → Int32) (c99_V5 : Nat → Nat → Int32), rng (0) 200 c99_G233 → (0 ≤ x99_2.toInt ∧ x99_2.toInt ≤ 100 * y36_3.toInt + y55_4.toInt) → wp (j99 x99_2 c99_G233 c99_V5) (sh (QC_X11_collisions κ wd G P U V X O kd ln cnt this p0) (0 + v1_29) (0 + v2_29))) ?_ ?_
                · intro x99_2 c99_G233 c99_V5 hg46 f47
                  show wp _ _
                  have f48 : (y55_4 + 1).toInt = y55_4.toInt + (1) := z_addc (by decide +kernel) (by omega) (by omega)
                  exact ih55 x99_2 (y55_4 + 1) c99_G233 c99_V5 (show (101 - (y55_4 + 1).toInt).toNat < n55 from by omega) hg46 (show (1 ≤ (y55_4 + 1).toInt ∧ (y55_4 + 1).toInt ≤ 101) from by omega) (show (0 ≤ x99_2.toInt ∧ x99_2.toInt ≤ 100 * y36_3.toInt + (y55_4 + 1).toInt - 1) from by omega)
                intro j99 Jj99
                refine wp_ite (fun c81 => ?_) (fun c81 => ?_)
                · have c81 := congrArg Int32.toInt c81
                  exact Jj99 y55_2 d55_G233 d55_V5 hg41 (show (0 ≤ y55_2.toInt ∧ y55_2.toInt ≤ 100 * y36_3.toInt + y55_4.toInt) from by omega)
                · have c81 := z_ne c81
                  have f49 : (1000 * y36_3).toInt = 1000 * y36_3.toInt := z_muld (by decide +kernel) (by omega) (by omega)
                  have f50 : ((1000 * y36_3) + y55_4).toInt = (1000 * y36_3).toInt + y55_4.toInt := z_add (by omega) (by omega)
                  obtain ⟨⟨c93_G233, c93_V5⟩, hc93, hq93⟩ := ok_X11_notePair κ29_7 wd (va_up c29_G 233 d55_G233) c29_P c29_U (va_up c29_V 5 d55_V5) c29_X c29_O c29_kd c29_ln c29_cnt this ((1000 * y36_3) + y55_4) hg41 (CInv_P232 hCI29 :) (CInv_LN hCI29 :) hk22
                  have hg51 : rng (0) 200 c93_G233 := hq93
                  refine wp_b2 hc93 ?_
                  clear hc93
                  have f52 : (y55_2 + 1).toInt = y55_2.toInt + (1) := z_addc (by decide +kernel) (by omega) (by omega)
                  exact Jj99 (y55_2 + 1) c93_G233 c93_V5 hg51 (show (0 ≤ (y55_2 + 1).toInt ∧ (y55_2 + 1).toInt ≤ 100 * y36_3.toInt + y55_4.toInt) from by omega)
          exact lp55 NN y36_2 x53 d36_G233 d36_V5 (by have := NN_eq; omega) hg32 (show (1 ≤ x53.toInt ∧ x53.toInt ≤ 101) from by omega) (show (0 ≤ y36_2.toInt ∧ y36_2.toInt ≤ 100 * y36_3.toInt + x53.toInt - 1) from by omega)
    exact lp36 NN (0 : Int32) (0 : Int32) (c29_G 233) (c29_V 5) (by have := NN_eq; omega) (CInv_G233 hCI29 :) (show (0 ≤ (0 : Int32).toInt ∧ (0 : Int32).toInt ≤ 100) from by omega) (show (0 ≤ (0 : Int32).toInt ∧ (0 : Int32).toInt ≤ 100 * (0 : Int32).toInt) from by omega)
abbrev QC_X11_rhymes (κ : Nat → Nat) (wd : Nat) (G : Nat → Nat → Int32) (P : Nat → Nat → Option Nat) (U : Nat → Nat → Int64) (V : Nat → Nat → Nat → Int32) (X : Nat → Nat → Nat → Int64) (O : Nat → Nat → Nat → Option Nat) (kd : Nat → Nat) (ln : Nat → Nat) (cnt : Nat) (this : Nat) (p0 : Int32) : ((Int32 × (Nat → Nat → Int32) × (Nat → Nat → Option Nat) × (Nat → Nat → Int64) × (Nat → Nat → Nat → Int32) × (Nat → Nat → Nat → Int64) × (Nat → Nat → Nat → Option Nat) × (Nat → Nat) × (Nat → Nat) × Nat) × Nat × Nat) → Prop := (fun t => ∃ κ1 : Nat → Nat, (CInv κ1 wd (t.1.2.1) (t.1.2.2.1) (t.1.2.2.2.2.1) (t.1.2.2.2.2.2.2.1) (t.1.2.2.2.2.2.2.2.2.1) (t.1.2.2.2.2.2.2.2.2.2)) ∧ (∀ a, κ a ≠ 0 → κ1 a = κ a) ∧ (cnt ≤ (t.1.2.2.2.2.2.2.2.2.2)) ∧ ((∀ a, κ a ≠ 0 → ((t.1.2.2.1) 220) a = (P 220) a)) ∧ ((∀ a, κ a ≠ 0 → ((t.1.2.2.1) 229) a = (P 229) a)) ∧ ((∀ a, κ a ≠ 0 → ((t.1.2.2.1) 3) a = (P 3) a)) ∧ ((∀ a, κ a ≠ 0 → ((t.1.2.1) 141) a = (G 141) a)) ∧ ((∀ a, κ a ≠ 0 → ((t.1.2.1) 83) a = (G 83) a)) ∧ ((∀ a, κ a ≠ 0 → ((t.1.2.2.1) 82) a = (P 82) a)) ∧ ((∀ a, κ a ≠ 0 → ((t.1.2.2.1) 0) a = (P 0) a)) ∧ ((∀ a, κ a ≠ 0 → ((t.1.2.1) 160) a = (G 160) a)) ∧ ((∀ a, κ a ≠ 0 → (t.1.2.2.2.2.2.2.2.2.1) a = ln a)) ∧ ((∀ bk fl, (P 229) this = some bk → (P 3) bk = some fl → ((((t.2.1) : Nat) : Int) + 3 * s7 ((V 3) fl) ≤ 3 * s7 (((t.1.2.2.2.2.1) 3) fl)) ∧ ((((t.2.2) : Nat) : Int) + 2504 * s7 ((V 3) fl) ≤ 2504 * s7 (((t.1.2.2.2.2.1) 3) fl)))))
set_option maxHeartbeats 4000000 in
set_option maxRecDepth 100000 in
theorem ok_X11_rhymes (κ : Nat → Nat) (wd : Nat) (G : Nat → Nat → Int32) (P : Nat → Nat → Option Nat) (U : Nat → Nat → Int64) (V : Nat → Nat → Nat → Int32) (X : Nat → Nat → Nat → Int64) (O : Nat → Nat → Nat → Option Nat) (kd : Nat → Nat) (ln : Nat → Nat) (cnt : Nat) (this : Nat) (p0 : Int32) (hI : CInv κ wd G P V O ln cnt) (hk_this : κ this = 12) : wp (f_X11_rhymes G P U V X O kd ln cnt this p0) (QC_X11_rhymes κ wd G P U V X O kd ln cnt this p0) := by
  unfold f_X11_rhymes
  refine wp_sh0 ?_
  have zkm2 : (-2 : Int32).toInt = -2 := by decide +kernel
  have zk0 : (0 : Int32).toInt = 0 := by decide +kernel
  have zk1 : (1 : Int32).toInt = 1 := by decide +kernel
  have r_p0 := i32r p0
  obtain ⟨u1, hn_u1⟩ := PBs ((CInv_P220 hI :) this) hk_this
  have hk_u1 := (((CInv_P220 hI :) this).2 u1 hn_u1).1
  have hl1_u1 := (((CInv_P220 hI :) this).2 u1 hn_u1).2.1
  have hl2_u1 := (((CInv_P220 hI :) this).2 u1 hn_u1).2.2.1
  have hw_u1 := (((CInv_P220 hI :) this).2 u1 hn_u1).2.2.2
  obtain ⟨u2, hn_u2⟩ := PBs ((CInv_P229 hI :) this) hk_this
  have hk_u2 := (((CInv_P229 hI :) this).2 u2 hn_u2).1
  have hl1_u2 := (((CInv_P229 hI :) this).2 u2 hn_u2).2.1
  have hl2_u2 := (((CInv_P229 hI :) this).2 u2 hn_u2).2.2.1
  have hw_u2 := (((CInv_P229 hI :) this).2 u2 hn_u2).2.2.2
  obtain ⟨u3, hn_u3⟩ := PBs ((CInv_P3 hI :) u2) hk_u2
  have hk_u3 := (((CInv_P3 hI :) u2).2 u3 hn_u3).1
  have hl1_u3 := (((CInv_P3 hI :) u2).2 u3 hn_u3).2.1
  have hl2_u3 := (((CInv_P3 hI :) u2).2 u3 hn_u3).2.2.1
  have hw_u3 := (((CInv_P3 hI :) u2).2 u3 hn_u3).2.2.2
  have hz_u3 : (Int32.ofNat (ln u3)).toInt = ((ln u3 : Nat) : Int) := ofN_eq (by first | exact Nat.le_trans hl2_u3 (by decide) | omega)
  have hb222 := (CInv_G222 hI :) this
  obtain ⟨r2, hc2, hq2⟩ := ok_X11_isStage κ wd G P U V X O kd ln cnt this p0 (CInv_G222 hI :) (CInv_LN hI :) hk_this
  obtain ⟨f4, f5⟩ : ((0 ≤ r2.toInt ∧ r2.toInt ≤ 1)) ∧ ((r2.toInt = 1 → 0 ≤ p0.toInt ∧ p0.toInt ≤ ((G 222) this).toInt)) := hq2
  refine wp_b1 hc2 ?_
  clear hc2
  refine wp_ite (fun c5 => ?_) (fun c5 => ?_)
  · have c5 := congrArg Int32.toInt c5
    exact ⟨_, rfl, ⟨κ, (show CInv κ wd G P V O ln cnt from (CInv_i (CInv_G43 hI :) (CInv_G44 hI :) (CInv_G45 hI :) (CInv_G60 hI :) (CInv_G83 hI :) (CInv_G84 hI :) (CInv_G85 hI :) (CInv_G87 hI :) (CInv_G88 hI :) (CInv_G102 hI :) (CInv_G125 hI :) (CInv_G126 hI :) (CInv_G127 hI :) (CInv_G141 hI :) (CInv_G160 hI :) (CInv_G161 hI :) (CInv_G162 hI :) (CInv_G165 hI :) (CInv_G166 hI :) (CInv_G183 hI :) (CInv_G200 hI :) (CInv_G203 hI :) (CInv_G222 hI :) (CInv_G231 hI :) (CInv_G233 hI :) (CInv_P0 hI :) (CInv_P1 hI :) (CInv_P2 hI :) (CInv_P3 hI :) (CInv_P4 hI :) (CInv_P5 hI :) (CInv_P20 hI :) (CInv_P21 hI :) (CInv_P22 hI :) (CInv_P23 hI :) (CInv_P40 hI :) (CInv_P41 hI :) (CInv_P42 hI :) (CInv_P61 hI :) (CInv_P62 hI :) (CInv_P63 hI :) (CInv_P64 hI :) (CInv_P65 hI :) (CInv_P66 hI :) (CInv_P82 hI :) (CInv_P101 hI :) (CInv_P103 hI :) (CInv_P104 hI :) (CInv_P105 hI :) (CInv_P106 hI :) (CInv_P108 hI :) (CInv_P109 hI :) (CInv_P110 hI :) (CInv_P120 hI :) (CInv_P121 hI :) (CInv_P122 hI :) (CInv_P123 hI :) (CInv_P140 hI :) (CInv_P164 hI :) (CInv_P180 hI :) (CInv_P181 hI :) (CInv_P182 hI :) (CInv_P185 hI :) (CInv_P186 hI :) (CInv_P187 hI :) (CInv_P201 hI :) (CInv_P202 hI :) (CInv_P220 hI :) (CInv_P221 hI :) (CInv_P224 hI :) (CInv_P225 hI :) (CInv_P226 hI :) (CInv_P227 hI :) (CInv_P228 hI :) (CInv_P229 hI :) (CInv_P230 hI :) (CInv_P232 hI :) (CInv_P234 hI :) (CInv_P235 hI :) (CInv_P236 hI :) (CInv_V1 hI :) (CInv_V2 hI :) (CInv_V3 hI :) (CInv_V9 hI :) (CInv_O0 hI :) (CInv_O1 hI :) (CInv_O2 hI :) (CInv_RA hI :) (CInv_RB hI :) (CInv_RI hI :) (CInv_RM103 hI :) (CInv_RM104 hI :) (CInv_RM108 hI :) (CInv_LN hI :) (CInv_FL hI :) (CInv_W0 hI :) (CInv_KC hI :) (CInv_WK hI :))), (fun _ _ => rfl), (show cnt ≤ cnt from by omega), (show (∀ a, κ a ≠ 0 → (P 220) a = (P 220) a) from (fun _ _ => rfl)), (show (∀ a, κ a ≠ 0 → (P 229) a = (P 229) a) from (fun _ _ => rfl)), (show (∀ a, κ a ≠ 0 → (P 3) a = (P 3) a) from (fun _ _ => rfl)), (show (∀ a, κ a ≠ 0 → (G 141) a = (G 141) a) from (fun _ _ => rfl)), (show (∀ a, κ a ≠ 0 → (G 83) a = (G 83) a) from (fun _ _ => rfl)), (show (∀ a, κ a ≠ 0 → (P 82) a = (P 82) a) from (fun _ _ => rfl)), (show (∀ a, κ a ≠ 0 → (P 0) a = (P 0) a) from (fun _ _ => rfl)), (show (∀ a, κ a ≠ 0 → (G 160) a = (G 160) a) from (fun _ _ => rfl)), (show (∀ a, κ a ≠ 0 → ln a = ln a) from (fun _ _ => rfl)), (show (∀ bk fl, (P 229) this = some bk → (P 3) bk = some fl → (((0 : Nat) : Int) + 3 * s7 ((V 3) fl) ≤ 3 * s7 ((V 3) fl)) ∧ (((0 : Nat) : Int) + 2504 * s7 ((V 3) fl) ≤ 2504 * s7 ((V 3) fl))) from by intro bk fl hbk hfl; obtain rfl : u2 = bk := Option.some.inj (hn_u2.symm.trans hbk); obtain rfl : u3 = fl := Option.some.inj (hn_u3.symm.trans hfl); omega)⟩⟩
  · have c5 := z_ne c5
    refine wp_nne hn_u2 ?_
    refine wp_nn (((CInv_P221 hI :) this).1 hk_this) (fun a17 hn_a17 => ?_)
    have hk_a17 := (((CInv_P221 hI :) this).2 a17 hn_a17).1
    have hl1_a17 := (((CInv_P221 hI :) this).2 a17 hn_a17).2.1
    have hl2_a17 := (((CInv_P221 hI :) this).2 a17 hn_a17).2.2.1
    have hw_a17 := (((CInv_P221 hI :) this).2 a17 hn_a17).2.2.2
    have hz_a17 : (Int32.ofNat (ln a17)).toInt = ((ln a17 : Nat) : Int) := ofN_eq (by first | exact Nat.le_trans hl2_a17 (by decide) | omega)
    refine wp_nn (((CInv_P226 hI :) this).1 hk_this) (fun a21 hn_a21 => ?_)
    have hk_a21 := (((CInv_P226 hI :) this).2 a21 hn_a21).1
    have hl1_a21 := (((CInv_P226 hI :) this).2 a21 hn_a21).2.1
    have hl2_a21 := (((CInv_P226 hI :) this).2 a21 hn_a21).2.2.1
    have hw_a21 := (((CInv_P226 hI :) this).2 a21 hn_a21).2.2.2
    obtain ⟨⟨⟨c24_G, c24_P, c24_U, c24_V, c24_X, c24_O, c24_kd, c24_ln, c24_cnt⟩, v1_24, v2_24⟩, hc24, hq24⟩ := ok_X0_fill κ wd G P U V X O kd ln cnt u2 p0 a17 a21 (CInv_i (CInv_G43 hI :) (CInv_G44 hI :) (CInv_G45 hI :) (CInv_G60 hI :) (CInv_G83 hI :) (CInv_G84 hI :) (CInv_G85 hI :) (CInv_G87 hI :) (CInv_G88 hI :) (CInv_G102 hI :) (CInv_G125 hI :) (CInv_G126 hI :) (CInv_G127 hI :) (CInv_G141 hI :) (CInv_G160 hI :) (CInv_G161 hI :) (CInv_G162 hI :) (CInv_G165 hI :) (CInv_G166 hI :) (CInv_G183 hI :) (CInv_G200 hI :) (CInv_G203 hI :) (CInv_G222 hI :) (CInv_G231 hI :) (CInv_G233 hI :) (CInv_P0 hI :) (CInv_P1 hI :) (CInv_P2 hI :) (CInv_P3 hI :) (CInv_P4 hI :) (CInv_P5 hI :) (CInv_P20 hI :) (CInv_P21 hI :) (CInv_P22 hI :) (CInv_P23 hI :) (CInv_P40 hI :) (CInv_P41 hI :) (CInv_P42 hI :) (CInv_P61 hI :) (CInv_P62 hI :) (CInv_P63 hI :) (CInv_P64 hI :) (CInv_P65 hI :) (CInv_P66 hI :) (CInv_P82 hI :) (CInv_P101 hI :) (CInv_P103 hI :) (CInv_P104 hI :) (CInv_P105 hI :) (CInv_P106 hI :) (CInv_P108 hI :) (CInv_P109 hI :) (CInv_P110 hI :) (CInv_P120 hI :) (CInv_P121 hI :) (CInv_P122 hI :) (CInv_P123 hI :) (CInv_P140 hI :) (CInv_P164 hI :) (CInv_P180 hI :) (CInv_P181 hI :) (CInv_P182 hI :) (CInv_P185 hI :) (CInv_P186 hI :) (CInv_P187 hI :) (CInv_P201 hI :) (CInv_P202 hI :) (CInv_P220 hI :) (CInv_P221 hI :) (CInv_P224 hI :) (CInv_P225 hI :) (CInv_P226 hI :) (CInv_P227 hI :) (CInv_P228 hI :) (CInv_P229 hI :) (CInv_P230 hI :) (CInv_P232 hI :) (CInv_P234 hI :) (CInv_P235 hI :) (CInv_P236 hI :) (CInv_V1 hI :) (CInv_V2 hI :) (CInv_V3 hI :) (CInv_V9 hI :) (CInv_O0 hI :) (CInv_O1 hI :) (CInv_O2 hI :) (CInv_RA hI :) (CInv_RB hI :) (CInv_RI hI :) (CInv_RM103 hI :) (CInv_RM104 hI :) (CInv_RM108 hI :) (CInv_LN hI :) (CInv_FL hI :) (CInv_W0 hI :) (CInv_KC hI :) (CInv_WK hI :)) hk_u2 hk_a17 hk_a21 (show ln a17 = 6 from by omega)
    obtain ⟨κ24_5, hCI24, hxx24, hcc7, hfr8, hfr9, hfr10, hfr11, hfr12, hfr13, hfr14, hfr15, hfr16, f17, f18⟩ : ∃ κ1 : Nat → Nat, (CInv κ1 wd c24_G c24_P c24_V c24_O c24_ln c24_cnt) ∧ (∀ a, κ a ≠ 0 → κ1 a = κ a) ∧ (cnt ≤ c24_cnt) ∧ ((∀ a, κ a ≠ 0 → (c24_P 220) a = (P 220) a)) ∧ ((∀ a, κ a ≠ 0 → (c24_P 229) a = (P 229) a)) ∧ ((∀ a, κ a ≠ 0 → (c24_P 3) a = (P 3) a)) ∧ ((∀ a, κ a ≠ 0 → (c24_G 141) a = (G 141) a)) ∧ ((∀ a, κ a ≠ 0 → (c24_G 83) a = (G 83) a)) ∧ ((∀ a, κ a ≠ 0 → (c24_P 82) a = (P 82) a)) ∧ ((∀ a, κ a ≠ 0 → (c24_P 0) a = (P 0) a)) ∧ ((∀ a, κ a ≠ 0 → (c24_G 160) a = (G 160) a)) ∧ ((∀ a, κ a ≠ 0 → c24_ln a = ln a)) ∧ ((c24_G 203) wd = (G 203) wd) ∧ ((∀ fl, (P 3) u2 = some fl → (((v1_24 : Nat) : Int) + 3 * s7 ((V 3) fl) ≤ 3 * s7 ((c24_V 3) fl)) ∧ (((v2_24 : Nat) : Int) + 2504 * s7 ((V 3) fl) ≤ 2504 * s7 ((c24_V 3) fl)))) := hq24
    have kx19 : ∀ a, κ a ≠ 0 → κ24_5 a = κ a := hxx24
    have hk20 : κ24_5 this = 12 := kxk hxx24 hk_this (by decide)
    have hF21 : (∀ a, κ a ≠ 0 → (c24_P 220) a = (P 220) a) := fun a ha => (hfr8 a (ha)).trans (rfl)
    have hF22 : (∀ a, κ a ≠ 0 → (c24_P 229) a = (P 229) a) := fun a ha => (hfr9 a (ha)).trans (rfl)
    have hF23 : (∀ a, κ a ≠ 0 → (c24_P 3) a = (P 3) a) := fun a ha => (hfr10 a (ha)).trans (rfl)
    have hF24 : (∀ a, κ a ≠ 0 → (c24_G 141) a = (G 141) a) := fun a ha => (hfr11 a (ha)).trans (rfl)
    have hF25 : (∀ a, κ a ≠ 0 → (c24_G 83) a = (G 83) a) := fun a ha => (hfr12 a (ha)).trans (rfl)
    have hF26 : (∀ a, κ a ≠ 0 → (c24_P 82) a = (P 82) a) := fun a ha => (hfr13 a (ha)).trans (rfl)
    have hF27 : (∀ a, κ a ≠ 0 → (c24_P 0) a = (P 0) a) := fun a ha => (hfr14 a (ha)).trans (rfl)
    have hF28 : (∀ a, κ a ≠ 0 → (c24_G 160) a = (G 160) a) := fun a ha => (hfr15 a (ha)).trans (rfl)
    have hF29 : (∀ a, κ a ≠ 0 → c24_ln a = ln a) := fun a ha => (hfr16 a (ha)).trans (rfl)
    refine wp_bA9 hc24 ?_
    have hpot := f18 _ hn_u3
    have hT : ((c24_G 141) u1).toInt = ((G 141) u1).toInt := congrArg Int32.toInt (hfr11 u1 (by rw [hk_u1]; decide))
    have lp31 : ∀ (n31 : Nat) (y31_2 : Int32) (y31_3 : Int32), (100 - y31_3.toInt).toNat < n31 → (0 ≤ y31_3.toInt ∧ y31_3.toInt ≤ 100) → (0 ≤ y31_2.toInt ∧ y31_2.toInt ≤ 100 * y31_3.toInt) → wp (L_X11_rhymes_31 this p0 c24_G c24_P c24_U c24_V c24_X c24_O c24_kd c24_ln c24_cnt n31 y31_2 y31_3) (sh (QC_X11_rhymes κ wd G P U V X O kd ln cnt this p0) (0 + v1_24) (0 + v2_24)) := by
      intro n31
      induction n31 with
      | zero => intro y31_2 y31_3 hm; exact absurd hm (Nat.not_lt_zero _)
      | succ n31 ih31 =>
        intro y31_2 y31_3 hm31 f30 f31
        show wp (B_X11_rhymes_31 this p0 c24_G c24_P c24_U c24_V c24_X c24_O c24_kd c24_ln c24_cnt (L_X11_rhymes_31 this p0 c24_G c24_P c24_U c24_V c24_X c24_O c24_kd c24_ln c24_cnt n31) y31_2 y31_3) _
        unfold B_X11_rhymes_31
        refine wp_nn (((CInv_P229 hCI24 :) this).1 hk20) (fun a33 hn_a33 => ?_)
        have hk_a33 := (((CInv_P229 hCI24 :) this).2 a33 hn_a33).1
        have hl1_a33 := (((CInv_P229 hCI24 :) this).2 a33 hn_a33).2.1
        have hl2_a33 := (((CInv_P229 hCI24 :) this).2 a33 hn_a33).2.2.1
        have hw_a33 := (((CInv_P229 hCI24 :) this).2 a33 hn_a33).2.2.2
        refine wp_nn (((CInv_P0 hCI24 :) a33).1 hk_a33) (fun a36 hn_a36 => ?_)
        obtain rfl : wd = a36 := ((CInv_W0 hCI24 :) _ _ hn_a36).symm
        have hk_wd := (((CInv_P0 hCI24 :) a33).2 wd hn_a36).1
        have hl1_wd := (((CInv_P0 hCI24 :) a33).2 wd hn_a36).2.1
        have hl2_wd := (((CInv_P0 hCI24 :) a33).2 wd hn_a36).2.2.1
        have hw_wd := (((CInv_P0 hCI24 :) a33).2 wd hn_a36).2.2.2
        have b32 := (CInv_G203 hCI24 :) wd
        refine wp_ite (fun c42 => ?_) (fun c42 => ?_)
        · have c42 := (z_le _ _).mp c42
          exact ⟨_, rfl, ⟨κ24_5, (show CInv κ24_5 wd c24_G c24_P c24_V c24_O c24_ln c24_cnt from (CInv_i (CInv_G43 hCI24 :) (CInv_G44 hCI24 :) (CInv_G45 hCI24 :) (CInv_G60 hCI24 :) (CInv_G83 hCI24 :) (CInv_G84 hCI24 :) (CInv_G85 hCI24 :) (CInv_G87 hCI24 :) (CInv_G88 hCI24 :) (CInv_G102 hCI24 :) (CInv_G125 hCI24 :) (CInv_G126 hCI24 :) (CInv_G127 hCI24 :) (CInv_G141 hCI24 :) (CInv_G160 hCI24 :) (CInv_G161 hCI24 :) (CInv_G162 hCI24 :) (CInv_G165 hCI24 :) (CInv_G166 hCI24 :) (CInv_G183 hCI24 :) (CInv_G200 hCI24 :) (CInv_G203 hCI24 :) (CInv_G222 hCI24 :) (CInv_G231 hCI24 :) (CInv_G233 hCI24 :) (CInv_P0 hCI24 :) (CInv_P1 hCI24 :) (CInv_P2 hCI24 :) (CInv_P3 hCI24 :) (CInv_P4 hCI24 :) (CInv_P5 hCI24 :) (CInv_P20 hCI24 :) (CInv_P21 hCI24 :) (CInv_P22 hCI24 :) (CInv_P23 hCI24 :) (CInv_P40 hCI24 :) (CInv_P41 hCI24 :) (CInv_P42 hCI24 :) (CInv_P61 hCI24 :) (CInv_P62 hCI24 :) (CInv_P63 hCI24 :) (CInv_P64 hCI24 :) (CInv_P65 hCI24 :) (CInv_P66 hCI24 :) (CInv_P82 hCI24 :) (CInv_P101 hCI24 :) (CInv_P103 hCI24 :) (CInv_P104 hCI24 :) (CInv_P105 hCI24 :) (CInv_P106 hCI24 :) (CInv_P108 hCI24 :) (CInv_P109 hCI24 :) (CInv_P110 hCI24 :) (CInv_P120 hCI24 :) (CInv_P121 hCI24 :) (CInv_P122 hCI24 :) (CInv_P123 hCI24 :) (CInv_P140 hCI24 :) (CInv_P164 hCI24 :) (CInv_P180 hCI24 :) (CInv_P181 hCI24 :) (CInv_P182 hCI24 :) (CInv_P185 hCI24 :) (CInv_P186 hCI24 :) (CInv_P187 hCI24 :) (CInv_P201 hCI24 :) (CInv_P202 hCI24 :) (CInv_P220 hCI24 :) (CInv_P221 hCI24 :) (CInv_P224 hCI24 :) (CInv_P225 hCI24 :) (CInv_P226 hCI24 :) (CInv_P227 hCI24 :) (CInv_P228 hCI24 :) (CInv_P229 hCI24 :) (CInv_P230 hCI24 :) (CInv_P232 hCI24 :) (CInv_P234 hCI24 :) (CInv_P235 hCI24 :) (CInv_P236 hCI24 :) (CInv_V1 hCI24 :) (CInv_V2 hCI24 :) (CInv_V3 hCI24 :) (CInv_V9 hCI24 :) (CInv_O0 hCI24 :) (CInv_O1 hCI24 :) (CInv_O2 hCI24 :) (CInv_RA hCI24 :) (CInv_RB hCI24 :) (CInv_RI hCI24 :) (CInv_RM103 hCI24 :) (CInv_RM104 hCI24 :) (CInv_RM108 hCI24 :) (CInv_LN hCI24 :) (CInv_FL hCI24 :) (CInv_W0 hCI24 :) (CInv_KC hCI24 :) (CInv_WK hCI24 :))), kx19, (show cnt ≤ c24_cnt from by omega), (show (∀ a, κ a ≠ 0 → (c24_P 220) a = (P 220) a) from hF21), (show (∀ a, κ a ≠ 0 → (c24_P 229) a = (P 229) a) from hF22), (show (∀ a, κ a ≠ 0 → (c24_P 3) a = (P 3) a) from hF23), (show (∀ a, κ a ≠ 0 → (c24_G 141) a = (G 141) a) from hF24), (show (∀ a, κ a ≠ 0 → (c24_G 83) a = (G 83) a) from hF25), (show (∀ a, κ a ≠ 0 → (c24_P 82) a = (P 82) a) from hF26), (show (∀ a, κ a ≠ 0 → (c24_P 0) a = (P 0) a) from hF27), (show (∀ a, κ a ≠ 0 → (c24_G 160) a = (G 160) a) from hF28), (show (∀ a, κ a ≠ 0 → c24_ln a = ln a) from hF29), (show (∀ bk fl, (P 229) this = some bk → (P 3) bk = some fl → ((((0 + v1_24) : Nat) : Int) + 3 * s7 ((V 3) fl) ≤ 3 * s7 ((c24_V 3) fl)) ∧ ((((0 + v2_24) : Nat) : Int) + 2504 * s7 ((V 3) fl) ≤ 2504 * s7 ((c24_V 3) fl))) from by intro bk fl hbk hfl; obtain rfl : u2 = bk := Option.some.inj (hn_u2.symm.trans hbk); obtain rfl : u3 = fl := Option.some.inj (hn_u3.symm.trans hfl); omega)⟩⟩
        · have c42 := z_nle c42
          have f33 : (y31_3 + 1).toInt = y31_3.toInt + 1 := z_addc (by decide +kernel) (by omega) (by omega)
          refine wp_vl (fun x48 ex48 => ?_)
          have f34 : x48.toInt = (y31_3 + 1).toInt := congrArg Int32.toInt ex48
          clear ex48
          refine wp_jn (fun k111 => ∀ (x111_2 : Int32), (0 ≤ x111_2.toInt ∧ x111_2.toInt ≤ 100 * y31_3.toInt + 100) → wp (k111 x111_2) (sh (QC_X11_rhymes κ wd G P U V X O kd ln cnt this p0) (0 + v1_24) (0 + v2_24))) ?_ ?_
          · intro x111_2 f35
            show wp _ _
            exact ih31 x111_2 (y31_3 + 1) (show (100 - (y31_3 + 1).toInt).toNat < n31 from by omega) (show (0 ≤ (y31_3 + 1).toInt ∧ (y31_3 + 1).toInt ≤ 100) from by omega) (show (0 ≤ x111_2.toInt ∧ x111_2.toInt ≤ 100 * (y31_3 + 1).toInt) from by omega)
          intro k111 Jk111
          have lp50 : ∀ (n50 : Nat) (y50_2 : Int32) (y50_4 : Int32), (101 - y50_4.toInt).toNat < n50 → (1 ≤ y50_4.toInt ∧ y50_4.toInt ≤ 101) → (0 ≤ y50_2.toInt ∧ y50_2.toInt ≤ 100 * y31_3.toInt + y50_4.toInt - 1) → wp (L_X11_rhymes_50 this p0 c24_G c24_P c24_U c24_V c24_X c24_O c24_kd c24_ln c24_cnt y31_3 k111 n50 y50_2 y50_4) (sh (QC_X11_rhymes κ wd G P U V X O kd ln cnt this p0) (0 + v1_24) (0 + v2_24)) := by
            intro n50
            induction n50 with
            | zero => intro y50_2 y50_4 hm; exact absurd hm (Nat.not_lt_zero _)
            | succ n50 ih50 =>
              intro y50_2 y50_4 hm50 f37 f38
              show wp (B_X11_rhymes_50 this p0 c24_G c24_P c24_U c24_V c24_X c24_O c24_kd c24_ln c24_cnt y31_3 k111 (L_X11_rhymes_50 this p0 c24_G c24_P c24_U c24_V c24_X c24_O c24_kd c24_ln c24_cnt y31_3 k111 n50) y50_2 y50_4) _
              unfold B_X11_rhymes_50
              refine wp_nne hn_a33 ?_
              refine wp_nne hn_a36 ?_
              refine wp_ite (fun c62 => ?_) (fun c62 => ?_)
              · have c62 := (z_le _ _).mp c62
                exact Jk111 y50_2 (show (0 ≤ y50_2.toInt ∧ y50_2.toInt ≤ 100 * y31_3.toInt + 100) from by omega)
              · have c62 := z_nle c62
                refine wp_nne hn_a33 ?_
                refine wp_nne hn_a36 ?_
                refine wp_nne hn_a33 ?_
                refine wp_nne hn_a36 ?_
                obtain ⟨r82, hc82, hq82⟩ := ok_X10_endsAlike κ24_5 wd c24_G c24_P c24_U c24_V c24_X c24_O c24_kd c24_ln c24_cnt wd y31_3 wd y50_4 (CInv_G200 hCI24 :) (CInv_G203 hCI24 :) (CInv_P201 hCI24 :) (CInv_P202 hCI24 :) (CInv_V1 hCI24 :) (CInv_RA hCI24 :) (CInv_RB hCI24 :) (CInv_RI hCI24 :) (CInv_LN hCI24 :) hk_wd hk_wd (show (0 ≤ y31_3.toInt ∧ y31_3.toInt < ((c24_G 203) wd).toInt) from by omega) (show (0 ≤ y50_4.toInt ∧ y50_4.toInt < ((c24_G 203) wd).toInt) from by omega)
                have f40 : (0 ≤ r82.toInt ∧ r82.toInt ≤ 1) := hq82
                refine wp_b1 hc82 ?_
                clear hc82
                refine wp_jn (fun j105 => ∀ (x105_2 : Int32), (0 ≤ x105_2.toInt ∧ x105_2.toInt ≤ 100 * y31_3.toInt + y50_4.toInt) → wp (j105 x105_2) (sh (QC_X11_rhymes κ wd G P U V X O kd ln cnt this p0) (0 + v1_24) (0 + v2_24))) ?_ ?_
                · intro x105_2 f41
                  show wp _ _
                  have f42 : (y50_4 + 1).toInt = y50_4.toInt + (1) := z_addc (by decide +kernel) (by omega) (by omega)
                  exact ih50 x105_2 (y50_4 + 1) (show (101 - (y50_4 + 1).toInt).toNat < n50 from by omega) (show (1 ≤ (y50_4 + 1).toInt ∧ (y50_4 + 1).toInt ≤ 101) from by omega) (show (0 ≤ x105_2.toInt ∧ x105_2.toInt ≤ 100 * y31_3.toInt + (y50_4 + 1).toInt - 1) from by omega)
                intro j105 Jj105
                refine wp_ite (fun c85 => ?_) (fun c85 => ?_)
                · have c85 := congrArg Int32.toInt c85
                  exact Jj105 y50_2 (show (0 ≤ y50_2.toInt ∧ y50_2.toInt ≤ 100 * y31_3.toInt + y50_4.toInt) from by omega)
                · have c85 := z_ne c85
                  refine wp_nne hn_a33 ?_
                  obtain ⟨r96, hc96, hq96⟩ := ok_X0_formsRhyme κ24_5 wd c24_G c24_P c24_U c24_V c24_X c24_O c24_kd c24_ln c24_cnt a33 p0 y31_3 y50_4 (CInv_G200 hCI24 :) (CInv_G203 hCI24 :) (CInv_P1 hCI24 :) (CInv_P5 hCI24 :) (CInv_P201 hCI24 :) (CInv_P202 hCI24 :) (CInv_V1 hCI24 :) (CInv_O1 hCI24 :) (CInv_RA hCI24 :) (CInv_RB hCI24 :) (CInv_RI hCI24 :) (CInv_LN hCI24 :) hk_a33 (show (0 ≤ p0.toInt ∧ p0.toInt ≤ 6) from by omega) (show (0 ≤ y31_3.toInt ∧ y31_3.toInt < 100) from by omega) (show (0 ≤ y50_4.toInt ∧ y50_4.toInt < 100) from by omega)
                  have f43 : (0 ≤ r96.toInt ∧ r96.toInt ≤ 1) := hq96
                  refine wp_b1 hc96 ?_
                  clear hc96
                  refine wp_ite (fun c99 => ?_) (fun c99 => ?_)
                  · have c99 := congrArg Int32.toInt c99
                    have f44 : (y50_2 + 1).toInt = y50_2.toInt + (1) := z_addc (by decide +kernel) (by omega) (by omega)
                    exact Jj105 (y50_2 + 1) (show (0 ≤ (y50_2 + 1).toInt ∧ (y50_2 + 1).toInt ≤ 100 * y31_3.toInt + y50_4.toInt) from by omega)
                  · have c99 := z_ne c99
                    exact Jj105 y50_2 (show (0 ≤ y50_2.toInt ∧ y50_2.toInt ≤ 100 * y31_3.toInt + y50_4.toInt) from by omega)
          exact lp50 NN y31_2 x48 (by have := NN_eq; omega) (show (1 ≤ x48.toInt ∧ x48.toInt ≤ 101) from by omega) (show (0 ≤ y31_2.toInt ∧ y31_2.toInt ≤ 100 * y31_3.toInt + x48.toInt - 1) from by omega)
    exact lp31 NN (0 : Int32) (0 : Int32) (by have := NN_eq; omega) (show (0 ≤ (0 : Int32).toInt ∧ (0 : Int32).toInt ≤ 100) from by omega) (show (0 ≤ (0 : Int32).toInt ∧ (0 : Int32).toInt ≤ 100 * (0 : Int32).toInt) from by omega)
abbrev QC_X11_tell (κ : Nat → Nat) (wd : Nat) (G : Nat → Nat → Int32) (P : Nat → Nat → Option Nat) (U : Nat → Nat → Int64) (V : Nat → Nat → Nat → Int32) (X : Nat → Nat → Nat → Int64) (O : Nat → Nat → Nat → Option Nat) (kd : Nat → Nat) (ln : Nat → Nat) (cnt : Nat) (this : Nat) (p0 : Int32) (p1 : Int32) : ((Int32 × (Nat → Nat → Int32) × (Nat → Nat → Option Nat) × (Nat → Nat → Int64) × (Nat → Nat → Nat → Int32) × (Nat → Nat → Nat → Int64) × (Nat → Nat → Nat → Option Nat) × (Nat → Nat) × (Nat → Nat) × Nat) × Nat × Nat) → Prop := (fun t => ∃ κ1 : Nat → Nat, (CInv κ1 wd (t.1.2.1) (t.1.2.2.1) (t.1.2.2.2.2.1) (t.1.2.2.2.2.2.2.1) (t.1.2.2.2.2.2.2.2.2.1) (t.1.2.2.2.2.2.2.2.2.2)) ∧ (∀ a, κ a ≠ 0 → κ1 a = κ a) ∧ (cnt ≤ (t.1.2.2.2.2.2.2.2.2.2)) ∧ ((∀ a, κ a ≠ 0 → ((t.1.2.2.1) 220) a = (P 220) a)) ∧ ((∀ a, κ a ≠ 0 → ((t.1.2.2.1) 229) a = (P 229) a)) ∧ ((∀ a, κ a ≠ 0 → ((t.1.2.2.1) 3) a = (P 3) a)) ∧ ((∀ a, κ a ≠ 0 → ((t.1.2.1) 141) a = (G 141) a)) ∧ ((∀ a, κ a ≠ 0 → ((t.1.2.1) 83) a = (G 83) a)) ∧ ((∀ a, κ a ≠ 0 → ((t.1.2.2.1) 82) a = (P 82) a)) ∧ ((∀ a, κ a ≠ 0 → ((t.1.2.2.1) 0) a = (P 0) a)) ∧ ((∀ a, κ a ≠ 0 → ((t.1.2.1) 160) a = (G 160) a)) ∧ ((∀ a, κ a ≠ 0 → (t.1.2.2.2.2.2.2.2.2.1) a = ln a)) ∧ ((∀ bk fl, (P 229) this = some bk → (P 3) bk = some fl → ((((t.2.1) : Nat) : Int) + 3 * s7 ((V 3) fl) ≤ 3 * s7 (((t.1.2.2.2.2.1) 3) fl)) ∧ ((((t.2.2) : Nat) : Int) + 2504 * s7 ((V 3) fl) ≤ 2504 * s7 (((t.1.2.2.2.2.1) 3) fl)))))
set_option maxHeartbeats 4000000 in
set_option maxRecDepth 100000 in
theorem ok_X11_tell (κ : Nat → Nat) (wd : Nat) (G : Nat → Nat → Int32) (P : Nat → Nat → Option Nat) (U : Nat → Nat → Int64) (V : Nat → Nat → Nat → Int32) (X : Nat → Nat → Nat → Int64) (O : Nat → Nat → Nat → Option Nat) (kd : Nat → Nat) (ln : Nat → Nat) (cnt : Nat) (this : Nat) (p0 : Int32) (p1 : Int32) (hI : CInv κ wd G P V O ln cnt) (hk_this : κ this = 12) : wp (f_X11_tell G P U V X O kd ln cnt this p0 p1) (QC_X11_tell κ wd G P U V X O kd ln cnt this p0 p1) := by
  unfold f_X11_tell
  refine wp_sh0 ?_
  have zkm2 : (-2 : Int32).toInt = -2 := by decide +kernel
  have zk0 : (0 : Int32).toInt = 0 := by decide +kernel
  have zk2 : (2 : Int32).toInt = 2 := by decide +kernel
  have r_p0 := i32r p0
  have r_p1 := i32r p1
  obtain ⟨u1, hn_u1⟩ := PBs ((CInv_P220 hI :) this) hk_this
  have hk_u1 := (((CInv_P220 hI :) this).2 u1 hn_u1).1
  have hl1_u1 := (((CInv_P220 hI :) this).2 u1 hn_u1).2.1
  have hl2_u1 := (((CInv_P220 hI :) this).2 u1 hn_u1).2.2.1
  have hw_u1 := (((CInv_P220 hI :) this).2 u1 hn_u1).2.2.2
  obtain ⟨u2, hn_u2⟩ := PBs ((CInv_P229 hI :) this) hk_this
  have hk_u2 := (((CInv_P229 hI :) this).2 u2 hn_u2).1
  have hl1_u2 := (((CInv_P229 hI :) this).2 u2 hn_u2).2.1
  have hl2_u2 := (((CInv_P229 hI :) this).2 u2 hn_u2).2.2.1
  have hw_u2 := (((CInv_P229 hI :) this).2 u2 hn_u2).2.2.2
  obtain ⟨u3, hn_u3⟩ := PBs ((CInv_P3 hI :) u2) hk_u2
  have hk_u3 := (((CInv_P3 hI :) u2).2 u3 hn_u3).1
  have hl1_u3 := (((CInv_P3 hI :) u2).2 u3 hn_u3).2.1
  have hl2_u3 := (((CInv_P3 hI :) u2).2 u3 hn_u3).2.2.1
  have hw_u3 := (((CInv_P3 hI :) u2).2 u3 hn_u3).2.2.2
  have hz_u3 : (Int32.ofNat (ln u3)).toInt = ((ln u3 : Nat) : Int) := ofN_eq (by first | exact Nat.le_trans hl2_u3 (by decide) | omega)
  have hb222 := (CInv_G222 hI :) this
  obtain ⟨r2, hc2, hq2⟩ := ok_X11_isStage κ wd G P U V X O kd ln cnt this p0 (CInv_G222 hI :) (CInv_LN hI :) hk_this
  obtain ⟨f4, f5⟩ : ((0 ≤ r2.toInt ∧ r2.toInt ≤ 1)) ∧ ((r2.toInt = 1 → 0 ≤ p0.toInt ∧ p0.toInt ≤ ((G 222) this).toInt)) := hq2
  refine wp_b1 hc2 ?_
  clear hc2
  refine wp_jn (fun j17 => wp (j17 ()) (sh (QC_X11_tell κ wd G P U V X O kd ln cnt this p0 p1) 0 0)) ?_ ?_
  · show wp _ _
    exact ⟨_, rfl, ⟨κ, (show CInv κ wd G P V O ln cnt from (CInv_i (CInv_G43 hI :) (CInv_G44 hI :) (CInv_G45 hI :) (CInv_G60 hI :) (CInv_G83 hI :) (CInv_G84 hI :) (CInv_G85 hI :) (CInv_G87 hI :) (CInv_G88 hI :) (CInv_G102 hI :) (CInv_G125 hI :) (CInv_G126 hI :) (CInv_G127 hI :) (CInv_G141 hI :) (CInv_G160 hI :) (CInv_G161 hI :) (CInv_G162 hI :) (CInv_G165 hI :) (CInv_G166 hI :) (CInv_G183 hI :) (CInv_G200 hI :) (CInv_G203 hI :) (CInv_G222 hI :) (CInv_G231 hI :) (CInv_G233 hI :) (CInv_P0 hI :) (CInv_P1 hI :) (CInv_P2 hI :) (CInv_P3 hI :) (CInv_P4 hI :) (CInv_P5 hI :) (CInv_P20 hI :) (CInv_P21 hI :) (CInv_P22 hI :) (CInv_P23 hI :) (CInv_P40 hI :) (CInv_P41 hI :) (CInv_P42 hI :) (CInv_P61 hI :) (CInv_P62 hI :) (CInv_P63 hI :) (CInv_P64 hI :) (CInv_P65 hI :) (CInv_P66 hI :) (CInv_P82 hI :) (CInv_P101 hI :) (CInv_P103 hI :) (CInv_P104 hI :) (CInv_P105 hI :) (CInv_P106 hI :) (CInv_P108 hI :) (CInv_P109 hI :) (CInv_P110 hI :) (CInv_P120 hI :) (CInv_P121 hI :) (CInv_P122 hI :) (CInv_P123 hI :) (CInv_P140 hI :) (CInv_P164 hI :) (CInv_P180 hI :) (CInv_P181 hI :) (CInv_P182 hI :) (CInv_P185 hI :) (CInv_P186 hI :) (CInv_P187 hI :) (CInv_P201 hI :) (CInv_P202 hI :) (CInv_P220 hI :) (CInv_P221 hI :) (CInv_P224 hI :) (CInv_P225 hI :) (CInv_P226 hI :) (CInv_P227 hI :) (CInv_P228 hI :) (CInv_P229 hI :) (CInv_P230 hI :) (CInv_P232 hI :) (CInv_P234 hI :) (CInv_P235 hI :) (CInv_P236 hI :) (CInv_V1 hI :) (CInv_V2 hI :) (CInv_V3 hI :) (CInv_V9 hI :) (CInv_O0 hI :) (CInv_O1 hI :) (CInv_O2 hI :) (CInv_RA hI :) (CInv_RB hI :) (CInv_RI hI :) (CInv_RM103 hI :) (CInv_RM104 hI :) (CInv_RM108 hI :) (CInv_LN hI :) (CInv_FL hI :) (CInv_W0 hI :) (CInv_KC hI :) (CInv_WK hI :))), (fun _ _ => rfl), (show cnt ≤ cnt from by omega), (show (∀ a, κ a ≠ 0 → (P 220) a = (P 220) a) from (fun _ _ => rfl)), (show (∀ a, κ a ≠ 0 → (P 229) a = (P 229) a) from (fun _ _ => rfl)), (show (∀ a, κ a ≠ 0 → (P 3) a = (P 3) a) from (fun _ _ => rfl)), (show (∀ a, κ a ≠ 0 → (G 141) a = (G 141) a) from (fun _ _ => rfl)), (show (∀ a, κ a ≠ 0 → (G 83) a = (G 83) a) from (fun _ _ => rfl)), (show (∀ a, κ a ≠ 0 → (P 82) a = (P 82) a) from (fun _ _ => rfl)), (show (∀ a, κ a ≠ 0 → (P 0) a = (P 0) a) from (fun _ _ => rfl)), (show (∀ a, κ a ≠ 0 → (G 160) a = (G 160) a) from (fun _ _ => rfl)), (show (∀ a, κ a ≠ 0 → ln a = ln a) from (fun _ _ => rfl)), (show (∀ bk fl, (P 229) this = some bk → (P 3) bk = some fl → (((0 : Nat) : Int) + 3 * s7 ((V 3) fl) ≤ 3 * s7 ((V 3) fl)) ∧ (((0 : Nat) : Int) + 2504 * s7 ((V 3) fl) ≤ 2504 * s7 ((V 3) fl))) from by intro bk fl hbk hfl; obtain rfl : u2 = bk := Option.some.inj (hn_u2.symm.trans hbk); obtain rfl : u3 = fl := Option.some.inj (hn_u3.symm.trans hfl); omega)⟩⟩
  intro j17 Jj17
  refine wp_ite (fun c5 => ?_) (fun c5 => ?_)
  · have c5 := congrArg Int32.toInt c5
    exact Jj17
  · have c5 := z_ne c5
    refine wp_ite (fun c9 => ?_) (fun c9 => ?_)
    · have c9 := (z_lt _ _).mp c9
      exact Jj17
    · have c9 := z_nlt c9
      refine wp_ite (fun c14 => ?_) (fun c14 => ?_)
      · have c14 := (z_le _ _).mp c14
        refine wp_nne hn_u2 ?_
        refine wp_nn (((CInv_P221 hI :) this).1 hk_this) (fun a26 hn_a26 => ?_)
        have hk_a26 := (((CInv_P221 hI :) this).2 a26 hn_a26).1
        have hl1_a26 := (((CInv_P221 hI :) this).2 a26 hn_a26).2.1
        have hl2_a26 := (((CInv_P221 hI :) this).2 a26 hn_a26).2.2.1
        have hw_a26 := (((CInv_P221 hI :) this).2 a26 hn_a26).2.2.2
        have hz_a26 : (Int32.ofNat (ln a26)).toInt = ((ln a26 : Nat) : Int) := ofN_eq (by first | exact Nat.le_trans hl2_a26 (by decide) | omega)
        refine wp_nn (((CInv_P226 hI :) this).1 hk_this) (fun a30 hn_a30 => ?_)
        have hk_a30 := (((CInv_P226 hI :) this).2 a30 hn_a30).1
        have hl1_a30 := (((CInv_P226 hI :) this).2 a30 hn_a30).2.1
        have hl2_a30 := (((CInv_P226 hI :) this).2 a30 hn_a30).2.2.1
        have hw_a30 := (((CInv_P226 hI :) this).2 a30 hn_a30).2.2.2
        obtain ⟨⟨⟨c33_G, c33_P, c33_U, c33_V, c33_X, c33_O, c33_kd, c33_ln, c33_cnt⟩, v1_33, v2_33⟩, hc33, hq33⟩ := ok_X0_fill κ wd G P U V X O kd ln cnt u2 p0 a26 a30 (CInv_i (CInv_G43 hI :) (CInv_G44 hI :) (CInv_G45 hI :) (CInv_G60 hI :) (CInv_G83 hI :) (CInv_G84 hI :) (CInv_G85 hI :) (CInv_G87 hI :) (CInv_G88 hI :) (CInv_G102 hI :) (CInv_G125 hI :) (CInv_G126 hI :) (CInv_G127 hI :) (CInv_G141 hI :) (CInv_G160 hI :) (CInv_G161 hI :) (CInv_G162 hI :) (CInv_G165 hI :) (CInv_G166 hI :) (CInv_G183 hI :) (CInv_G200 hI :) (CInv_G203 hI :) (CInv_G222 hI :) (CInv_G231 hI :) (CInv_G233 hI :) (CInv_P0 hI :) (CInv_P1 hI :) (CInv_P2 hI :) (CInv_P3 hI :) (CInv_P4 hI :) (CInv_P5 hI :) (CInv_P20 hI :) (CInv_P21 hI :) (CInv_P22 hI :) (CInv_P23 hI :) (CInv_P40 hI :) (CInv_P41 hI :) (CInv_P42 hI :) (CInv_P61 hI :) (CInv_P62 hI :) (CInv_P63 hI :) (CInv_P64 hI :) (CInv_P65 hI :) (CInv_P66 hI :) (CInv_P82 hI :) (CInv_P101 hI :) (CInv_P103 hI :) (CInv_P104 hI :) (CInv_P105 hI :) (CInv_P106 hI :) (CInv_P108 hI :) (CInv_P109 hI :) (CInv_P110 hI :) (CInv_P120 hI :) (CInv_P121 hI :) (CInv_P122 hI :) (CInv_P123 hI :) (CInv_P140 hI :) (CInv_P164 hI :) (CInv_P180 hI :) (CInv_P181 hI :) (CInv_P182 hI :) (CInv_P185 hI :) (CInv_P186 hI :) (CInv_P187 hI :) (CInv_P201 hI :) (CInv_P202 hI :) (CInv_P220 hI :) (CInv_P221 hI :) (CInv_P224 hI :) (CInv_P225 hI :) (CInv_P226 hI :) (CInv_P227 hI :) (CInv_P228 hI :) (CInv_P229 hI :) (CInv_P230 hI :) (CInv_P232 hI :) (CInv_P234 hI :) (CInv_P235 hI :) (CInv_P236 hI :) (CInv_V1 hI :) (CInv_V2 hI :) (CInv_V3 hI :) (CInv_V9 hI :) (CInv_O0 hI :) (CInv_O1 hI :) (CInv_O2 hI :) (CInv_RA hI :) (CInv_RB hI :) (CInv_RI hI :) (CInv_RM103 hI :) (CInv_RM104 hI :) (CInv_RM108 hI :) (CInv_LN hI :) (CInv_FL hI :) (CInv_W0 hI :) (CInv_KC hI :) (CInv_WK hI :)) hk_u2 hk_a26 hk_a30 (show ln a26 = 6 from by omega)
        obtain ⟨κ33_5, hCI33, hxx33, hcc7, hfr8, hfr9, hfr10, hfr11, hfr12, hfr13, hfr14, hfr15, hfr16, f17, f18⟩ : ∃ κ1 : Nat → Nat, (CInv κ1 wd c33_G c33_P c33_V c33_O c33_ln c33_cnt) ∧ (∀ a, κ a ≠ 0 → κ1 a = κ a) ∧ (cnt ≤ c33_cnt) ∧ ((∀ a, κ a ≠ 0 → (c33_P 220) a = (P 220) a)) ∧ ((∀ a, κ a ≠ 0 → (c33_P 229) a = (P 229) a)) ∧ ((∀ a, κ a ≠ 0 → (c33_P 3) a = (P 3) a)) ∧ ((∀ a, κ a ≠ 0 → (c33_G 141) a = (G 141) a)) ∧ ((∀ a, κ a ≠ 0 → (c33_G 83) a = (G 83) a)) ∧ ((∀ a, κ a ≠ 0 → (c33_P 82) a = (P 82) a)) ∧ ((∀ a, κ a ≠ 0 → (c33_P 0) a = (P 0) a)) ∧ ((∀ a, κ a ≠ 0 → (c33_G 160) a = (G 160) a)) ∧ ((∀ a, κ a ≠ 0 → c33_ln a = ln a)) ∧ ((c33_G 203) wd = (G 203) wd) ∧ ((∀ fl, (P 3) u2 = some fl → (((v1_33 : Nat) : Int) + 3 * s7 ((V 3) fl) ≤ 3 * s7 ((c33_V 3) fl)) ∧ (((v2_33 : Nat) : Int) + 2504 * s7 ((V 3) fl) ≤ 2504 * s7 ((c33_V 3) fl)))) := hq33
        have kx19 : ∀ a, κ a ≠ 0 → κ33_5 a = κ a := hxx33
        have hk20 : κ33_5 this = 12 := kxk hxx33 hk_this (by decide)
        have hF21 : (∀ a, κ a ≠ 0 → (c33_P 220) a = (P 220) a) := fun a ha => (hfr8 a (ha)).trans (rfl)
        have hF22 : (∀ a, κ a ≠ 0 → (c33_P 229) a = (P 229) a) := fun a ha => (hfr9 a (ha)).trans (rfl)
        have hF23 : (∀ a, κ a ≠ 0 → (c33_P 3) a = (P 3) a) := fun a ha => (hfr10 a (ha)).trans (rfl)
        have hF24 : (∀ a, κ a ≠ 0 → (c33_G 141) a = (G 141) a) := fun a ha => (hfr11 a (ha)).trans (rfl)
        have hF25 : (∀ a, κ a ≠ 0 → (c33_G 83) a = (G 83) a) := fun a ha => (hfr12 a (ha)).trans (rfl)
        have hF26 : (∀ a, κ a ≠ 0 → (c33_P 82) a = (P 82) a) := fun a ha => (hfr13 a (ha)).trans (rfl)
        have hF27 : (∀ a, κ a ≠ 0 → (c33_P 0) a = (P 0) a) := fun a ha => (hfr14 a (ha)).trans (rfl)
        have hF28 : (∀ a, κ a ≠ 0 → (c33_G 160) a = (G 160) a) := fun a ha => (hfr15 a (ha)).trans (rfl)
        have hF29 : (∀ a, κ a ≠ 0 → c33_ln a = ln a) := fun a ha => (hfr16 a (ha)).trans (rfl)
        refine wp_bA9 hc33 ?_
        have hpot := f18 _ hn_u3
        have hT : ((c33_G 141) u1).toInt = ((G 141) u1).toInt := congrArg Int32.toInt (hfr11 u1 (by rw [hk_u1]; decide))
        have lp41 : ∀ (n41 : Nat) (y41_3 : Int32) (y41_4 : Int32), (100 - y41_4.toInt).toNat < n41 → (0 ≤ y41_4.toInt ∧ y41_4.toInt ≤ 100) → (0 ≤ y41_3.toInt ∧ y41_3.toInt ≤ y41_4.toInt) → wp (L_X11_tell_41 this p0 p1 c33_G c33_P c33_U c33_V c33_X c33_O c33_kd c33_ln c33_cnt n41 y41_3 y41_4) (sh (QC_X11_tell κ wd G P U V X O kd ln cnt this p0 p1) (0 + v1_33) (0 + v2_33)) := by
          intro n41
          induction n41 with
          | zero => intro y41_3 y41_4 hm; exact absurd hm (Nat.not_lt_zero _)
          | succ n41 ih41 =>
            intro y41_3 y41_4 hm41 f30 f31
            show wp (B_X11_tell_41 this p0 p1 c33_G c33_P c33_U c33_V c33_X c33_O c33_kd c33_ln c33_cnt (L_X11_tell_41 this p0 p1 c33_G c33_P c33_U c33_V c33_X c33_O c33_kd c33_ln c33_cnt n41) y41_3 y41_4) _
            unfold B_X11_tell_41
            refine wp_nn (((CInv_P229 hCI33 :) this).1 hk20) (fun a44 hn_a44 => ?_)
            have hk_a44 := (((CInv_P229 hCI33 :) this).2 a44 hn_a44).1
            have hl1_a44 := (((CInv_P229 hCI33 :) this).2 a44 hn_a44).2.1
            have hl2_a44 := (((CInv_P229 hCI33 :) this).2 a44 hn_a44).2.2.1
            have hw_a44 := (((CInv_P229 hCI33 :) this).2 a44 hn_a44).2.2.2
            refine wp_nn (((CInv_P0 hCI33 :) a44).1 hk_a44) (fun a47 hn_a47 => ?_)
            obtain rfl : wd = a47 := ((CInv_W0 hCI33 :) _ _ hn_a47).symm
            have hk_wd := (((CInv_P0 hCI33 :) a44).2 wd hn_a47).1
            have hl1_wd := (((CInv_P0 hCI33 :) a44).2 wd hn_a47).2.1
            have hl2_wd := (((CInv_P0 hCI33 :) a44).2 wd hn_a47).2.2.1
            have hw_wd := (((CInv_P0 hCI33 :) a44).2 wd hn_a47).2.2.2
            have b32 := (CInv_G203 hCI33 :) wd
            refine wp_ite (fun c53 => ?_) (fun c53 => ?_)
            · have c53 := (z_le _ _).mp c53
              exact ⟨_, rfl, ⟨κ33_5, (show CInv κ33_5 wd c33_G c33_P c33_V c33_O c33_ln c33_cnt from (CInv_i (CInv_G43 hCI33 :) (CInv_G44 hCI33 :) (CInv_G45 hCI33 :) (CInv_G60 hCI33 :) (CInv_G83 hCI33 :) (CInv_G84 hCI33 :) (CInv_G85 hCI33 :) (CInv_G87 hCI33 :) (CInv_G88 hCI33 :) (CInv_G102 hCI33 :) (CInv_G125 hCI33 :) (CInv_G126 hCI33 :) (CInv_G127 hCI33 :) (CInv_G141 hCI33 :) (CInv_G160 hCI33 :) (CInv_G161 hCI33 :) (CInv_G162 hCI33 :) (CInv_G165 hCI33 :) (CInv_G166 hCI33 :) (CInv_G183 hCI33 :) (CInv_G200 hCI33 :) (CInv_G203 hCI33 :) (CInv_G222 hCI33 :) (CInv_G231 hCI33 :) (CInv_G233 hCI33 :) (CInv_P0 hCI33 :) (CInv_P1 hCI33 :) (CInv_P2 hCI33 :) (CInv_P3 hCI33 :) (CInv_P4 hCI33 :) (CInv_P5 hCI33 :) (CInv_P20 hCI33 :) (CInv_P21 hCI33 :) (CInv_P22 hCI33 :) (CInv_P23 hCI33 :) (CInv_P40 hCI33 :) (CInv_P41 hCI33 :) (CInv_P42 hCI33 :) (CInv_P61 hCI33 :) (CInv_P62 hCI33 :) (CInv_P63 hCI33 :) (CInv_P64 hCI33 :) (CInv_P65 hCI33 :) (CInv_P66 hCI33 :) (CInv_P82 hCI33 :) (CInv_P101 hCI33 :) (CInv_P103 hCI33 :) (CInv_P104 hCI33 :) (CInv_P105 hCI33 :) (CInv_P106 hCI33 :) (CInv_P108 hCI33 :) (CInv_P109 hCI33 :) (CInv_P110 hCI33 :) (CInv_P120 hCI33 :) (CInv_P121 hCI33 :) (CInv_P122 hCI33 :) (CInv_P123 hCI33 :) (CInv_P140 hCI33 :) (CInv_P164 hCI33 :) (CInv_P180 hCI33 :) (CInv_P181 hCI33 :) (CInv_P182 hCI33 :) (CInv_P185 hCI33 :) (CInv_P186 hCI33 :) (CInv_P187 hCI33 :) (CInv_P201 hCI33 :) (CInv_P202 hCI33 :) (CInv_P220 hCI33 :) (CInv_P221 hCI33 :) (CInv_P224 hCI33 :) (CInv_P225 hCI33 :) (CInv_P226 hCI33 :) (CInv_P227 hCI33 :) (CInv_P228 hCI33 :) (CInv_P229 hCI33 :) (CInv_P230 hCI33 :) (CInv_P232 hCI33 :) (CInv_P234 hCI33 :) (CInv_P235 hCI33 :) (CInv_P236 hCI33 :) (CInv_V1 hCI33 :) (CInv_V2 hCI33 :) (CInv_V3 hCI33 :) (CInv_V9 hCI33 :) (CInv_O0 hCI33 :) (CInv_O1 hCI33 :) (CInv_O2 hCI33 :) (CInv_RA hCI33 :) (CInv_RB hCI33 :) (CInv_RI hCI33 :) (CInv_RM103 hCI33 :) (CInv_RM104 hCI33 :) (CInv_RM108 hCI33 :) (CInv_LN hCI33 :) (CInv_FL hCI33 :) (CInv_W0 hCI33 :) (CInv_KC hCI33 :) (CInv_WK hCI33 :))), kx19, (show cnt ≤ c33_cnt from by omega), (show (∀ a, κ a ≠ 0 → (c33_P 220) a = (P 220) a) from hF21), (show (∀ a, κ a ≠ 0 → (c33_P 229) a = (P 229) a) from hF22), (show (∀ a, κ a ≠ 0 → (c33_P 3) a = (P 3) a) from hF23), (show (∀ a, κ a ≠ 0 → (c33_G 141) a = (G 141) a) from hF24), (show (∀ a, κ a ≠ 0 → (c33_G 83) a = (G 83) a) from hF25), (show (∀ a, κ a ≠ 0 → (c33_P 82) a = (P 82) a) from hF26), (show (∀ a, κ a ≠ 0 → (c33_P 0) a = (P 0) a) from hF27), (show (∀ a, κ a ≠ 0 → (c33_G 160) a = (G 160) a) from hF28), (show (∀ a, κ a ≠ 0 → c33_ln a = ln a) from hF29), (show (∀ bk fl, (P 229) this = some bk → (P 3) bk = some fl → ((((0 + v1_33) : Nat) : Int) + 3 * s7 ((V 3) fl) ≤ 3 * s7 ((c33_V 3) fl)) ∧ ((((0 + v2_33) : Nat) : Int) + 2504 * s7 ((V 3) fl) ≤ 2504 * s7 ((c33_V 3) fl))) from by intro bk fl hbk hfl; obtain rfl : u2 = bk := Option.some.inj (hn_u2.symm.trans hbk); obtain rfl : u3 = fl := Option.some.inj (hn_u3.symm.trans hfl); omega)⟩⟩
            · have c53 := z_nle c53
              refine wp_nne hn_a44 ?_
              obtain ⟨r64, hc64, hq64⟩ := ok_X0_isSuch κ33_5 wd c33_G c33_P c33_U c33_V c33_X c33_O c33_kd c33_ln c33_cnt a44 p0 y41_4 p1 (CInv_G200 hCI33 :) (CInv_G203 hCI33 :) (CInv_P0 hCI33 :) (CInv_P1 hCI33 :) (CInv_P5 hCI33 :) (CInv_P201 hCI33 :) (CInv_P202 hCI33 :) (CInv_V1 hCI33 :) (CInv_O1 hCI33 :) (CInv_RA hCI33 :) (CInv_RB hCI33 :) (CInv_RI hCI33 :) (CInv_LN hCI33 :) (CInv_W0 hCI33 :) hk_a44 (show (0 ≤ p0.toInt ∧ p0.toInt ≤ 6) from by omega) (show (0 ≤ y41_4.toInt ∧ y41_4.toInt < ((c33_G 203) wd).toInt) from by omega)
              have f33 : (0 ≤ r64.toInt ∧ r64.toInt ≤ 1) := hq64
              refine wp_b1 hc64 ?_
              clear hc64
              refine wp_jn (fun j73 => ∀ (x73_3 : Int32), (0 ≤ x73_3.toInt ∧ x73_3.toInt ≤ y41_4.toInt + 1) → wp (j73 x73_3) (sh (QC_X11_tell κ wd G P U V X O kd ln cnt this p0 p1) (0 + v1_33) (0 + v2_33))) ?_ ?_
              · intro x73_3 f34
                show wp _ _
                have f35 : (y41_4 + 1).toInt = y41_4.toInt + (1) := z_addc (by decide +kernel) (by omega) (by omega)
                exact ih41 x73_3 (y41_4 + 1) (show (100 - (y41_4 + 1).toInt).toNat < n41 from by omega) (show (0 ≤ (y41_4 + 1).toInt ∧ (y41_4 + 1).toInt ≤ 100) from by omega) (show (0 ≤ x73_3.toInt ∧ x73_3.toInt ≤ (y41_4 + 1).toInt) from by omega)
              intro j73 Jj73
              refine wp_ite (fun c67 => ?_) (fun c67 => ?_)
              · have c67 := congrArg Int32.toInt c67
                exact Jj73 y41_3 (show (0 ≤ y41_3.toInt ∧ y41_3.toInt ≤ y41_4.toInt + 1) from by omega)
              · have c67 := z_ne c67
                have f36 : (y41_3 + 1).toInt = y41_3.toInt + (1) := z_addc (by decide +kernel) (by omega) (by omega)
                exact Jj73 (y41_3 + 1) (show (0 ≤ (y41_3 + 1).toInt ∧ (y41_3 + 1).toInt ≤ y41_4.toInt + 1) from by omega)
        exact lp41 NN (0 : Int32) (0 : Int32) (by have := NN_eq; omega) (show (0 ≤ (0 : Int32).toInt ∧ (0 : Int32).toInt ≤ 100) from by omega) (show (0 ≤ (0 : Int32).toInt ∧ (0 : Int32).toInt ≤ (0 : Int32).toInt) from by omega)
      · have c14 := z_nle c14
        exact Jj17
abbrev QC_X11_uses (κ : Nat → Nat) (wd : Nat) (G : Nat → Nat → Int32) (P : Nat → Nat → Option Nat) (U : Nat → Nat → Int64) (V : Nat → Nat → Nat → Int32) (X : Nat → Nat → Nat → Int64) (O : Nat → Nat → Nat → Option Nat) (kd : Nat → Nat) (ln : Nat → Nat) (cnt : Nat) (this : Nat) (p0 : Int32) (p1 : Int32) : ((Int32 × (Nat → Nat → Int32) × (Nat → Nat → Option Nat) × (Nat → Nat → Int64) × (Nat → Nat → Nat → Int32) × (Nat → Nat → Nat → Int64) × (Nat → Nat → Nat → Option Nat) × (Nat → Nat) × (Nat → Nat) × Nat) × Nat × Nat) → Prop := (fun t => ∃ κ1 : Nat → Nat, (CInv κ1 wd (t.1.2.1) (t.1.2.2.1) (t.1.2.2.2.2.1) (t.1.2.2.2.2.2.2.1) (t.1.2.2.2.2.2.2.2.2.1) (t.1.2.2.2.2.2.2.2.2.2)) ∧ (∀ a, κ a ≠ 0 → κ1 a = κ a) ∧ (cnt ≤ (t.1.2.2.2.2.2.2.2.2.2)) ∧ ((∀ a, κ a ≠ 0 → ((t.1.2.2.1) 220) a = (P 220) a)) ∧ ((∀ a, κ a ≠ 0 → ((t.1.2.2.1) 229) a = (P 229) a)) ∧ ((∀ a, κ a ≠ 0 → ((t.1.2.2.1) 3) a = (P 3) a)) ∧ ((∀ a, κ a ≠ 0 → ((t.1.2.1) 141) a = (G 141) a)) ∧ ((∀ a, κ a ≠ 0 → ((t.1.2.1) 83) a = (G 83) a)) ∧ ((∀ a, κ a ≠ 0 → ((t.1.2.2.1) 82) a = (P 82) a)) ∧ ((∀ a, κ a ≠ 0 → ((t.1.2.2.1) 0) a = (P 0) a)) ∧ ((∀ a, κ a ≠ 0 → ((t.1.2.1) 160) a = (G 160) a)) ∧ ((∀ a, κ a ≠ 0 → (t.1.2.2.2.2.2.2.2.2.1) a = ln a)) ∧ ((∀ bk fl, (P 229) this = some bk → (P 3) bk = some fl → ((((t.2.1) : Nat) : Int) + 3 * s7 ((V 3) fl) ≤ 3 * s7 (((t.1.2.2.2.2.1) 3) fl)) ∧ ((((t.2.2) : Nat) : Int) + 2504 * s7 ((V 3) fl) ≤ 2504 * s7 (((t.1.2.2.2.2.1) 3) fl)))))
set_option maxHeartbeats 4000000 in
set_option maxRecDepth 100000 in
theorem ok_X11_uses (κ : Nat → Nat) (wd : Nat) (G : Nat → Nat → Int32) (P : Nat → Nat → Option Nat) (U : Nat → Nat → Int64) (V : Nat → Nat → Nat → Int32) (X : Nat → Nat → Nat → Int64) (O : Nat → Nat → Nat → Option Nat) (kd : Nat → Nat) (ln : Nat → Nat) (cnt : Nat) (this : Nat) (p0 : Int32) (p1 : Int32) (hI : CInv κ wd G P V O ln cnt) (hk_this : κ this = 12) : wp (f_X11_uses G P U V X O kd ln cnt this p0 p1) (QC_X11_uses κ wd G P U V X O kd ln cnt this p0 p1) := by
  unfold f_X11_uses
  refine wp_sh0 ?_
  have zkm2 : (-2 : Int32).toInt = -2 := by decide +kernel
  have zk0 : (0 : Int32).toInt = 0 := by decide +kernel
  have zk1 : (1 : Int32).toInt = 1 := by decide +kernel
  have r_p0 := i32r p0
  have r_p1 := i32r p1
  obtain ⟨u1, hn_u1⟩ := PBs ((CInv_P220 hI :) this) hk_this
  have hk_u1 := (((CInv_P220 hI :) this).2 u1 hn_u1).1
  have hl1_u1 := (((CInv_P220 hI :) this).2 u1 hn_u1).2.1
  have hl2_u1 := (((CInv_P220 hI :) this).2 u1 hn_u1).2.2.1
  have hw_u1 := (((CInv_P220 hI :) this).2 u1 hn_u1).2.2.2
  obtain ⟨u2, hn_u2⟩ := PBs ((CInv_P229 hI :) this) hk_this
  have hk_u2 := (((CInv_P229 hI :) this).2 u2 hn_u2).1
  have hl1_u2 := (((CInv_P229 hI :) this).2 u2 hn_u2).2.1
  have hl2_u2 := (((CInv_P229 hI :) this).2 u2 hn_u2).2.2.1
  have hw_u2 := (((CInv_P229 hI :) this).2 u2 hn_u2).2.2.2
  obtain ⟨u3, hn_u3⟩ := PBs ((CInv_P3 hI :) u2) hk_u2
  have hk_u3 := (((CInv_P3 hI :) u2).2 u3 hn_u3).1
  have hl1_u3 := (((CInv_P3 hI :) u2).2 u3 hn_u3).2.1
  have hl2_u3 := (((CInv_P3 hI :) u2).2 u3 hn_u3).2.2.1
  have hw_u3 := (((CInv_P3 hI :) u2).2 u3 hn_u3).2.2.2
  have hz_u3 : (Int32.ofNat (ln u3)).toInt = ((ln u3 : Nat) : Int) := ofN_eq (by first | exact Nat.le_trans hl2_u3 (by decide) | omega)
  have hb222 := (CInv_G222 hI :) this
  obtain ⟨r2, hc2, hq2⟩ := ok_X11_reformAt κ wd G P U V X O kd ln cnt this p0 (CInv_G222 hI :) (CInv_P221 hI :) (CInv_O2 hI :) (CInv_LN hI :) hk_this
  obtain ⟨hk4, f5⟩ : ((∀ b, r2 = some b → κ b = 6)) ∧ ((∀ b, r2 = some b → 0 ≤ p0.toInt ∧ p0.toInt < ((G 222) this).toInt)) := hq2
  refine wp_b1 hc2 ?_
  clear hc2
  have hq2r := f5
  refine wp_jn (fun j22 => wp (j22 ()) (sh (QC_X11_uses κ wd G P U V X O kd ln cnt this p0 p1) 0 0)) ?_ ?_
  · show wp _ _
    exact ⟨_, rfl, ⟨κ, (show CInv κ wd G P V O ln cnt from (CInv_i (CInv_G43 hI :) (CInv_G44 hI :) (CInv_G45 hI :) (CInv_G60 hI :) (CInv_G83 hI :) (CInv_G84 hI :) (CInv_G85 hI :) (CInv_G87 hI :) (CInv_G88 hI :) (CInv_G102 hI :) (CInv_G125 hI :) (CInv_G126 hI :) (CInv_G127 hI :) (CInv_G141 hI :) (CInv_G160 hI :) (CInv_G161 hI :) (CInv_G162 hI :) (CInv_G165 hI :) (CInv_G166 hI :) (CInv_G183 hI :) (CInv_G200 hI :) (CInv_G203 hI :) (CInv_G222 hI :) (CInv_G231 hI :) (CInv_G233 hI :) (CInv_P0 hI :) (CInv_P1 hI :) (CInv_P2 hI :) (CInv_P3 hI :) (CInv_P4 hI :) (CInv_P5 hI :) (CInv_P20 hI :) (CInv_P21 hI :) (CInv_P22 hI :) (CInv_P23 hI :) (CInv_P40 hI :) (CInv_P41 hI :) (CInv_P42 hI :) (CInv_P61 hI :) (CInv_P62 hI :) (CInv_P63 hI :) (CInv_P64 hI :) (CInv_P65 hI :) (CInv_P66 hI :) (CInv_P82 hI :) (CInv_P101 hI :) (CInv_P103 hI :) (CInv_P104 hI :) (CInv_P105 hI :) (CInv_P106 hI :) (CInv_P108 hI :) (CInv_P109 hI :) (CInv_P110 hI :) (CInv_P120 hI :) (CInv_P121 hI :) (CInv_P122 hI :) (CInv_P123 hI :) (CInv_P140 hI :) (CInv_P164 hI :) (CInv_P180 hI :) (CInv_P181 hI :) (CInv_P182 hI :) (CInv_P185 hI :) (CInv_P186 hI :) (CInv_P187 hI :) (CInv_P201 hI :) (CInv_P202 hI :) (CInv_P220 hI :) (CInv_P221 hI :) (CInv_P224 hI :) (CInv_P225 hI :) (CInv_P226 hI :) (CInv_P227 hI :) (CInv_P228 hI :) (CInv_P229 hI :) (CInv_P230 hI :) (CInv_P232 hI :) (CInv_P234 hI :) (CInv_P235 hI :) (CInv_P236 hI :) (CInv_V1 hI :) (CInv_V2 hI :) (CInv_V3 hI :) (CInv_V9 hI :) (CInv_O0 hI :) (CInv_O1 hI :) (CInv_O2 hI :) (CInv_RA hI :) (CInv_RB hI :) (CInv_RI hI :) (CInv_RM103 hI :) (CInv_RM104 hI :) (CInv_RM108 hI :) (CInv_LN hI :) (CInv_FL hI :) (CInv_W0 hI :) (CInv_KC hI :) (CInv_WK hI :))), (fun _ _ => rfl), (show cnt ≤ cnt from by omega), (show (∀ a, κ a ≠ 0 → (P 220) a = (P 220) a) from (fun _ _ => rfl)), (show (∀ a, κ a ≠ 0 → (P 229) a = (P 229) a) from (fun _ _ => rfl)), (show (∀ a, κ a ≠ 0 → (P 3) a = (P 3) a) from (fun _ _ => rfl)), (show (∀ a, κ a ≠ 0 → (G 141) a = (G 141) a) from (fun _ _ => rfl)), (show (∀ a, κ a ≠ 0 → (G 83) a = (G 83) a) from (fun _ _ => rfl)), (show (∀ a, κ a ≠ 0 → (P 82) a = (P 82) a) from (fun _ _ => rfl)), (show (∀ a, κ a ≠ 0 → (P 0) a = (P 0) a) from (fun _ _ => rfl)), (show (∀ a, κ a ≠ 0 → (G 160) a = (G 160) a) from (fun _ _ => rfl)), (show (∀ a, κ a ≠ 0 → ln a = ln a) from (fun _ _ => rfl)), (show (∀ bk fl, (P 229) this = some bk → (P 3) bk = some fl → (((0 : Nat) : Int) + 3 * s7 ((V 3) fl) ≤ 3 * s7 ((V 3) fl)) ∧ (((0 : Nat) : Int) + 2504 * s7 ((V 3) fl) ≤ 2504 * s7 ((V 3) fl))) from by intro bk fl hbk hfl; obtain rfl : u2 = bk := Option.some.inj (hn_u2.symm.trans hbk); obtain rfl : u3 = fl := Option.some.inj (hn_u3.symm.trans hfl); omega)⟩⟩
  intro j22 Jj22
  refine wp_oc (fun c7 => ?_) (fun b7 c7 => ?_)
  · skip
    exact Jj22
  · skip
    have hk_b7 := hk4 b7 c7
    have hr7 := hq2r b7 c7
    refine wp_ite (fun c11 => ?_) (fun c11 => ?_)
    · have c11 := (z_lt _ _).mp c11
      exact Jj22
    · have c11 := z_nlt c11
      have b6 := (CInv_G102 hI :) b7
      refine wp_ite (fun c19 => ?_) (fun c19 => ?_)
      · have c19 := (z_lt _ _).mp c19
        refine wp_nne hn_u2 ?_
        have f7 : (p0 + 1).toInt = p0.toInt + 1 := z_addc (by decide +kernel) (by omega) (by omega)
        refine wp_nn (((CInv_P221 hI :) this).1 hk_this) (fun a33 hn_a33 => ?_)
        have hk_a33 := (((CInv_P221 hI :) this).2 a33 hn_a33).1
        have hl1_a33 := (((CInv_P221 hI :) this).2 a33 hn_a33).2.1
        have hl2_a33 := (((CInv_P221 hI :) this).2 a33 hn_a33).2.2.1
        have hw_a33 := (((CInv_P221 hI :) this).2 a33 hn_a33).2.2.2
        have hz_a33 : (Int32.ofNat (ln a33)).toInt = ((ln a33 : Nat) : Int) := ofN_eq (by first | exact Nat.le_trans hl2_a33 (by decide) | omega)
        refine wp_nn (((CInv_P226 hI :) this).1 hk_this) (fun a37 hn_a37 => ?_)
        have hk_a37 := (((CInv_P226 hI :) this).2 a37 hn_a37).1
        have hl1_a37 := (((CInv_P226 hI :) this).2 a37 hn_a37).2.1
        have hl2_a37 := (((CInv_P226 hI :) this).2 a37 hn_a37).2.2.1
        have hw_a37 := (((CInv_P226 hI :) this).2 a37 hn_a37).2.2.2
        obtain ⟨⟨⟨c40_G, c40_P, c40_U, c40_V, c40_X, c40_O, c40_kd, c40_ln, c40_cnt⟩, v1_40, v2_40⟩, hc40, hq40⟩ := ok_X0_fill κ wd G P U V X O kd ln cnt u2 (p0 + 1) a33 a37 (CInv_i (CInv_G43 hI :) (CInv_G44 hI :) (CInv_G45 hI :) (CInv_G60 hI :) (CInv_G83 hI :) (CInv_G84 hI :) (CInv_G85 hI :) (CInv_G87 hI :) (CInv_G88 hI :) (CInv_G102 hI :) (CInv_G125 hI :) (CInv_G126 hI :) (CInv_G127 hI :) (CInv_G141 hI :) (CInv_G160 hI :) (CInv_G161 hI :) (CInv_G162 hI :) (CInv_G165 hI :) (CInv_G166 hI :) (CInv_G183 hI :) (CInv_G200 hI :) (CInv_G203 hI :) (CInv_G222 hI :) (CInv_G231 hI :) (CInv_G233 hI :) (CInv_P0 hI :) (CInv_P1 hI :) (CInv_P2 hI :) (CInv_P3 hI :) (CInv_P4 hI :) (CInv_P5 hI :) (CInv_P20 hI :) (CInv_P21 hI :) (CInv_P22 hI :) (CInv_P23 hI :) (CInv_P40 hI :) (CInv_P41 hI :) (CInv_P42 hI :) (CInv_P61 hI :) (CInv_P62 hI :) (CInv_P63 hI :) (CInv_P64 hI :) (CInv_P65 hI :) (CInv_P66 hI :) (CInv_P82 hI :) (CInv_P101 hI :) (CInv_P103 hI :) (CInv_P104 hI :) (CInv_P105 hI :) (CInv_P106 hI :) (CInv_P108 hI :) (CInv_P109 hI :) (CInv_P110 hI :) (CInv_P120 hI :) (CInv_P121 hI :) (CInv_P122 hI :) (CInv_P123 hI :) (CInv_P140 hI :) (CInv_P164 hI :) (CInv_P180 hI :) (CInv_P181 hI :) (CInv_P182 hI :) (CInv_P185 hI :) (CInv_P186 hI :) (CInv_P187 hI :) (CInv_P201 hI :) (CInv_P202 hI :) (CInv_P220 hI :) (CInv_P221 hI :) (CInv_P224 hI :) (CInv_P225 hI :) (CInv_P226 hI :) (CInv_P227 hI :) (CInv_P228 hI :) (CInv_P229 hI :) (CInv_P230 hI :) (CInv_P232 hI :) (CInv_P234 hI :) (CInv_P235 hI :) (CInv_P236 hI :) (CInv_V1 hI :) (CInv_V2 hI :) (CInv_V3 hI :) (CInv_V9 hI :) (CInv_O0 hI :) (CInv_O1 hI :) (CInv_O2 hI :) (CInv_RA hI :) (CInv_RB hI :) (CInv_RI hI :) (CInv_RM103 hI :) (CInv_RM104 hI :) (CInv_RM108 hI :) (CInv_LN hI :) (CInv_FL hI :) (CInv_W0 hI :) (CInv_KC hI :) (CInv_WK hI :)) hk_u2 hk_a33 hk_a37 (show ln a33 = 6 from by omega)
        obtain ⟨κ40_7, hCI40, hxx40, hcc9, hfr10, hfr11, hfr12, hfr13, hfr14, hfr15, hfr16, hfr17, hfr18, f19, f20⟩ : ∃ κ1 : Nat → Nat, (CInv κ1 wd c40_G c40_P c40_V c40_O c40_ln c40_cnt) ∧ (∀ a, κ a ≠ 0 → κ1 a = κ a) ∧ (cnt ≤ c40_cnt) ∧ ((∀ a, κ a ≠ 0 → (c40_P 220) a = (P 220) a)) ∧ ((∀ a, κ a ≠ 0 → (c40_P 229) a = (P 229) a)) ∧ ((∀ a, κ a ≠ 0 → (c40_P 3) a = (P 3) a)) ∧ ((∀ a, κ a ≠ 0 → (c40_G 141) a = (G 141) a)) ∧ ((∀ a, κ a ≠ 0 → (c40_G 83) a = (G 83) a)) ∧ ((∀ a, κ a ≠ 0 → (c40_P 82) a = (P 82) a)) ∧ ((∀ a, κ a ≠ 0 → (c40_P 0) a = (P 0) a)) ∧ ((∀ a, κ a ≠ 0 → (c40_G 160) a = (G 160) a)) ∧ ((∀ a, κ a ≠ 0 → c40_ln a = ln a)) ∧ ((c40_G 203) wd = (G 203) wd) ∧ ((∀ fl, (P 3) u2 = some fl → (((v1_40 : Nat) : Int) + 3 * s7 ((V 3) fl) ≤ 3 * s7 ((c40_V 3) fl)) ∧ (((v2_40 : Nat) : Int) + 2504 * s7 ((V 3) fl) ≤ 2504 * s7 ((c40_V 3) fl)))) := hq40
        have kx21 : ∀ a, κ a ≠ 0 → κ40_7 a = κ a := hxx40
        have hk22 : κ40_7 this = 12 := kxk hxx40 hk_this (by decide)
        have hk23 : κ40_7 b7 = 6 := kxk hxx40 hk_b7 (by decide)
        have hF24 : (∀ a, κ a ≠ 0 → (c40_P 220) a = (P 220) a) := fun a ha => (hfr10 a (ha)).trans (rfl)
        have hF25 : (∀ a, κ a ≠ 0 → (c40_P 229) a = (P 229) a) := fun a ha => (hfr11 a (ha)).trans (rfl)
        have hF26 : (∀ a, κ a ≠ 0 → (c40_P 3) a = (P 3) a) := fun a ha => (hfr12 a (ha)).trans (rfl)
        have hF27 : (∀ a, κ a ≠ 0 → (c40_G 141) a = (G 141) a) := fun a ha => (hfr13 a (ha)).trans (rfl)
        have hF28 : (∀ a, κ a ≠ 0 → (c40_G 83) a = (G 83) a) := fun a ha => (hfr14 a (ha)).trans (rfl)
        have hF29 : (∀ a, κ a ≠ 0 → (c40_P 82) a = (P 82) a) := fun a ha => (hfr15 a (ha)).trans (rfl)
        have hF30 : (∀ a, κ a ≠ 0 → (c40_P 0) a = (P 0) a) := fun a ha => (hfr16 a (ha)).trans (rfl)
        have hF31 : (∀ a, κ a ≠ 0 → (c40_G 160) a = (G 160) a) := fun a ha => (hfr17 a (ha)).trans (rfl)
        have hF32 : (∀ a, κ a ≠ 0 → c40_ln a = ln a) := fun a ha => (hfr18 a (ha)).trans (rfl)
        refine wp_bA9 hc40 ?_
        have hpot := f20 _ hn_u3
        have hT : ((c40_G 141) u1).toInt = ((G 141) u1).toInt := congrArg Int32.toInt (hfr13 u1 (by rw [hk_u1]; decide))
        have lp49 : ∀ (n49 : Nat) (y49_4 : Int32) (y49_5 : Int32), (100 - y49_5.toInt).toNat < n49 → (0 ≤ y49_5.toInt ∧ y49_5.toInt ≤ 100) → (0 ≤ y49_4.toInt ∧ y49_4.toInt ≤ y49_5.toInt) → wp (L_X11_uses_49 this p0 p1 c40_G c40_P c40_U c40_V c40_X c40_O c40_kd c40_ln c40_cnt n49 y49_4 y49_5) (sh (QC_X11_uses κ wd G P U V X O kd ln cnt this p0 p1) (0 + v1_40) (0 + v2_40)) := by
          intro n49
          induction n49 with
          | zero => intro y49_4 y49_5 hm; exact absurd hm (Nat.not_lt_zero _)
          | succ n49 ih49 =>
            intro y49_4 y49_5 hm49 f33 f34
            show wp (B_X11_uses_49 this p0 p1 c40_G c40_P c40_U c40_V c40_X c40_O c40_kd c40_ln c40_cnt (L_X11_uses_49 this p0 p1 c40_G c40_P c40_U c40_V c40_X c40_O c40_kd c40_ln c40_cnt n49) y49_4 y49_5) _
            unfold B_X11_uses_49
            refine wp_nn (((CInv_P229 hCI40 :) this).1 hk22) (fun a52 hn_a52 => ?_)
            have hk_a52 := (((CInv_P229 hCI40 :) this).2 a52 hn_a52).1
            have hl1_a52 := (((CInv_P229 hCI40 :) this).2 a52 hn_a52).2.1
            have hl2_a52 := (((CInv_P229 hCI40 :) this).2 a52 hn_a52).2.2.1
            have hw_a52 := (((CInv_P229 hCI40 :) this).2 a52 hn_a52).2.2.2
            refine wp_nn (((CInv_P0 hCI40 :) a52).1 hk_a52) (fun a55 hn_a55 => ?_)
            obtain rfl : wd = a55 := ((CInv_W0 hCI40 :) _ _ hn_a55).symm
            have hk_wd := (((CInv_P0 hCI40 :) a52).2 wd hn_a55).1
            have hl1_wd := (((CInv_P0 hCI40 :) a52).2 wd hn_a55).2.1
            have hl2_wd := (((CInv_P0 hCI40 :) a52).2 wd hn_a55).2.2.1
            have hw_wd := (((CInv_P0 hCI40 :) a52).2 wd hn_a55).2.2.2
            have b35 := (CInv_G203 hCI40 :) wd
            refine wp_ite (fun c61 => ?_) (fun c61 => ?_)
            · have c61 := (z_le _ _).mp c61
              exact ⟨_, rfl, ⟨κ40_7, (show CInv κ40_7 wd c40_G c40_P c40_V c40_O c40_ln c40_cnt from (CInv_i (CInv_G43 hCI40 :) (CInv_G44 hCI40 :) (CInv_G45 hCI40 :) (CInv_G60 hCI40 :) (CInv_G83 hCI40 :) (CInv_G84 hCI40 :) (CInv_G85 hCI40 :) (CInv_G87 hCI40 :) (CInv_G88 hCI40 :) (CInv_G102 hCI40 :) (CInv_G125 hCI40 :) (CInv_G126 hCI40 :) (CInv_G127 hCI40 :) (CInv_G141 hCI40 :) (CInv_G160 hCI40 :) (CInv_G161 hCI40 :) (CInv_G162 hCI40 :) (CInv_G165 hCI40 :) (CInv_G166 hCI40 :) (CInv_G183 hCI40 :) (CInv_G200 hCI40 :) (CInv_G203 hCI40 :) (CInv_G222 hCI40 :) (CInv_G231 hCI40 :) (CInv_G233 hCI40 :) (CInv_P0 hCI40 :) (CInv_P1 hCI40 :) (CInv_P2 hCI40 :) (CInv_P3 hCI40 :) (CInv_P4 hCI40 :) (CInv_P5 hCI40 :) (CInv_P20 hCI40 :) (CInv_P21 hCI40 :) (CInv_P22 hCI40 :) (CInv_P23 hCI40 :) (CInv_P40 hCI40 :) (CInv_P41 hCI40 :) (CInv_P42 hCI40 :) (CInv_P61 hCI40 :) (CInv_P62 hCI40 :) (CInv_P63 hCI40 :) (CInv_P64 hCI40 :) (CInv_P65 hCI40 :) (CInv_P66 hCI40 :) (CInv_P82 hCI40 :) (CInv_P101 hCI40 :) (CInv_P103 hCI40 :) (CInv_P104 hCI40 :) (CInv_P105 hCI40 :) (CInv_P106 hCI40 :) (CInv_P108 hCI40 :) (CInv_P109 hCI40 :) (CInv_P110 hCI40 :) (CInv_P120 hCI40 :) (CInv_P121 hCI40 :) (CInv_P122 hCI40 :) (CInv_P123 hCI40 :) (CInv_P140 hCI40 :) (CInv_P164 hCI40 :) (CInv_P180 hCI40 :) (CInv_P181 hCI40 :) (CInv_P182 hCI40 :) (CInv_P185 hCI40 :) (CInv_P186 hCI40 :) (CInv_P187 hCI40 :) (CInv_P201 hCI40 :) (CInv_P202 hCI40 :) (CInv_P220 hCI40 :) (CInv_P221 hCI40 :) (CInv_P224 hCI40 :) (CInv_P225 hCI40 :) (CInv_P226 hCI40 :) (CInv_P227 hCI40 :) (CInv_P228 hCI40 :) (CInv_P229 hCI40 :) (CInv_P230 hCI40 :) (CInv_P232 hCI40 :) (CInv_P234 hCI40 :) (CInv_P235 hCI40 :) (CInv_P236 hCI40 :) (CInv_V1 hCI40 :) (CInv_V2 hCI40 :) (CInv_V3 hCI40 :) (CInv_V9 hCI40 :) (CInv_O0 hCI40 :) (CInv_O1 hCI40 :) (CInv_O2 hCI40 :) (CInv_RA hCI40 :) (CInv_RB hCI40 :) (CInv_RI hCI40 :) (CInv_RM103 hCI40 :) (CInv_RM104 hCI40 :) (CInv_RM108 hCI40 :) (CInv_LN hCI40 :) (CInv_FL hCI40 :) (CInv_W0 hCI40 :) (CInv_KC hCI40 :) (CInv_WK hCI40 :))), kx21, (show cnt ≤ c40_cnt from by omega), (show (∀ a, κ a ≠ 0 → (c40_P 220) a = (P 220) a) from hF24), (show (∀ a, κ a ≠ 0 → (c40_P 229) a = (P 229) a) from hF25), (show (∀ a, κ a ≠ 0 → (c40_P 3) a = (P 3) a) from hF26), (show (∀ a, κ a ≠ 0 → (c40_G 141) a = (G 141) a) from hF27), (show (∀ a, κ a ≠ 0 → (c40_G 83) a = (G 83) a) from hF28), (show (∀ a, κ a ≠ 0 → (c40_P 82) a = (P 82) a) from hF29), (show (∀ a, κ a ≠ 0 → (c40_P 0) a = (P 0) a) from hF30), (show (∀ a, κ a ≠ 0 → (c40_G 160) a = (G 160) a) from hF31), (show (∀ a, κ a ≠ 0 → c40_ln a = ln a) from hF32), (show (∀ bk fl, (P 229) this = some bk → (P 3) bk = some fl → ((((0 + v1_40) : Nat) : Int) + 3 * s7 ((V 3) fl) ≤ 3 * s7 ((c40_V 3) fl)) ∧ ((((0 + v2_40) : Nat) : Int) + 2504 * s7 ((V 3) fl) ≤ 2504 * s7 ((c40_V 3) fl))) from by intro bk fl hbk hfl; obtain rfl : u2 = bk := Option.some.inj (hn_u2.symm.trans hbk); obtain rfl : u3 = fl := Option.some.inj (hn_u3.symm.trans hfl); omega)⟩⟩
            · have c61 := z_nle c61
              refine wp_nne hn_a52 ?_
              obtain ⟨r72, hc72, hq72⟩ := ok_X0_usesLaw κ40_7 wd c40_G c40_P c40_U c40_V c40_X c40_O c40_kd c40_ln c40_cnt a52 p0 y49_5 p1 (CInv_P2 hCI40 :) (CInv_LN hCI40 :) hk_a52 (show (0 ≤ p0.toInt ∧ p0.toInt ≤ 5) from by omega) (show (0 ≤ y49_5.toInt ∧ y49_5.toInt < 100) from by omega)
              have f36 : (0 ≤ r72.toInt ∧ r72.toInt ≤ 1) := hq72
              refine wp_b1 hc72 ?_
              clear hc72
              refine wp_jn (fun j81 => ∀ (x81_4 : Int32), (0 ≤ x81_4.toInt ∧ x81_4.toInt ≤ y49_5.toInt + 1) → wp (j81 x81_4) (sh (QC_X11_uses κ wd G P U V X O kd ln cnt this p0 p1) (0 + v1_40) (0 + v2_40))) ?_ ?_
              · intro x81_4 f37
                show wp _ _
                have f38 : (y49_5 + 1).toInt = y49_5.toInt + (1) := z_addc (by decide +kernel) (by omega) (by omega)
                exact ih49 x81_4 (y49_5 + 1) (show (100 - (y49_5 + 1).toInt).toNat < n49 from by omega) (show (0 ≤ (y49_5 + 1).toInt ∧ (y49_5 + 1).toInt ≤ 100) from by omega) (show (0 ≤ x81_4.toInt ∧ x81_4.toInt ≤ (y49_5 + 1).toInt) from by omega)
              intro j81 Jj81
              refine wp_ite (fun c75 => ?_) (fun c75 => ?_)
              · have c75 := congrArg Int32.toInt c75
                exact Jj81 y49_4 (show (0 ≤ y49_4.toInt ∧ y49_4.toInt ≤ y49_5.toInt + 1) from by omega)
              · have c75 := z_ne c75
                have f39 : (y49_4 + 1).toInt = y49_4.toInt + (1) := z_addc (by decide +kernel) (by omega) (by omega)
                exact Jj81 (y49_4 + 1) (show (0 ≤ (y49_4 + 1).toInt ∧ (y49_4 + 1).toInt ≤ y49_5.toInt + 1) from by omega)
        exact lp49 NN (0 : Int32) (0 : Int32) (by have := NN_eq; omega) (show (0 ≤ (0 : Int32).toInt ∧ (0 : Int32).toInt ≤ 100) from by omega) (show (0 ≤ (0 : Int32).toInt ∧ (0 : Int32).toInt ≤ (0 : Int32).toInt) from by omega)
      · have c19 := z_nlt c19
        exact Jj22
abbrev QC_X11_mixed (κ : Nat → Nat) (wd : Nat) (G : Nat → Nat → Int32) (P : Nat → Nat → Option Nat) (U : Nat → Nat → Int64) (V : Nat → Nat → Nat → Int32) (X : Nat → Nat → Nat → Int64) (O : Nat → Nat → Nat → Option Nat) (kd : Nat → Nat) (ln : Nat → Nat) (cnt : Nat) (this : Nat) (p0 : Int32) : ((Int32 × (Nat → Nat → Int32) × (Nat → Nat → Option Nat) × (Nat → Nat → Int64) × (Nat → Nat → Nat → Int32) × (Nat → Nat → Nat → Int64) × (Nat → Nat → Nat → Option Nat) × (Nat → Nat) × (Nat → Nat) × Nat) × Nat × Nat) → Prop := (fun t => ∃ κ1 : Nat → Nat, (CInv κ1 wd (t.1.2.1) (t.1.2.2.1) (t.1.2.2.2.2.1) (t.1.2.2.2.2.2.2.1) (t.1.2.2.2.2.2.2.2.2.1) (t.1.2.2.2.2.2.2.2.2.2)) ∧ (∀ a, κ a ≠ 0 → κ1 a = κ a) ∧ (cnt ≤ (t.1.2.2.2.2.2.2.2.2.2)) ∧ ((∀ a, κ a ≠ 0 → ((t.1.2.2.1) 220) a = (P 220) a)) ∧ ((∀ a, κ a ≠ 0 → ((t.1.2.2.1) 229) a = (P 229) a)) ∧ ((∀ a, κ a ≠ 0 → ((t.1.2.2.1) 3) a = (P 3) a)) ∧ ((∀ a, κ a ≠ 0 → ((t.1.2.1) 83) a = (G 83) a)) ∧ ((∀ a, κ a ≠ 0 → ((t.1.2.2.1) 82) a = (P 82) a)) ∧ ((∀ a, κ a ≠ 0 → ((t.1.2.2.1) 0) a = (P 0) a)) ∧ ((∀ a, κ a ≠ 0 → (t.1.2.2.2.2.2.2.2.2.1) a = ln a)) ∧ ((∀ bk fl, (P 229) this = some bk → (P 3) bk = some fl → ((((t.2.1) : Nat) : Int) + 3 * s7 ((V 3) fl) ≤ 3 * s7 (((t.1.2.2.2.2.1) 3) fl)) ∧ ((((t.2.2) : Nat) : Int) + 2504 * s7 ((V 3) fl) ≤ 2504 * s7 (((t.1.2.2.2.2.1) 3) fl)))) ∧ ((∀ tp, (P 220) this = some tp → (((t.1.2.1) 141) tp).toInt = 0)))
set_option maxHeartbeats 4000000 in
set_option maxRecDepth 100000 in
theorem ok_X11_mixed (κ : Nat → Nat) (wd : Nat) (G : Nat → Nat → Int32) (P : Nat → Nat → Option Nat) (U : Nat → Nat → Int64) (V : Nat → Nat → Nat → Int32) (X : Nat → Nat → Nat → Int64) (O : Nat → Nat → Nat → Option Nat) (kd : Nat → Nat) (ln : Nat → Nat) (cnt : Nat) (this : Nat) (p0 : Int32) (hI : CInv κ wd G P V O ln cnt) (hk_this : κ this = 12) : wp (f_X11_mixed G P U V X O kd ln cnt this p0) (QC_X11_mixed κ wd G P U V X O kd ln cnt this p0) := by
  unfold f_X11_mixed
  refine wp_sh0 ?_
  have zkm2 : (-2 : Int32).toInt = -2 := by decide +kernel
  have zkm1 : (-1 : Int32).toInt = -1 := by decide +kernel
  have zk0 : (0 : Int32).toInt = 0 := by decide +kernel
  have zk1 : (1 : Int32).toInt = 1 := by decide +kernel
  have zk40 : (40 : Int32).toInt = 40 := by decide +kernel
  have zk50 : (50 : Int32).toInt = 50 := by decide +kernel
  have r_p0 := i32r p0
  obtain ⟨u1, hn_u1⟩ := PBs ((CInv_P220 hI :) this) hk_this
  have hk_u1 := (((CInv_P220 hI :) this).2 u1 hn_u1).1
  have hl1_u1 := (((CInv_P220 hI :) this).2 u1 hn_u1).2.1
  have hl2_u1 := (((CInv_P220 hI :) this).2 u1 hn_u1).2.2.1
  have hw_u1 := (((CInv_P220 hI :) this).2 u1 hn_u1).2.2.2
  obtain ⟨u2, hn_u2⟩ := PBs ((CInv_P229 hI :) this) hk_this
  have hk_u2 := (((CInv_P229 hI :) this).2 u2 hn_u2).1
  have hl1_u2 := (((CInv_P229 hI :) this).2 u2 hn_u2).2.1
  have hl2_u2 := (((CInv_P229 hI :) this).2 u2 hn_u2).2.2.1
  have hw_u2 := (((CInv_P229 hI :) this).2 u2 hn_u2).2.2.2
  obtain ⟨u3, hn_u3⟩ := PBs ((CInv_P3 hI :) u2) hk_u2
  have hk_u3 := (((CInv_P3 hI :) u2).2 u3 hn_u3).1
  have hl1_u3 := (((CInv_P3 hI :) u2).2 u3 hn_u3).2.1
  have hl2_u3 := (((CInv_P3 hI :) u2).2 u3 hn_u3).2.2.1
  have hw_u3 := (((CInv_P3 hI :) u2).2 u3 hn_u3).2.2.2
  have hz_u3 : (Int32.ofNat (ln u3)).toInt = ((ln u3 : Nat) : Int) := ofN_eq (by first | exact Nat.le_trans hl2_u3 (by decide) | omega)
  have hb222 := (CInv_G222 hI :) this
  refine wp_nne hn_u1 ?_
  obtain ⟨⟨r4, c4_G141⟩, hc4, hq4⟩ := ok_X7_take κ wd G P U V X O kd ln cnt u1 (CInv_G141 hI :) (CInv_LN hI :) hk_u1
  obtain ⟨hg4, f5, f6, f7⟩ : (rng (0) 2000 c4_G141) ∧ (r4.toInt = ((G 141) u1).toInt) ∧ ((c4_G141 u1).toInt = 0) ∧ ((0 ≤ r4.toInt ∧ r4.toInt ≤ 2000)) := hq4
  refine wp_b2 hc4 ?_
  clear hc4
  refine wp_jn (fun j18 => wp (j18 ()) (sh (QC_X11_mixed κ wd G P U V X O kd ln cnt this p0) 0 0)) ?_ ?_
  · show wp _ _
    exact ⟨_, rfl, ⟨κ, (show CInv κ wd (va_up G 141 c4_G141) P V O ln cnt from (CInv_i (CInv_G43 hI :) (CInv_G44 hI :) (CInv_G45 hI :) (CInv_G60 hI :) (CInv_G83 hI :) (CInv_G84 hI :) (CInv_G85 hI :) (CInv_G87 hI :) (CInv_G88 hI :) (CInv_G102 hI :) (CInv_G125 hI :) (CInv_G126 hI :) (CInv_G127 hI :) hg4 (CInv_G160 hI :) (CInv_G161 hI :) (CInv_G162 hI :) (CInv_G165 hI :) (CInv_G166 hI :) (CInv_G183 hI :) (CInv_G200 hI :) (CInv_G203 hI :) (CInv_G222 hI :) (CInv_G231 hI :) (CInv_G233 hI :) (CInv_P0 hI :) (CInv_P1 hI :) (CInv_P2 hI :) (CInv_P3 hI :) (CInv_P4 hI :) (CInv_P5 hI :) (CInv_P20 hI :) (CInv_P21 hI :) (CInv_P22 hI :) (CInv_P23 hI :) (CInv_P40 hI :) (CInv_P41 hI :) (CInv_P42 hI :) (CInv_P61 hI :) (CInv_P62 hI :) (CInv_P63 hI :) (CInv_P64 hI :) (CInv_P65 hI :) (CInv_P66 hI :) (CInv_P82 hI :) (CInv_P101 hI :) (CInv_P103 hI :) (CInv_P104 hI :) (CInv_P105 hI :) (CInv_P106 hI :) (CInv_P108 hI :) (CInv_P109 hI :) (CInv_P110 hI :) (CInv_P120 hI :) (CInv_P121 hI :) (CInv_P122 hI :) (CInv_P123 hI :) (CInv_P140 hI :) (CInv_P164 hI :) (CInv_P180 hI :) (CInv_P181 hI :) (CInv_P182 hI :) (CInv_P185 hI :) (CInv_P186 hI :) (CInv_P187 hI :) (CInv_P201 hI :) (CInv_P202 hI :) (CInv_P220 hI :) (CInv_P221 hI :) (CInv_P224 hI :) (CInv_P225 hI :) (CInv_P226 hI :) (CInv_P227 hI :) (CInv_P228 hI :) (CInv_P229 hI :) (CInv_P230 hI :) (CInv_P232 hI :) (CInv_P234 hI :) (CInv_P235 hI :) (CInv_P236 hI :) (CInv_V1 hI :) (CInv_V2 hI :) (CInv_V3 hI :) (CInv_V9 hI :) (CInv_O0 hI :) (CInv_O1 hI :) (CInv_O2 hI :) (CInv_RA hI :) (CInv_RB hI :) (CInv_RI hI :) (CInv_RM103 hI :) (CInv_RM104 hI :) (CInv_RM108 hI :) (CInv_LN hI :) (CInv_FL hI :) (CInv_W0 hI :) (CInv_KC hI :) (CInv_WK hI :))), (fun _ _ => rfl), (show cnt ≤ cnt from by omega), (show (∀ a, κ a ≠ 0 → (P 220) a = (P 220) a) from (fun _ _ => rfl)), (show (∀ a, κ a ≠ 0 → (P 229) a = (P 229) a) from (fun _ _ => rfl)), (show (∀ a, κ a ≠ 0 → (P 3) a = (P 3) a) from (fun _ _ => rfl)), (show (∀ a, κ a ≠ 0 → (G 83) a = (G 83) a) from (fun _ _ => rfl)), (show (∀ a, κ a ≠ 0 → (P 82) a = (P 82) a) from (fun _ _ => rfl)), (show (∀ a, κ a ≠ 0 → (P 0) a = (P 0) a) from (fun _ _ => rfl)), (show (∀ a, κ a ≠ 0 → ln a = ln a) from (fun _ _ => rfl)), (show (∀ bk fl, (P 229) this = some bk → (P 3) bk = some fl → (((0 : Nat) : Int) + 3 * s7 ((V 3) fl) ≤ 3 * s7 ((V 3) fl)) ∧ (((0 : Nat) : Int) + 2504 * s7 ((V 3) fl) ≤ 2504 * s7 ((V 3) fl))) from by intro bk fl hbk hfl; obtain rfl : u2 = bk := Option.some.inj (hn_u2.symm.trans hbk); obtain rfl : u3 = fl := Option.some.inj (hn_u3.symm.trans hfl); omega), (show (∀ tp, (P 220) this = some tp → (c4_G141 tp).toInt = 0) from by intro tp htp; obtain rfl : u1 = tp := Option.some.inj (hn_u1.symm.trans htp); omega)⟩⟩
  intro j18 Jj18
  refine wp_ite (fun c9 => ?_) (fun c9 => ?_)
  · have c9 := (z_lt _ _).mp c9
    exact Jj18
  · have c9 := z_nlt c9
    refine wp_ite (fun c15 => ?_) (fun c15 => ?_)
    · have c15 := (z_le _ _).mp c15
      refine wp_nne hn_u1 ?_
      obtain ⟨r26, hc26, hq26⟩ := ok_X7_lines κ wd (va_up G 141 c4_G141) P U V X O kd ln cnt u1 r4 (CInv_P140 hI :) (CInv_LN hI :) hk_u1
      have f8 : (1 ≤ r26.toInt ∧ r26.toInt ≤ 2001) := hq26
      refine wp_b1 hc26 ?_
      clear hc26
      refine wp_nne hn_u1 ?_
      obtain ⟨r35, hc35, hq35⟩ := ok_X7_hasZero κ wd (va_up G 141 c4_G141) P U V X O kd ln cnt u1 r4 (CInv_P140 hI :) (CInv_LN hI :) hk_u1
      have f9 : (0 ≤ r35.toInt ∧ r35.toInt ≤ 1) := hq35
      refine wp_b1 hc35 ?_
      clear hc35
      refine wp_jn (fun j47 => wp (j47 ()) (sh (QC_X11_mixed κ wd G P U V X O kd ln cnt this p0) 0 0)) ?_ ?_
      · show wp _ _
        exact ⟨_, rfl, ⟨κ, (show CInv κ wd (va_up G 141 c4_G141) P V O ln cnt from (CInv_i (CInv_G43 hI :) (CInv_G44 hI :) (CInv_G45 hI :) (CInv_G60 hI :) (CInv_G83 hI :) (CInv_G84 hI :) (CInv_G85 hI :) (CInv_G87 hI :) (CInv_G88 hI :) (CInv_G102 hI :) (CInv_G125 hI :) (CInv_G126 hI :) (CInv_G127 hI :) hg4 (CInv_G160 hI :) (CInv_G161 hI :) (CInv_G162 hI :) (CInv_G165 hI :) (CInv_G166 hI :) (CInv_G183 hI :) (CInv_G200 hI :) (CInv_G203 hI :) (CInv_G222 hI :) (CInv_G231 hI :) (CInv_G233 hI :) (CInv_P0 hI :) (CInv_P1 hI :) (CInv_P2 hI :) (CInv_P3 hI :) (CInv_P4 hI :) (CInv_P5 hI :) (CInv_P20 hI :) (CInv_P21 hI :) (CInv_P22 hI :) (CInv_P23 hI :) (CInv_P40 hI :) (CInv_P41 hI :) (CInv_P42 hI :) (CInv_P61 hI :) (CInv_P62 hI :) (CInv_P63 hI :) (CInv_P64 hI :) (CInv_P65 hI :) (CInv_P66 hI :) (CInv_P82 hI :) (CInv_P101 hI :) (CInv_P103 hI :) (CInv_P104 hI :) (CInv_P105 hI :) (CInv_P106 hI :) (CInv_P108 hI :) (CInv_P109 hI :) (CInv_P110 hI :) (CInv_P120 hI :) (CInv_P121 hI :) (CInv_P122 hI :) (CInv_P123 hI :) (CInv_P140 hI :) (CInv_P164 hI :) (CInv_P180 hI :) (CInv_P181 hI :) (CInv_P182 hI :) (CInv_P185 hI :) (CInv_P186 hI :) (CInv_P187 hI :) (CInv_P201 hI :) (CInv_P202 hI :) (CInv_P220 hI :) (CInv_P221 hI :) (CInv_P224 hI :) (CInv_P225 hI :) (CInv_P226 hI :) (CInv_P227 hI :) (CInv_P228 hI :) (CInv_P229 hI :) (CInv_P230 hI :) (CInv_P232 hI :) (CInv_P234 hI :) (CInv_P235 hI :) (CInv_P236 hI :) (CInv_V1 hI :) (CInv_V2 hI :) (CInv_V3 hI :) (CInv_V9 hI :) (CInv_O0 hI :) (CInv_O1 hI :) (CInv_O2 hI :) (CInv_RA hI :) (CInv_RB hI :) (CInv_RI hI :) (CInv_RM103 hI :) (CInv_RM104 hI :) (CInv_RM108 hI :) (CInv_LN hI :) (CInv_FL hI :) (CInv_W0 hI :) (CInv_KC hI :) (CInv_WK hI :))), (fun _ _ => rfl), (show cnt ≤ cnt from by omega), (show (∀ a, κ a ≠ 0 → (P 220) a = (P 220) a) from (fun _ _ => rfl)), (show (∀ a, κ a ≠ 0 → (P 229) a = (P 229) a) from (fun _ _ => rfl)), (show (∀ a, κ a ≠ 0 → (P 3) a = (P 3) a) from (fun _ _ => rfl)), (show (∀ a, κ a ≠ 0 → (G 83) a = (G 83) a) from (fun _ _ => rfl)), (show (∀ a, κ a ≠ 0 → (P 82) a = (P 82) a) from (fun _ _ => rfl)), (show (∀ a, κ a ≠ 0 → (P 0) a = (P 0) a) from (fun _ _ => rfl)), (show (∀ a, κ a ≠ 0 → ln a = ln a) from (fun _ _ => rfl)), (show (∀ bk fl, (P 229) this = some bk → (P 3) bk = some fl → (((0 : Nat) : Int) + 3 * s7 ((V 3) fl) ≤ 3 * s7 ((V 3) fl)) ∧ (((0 : Nat) : Int) + 2504 * s7 ((V 3) fl) ≤ 2504 * s7 ((V 3) fl))) from by intro bk fl hbk hfl; obtain rfl : u2 = bk := Option.some.inj (hn_u2.symm.trans hbk); obtain rfl : u3 = fl := Option.some.inj (hn_u3.symm.trans hfl); omega), (show (∀ tp, (P 220) this = some tp → (c4_G141 tp).toInt = 0) from by intro tp htp; obtain rfl : u1 = tp := Option.some.inj (hn_u1.symm.trans htp); omega)⟩⟩
      intro j47 Jj47
      refine wp_ite (fun c38 => ?_) (fun c38 => ?_)
      · have c38 := congrArg Int32.toInt c38
        refine wp_ite (fun c44 => ?_) (fun c44 => ?_)
        · have c44 := (z_le _ _).mp c44
          refine wp_nne hn_u2 ?_
          have b10 := (CInv_G222 hI :) this
          refine wp_nn (((CInv_P221 hI :) this).1 hk_this) (fun a58 hn_a58 => ?_)
          have hk_a58 := (((CInv_P221 hI :) this).2 a58 hn_a58).1
          have hl1_a58 := (((CInv_P221 hI :) this).2 a58 hn_a58).2.1
          have hl2_a58 := (((CInv_P221 hI :) this).2 a58 hn_a58).2.2.1
          have hw_a58 := (((CInv_P221 hI :) this).2 a58 hn_a58).2.2.2
          have hz_a58 : (Int32.ofNat (ln a58)).toInt = ((ln a58 : Nat) : Int) := ofN_eq (by first | exact Nat.le_trans hl2_a58 (by decide) | omega)
          refine wp_nn (((CInv_P226 hI :) this).1 hk_this) (fun a62 hn_a62 => ?_)
          have hk_a62 := (((CInv_P226 hI :) this).2 a62 hn_a62).1
          have hl1_a62 := (((CInv_P226 hI :) this).2 a62 hn_a62).2.1
          have hl2_a62 := (((CInv_P226 hI :) this).2 a62 hn_a62).2.2.1
          have hw_a62 := (((CInv_P226 hI :) this).2 a62 hn_a62).2.2.2
          obtain ⟨⟨⟨c65_G, c65_P, c65_U, c65_V, c65_X, c65_O, c65_kd, c65_ln, c65_cnt⟩, v1_65, v2_65⟩, hc65, hq65⟩ := ok_X0_fill κ wd (va_up G 141 c4_G141) P U V X O kd ln cnt u2 ((G 222) this) a58 a62 (CInv_i (CInv_G43 hI :) (CInv_G44 hI :) (CInv_G45 hI :) (CInv_G60 hI :) (CInv_G83 hI :) (CInv_G84 hI :) (CInv_G85 hI :) (CInv_G87 hI :) (CInv_G88 hI :) (CInv_G102 hI :) (CInv_G125 hI :) (CInv_G126 hI :) (CInv_G127 hI :) hg4 (CInv_G160 hI :) (CInv_G161 hI :) (CInv_G162 hI :) (CInv_G165 hI :) (CInv_G166 hI :) (CInv_G183 hI :) (CInv_G200 hI :) (CInv_G203 hI :) (CInv_G222 hI :) (CInv_G231 hI :) (CInv_G233 hI :) (CInv_P0 hI :) (CInv_P1 hI :) (CInv_P2 hI :) (CInv_P3 hI :) (CInv_P4 hI :) (CInv_P5 hI :) (CInv_P20 hI :) (CInv_P21 hI :) (CInv_P22 hI :) (CInv_P23 hI :) (CInv_P40 hI :) (CInv_P41 hI :) (CInv_P42 hI :) (CInv_P61 hI :) (CInv_P62 hI :) (CInv_P63 hI :) (CInv_P64 hI :) (CInv_P65 hI :) (CInv_P66 hI :) (CInv_P82 hI :) (CInv_P101 hI :) (CInv_P103 hI :) (CInv_P104 hI :) (CInv_P105 hI :) (CInv_P106 hI :) (CInv_P108 hI :) (CInv_P109 hI :) (CInv_P110 hI :) (CInv_P120 hI :) (CInv_P121 hI :) (CInv_P122 hI :) (CInv_P123 hI :) (CInv_P140 hI :) (CInv_P164 hI :) (CInv_P180 hI :) (CInv_P181 hI :) (CInv_P182 hI :) (CInv_P185 hI :) (CInv_P186 hI :) (CInv_P187 hI :) (CInv_P201 hI :) (CInv_P202 hI :) (CInv_P220 hI :) (CInv_P221 hI :) (CInv_P224 hI :) (CInv_P225 hI :) (CInv_P226 hI :) (CInv_P227 hI :) (CInv_P228 hI :) (CInv_P229 hI :) (CInv_P230 hI :) (CInv_P232 hI :) (CInv_P234 hI :) (CInv_P235 hI :) (CInv_P236 hI :) (CInv_V1 hI :) (CInv_V2 hI :) (CInv_V3 hI :) (CInv_V9 hI :) (CInv_O0 hI :) (CInv_O1 hI :) (CInv_O2 hI :) (CInv_RA hI :) (CInv_RB hI :) (CInv_RI hI :) (CInv_RM103 hI :) (CInv_RM104 hI :) (CInv_RM108 hI :) (CInv_LN hI :) (CInv_FL hI :) (CInv_W0 hI :) (CInv_KC hI :) (CInv_WK hI :)) hk_u2 hk_a58 hk_a62 (show ln a58 = 6 from by omega)
          obtain ⟨κ65_10, hCI65, hxx65, hcc12, hfr13, hfr14, hfr15, hfr16, hfr17, hfr18, hfr19, hfr20, hfr21, f22, f23⟩ : ∃ κ1 : Nat → Nat, (CInv κ1 wd c65_G c65_P c65_V c65_O c65_ln c65_cnt) ∧ (∀ a, κ a ≠ 0 → κ1 a = κ a) ∧ (cnt ≤ c65_cnt) ∧ ((∀ a, κ a ≠ 0 → (c65_P 220) a = (P 220) a)) ∧ ((∀ a, κ a ≠ 0 → (c65_P 229) a = (P 229) a)) ∧ ((∀ a, κ a ≠ 0 → (c65_P 3) a = (P 3) a)) ∧ ((∀ a, κ a ≠ 0 → (c65_G 141) a = c4_G141 a)) ∧ ((∀ a, κ a ≠ 0 → (c65_G 83) a = (G 83) a)) ∧ ((∀ a, κ a ≠ 0 → (c65_P 82) a = (P 82) a)) ∧ ((∀ a, κ a ≠ 0 → (c65_P 0) a = (P 0) a)) ∧ ((∀ a, κ a ≠ 0 → (c65_G 160) a = (G 160) a)) ∧ ((∀ a, κ a ≠ 0 → c65_ln a = ln a)) ∧ ((c65_G 203) wd = (G 203) wd) ∧ ((∀ fl, (P 3) u2 = some fl → (((v1_65 : Nat) : Int) + 3 * s7 ((V 3) fl) ≤ 3 * s7 ((c65_V 3) fl)) ∧ (((v2_65 : Nat) : Int) + 2504 * s7 ((V 3) fl) ≤ 2504 * s7 ((c65_V 3) fl)))) := hq65
          clear hfr20 hq35 hq26 hg4
          have kx24 : ∀ a, κ a ≠ 0 → κ65_10 a = κ a := hxx65
          have hk25 : κ65_10 this = 12 := kxk hxx65 hk_this (by decide)
          have hF26 : (∀ a, κ a ≠ 0 → (c65_P 220) a = (P 220) a) := fun a ha => (hfr13 a (ha)).trans (rfl)
          have hF27 : (∀ a, κ a ≠ 0 → (c65_P 229) a = (P 229) a) := fun a ha => (hfr14 a (ha)).trans (rfl)
          have hF28 : (∀ a, κ a ≠ 0 → (c65_P 3) a = (P 3) a) := fun a ha => (hfr15 a (ha)).trans (rfl)
          have hF29 : (∀ a, κ a ≠ 0 → (c65_G 83) a = (G 83) a) := fun a ha => (hfr17 a (ha)).trans (rfl)
          have hF30 : (∀ a, κ a ≠ 0 → (c65_P 82) a = (P 82) a) := fun a ha => (hfr18 a (ha)).trans (rfl)
          have hF31 : (∀ a, κ a ≠ 0 → (c65_P 0) a = (P 0) a) := fun a ha => (hfr19 a (ha)).trans (rfl)
          have hF32 : (∀ a, κ a ≠ 0 → c65_ln a = ln a) := fun a ha => (hfr21 a (ha)).trans (rfl)
          refine wp_bA9 hc65 ?_
          have hpot := f23 _ hn_u3
          have hT : ((c65_G 141) u1).toInt = (c4_G141 u1).toInt := congrArg Int32.toInt (hfr16 u1 (by rw [hk_u1]; decide))
          refine wp_nn (((CInv_P236 hCI65 :) this).1 hk25) (fun a69 hn_a69 => ?_)
          have hk_a69 := (((CInv_P236 hCI65 :) this).2 a69 hn_a69).1
          have hl1_a69 := (((CInv_P236 hCI65 :) this).2 a69 hn_a69).2.1
          have hl2_a69 := (((CInv_P236 hCI65 :) this).2 a69 hn_a69).2.2.1
          have hw_a69 := (((CInv_P236 hCI65 :) this).2 a69 hn_a69).2.2.2
          have b33 := (CInv_G222 hCI65 :) this
          have f34 : (((c65_G 222) this) + 1).toInt = ((c65_G 222) this).toInt + 1 := z_addc (by decide +kernel) (by omega) (by omega)
          obtain ⟨⟨c79_G44, c79_G45, c79_V7⟩, hc79, hq79⟩ := ok_X2_begin κ65_10 wd c65_G c65_P c65_U c65_V c65_X c65_O c65_kd c65_ln c65_cnt a69 r26 (((c65_G 222) this) + 1) (CInv_G44 hCI65 :) (CInv_G45 hCI65 :) (CInv_P40 hCI65 :) (CInv_LN hCI65 :) hk_a69 (show (0 ≤ r26.toInt ∧ r26.toInt ≤ 3000) from by omega) (show (0 ≤ (((c65_G 222) this) + 1).toInt ∧ (((c65_G 222) this) + 1).toInt ≤ 100) from by omega)
          obtain ⟨hg35, hg36⟩ : (rng (0) 40 c79_G44) ∧ (rng (0) 7 c79_G45) := hq79
          refine wp_b3 hc79 ?_
          clear hc79
          refine wp_nn (((CInv_P234 hCI65 :) this).1 hk25) (fun a83 hn_a83 => ?_)
          have hk_a83 := (((CInv_P234 hCI65 :) this).2 a83 hn_a83).1
          have hl1_a83 := (((CInv_P234 hCI65 :) this).2 a83 hn_a83).2.1
          have hl2_a83 := (((CInv_P234 hCI65 :) this).2 a83 hn_a83).2.2.1
          have hw_a83 := (((CInv_P234 hCI65 :) this).2 a83 hn_a83).2.2.2
          refine wp_nn (((CInv_P220 hCI65 :) this).1 hk25) (fun a87 hn_a87 => ?_)
          have hk_a87 := (((CInv_P220 hCI65 :) this).2 a87 hn_a87).1
          have hl1_a87 := (((CInv_P220 hCI65 :) this).2 a87 hn_a87).2.1
          have hl2_a87 := (((CInv_P220 hCI65 :) this).2 a87 hn_a87).2.2.1
          have hw_a87 := (((CInv_P220 hCI65 :) this).2 a87 hn_a87).2.2.2
          refine wp_nn (((CInv_P140 hCI65 :) a87).1 hk_a87) (fun a90 hn_a90 => ?_)
          have hk_a90 := (((CInv_P140 hCI65 :) a87).2 a90 hn_a90).1
          have hl1_a90 := (((CInv_P140 hCI65 :) a87).2 a90 hn_a90).2.1
          have hl2_a90 := (((CInv_P140 hCI65 :) a87).2 a90 hn_a90).2.2.1
          have hw_a90 := (((CInv_P140 hCI65 :) a87).2 a90 hn_a90).2.2.2
          have hz_a90 : (Int32.ofNat (c65_ln a90)).toInt = ((c65_ln a90 : Nat) : Int) := ofN_eq (by first | exact Nat.le_trans hl2_a90 (by decide) | omega)
          obtain ⟨⟨c94_G162, c94_G165, c94_G166, c94_G167, c94_P164⟩, hc94, hq94⟩ := ok_X8_begin κ65_10 wd (va_up (va_up c65_G 44 c79_G44) 45 c79_G45) c65_P c65_U (va_up c65_V 7 c79_V7) c65_X c65_O c65_kd c65_ln c65_cnt a83 a90 r4 (CInv_G162 hCI65 :) (CInv_G165 hCI65 :) (CInv_G166 hCI65 :) (CInv_P164 hCI65 :) (CInv_LN hCI65 :) hk_a83 hk_a90 (show 0 ≤ r4.toInt from by omega) (show ((c65_ln a90 : Nat) : Int) ≤ 2000 from by omega)
          obtain ⟨hg37, hg38, hg39, hg40, f41, f42, f43, f44, f45⟩ : (rng (0) 2000 c94_G162) ∧ (rng (0) 2000 c94_G165) ∧ (rng (0) 2000 c94_G166) ∧ (PB κ65_10 c65_ln wd 9 100 0 2000 0 c94_P164) ∧ ((c94_G166 a83).toInt = 0) ∧ ((c94_G165 a83).toInt ≤ r4.toInt) ∧ (c94_P164 a83 = some a90) ∧ ((c94_G162 a83).toInt = 0) ∧ ((c94_G165 a83).toInt ≤ ((c65_ln a90 : Nat) : Int)) := hq94
          refine wp_b5 hc94 ?_
          clear hc94
          have htx := f43
          have hb94 := hg38 a83
          refine wp_jn (fun k136 => ∀ (c136_G160 : Nat → Int32) (c136_G161 : Nat → Int32) (c136_G162 : Nat → Int32) (c136_G163 : Nat → Int32) (c136_G166 : Nat → Int32) (c136_G167 : Nat → Int32) (c136_V7 : Nat → Nat → Int32), rng (0) 2000 c136_G160 → rng (0) 2000 c136_G161 → rng (0) 2000 c136_G162 → rng (0) 2000 c136_G166 → (c136_G166 a83).toInt ≤ (c94_G165 a83).toInt → (c136_G162 a83).toInt ≤ (c136_G166 a83).toInt → wp (k136 c136_G160 c136_G161 c136_G162 c136_G163 c136_G166 c136_G167 c136_V7) (sh (QC_X11_mixed κ wd G P U V X O kd ln cnt this p0) (0 + v1_65) (0 + v2_65))) ?_ ?_
          · intro c136_G160 c136_G161 c136_G162 c136_G163 c136_G166 c136_G167 c136_V7 hg46 hg47 hg48 hg49 f50 f51
            show wp _ _
            refine wp_nne hn_a69 ?_
            obtain ⟨⟨r141, c141_G43, c141_V8, c141_V9⟩, hc141, hq141⟩ := ok_X2_settle κ65_10 wd (va_up (va_up (va_up (va_up (va_up (va_up (va_up (va_up (va_up c65_G 44 c79_G44) 45 c79_G45) 160 c136_G160) 161 c136_G161) 162 c136_G162) 163 c136_G163) 165 c94_G165) 166 c136_G166) 167 c136_G167) (va_up c65_P 164 c94_P164) c65_U (va_up c65_V 7 c136_V7) c65_X c65_O c65_kd c65_ln c65_cnt a69 p0 (CInv_G43 hCI65 :) hg35 hg36 (CInv_P40 hCI65 :) (CInv_P41 hCI65 :) (CInv_P42 hCI65 :) (CInv_V9 hCI65 :) (CInv_LN hCI65 :) hk_a69
            obtain ⟨hg52, hg53⟩ : (rng (0) 40 c141_G43) ∧ (rng2 (0) 6 c141_V9) := hq141
            refine wp_b4 hc141 ?_
            clear hc141
            exact ⟨_, rfl, ⟨κ65_10, (show CInv κ65_10 wd (va_up (va_up (va_up (va_up (va_up (va_up (va_up (va_up (va_up (va_up c65_G 44 c79_G44) 45 c79_G45) 160 c136_G160) 161 c136_G161) 162 c136_G162) 163 c136_G163) 165 c94_G165) 166 c136_G166) 167 c136_G167) 43 c141_G43) (va_up c65_P 164 c94_P164) (va_up (va_up (va_up c65_V 7 c136_V7) 8 c141_V8) 9 c141_V9) c65_O c65_ln c65_cnt from (CInv_i hg52 hg35 hg36 (CInv_G60 hCI65 :) (CInv_G83 hCI65 :) (CInv_G84 hCI65 :) (CInv_G85 hCI65 :) (CInv_G87 hCI65 :) (CInv_G88 hCI65 :) (CInv_G102 hCI65 :) (CInv_G125 hCI65 :) (CInv_G126 hCI65 :) (CInv_G127 hCI65 :) (CInv_G141 hCI65 :) hg46 hg47 hg48 hg38 hg49 (CInv_G183 hCI65 :) (CInv_G200 hCI65 :) (CInv_G203 hCI65 :) (CInv_G222 hCI65 :) (CInv_G231 hCI65 :) (CInv_G233 hCI65 :) (CInv_P0 hCI65 :) (CInv_P1 hCI65 :) (CInv_P2 hCI65 :) (CInv_P3 hCI65 :) (CInv_P4 hCI65 :) (CInv_P5 hCI65 :) (CInv_P20 hCI65 :) (CInv_P21 hCI65 :) (CInv_P22 hCI65 :) (CInv_P23 hCI65 :) (CInv_P40 hCI65 :) (CInv_P41 hCI65 :) (CInv_P42 hCI65 :) (CInv_P61 hCI65 :) (CInv_P62 hCI65 :) (CInv_P63 hCI65 :) (CInv_P64 hCI65 :) (CInv_P65 hCI65 :) (CInv_P66 hCI65 :) (CInv_P82 hCI65 :) (CInv_P101 hCI65 :) (CInv_P103 hCI65 :) (CInv_P104 hCI65 :) (CInv_P105 hCI65 :) (CInv_P106 hCI65 :) (CInv_P108 hCI65 :) (CInv_P109 hCI65 :) (CInv_P110 hCI65 :) (CInv_P120 hCI65 :) (CInv_P121 hCI65 :) (CInv_P122 hCI65 :) (CInv_P123 hCI65 :) (CInv_P140 hCI65 :) hg40 (CInv_P180 hCI65 :) (CInv_P181 hCI65 :) (CInv_P182 hCI65 :) (CInv_P185 hCI65 :) (CInv_P186 hCI65 :) (CInv_P187 hCI65 :) (CInv_P201 hCI65 :) (CInv_P202 hCI65 :) (CInv_P220 hCI65 :) (CInv_P221 hCI65 :) (CInv_P224 hCI65 :) (CInv_P225 hCI65 :) (CInv_P226 hCI65 :) (CInv_P227 hCI65 :) (CInv_P228 hCI65 :) (CInv_P229 hCI65 :) (CInv_P230 hCI65 :) (CInv_P232 hCI65 :) (CInv_P234 hCI65 :) (CInv_P235 hCI65 :) (CInv_P236 hCI65 :) (CInv_V1 hCI65 :) (CInv_V2 hCI65 :) (CInv_V3 hCI65 :) hg53 (CInv_O0 hCI65 :) (CInv_O1 hCI65 :) (CInv_O2 hCI65 :) (CInv_RA hCI65 :) (CInv_RB hCI65 :) (CInv_RI hCI65 :) (CInv_RM103 hCI65 :) (CInv_RM104 hCI65 :) (CInv_RM108 hCI65 :) (CInv_LN hCI65 :) (CInv_FL hCI65 :) (CInv_W0 hCI65 :) (CInv_KC hCI65 :) (CInv_WK hCI65 :))), kx24, (show cnt ≤ c65_cnt from by omega), (show (∀ a, κ a ≠ 0 → (c65_P 220) a = (P 220) a) from hF26), (show (∀ a, κ a ≠ 0 → (c65_P 229) a = (P 229) a) from hF27), (show (∀ a, κ a ≠ 0 → (c65_P 3) a = (P 3) a) from hF28), (show (∀ a, κ a ≠ 0 → (c65_G 83) a = (G 83) a) from hF29), (show (∀ a, κ a ≠ 0 → (c65_P 82) a = (P 82) a) from hF30), (show (∀ a, κ a ≠ 0 → (c65_P 0) a = (P 0) a) from hF31), (show (∀ a, κ a ≠ 0 → c65_ln a = ln a) from hF32), (show (∀ bk fl, (P 229) this = some bk → (P 3) bk = some fl → ((((0 + v1_65) : Nat) : Int) + 3 * s7 ((V 3) fl) ≤ 3 * s7 ((c65_V 3) fl)) ∧ ((((0 + v2_65) : Nat) : Int) + 2504 * s7 ((V 3) fl) ≤ 2504 * s7 ((c65_V 3) fl))) from by intro bk fl hbk hfl; obtain rfl : u2 = bk := Option.some.inj (hn_u2.symm.trans hbk); obtain rfl : u3 = fl := Option.some.inj (hn_u3.symm.trans hfl); omega), (show (∀ tp, (P 220) this = some tp → ((c65_G 141) tp).toInt = 0) from by intro tp htp; obtain rfl : u1 = tp := Option.some.inj (hn_u1.symm.trans htp); omega)⟩⟩
          intro k136 Jk136
          have lp100 : ∀ (n100 : Nat) (y100_4 : Int32) (d100_G160 : Nat → Int32) (d100_G161 : Nat → Int32) (d100_G162 : Nat → Int32) (d100_G163 : Nat → Int32) (d100_G166 : Nat → Int32) (d100_G167 : Nat → Int32) (d100_V7 : Nat → Nat → Int32), (2000 - y100_4.toInt).toNat < n100 → rng (0) 2000 d100_G160 → rng (0) 2000 d100_G161 → rng (0) 2000 d100_G162 → rng (0) 2000 d100_G166 → 0 ≤ y100_4.toInt → (d100_G166 a83).toInt ≤ (c94_G165 a83).toInt → (d100_G162 a83).toInt ≤ (d100_G166 a83).toInt → wp (L_X11_mixed_100 this r4 c65_G c65_P c65_U c65_V c65_X c65_O c65_kd c65_ln c65_cnt c79_G44 c79_G45 c94_G165 c94_P164 k136 n100 y100_4 d100_G160 d100_G161 d100_G162 d100_G163 d100_G166 d100_G167 d100_V7) (sh (QC_X11_mixed κ wd G P U V X O kd ln cnt this p0) (0 + v1_65) (0 + v2_65)) := by
            intro n100
            induction n100 with
            | zero => intro y100_4 d100_G160 d100_G161 d100_G162 d100_G163 d100_G166 d100_G167 d100_V7 hm; exact absurd hm (Nat.not_lt_zero _)
            | succ n100 ih100 =>
              intro y100_4 d100_G160 d100_G161 d100_G162 d100_G163 d100_G166 d100_G167 d100_V7 hm100 hg54 hg55 hg56 hg57 f58 f59 f60
              show wp (B_X11_mixed_100 this r4 c65_G c65_P c65_U c65_V c65_X c65_O c65_kd c65_ln c65_cnt c79_G44 c79_G45 c94_G165 c94_P164 k136 (L_X11_mixed_100 this r4 c65_G c65_P c65_U c65_V c65_X c65_O c65_kd c65_ln c65_cnt c79_G44 c79_G45 c94_G165 c94_P164 k136 n100) y100_4 d100_G160 d100_G161 d100_G162 d100_G163 d100_G166 d100_G167 d100_V7) _
              unfold B_X11_mixed_100
              refine wp_ite (fun c103 => ?_) (fun c103 => ?_)
              · have c103 := (z_le _ _).mp c103
                exact Jk136 d100_G160 d100_G161 d100_G162 d100_G163 d100_G166 d100_G167 d100_V7 hg54 hg55 hg56 hg57 (show (d100_G166 a83).toInt ≤ (c94_G165 a83).toInt from by omega) (show (d100_G162 a83).toInt ≤ (d100_G166 a83).toInt from by omega)
              · have c103 := z_nle c103
                refine wp_nne hn_a83 ?_
                obtain ⟨⟨r110, c110_G160, c110_G161, c110_G162, c110_G163, c110_G166, c110_G167⟩, hc110, hq110⟩ := ok_X8_next κ65_10 wd (va_up (va_up (va_up (va_up (va_up (va_up (va_up (va_up (va_up c65_G 44 c79_G44) 45 c79_G45) 160 d100_G160) 161 d100_G161) 162 d100_G162) 163 d100_G163) 165 c94_G165) 166 d100_G166) 167 d100_G167) (va_up c65_P 164 c94_P164) c65_U (va_up c65_V 7 d100_V7) c65_X c65_O c65_kd c65_ln c65_cnt a83 hg54 hg55 hg56 hg38 hg57 hg40 (CInv_LN hCI65 :) hk_a83 (show (∀ tx, c94_P164 a83 = some tx → (c94_G165 a83).toInt ≤ ((c65_ln tx : Nat) : Int)) from by intro tx htx2; obtain rfl := Option.some.inj (htx.symm.trans htx2); omega) (show (d100_G166 a83).toInt ≤ (c94_G165 a83).toInt from by omega) (show (d100_G162 a83).toInt ≤ (d100_G166 a83).toInt from by omega)
                obtain ⟨hg61, hg62, hg63, hg64, f65, f66, f67, f68, f69⟩ : (rng (0) 2000 c110_G160) ∧ (rng (0) 2000 c110_G161) ∧ (rng (0) 2000 c110_G162) ∧ (rng (0) 2000 c110_G166) ∧ ((0 ≤ r110.toInt ∧ r110.toInt ≤ 1)) ∧ ((r110.toInt = 1 → (d100_G166 a83).toInt ≤ (c110_G160 a83).toInt ∧ (c110_G160 a83).toInt + (c110_G161 a83).toInt = (c110_G166 a83).toInt)) ∧ ((c110_G166 a83).toInt ≤ (c94_G165 a83).toInt) ∧ ((c110_G162 a83).toInt ≤ (c110_G166 a83).toInt) ∧ ((d100_G166 a83).toInt ≤ (c110_G166 a83).toInt) := hq110
                refine wp_b7 hc110 ?_
                clear hc110
                refine wp_ite (fun c113 => ?_) (fun c113 => ?_)
                · have c113 := congrArg Int32.toInt c113
                  exact Jk136 c110_G160 c110_G161 c110_G162 c110_G163 c110_G166 c110_G167 d100_V7 hg61 hg62 hg63 hg64 (show (c110_G166 a83).toInt ≤ (c94_G165 a83).toInt from by omega) (show (c110_G162 a83).toInt ≤ (c110_G166 a83).toInt from by omega)
                · have c113 := z_ne c113
                  refine wp_nne hn_a83 ?_
                  refine wp_jn (fun j130 => ∀ (c130_V7 : Nat → Nat → Int32), wp (j130 c130_V7) (sh (QC_X11_mixed κ wd G P U V X O kd ln cnt this p0) (0 + v1_65) (0 + v2_65))) ?_ ?_
                  · intro c130_V7
                    show wp _ _
                    have f70 : (y100_4 + 1).toInt = y100_4.toInt + (1) := z_addc (by decide +kernel) (by omega) (by omega)
                    exact ih100 (y100_4 + 1) c110_G160 c110_G161 c110_G162 c110_G163 c110_G166 c110_G167 c130_V7 (show (2000 - (y100_4 + 1).toInt).toNat < n100 from by omega) hg61 hg62 hg63 hg64 (show 0 ≤ (y100_4 + 1).toInt from by omega) (show (c110_G166 a83).toInt ≤ (c94_G165 a83).toInt from by omega) (show (c110_G162 a83).toInt ≤ (c110_G166 a83).toInt from by omega)
                  intro j130 Jj130
                  refine wp_ite (fun c123 => ?_) (fun c123 => ?_)
                  · have c123 := congrArg Int32.toInt c123
                    obtain ⟨c127_V7, hc127, hq127⟩ := ok_X11_chargeWord κ65_10 wd (va_up (va_up (va_up (va_up (va_up (va_up (va_up (va_up (va_up (va_up (va_up (va_up (va_up (va_up (va_up c65_G 44 c79_G44) 45 c79_G45) 160 d100_G160) 161 d100_G161) 162 d100_G162) 163 d100_G163) 165 c94_G165) 166 d100_G166) 167 d100_G167) 160 c110_G160) 161 c110_G161) 162 c110_G162) 163 c110_G163) 166 c110_G166) 167 c110_G167) (va_up c65_P 164 c94_P164) c65_U (va_up c65_V 7 d100_V7) c65_X c65_O c65_kd c65_ln c65_cnt this hg35 hg36 hg61 hg62 hg63 (CInv_G200 hCI65 :) (CInv_G203 hCI65 :) (CInv_G222 hCI65 :) (CInv_P0 hCI65 :) (CInv_P1 hCI65 :) (CInv_P5 hCI65 :) (CInv_P40 hCI65 :) (CInv_P140 hCI65 :) (CInv_P201 hCI65 :) (CInv_P202 hCI65 :) (CInv_P220 hCI65 :) (CInv_P229 hCI65 :) (CInv_P234 hCI65 :) (CInv_P236 hCI65 :) (CInv_V1 hCI65 :) (CInv_O1 hCI65 :) (CInv_RA hCI65 :) (CInv_RB hCI65 :) (CInv_RI hCI65 :) (CInv_LN hCI65 :) (CInv_W0 hCI65 :) hk25
                    refine wp_b1 hc127 ?_
                    clear hc127
                    exact Jj130 c127_V7
                  · have c123 := z_ne c123
                    exact Jj130 d100_V7
          exact lp100 NN (0 : Int32) (c65_G 160) (c65_G 161) c94_G162 (c65_G 163) c94_G166 c94_G167 c79_V7 (by have := NN_eq; omega) (CInv_G160 hCI65 :) (CInv_G161 hCI65 :) hg37 hg39 (show 0 ≤ (0 : Int32).toInt from by omega) (show (c94_G166 a83).toInt ≤ (c94_G165 a83).toInt from by omega) (show (c94_G162 a83).toInt ≤ (c94_G166 a83).toInt from by omega)
        · have c44 := z_nle c44
          exact Jj47
      · have c38 := z_ne c38
        exact Jj47
    · have c15 := z_nle c15
      exact Jj18
