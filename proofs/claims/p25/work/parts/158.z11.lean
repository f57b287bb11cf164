abbrev QF_X10_init (κ : Nat → Nat) (wd : Nat) (la : Nat → Nat) (G : Nat → Nat → Int32) (P : Nat → Nat → Option Nat) (U : Nat → Nat → Int64) (V : Nat → Nat → Nat → Int32) (X : Nat → Nat → Nat → Int64) (O : Nat → Nat → Nat → Option Nat) (kd : Nat → Nat) (ln : Nat → Nat) (cnt : Nat) (this : Nat) (p0 : Int32) (p1 : Int32) : ((Nat → Nat → Int32) × (Nat → Nat → Option Nat) × (Nat → Nat → Int64) × (Nat → Nat → Nat → Int32) × (Nat → Nat → Nat → Int64) × (Nat → Nat → Nat → Option Nat) × (Nat → Nat) × (Nat → Nat) × Nat) → Prop := (fun t => ∃ la1 : Nat → Nat, (∀ z, z < cnt → la1 z = la z) ∧ LB la1 (t.2.2.2.2.2.2.2.2) (t.2.1) ∧ (∃ l s, ((t.2.1) 201) this = some l ∧ ((t.2.1) 202) this = some s ∧ (t.2.2.2.2.2.2.2.1) s = Int32.toNatClampNeg p0) ∧ (((t.1) 200) this = p1 ∧ ((t.1) 203) this = 0))
set_option maxHeartbeats 4000000 in
set_option maxRecDepth 100000 in
theorem fn_X10_init (κ : Nat → Nat) (wd : Nat) (la : Nat → Nat) (G : Nat → Nat → Int32) (P : Nat → Nat → Option Nat) (U : Nat → Nat → Int64) (V : Nat → Nat → Nat → Int32) (X : Nat → Nat → Nat → Int64) (O : Nat → Nat → Nat → Option Nat) (kd : Nat → Nat) (ln : Nat → Nat) (cnt : Nat) (this : Nat) (p0 : Int32) (p1 : Int32) (hI : CInv κ wd G P V O ln cnt) (hk_this : κ this = 0) (hlt_this : this < cnt) (hln_this : ln this ≤ 2500) (hp0 : (0 ≤ p0.toInt ∧ p0.toInt ≤ 100)) (hp1 : (0 ≤ p1.toInt ∧ p1.toInt ≤ 24)) (hB : LB la cnt P) : pw (f_X10_init G P U V X O kd ln cnt this p0 p1) (sp1 (QF_X10_init κ wd la G P U V X O kd ln cnt this p0 p1)) := by
  unfold f_X10_init
  have zk0 : (0 : Int32).toInt = 0 := by decide +kernel
  have r_p0 := i32r p0
  have r_p1 := i32r p1
  have hne : this ≠ wd := fun q => absurd (show (11 : Nat) = 0 from by rw [← (CInv_WK hI :), ← q]; exact hk_this) (by decide)
  have hmm : p0.toInt * p1.toInt ≤ 100 * 24 := Int.mul_le_mul (by omega) (by omega) (by omega) (by decide)
  refine pw_vl (fun m6 em6 => ?_)
  have hg1 : rng (0) 100 m6 := by rw [em6]; exact rng_vup (CInv_G203 hI :) (by omega) (by omega)
  have sm6 : (m6 this).toInt = 0 := by rw [em6, va_up_self]; decide +kernel
  have b2 := hg1 this
  have hRB3 : RB κ ln (G 200) m6 (P 202) (V 1) := by rw [em6]; exact RB_cnt (CInv_RB hI :) (fun s hs => by omega)
  have hFL4 : FL wd m6 (V 3) := by rw [em6]; exact FL_ne (CInv_FL hI :) hne
  refine pw_vl (fun m11 em11 => ?_)
  have hg5 : rng (0) 24 m11 := by rw [em11]; exact rng_vup (CInv_G200 hI :) (by omega) (by omega)
  have sm11 : (m11 this).toInt = p1.toInt := by rw [em11, va_up_self]
  have b6 := hg5 this
  have hRA7 : RA κ ln m11 (P 201) (P 202) := by rw [em11]; exact RA_w (CInv_RA hI :) (by rw [hk_this]; decide)
  have hRB8 : RB κ ln m11 m6 (P 202) (V 1) := by rw [em11]; exact RB_w hRB3 (by rw [hk_this]; decide)
  have f9 := zmw (x := p0) (y := p1) (by omega) (by omega) (by omega) (by omega)
  refine pw_if (fun hb18 => ?_)
  obtain ⟨hbl18, hbr18⟩ := hb18
  have cl10 := clampI (x := (p0 * p1)) (by omega)
  refine pw_tk ?_
  refine pw_newd (κ := κ) (la := la) (wd := wd) (Ke := 100) (L := la this + 0) (CInv_i (CInv_G43 hI :) (CInv_G44 hI :) (CInv_G45 hI :) (CInv_G60 hI :) (CInv_G83 hI :) (CInv_G84 hI :) (CInv_G85 hI :) (CInv_G87 hI :) (CInv_G88 hI :) (CInv_G102 hI :) (CInv_G125 hI :) (CInv_G126 hI :) (CInv_G127 hI :) (CInv_G141 hI :) (CInv_G160 hI :) (CInv_G161 hI :) (CInv_G162 hI :) (CInv_G165 hI :) (CInv_G166 hI :) (CInv_G183 hI :) hg5 hg1 (CInv_G222 hI :) (CInv_G231 hI :) (CInv_G233 hI :) (CInv_P0 hI :) (CInv_P1 hI :) (CInv_P2 hI :) (CInv_P3 hI :) (CInv_P4 hI :) (CInv_P5 hI :) (CInv_P20 hI :) (CInv_P21 hI :) (CInv_P22 hI :) (CInv_P23 hI :) (CInv_P40 hI :) (CInv_P41 hI :) (CInv_P42 hI :) (CInv_P61 hI :) (CInv_P62 hI :) (CInv_P63 hI :) (CInv_P64 hI :) (CInv_P65 hI :) (CInv_P66 hI :) (CInv_P82 hI :) (CInv_P101 hI :) (CInv_P103 hI :) (CInv_P104 hI :) (CInv_P105 hI :) (CInv_P106 hI :) (CInv_P108 hI :) (CInv_P109 hI :) (CInv_P110 hI :) (CInv_P120 hI :) (CInv_P121 hI :) (CInv_P122 hI :) (CInv_P123 hI :) (CInv_P140 hI :) (CInv_P164 hI :) (CInv_P180 hI :) (CInv_P181 hI :) (CInv_P182 hI :) (CInv_P185 hI :) (CInv_P186 hI :) (CInv_P187 hI :) (CInv_P201 hI :) (CInv_P202 hI :) (CInv_P220 hI :) (CInv_P221 hI :) (CInv_P224 hI :) (CInv_P225 hI :) (CInv_P226 hI :) (CInv_P227 hI :) (CInv_P228 hI :) (CInv_P229 hI :) (CInv_P230 hI :) (CInv_P232 hI :) (CInv_P234 hI :) (CInv_P235 hI :) (CInv_P236 hI :) (CInv_V1 hI :) (CInv_V2 hI :) (CInv_V3 hI :) (CInv_V9 hI :) (CInv_O0 hI :) (CInv_O1 hI :) (CInv_O2 hI :) hRA7 hRB8 (CInv_RI hI :) (CInv_RM103 hI :) (CInv_RM104 hI :) (CInv_RM108 hI :) (CInv_LN hI :) hFL4 (CInv_W0 hI :) (CInv_KC hI :) (CInv_WK hI :)) (by decide) (by omega) hB (by have q11 := hB.2 this hlt_this; omega) (fun κ18 la18 G18 P18 U18 V18 X18 O18 kd18 ln18 cnt18 hCI18 hcn18 hkn18 hln18 hex18 hvz18 hfs18 hB18 hL18 ag18 fU18 fX18 => ?_)
  have hx12 : ∀ a, κ a ≠ 0 → κ18 a = κ a := fun a ha => (hex18 a (kclt (CInv_KC hI :) ha) (Nat.ne_of_lt (kclt (CInv_KC hI :) ha))).1
  have ccf18 : cnt ≤ cnt18 := by rw [hcn18]; exact Nat.le_succ _
  have kx13 : ∀ a, κ a ≠ 0 → κ18 a = κ a := hx12
  have hk14 : κ18 this = 0 := (hex18 this (by omega) (by omega)).1.trans hk_this
  have hl15 := (hex18 this (by omega) (by omega)).2.2.2.2.2
  have g16 : la18 this = la this := ag18 this hlt_this
  have lt17 : this < cnt18 := Nat.lt_of_lt_of_le hlt_this ccf18
  have hag18 : ∀ z, z < cnt → la18 z = la z := fun z hz => (ag18 z (Nat.lt_of_lt_of_le hz (Nat.le_refl _))).trans (rfl)
  have fG18 : FRM cnt [] (fun _ => True) (va_up (va_up G 203 m6) 200 m11) G18 := fun g z hz _ => (hex18 z hz (Nat.ne_of_lt hz)).2.1 g
  have fP18 : FRM cnt [] (fun _ => True) P P18 := fun g z hz _ => (hex18 z hz (Nat.ne_of_lt hz)).2.2.1 g
  have fV18 : FRM cnt [] (fun _ => True) V V18 := fun g z hz _ => (hex18 z hz (Nat.ne_of_lt hz)).2.2.2.1 g
  have fO18 : FRM cnt [] (fun _ => True) O O18 := fun g z hz _ => (hex18 z hz (Nat.ne_of_lt hz)).2.2.2.2.1 g
  have fl18 : ∀ z, z < cnt → ln18 z = ln z := fun z hz => (hex18 z hz (Nat.ne_of_lt hz)).2.2.2.2.2
  have lt18 : cnt < cnt18 := by rw [hcn18]; exact Nat.lt_succ_self _
  refine pw_vl (fun m20 em20 => ?_)
  have hl19 : LC 201 la18 cnt18 m20 := LC_up (hB18.1 201 fl_201) em20 (by omega) (by omega) (lk_201.mpr (by omega))
  have hp20 : PB κ18 ln18 wd 11 100 0 2400 0 m20 := by rw [em20]; exact PB_up (CInv_P201 hCI18 :) hkn18 (by omega) (by omega) (fun h9 => absurd h9 (by decide))
  have sm20 : m20 this = some cnt := by rw [em20]; exact va_up_self _ _ _
  have hRA21 : RA κ18 ln18 (G18 200) m20 (P18 202) := by rw [em20]; exact RA_l (CInv_RA hCI18 :) (by rw [hk14]; decide)
  refine pw_if (fun hb25 => ?_)
  obtain ⟨hbl25, hbr25⟩ := hb25
  have cl22 := clampI (x := p0) (by omega)
  refine pw_tk ?_
  refine pw_newd (κ := κ18) (la := la18) (wd := wd) (Ke := 101) (L := la18 this + 0) (CInv_i (CInv_G43 hCI18 :) (CInv_G44 hCI18 :) (CInv_G45 hCI18 :) (CInv_G60 hCI18 :) (CInv_G83 hCI18 :) (CInv_G84 hCI18 :) (CInv_G85 hCI18 :) (CInv_G87 hCI18 :) (CInv_G88 hCI18 :) (CInv_G102 hCI18 :) (CInv_G125 hCI18 :) (CInv_G126 hCI18 :) (CInv_G127 hCI18 :) (CInv_G141 hCI18 :) (CInv_G160 hCI18 :) (CInv_G161 hCI18 :) (CInv_G162 hCI18 :) (CInv_G165 hCI18 :) (CInv_G166 hCI18 :) (CInv_G183 hCI18 :) (CInv_G200 hCI18 :) (CInv_G203 hCI18 :) (CInv_G222 hCI18 :) (CInv_G231 hCI18 :) (CInv_G233 hCI18 :) (CInv_P0 hCI18 :) (CInv_P1 hCI18 :) (CInv_P2 hCI18 :) (CInv_P3 hCI18 :) (CInv_P4 hCI18 :) (CInv_P5 hCI18 :) (CInv_P20 hCI18 :) (CInv_P21 hCI18 :) (CInv_P22 hCI18 :) (CInv_P23 hCI18 :) (CInv_P40 hCI18 :) (CInv_P41 hCI18 :) (CInv_P42 hCI18 :) (CInv_P61 hCI18 :) (CInv_P62 hCI18 :) (CInv_P63 hCI18 :) (CInv_P64 hCI18 :) (CInv_P65 hCI18 :) (CInv_P66 hCI18 :) (CInv_P82 hCI18 :) (CInv_P101 hCI18 :) (CInv_P103 hCI18 :) (CInv_P104 hCI18 :) (CInv_P105 hCI18 :) (CInv_P106 hCI18 :) (CInv_P108 hCI18 :) (CInv_P109 hCI18 :) (CInv_P110 hCI18 :) (CInv_P120 hCI18 :) (CInv_P121 hCI18 :) (CInv_P122 hCI18 :) (CInv_P123 hCI18 :) (CInv_P140 hCI18 :) (CInv_P164 hCI18 :) (CInv_P180 hCI18 :) (CInv_P181 hCI18 :) (CInv_P182 hCI18 :) (CInv_P185 hCI18 :) (CInv_P186 hCI18 :) (CInv_P187 hCI18 :) hp20 (CInv_P202 hCI18 :) (CInv_P220 hCI18 :) (CInv_P221 hCI18 :) (CInv_P224 hCI18 :) (CInv_P225 hCI18 :) (CInv_P226 hCI18 :) (CInv_P227 hCI18 :) (CInv_P228 hCI18 :) (CInv_P229 hCI18 :) (CInv_P230 hCI18 :) (CInv_P232 hCI18 :) (CInv_P234 hCI18 :) (CInv_P235 hCI18 :) (CInv_P236 hCI18 :) (CInv_V1 hCI18 :) (CInv_V2 hCI18 :) (CInv_V3 hCI18 :) (CInv_V9 hCI18 :) (CInv_O0 hCI18 :) (CInv_O1 hCI18 :) (CInv_O2 hCI18 :) hRA21 (CInv_RB hCI18 :) (CInv_RI hCI18 :) (CInv_RM103 hCI18 :) (CInv_RM104 hCI18 :) (CInv_RM108 hCI18 :) (CInv_LN hCI18 :) (CInv_FL hCI18 :) (CInv_W0 hCI18 :) (CInv_KC hCI18 :) (CInv_WK hCI18 :)) (by decide) (by omega) (LB_set hB18 hl19) (by have q23 := hB18.2 this lt17; omega) (fun κ25 la25 G25 P25 U25 V25 X25 O25 kd25 ln25 cnt25 hCI25 hcn25 hkn25 hln25 hex25 hvz25 hfs25 hB25 hL25 ag25 fU25 fX25 => ?_)
  have hx24 : ∀ a, κ18 a ≠ 0 → κ25 a = κ18 a := fun a ha => (hex25 a (kclt (CInv_KC hCI18 :) ha) (Nat.ne_of_lt (kclt (CInv_KC hCI18 :) ha))).1
  have ccf25 : cnt18 ≤ cnt25 := by rw [hcn25]; exact Nat.le_succ _
  have kx25 : ∀ a, κ a ≠ 0 → κ25 a = κ a := kxt kx13 hx24
  have hk26 : κ25 this = 0 := (hex25 this (by omega) (by omega)).1.trans hk14
  have hl27 := (hex25 this (by omega) (by omega)).2.2.2.2.2
  have g28 : la25 this = la this := (ag25 this lt17).trans g16
  have lt29 : this < cnt25 := Nat.lt_of_lt_of_le lt17 ccf25
  have g30 : la25 cnt = la18 cnt := ag25 cnt lt18
  have lt31 : cnt < cnt25 := Nat.lt_of_lt_of_le lt18 ccf25
  have hag25 : ∀ z, z < cnt → la25 z = la z := fun z hz => (ag25 z (Nat.lt_of_lt_of_le hz (Nat.le_trans (Nat.le_refl _) ccf18))).trans (hag18 z hz)
  have fG25 : FRM cnt18 [] (fun _ => True) G18 G25 := fun g z hz _ => (hex25 z hz (Nat.ne_of_lt hz)).2.1 g
  have fP25 : FRM cnt18 [] (fun _ => True) (va_up P18 201 m20) P25 := fun g z hz _ => (hex25 z hz (Nat.ne_of_lt hz)).2.2.1 g
  have fV25 : FRM cnt18 [] (fun _ => True) V18 V25 := fun g z hz _ => (hex25 z hz (Nat.ne_of_lt hz)).2.2.2.1 g
  have fO25 : FRM cnt18 [] (fun _ => True) O18 O25 := fun g z hz _ => (hex25 z hz (Nat.ne_of_lt hz)).2.2.2.2.1 g
  have fl25 : ∀ z, z < cnt18 → ln25 z = ln18 z := fun z hz => (hex25 z hz (Nat.ne_of_lt hz)).2.2.2.2.2
  have lt32 : cnt18 < cnt25 := by rw [hcn25]; exact Nat.lt_succ_self _
  have hn33 : (P25 201) this = some cnt := ((hex25 this lt17 (Nat.ne_of_lt lt17)).2.2.1 201).trans sm20
  have lt_cnt34 := ((hB25.1 201 fl_201) this cnt hn33).2.1
  have lb_cnt34 : la25 cnt = la25 this + 0 := lk_201.mp ((hB25.1 201 fl_201) this cnt hn33).2.2
  have hk_cnt := (((CInv_P201 hCI25 :) this).2 cnt hn33).1
  have hl1_cnt := (((CInv_P201 hCI25 :) this).2 cnt hn33).2.1
  have hl2_cnt := (((CInv_P201 hCI25 :) this).2 cnt hn33).2.2.1
  have hw_cnt := (((CInv_P201 hCI25 :) this).2 cnt hn33).2.2.2
  have hz_cnt : (Int32.ofNat (ln25 cnt)).toInt = ((ln25 cnt : Nat) : Int) := ofN_eq (by first | exact Nat.le_trans hl2_cnt (by decide) | omega)
  refine pw_vl (fun m27 em27 => ?_)
  have hl35 : LC 202 la25 cnt25 m27 := LC_up (hB25.1 202 fl_202) em27 (by omega) (by omega) (lk_202.mpr (by omega))
  have hp36 : PB κ25 ln25 wd 11 101 0 100 0 m27 := by rw [em27]; exact PB_up (CInv_P202 hCI25 :) hkn25 (by omega) (by omega) (fun h9 => absurd h9 (by decide))
  have sm27 : m27 this = some cnt18 := by rw [em27]; exact va_up_self _ _ _
  have hRA37 : RA κ25 ln25 (G25 200) (P25 201) m27 := by rw [em27]; exact RA_s (CInv_RA hCI25 :) (by rw [hk26]; decide)
  have hRB38 : RB κ25 ln25 (G25 200) (G25 203) m27 (V25 1) := by rw [em27]; exact RB_s (CInv_RB hCI25 :) (by rw [hk26]; decide)
  have hRI39 : RI m27 := by rw [em27]; exact RI_s (CInv_RI hCI25 :) hfs25
  have hRM10340 : RM ln25 40 (P25 103) m27 := by rw [em27]; exact RM_s (CInv_RM103 hCI25 :) (fun a ha => absurd ((((CInv_P103 hCI25 :) a).2 _ ha).1.symm.trans hk26) (by decide))
  have hRM10441 : RM ln25 40 (P25 104) m27 := by rw [em27]; exact RM_s (CInv_RM104 hCI25 :) (fun a ha => absurd ((((CInv_P104 hCI25 :) a).2 _ ha).1.symm.trans hk26) (by decide))
  have hRM10842 : RM ln25 40 (P25 108) m27 := by rw [em27]; exact RM_s (CInv_RM108 hCI25 :) (fun a ha => absurd ((((CInv_P108 hCI25 :) a).2 _ ha).1.symm.trans hk26) (by decide))
  have qq0 : ∃ l s, (P25 201) this = some l ∧ m27 this = some s ∧ ln25 s = Int32.toNatClampNeg p0 := by exact ⟨_, _, hn33, sm27, hln25⟩
  have qq1 : (G25 200) this = p1 ∧ (G25 203) this = 0 := by refine ⟨?_, ?_⟩; (rw [(hex25 this (by omega) (by omega)).2.1 200, (hex18 this (by omega) (by omega)).2.1 200]; show m11 this = p1; rw [em11, va_up_self]); (rw [(hex25 this (by omega) (by omega)).2.1 203, (hex18 this (by omega) (by omega)).2.1 203]; show m6 this = 0; rw [em6, va_up_self])
  exact pw_some ⟨la25, hag25, (LB_set hB25 hl35), qq0, qq1⟩
abbrev QF_X0_formsAt (κ : Nat → Nat) (wd : Nat) (la : Nat → Nat) (G : Nat → Nat → Int32) (P : Nat → Nat → Option Nat) (U : Nat → Nat → Int64) (V : Nat → Nat → Nat → Int32) (X : Nat → Nat → Nat → Int64) (O : Nat → Nat → Nat → Option Nat) (kd : Nat → Nat) (ln : Nat → Nat) (cnt : Nat) (this : Nat) (p0 : Int32) (p1 : Int32) (fa : Nat) : (Nat) → Prop := (fun t => ((∀ b, (O 1) fa (Int32.toNatClampNeg (p0 * 100 + p1)) = some b → t = b)))
set_option maxHeartbeats 4000000 in
set_option maxRecDepth 100000 in
theorem fn_X0_formsAt (κ : Nat → Nat) (wd : Nat) (la : Nat → Nat) (G : Nat → Nat → Int32) (P : Nat → Nat → Option Nat) (U : Nat → Nat → Int64) (V : Nat → Nat → Nat → Int32) (X : Nat → Nat → Nat → Int64) (O : Nat → Nat → Nat → Option Nat) (kd : Nat → Nat) (ln : Nat → Nat) (cnt : Nat) (this : Nat) (p0 : Int32) (p1 : Int32) (fa : Nat) (hzP1 : PB κ ln wd 1 301 700 700 0 (P 1)) (hzP5 : PB κ ln wd 1 11 0 2500 0 (P 5)) (hzO1 : OB κ 11 (O 1)) (hzLN : LN κ ln) (hk_this : κ this = 1) (hp0 : (0 ≤ p0.toInt ∧ p0.toInt ≤ 6)) (hp1 : (0 ≤ p1.toInt ∧ p1.toInt < 100)) (hB : LB la cnt P) (hlt_this : this < cnt) (h1 : (P 1) this = some fa) : pw (f_X0_formsAt G P U V X O kd ln cnt this p0 p1) (QF_X0_formsAt κ wd la G P U V X O kd ln cnt this p0 p1 fa) := by
  unfold f_X0_formsAt
  have zk100 : (100 : Int32).toInt = 100 := by decide +kernel
  have r_p0 := i32r p0
  have r_p1 := i32r p1
  have hn1 : (P 1) this = some fa := h1
  have lt_fa2 := ((hB.1 1 fl_1) this fa hn1).2.1
  have lb_fa2 : la fa = la this + 0 := lk_1.mp ((hB.1 1 fl_1) this fa hn1).2.2
  have hk_fa := ((hzP1 this).2 fa hn1).1
  have hl1_fa := ((hzP1 this).2 fa hn1).2.1
  have hl2_fa := ((hzP1 this).2 fa hn1).2.2.1
  have hw_fa := ((hzP1 this).2 fa hn1).2.2.2
  have hz_fa : (Int32.ofNat (ln fa)).toInt = ((ln fa : Nat) : Int) := ofN_eq (by first | exact Nat.le_trans hl2_fa (by decide) | omega)
  refine pw_nne hn1 ?_
  have f3 : (p0 * 100).toInt = p0.toInt * 100 := z_mulc (by decide +kernel) (by omega) (by omega)
  have f4 : ((p0 * 100) + p1).toInt = (p0 * 100).toInt + p1.toInt := z_add (by omega) (by omega)
  refine pw_if (fun hb10 => ?_)
  obtain ⟨hbl10, hbr10⟩ := hb10
  refine pw_vl (fun o10 eo10 => ?_)
  have hk_o10 : ∀ b, o10 = some b → κ b = 11 := fun b hq => hzO1 _ _ b (eo10.symm.trans hq)
  refine pw_jE (fun j24 ej24 => ?_)
  refine pw_oc (fun c13 => ?_) (fun b13 c13 => ?_)
  · skip
    refine pw_nn (fun a17 hn_a17 => ?_)
    have lt_a175 := ((hB.1 5 fl_5) this a17 hn_a17).2.1
    have lb_a175 : la a17 = la this + 2 := lk_5.mp ((hB.1 5 fl_5) this a17 hn_a17).2.2
    have hk_a17 := ((hzP5 this).2 a17 hn_a17).1
    have hl1_a17 := ((hzP5 this).2 a17 hn_a17).2.1
    have hl2_a17 := ((hzP5 this).2 a17 hn_a17).2.2.1
    have hw_a17 := ((hzP5 this).2 a17 hn_a17).2.2.2
    refine pw_j1 ej24 (fun z24_0 ez24_0 => ?_)
    subst ez24_0
    have qq0 : (∀ b, (O 1) fa (Int32.toNatClampNeg (p0 * 100 + p1)) = some b → a17 = b) := by intro b hb; rw [← eo10, c13] at hb; cases hb
    exact pw_some qq0
  · skip
    have hk_b13 := hk_o10 b13 c13
    refine pw_j1 ej24 (fun z24_0 ez24_0 => ?_)
    subst ez24_0
    have qq0 : (∀ b, (O 1) fa (Int32.toNatClampNeg (p0 * 100 + p1)) = some b → b13 = b) := by intro b hb; rw [← eo10, c13] at hb; exact Option.some.inj hb
    exact pw_some qq0
abbrev QF_X0_fill (κ : Nat → Nat) (wd : Nat) (la : Nat → Nat) (G : Nat → Nat → Int32) (P : Nat → Nat → Option Nat) (U : Nat → Nat → Int64) (V : Nat → Nat → Nat → Int32) (X : Nat → Nat → Nat → Int64) (O : Nat → Nat → Nat → Option Nat) (kd : Nat → Nat) (ln : Nat → Nat) (cnt : Nat) (this : Nat) (p0 : Int32) (p1 : Nat) (p2 : Nat) (nw : Nat) (nx : Nat) (wh : Nat) (pg : Nat) (fi : Nat) (pa : Nat) (pk : Nat) (sz : Nat) (cl : Nat) (fa : Nat) (fl : Nat) (sp : Nat) (lsp : Nat) (ssp : Nat) (wl : Nat) (wz : Nat) (D : Nat) (d : Nat → Dr) (Ws : List Wd) : ((Nat → Nat → Int32) × (Nat → Nat → Option Nat) × (Nat → Nat → Int64) × (Nat → Nat → Nat → Int32) × (Nat → Nat → Nat → Int64) × (Nat → Nat → Nat → Option Nat) × (Nat → Nat) × (Nat → Nat) × Nat) → Prop := (fun t => ∃ la1 : Nat → Nat, (∀ z, z < cnt → la1 z = la z) ∧ LB la1 (t.2.2.2.2.2.2.2.2) (t.2.1) ∧ (BKR (t.1) (t.2.1) (t.2.2.2.1) la1 (t.2.2.2.2.2.2.2.2) D (((t.2.2.2.2.2.1) 1) fa) (fun s => Int32.toNatClampNeg (((t.2.2.2.1) 3) fl s)) (FMT d Ws)) ∧ ((∀ s : Nat, s < 7 → ((t.2.2.2.1) 3) fl s = (if (s : Int) ≤ p0.toInt then (G 203) wd else (V 3) fl s))))
set_option maxHeartbeats 40000000 in
set_option maxRecDepth 100000 in
theorem fn_X0_fill (κ : Nat → Nat) (wd : Nat) (la : Nat → Nat) (G : Nat → Nat → Int32) (P : Nat → Nat → Option Nat) (U : Nat → Nat → Int64) (V : Nat → Nat → Nat → Int32) (X : Nat → Nat → Nat → Int64) (O : Nat → Nat → Nat → Option Nat) (kd : Nat → Nat) (ln : Nat → Nat) (cnt : Nat) (this : Nat) (p0 : Int32) (p1 : Nat) (p2 : Nat) (nw : Nat) (nx : Nat) (wh : Nat) (pg : Nat) (fi : Nat) (pa : Nat) (pk : Nat) (sz : Nat) (cl : Nat) (fa : Nat) (fl : Nat) (sp : Nat) (lsp : Nat) (ssp : Nat) (wl : Nat) (wz : Nat) (D : Nat) (d : Nat → Dr) (Ws : List Wd) (hI : CInv κ wd G P V O ln cnt) (hk_this : κ this = 1) (hk_p1 : κ p1 = 302) (hk_p2 : κ p2 = 10) (hp0 : ln p1 = 6) (hB : LB la cnt P) (hlt_this : this < cnt) (hlt_p1 : p1 < cnt) (hlt_p2 : p2 < cnt) (h181 : (P 181) p2 = some nw) (h182 : (P 182) p2 = some nx) (hnn : nw ≠ nx) (h185 : (P 185) p2 = some wh) (h180 : (P 180) p2 = some pg) (hfi : (P 63) pg = some fi) (hpa : (P 65) pg = some pa) (hpk : (P 62) pg = some pk) (hsz : (P 61) pg = some sz) (hcl : (P 64) pg = some cl) (hlt9 : la p2 = 90) (h1 : (P 1) this = some fa) (h3 : (P 3) this = some fl) (h4 : (P 4) this = some sp) (hls : (P 201) sp = some lsp) (hss : (P 202) sp = some ssp) (hw4 : ((G 200) sp).toInt = ((24 : Nat) : Int)) (hn4 : ln ssp = 12) (hwl : (P 201) wd = some wl) (hwz : (P 202) wd = some wz) (hww : ((G 200) wd).toInt = ((24 : Nat) : Int)) (hWs : rwW ((G 203) wd) ((V 0) wl) ((V 1) wz) 24 = Ws) (hWw : WDS Ws) (hlb : la this = 70) (hlw : la wd = 20) (hst : 0 ≤ p0.toInt ∧ p0.toInt ≤ 6) (hrf : ∀ q : Nat, (q : Int) < p0.toInt → ∃ rf, (O 2) p1 q = some rf ∧ rf < cnt ∧ 100000 ≤ la rf ∧ RFX G P V O ln la cnt rf (d q)) (hbk : BKR G P V la cnt D ((O 1) fa) (fun s => Int32.toNatClampNeg ((V 3) fl s)) (FMT d Ws)) (hDc : D < 100000 + 10 * cnt) (h0 : (P 0) this = some wd) (hl7 : ln fl = 7 ∧ ln fa = 700) : pw (f_X0_fill G P U V X O kd ln cnt this p0 p1 p2) (sp1 (QF_X0_fill κ wd la G P U V X O kd ln cnt this p0 p1 p2 nw nx wh pg fi pa pk sz cl fa fl sp lsp ssp wl wz D d Ws)) := by
  unfold f_X0_fill
  have zk0 : (0 : Int32).toInt = 0 := by decide +kernel
  have zk1 : (1 : Int32).toInt = 1 := by decide +kernel
  have zk7 : (7 : Int32).toInt = 7 := by decide +kernel
  have zk24 : (24 : Int32).toInt = 24 := by decide +kernel
  have zk100 : (100 : Int32).toInt = 100 := by decide +kernel
  have r_p0 := i32r p0
  replace hnn : id _ := hnn
  have hn1 : (P 3) this = some fl := h3
  obtain ⟨_, lt_fl2, lb_fl2⟩ := (hB.1 3 fl_3) this fl hn1
  have lb_fl2 : la fl = 70 := (lk_3.mp lb_fl2).trans (congrArg (fun z9 => z9 + 0) hlb)
  have hk_fl := (((CInv_P3 hI :) this).2 fl hn1).1
  have hl1_fl := (((CInv_P3 hI :) this).2 fl hn1).2.1
  have hl2_fl := (((CInv_P3 hI :) this).2 fl hn1).2.2.1
  have hw_fl : id _ := (((CInv_P3 hI :) this).2 fl hn1).2.2.2
  have hz_fl : (Int32.ofNat (ln fl)).toInt = ((ln fl : Nat) : Int) := ofN_eq (by first | exact Nat.le_trans hl2_fl (by decide) | omega)
  have hn3 : (P 1) this = some fa := h1
  obtain ⟨_, lt_fa4, lb_fa4⟩ := (hB.1 1 fl_1) this fa hn3
  have lb_fa4 : la fa = 70 := (lk_1.mp lb_fa4).trans (congrArg (fun z9 => z9 + 0) hlb)
  have hk_fa := (((CInv_P1 hI :) this).2 fa hn3).1
  have hl1_fa := (((CInv_P1 hI :) this).2 fa hn3).2.1
  have hl2_fa := (((CInv_P1 hI :) this).2 fa hn3).2.2.1
  have hw_fa : id _ := (((CInv_P1 hI :) this).2 fa hn3).2.2.2
  have hz_fa : (Int32.ofNat (ln fa)).toInt = ((ln fa : Nat) : Int) := ofN_eq (by first | exact Nat.le_trans hl2_fa (by decide) | omega)
  have hn5 : (P 4) this = some sp := h4
  obtain ⟨_, lt_sp6, lb_sp6⟩ := (hB.1 4 fl_4) this sp hn5
  have lb_sp6 : la sp = 71 := (lk_4.mp lb_sp6).trans (congrArg (fun z9 => z9 + 1) hlb)
  have hk_sp := (((CInv_P4 hI :) this).2 sp hn5).1
  have hl1_sp := (((CInv_P4 hI :) this).2 sp hn5).2.1
  have hl2_sp := (((CInv_P4 hI :) this).2 sp hn5).2.2.1
  have hw_sp : id _ := (((CInv_P4 hI :) this).2 sp hn5).2.2.2
  have hn7 : (P 0) this = some wd := h0
  have lt_wd8 := ((hB.1 0 fl_0) this wd hn7).2.1
  have hk_wd := (((CInv_P0 hI :) this).2 wd hn7).1
  have hl1_wd := (((CInv_P0 hI :) this).2 wd hn7).2.1
  have hl2_wd := (((CInv_P0 hI :) this).2 wd hn7).2.2.1
  have hw_wd : id _ := (((CInv_P0 hI :) this).2 wd hn7).2.2.2
  have hn9 : (P 201) sp = some lsp := hls
  obtain ⟨_, lt_lsp10, lb_lsp10⟩ := (hB.1 201 fl_201) sp lsp hn9
  have lb_lsp10 : la lsp = 71 := (lk_201.mp lb_lsp10).trans (congrArg (fun z9 => z9 + 0) lb_sp6)
  have hk_lsp := (((CInv_P201 hI :) sp).2 lsp hn9).1
  have hl1_lsp := (((CInv_P201 hI :) sp).2 lsp hn9).2.1
  have hl2_lsp := (((CInv_P201 hI :) sp).2 lsp hn9).2.2.1
  have hw_lsp : id _ := (((CInv_P201 hI :) sp).2 lsp hn9).2.2.2
  have hz_lsp : (Int32.ofNat (ln lsp)).toInt = ((ln lsp : Nat) : Int) := ofN_eq (by first | exact Nat.le_trans hl2_lsp (by decide) | omega)
  have hn11 : (P 202) sp = some ssp := hss
  obtain ⟨_, lt_ssp12, lb_ssp12⟩ := (hB.1 202 fl_202) sp ssp hn11
  have lb_ssp12 : la ssp = 71 := (lk_202.mp lb_ssp12).trans (congrArg (fun z9 => z9 + 0) lb_sp6)
  have hk_ssp := (((CInv_P202 hI :) sp).2 ssp hn11).1
  have hl1_ssp := (((CInv_P202 hI :) sp).2 ssp hn11).2.1
  have hl2_ssp := (((CInv_P202 hI :) sp).2 ssp hn11).2.2.1
  have hw_ssp : id _ := (((CInv_P202 hI :) sp).2 ssp hn11).2.2.2
  have hz_ssp : (Int32.ofNat (ln ssp)).toInt = ((ln ssp : Nat) : Int) := ofN_eq (by first | exact Nat.le_trans hl2_ssp (by decide) | omega)
  have rb13 := ((CInv_RB hI :) sp ssp hk_sp hn11).1
  have ra14 := (CInv_RA hI :) sp lsp ssp hk_sp hn9 hn11
  have bw15 := (CInv_G200 hI :) sp
  have hn16 : (P 201) wd = some wl := hwl
  obtain ⟨_, lt_wl17, lb_wl17⟩ := (hB.1 201 fl_201) wd wl hn16
  have lb_wl17 : la wl = 20 := (lk_201.mp lb_wl17).trans (congrArg (fun z9 => z9 + 0) hlw)
  have hk_wl := (((CInv_P201 hI :) wd).2 wl hn16).1
  have hl1_wl := (((CInv_P201 hI :) wd).2 wl hn16).2.1
  have hl2_wl := (((CInv_P201 hI :) wd).2 wl hn16).2.2.1
  have hw_wl : id _ := (((CInv_P201 hI :) wd).2 wl hn16).2.2.2
  have hz_wl : (Int32.ofNat (ln wl)).toInt = ((ln wl : Nat) : Int) := ofN_eq (by first | exact Nat.le_trans hl2_wl (by decide) | omega)
  have hn18 : (P 202) wd = some wz := hwz
  obtain ⟨_, lt_wz19, lb_wz19⟩ := (hB.1 202 fl_202) wd wz hn18
  have lb_wz19 : la wz = 20 := (lk_202.mp lb_wz19).trans (congrArg (fun z9 => z9 + 0) hlw)
  have hk_wz := (((CInv_P202 hI :) wd).2 wz hn18).1
  have hl1_wz := (((CInv_P202 hI :) wd).2 wz hn18).2.1
  have hl2_wz := (((CInv_P202 hI :) wd).2 wz hn18).2.2.1
  have hw_wz : id _ := (((CInv_P202 hI :) wd).2 wz hn18).2.2.2
  have hz_wz : (Int32.ofNat (ln wz)).toInt = ((ln wz : Nat) : Int) := ofN_eq (by first | exact Nat.le_trans hl2_wz (by decide) | omega)
  have rb20 := ((CInv_RB hI :) wd wz hk_wd hn18).1
  have ra21 := (CInv_RA hI :) wd wl wz hk_wd hn16 hn18
  have bw22 := (CInv_G200 hI :) wd
  have hn23 : (P 185) p2 = some wh := h185
  obtain ⟨_, lt_wh24, lb_wh24⟩ := (hB.1 185 fl_185) p2 wh hn23
  have lb_wh24 : la wh = 93 := (lk_185.mp lb_wh24).trans (congrArg (fun z9 => z9 + 3) hlt9)
  have hk_wh := (((CInv_P185 hI :) p2).2 wh hn23).1
  have hl1_wh := (((CInv_P185 hI :) p2).2 wh hn23).2.1
  have hl2_wh := (((CInv_P185 hI :) p2).2 wh hn23).2.2.1
  have hw_wh : id _ := (((CInv_P185 hI :) p2).2 wh hn23).2.2.2
  have hz_wh : (Int32.ofNat (ln wh)).toInt = ((ln wh : Nat) : Int) := ofN_eq (by first | exact Nat.le_trans hl2_wh (by decide) | omega)
  have hn25 : (P 180) p2 = some pg := h180
  obtain ⟨_, lt_pg26, lb_pg26⟩ := (hB.1 180 fl_180) p2 pg hn25
  have lb_pg26 : la pg = 96 := (lk_180.mp lb_pg26).trans (congrArg (fun z9 => z9 + 6) hlt9)
  have hk_pg := (((CInv_P180 hI :) p2).2 pg hn25).1
  have hl1_pg := (((CInv_P180 hI :) p2).2 pg hn25).2.1
  have hl2_pg := (((CInv_P180 hI :) p2).2 pg hn25).2.2.1
  have hw_pg : id _ := (((CInv_P180 hI :) p2).2 pg hn25).2.2.2
  have hn27 : (P 63) pg = some fi := hfi
  obtain ⟨_, lt_fi28, lb_fi28⟩ := (hB.1 63 fl_63) pg fi hn27
  have lb_fi28 : la fi = 97 := (lk_63.mp lb_fi28).trans (congrArg (fun z9 => z9 + 1) lb_pg26)
  have hk_fi := (((CInv_P63 hI :) pg).2 fi hn27).1
  have hl1_fi := (((CInv_P63 hI :) pg).2 fi hn27).2.1
  have hl2_fi := (((CInv_P63 hI :) pg).2 fi hn27).2.2.1
  have hw_fi : id _ := (((CInv_P63 hI :) pg).2 fi hn27).2.2.2
  have hz_fi : (Int32.ofNat (ln fi)).toInt = ((ln fi : Nat) : Int) := ofN_eq (by first | exact Nat.le_trans hl2_fi (by decide) | omega)
  have hn29 : (P 65) pg = some pa := hpa
  obtain ⟨_, lt_pa30, lb_pa30⟩ := (hB.1 65 fl_65) pg pa hn29
  have lb_pa30 : la pa = 98 := (lk_65.mp lb_pa30).trans (congrArg (fun z9 => z9 + 2) lb_pg26)
  have hk_pa := (((CInv_P65 hI :) pg).2 pa hn29).1
  have hl1_pa := (((CInv_P65 hI :) pg).2 pa hn29).2.1
  have hl2_pa := (((CInv_P65 hI :) pg).2 pa hn29).2.2.1
  have hw_pa : id _ := (((CInv_P65 hI :) pg).2 pa hn29).2.2.2
  have hz_pa : (Int32.ofNat (ln pa)).toInt = ((ln pa : Nat) : Int) := ofN_eq (by first | exact Nat.le_trans hl2_pa (by decide) | omega)
  have hn31 : (P 62) pg = some pk := hpk
  obtain ⟨_, lt_pk32, lb_pk32⟩ := (hB.1 62 fl_62) pg pk hn31
  have lb_pk32 : la pk = 96 := (lk_62.mp lb_pk32).trans (congrArg (fun z9 => z9 + 0) lb_pg26)
  have hk_pk := (((CInv_P62 hI :) pg).2 pk hn31).1
  have hl1_pk := (((CInv_P62 hI :) pg).2 pk hn31).2.1
  have hl2_pk := (((CInv_P62 hI :) pg).2 pk hn31).2.2.1
  have hw_pk : id _ := (((CInv_P62 hI :) pg).2 pk hn31).2.2.2
  have hz_pk : (Int32.ofNat (ln pk)).toInt = ((ln pk : Nat) : Int) := ofN_eq (by first | exact Nat.le_trans hl2_pk (by decide) | omega)
  have hn33 : (P 61) pg = some sz := hsz
  obtain ⟨_, lt_sz34, lb_sz34⟩ := (hB.1 61 fl_61) pg sz hn33
  have lb_sz34 : la sz = 96 := (lk_61.mp lb_sz34).trans (congrArg (fun z9 => z9 + 0) lb_pg26)
  have hk_sz := (((CInv_P61 hI :) pg).2 sz hn33).1
  have hl1_sz := (((CInv_P61 hI :) pg).2 sz hn33).2.1
  have hl2_sz := (((CInv_P61 hI :) pg).2 sz hn33).2.2.1
  have hw_sz : id _ := (((CInv_P61 hI :) pg).2 sz hn33).2.2.2
  have hz_sz : (Int32.ofNat (ln sz)).toInt = ((ln sz : Nat) : Int) := ofN_eq (by first | exact Nat.le_trans hl2_sz (by decide) | omega)
  have hn35 : (P 64) pg = some cl := hcl
  obtain ⟨_, lt_cl36, lb_cl36⟩ := (hB.1 64 fl_64) pg cl hn35
  have lb_cl36 : la cl = 96 := (lk_64.mp lb_cl36).trans (congrArg (fun z9 => z9 + 0) lb_pg26)
  have hk_cl := (((CInv_P64 hI :) pg).2 cl hn35).1
  have hl1_cl := (((CInv_P64 hI :) pg).2 cl hn35).2.1
  have hl2_cl := (((CInv_P64 hI :) pg).2 cl hn35).2.2.1
  have hw_cl : id _ := (((CInv_P64 hI :) pg).2 cl hn35).2.2.2
  have hz_cl : (Int32.ofNat (ln cl)).toInt = ((ln cl : Nat) : Int) := ofN_eq (by first | exact Nat.le_trans hl2_cl (by decide) | omega)
  have hn37 : (P 181) p2 = some nw := h181
  obtain ⟨_, lt_nw38, lb_nw38⟩ := (hB.1 181 fl_181) p2 nw hn37
  have lb_nw38 : 91 ≤ la nw ∧ la nw ≤ 92 := by have z9 := lk_181.mp lb_nw38; rw [hlt9] at z9; exact or_bd z9 (by decide)
  have hk_nw := (((CInv_P181 hI :) p2).2 nw hn37).1
  have hl1_nw := (((CInv_P181 hI :) p2).2 nw hn37).2.1
  have hl2_nw := (((CInv_P181 hI :) p2).2 nw hn37).2.2.1
  have hw_nw : id _ := (((CInv_P181 hI :) p2).2 nw hn37).2.2.2
  have hz_nw : (Int32.ofNat (ln nw)).toInt = ((ln nw : Nat) : Int) := ofN_eq (by first | exact Nat.le_trans hl2_nw (by decide) | omega)
  have hn39 : (P 182) p2 = some nx := h182
  obtain ⟨_, lt_nx40, lb_nx40⟩ := (hB.1 182 fl_182) p2 nx hn39
  have lb_nx40 : 91 ≤ la nx ∧ la nx ≤ 92 := by have z9 := lk_182.mp lb_nx40; rw [hlt9] at z9; exact or_bd z9 (by decide)
  have hk_nx := (((CInv_P182 hI :) p2).2 nx hn39).1
  have hl1_nx := (((CInv_P182 hI :) p2).2 nx hn39).2.1
  have hl2_nx := (((CInv_P182 hI :) p2).2 nx hn39).2.2.1
  have hw_nx : id _ := (((CInv_P182 hI :) p2).2 nx hn39).2.2.2
  have hz_nx : (Int32.ofNat (ln nx)).toInt = ((ln nx : Nat) : Int) := ofN_eq (by first | exact Nat.le_trans hl2_nx (by decide) | omega)
  refine pw_jE (fun k194 ek194 => ?_)
  have lp3 : ∀ (n3 : Nat) (y3_4 : Int32) (d3_G : Nat → Nat → Int32) (d3_P : Nat → Nat → Option Nat) (d3_U : Nat → Nat → Int64) (d3_V : Nat → Nat → Nat → Int32) (d3_X : Nat → Nat → Nat → Int64) (d3_O : Nat → Nat → Nat → Option Nat) (d3_kd : Nat → Nat) (d3_ln : Nat → Nat) (d3_cnt : Nat) (κ3 : Nat → Nat) (la3 : Nat → Nat), CInv κ3 wd d3_G d3_P d3_V d3_O d3_ln d3_cnt → (∀ a, κ a ≠ 0 → κ3 a = κ a) → cnt ≤ d3_cnt → κ3 this = 1 → κ3 p1 = 302 → κ3 p2 = 10 → FRM cnt [60, 183, 203] (fun z => (la z < la this ∨ la this + 2 < la z) ∧ (la z < la p2 ∨ la p2 + 8 < la z)) G d3_G → FRM cnt [66, 181, 182] (fun z => (la z < la this ∨ la this + 2 < la z) ∧ (la z < la p2 ∨ la p2 + 8 < la z)) P d3_P → FRM cnt [184] (fun z => (la z < la this ∨ la this + 2 < la z) ∧ (la z < la p2 ∨ la p2 + 8 < la z)) U d3_U → FRM cnt [0, 1, 2, 3, 12] (fun z => (la z < la this ∨ la this + 2 < la z) ∧ (la z < la p2 ∨ la p2 + 8 < la z)) V d3_V → FRM cnt [1] (fun z => (la z < la this ∨ la this + 2 < la z) ∧ (la z < la p2 ∨ la p2 + 8 < la z)) X d3_X → FRM cnt [1] (fun z => (la z < la this ∨ la this + 2 < la z) ∧ (la z < la p2 ∨ la p2 + 8 < la z)) O d3_O → (∀ z, z < cnt → d3_ln z = ln z) → (∀ z, z < cnt → la3 z = la z) → LB la3 d3_cnt d3_P → fa < d3_cnt → fl < d3_cnt → lsp < d3_cnt → p1 < d3_cnt → p2 < d3_cnt → sp < d3_cnt → ssp < d3_cnt → this < d3_cnt → wl < d3_cnt → wz < d3_cnt → (0 ≤ y3_4.toInt ∧ y3_4.toInt ≤ 7) → (d3_G 203) wd = (G 203) wd → y3_4.toInt ≤ p0.toInt + 1 → (∀ s : Nat, (d3_V 3) fl s = (if s < Int32.toNatClampNeg y3_4 then (G 203) wd else (V 3) fl s)) → (id (BKR d3_G d3_P d3_V la3 d3_cnt D ((d3_O 1) fa) (fun s => if s < Int32.toNatClampNeg y3_4 then Int32.toNatClampNeg ((G 203) wd) else Int32.toNatClampNeg ((V 3) fl s)) (FMT d Ws))) → (∃ nw1 nx1, (d3_P 181) p2 = some nw1 ∧ (d3_P 182) p2 = some nx1 ∧ ((nw1 = nw ∧ nx1 = nx) ∨ (nw1 = nx ∧ nx1 = nw))) → pw (L_X0_fill_3 this p0 p1 p2 k194 n3 y3_4 d3_G d3_P d3_U d3_V d3_X d3_O d3_kd d3_ln d3_cnt) (sp1 (QF_X0_fill κ wd la G P U V X O kd ln cnt this p0 p1 p2 nw nx wh pg fi pa pk sz cl fa fl sp lsp ssp wl wz D d Ws)) := by
    intro n3
    induction n3 with
    | zero => intros; exact pw_none
    | succ n3 ih3 =>
      intro y3_4 d3_G d3_P d3_U d3_V d3_X d3_O d3_kd d3_ln d3_cnt κ3 la3 hCI3 hx3 hcc41 hk42 hk43 hk44 hF3_G hF3_P hF3_U hF3_V hF3_X hF3_O hlnn3 hag3 hB3 lt45 lt46 lt47 lt48 lt49 lt50 lt51 lt52 lt53 lt54 f55 f56 f57 vf3 bk3 sw3
      replace sw3 : id _ := sw3
      show pw (B_X0_fill_3 this p0 p1 p2 k194 (L_X0_fill_3 this p0 p1 p2 k194 n3) y3_4 d3_G d3_P d3_U d3_V d3_X d3_O d3_kd d3_ln d3_cnt) _
      unfold B_X0_fill_3
      have gl_58 : la3 this = 70 := (hag3 this hlt_this).trans hlb
      have gl_59 : la3 wd = 20 := (hag3 wd lt_wd8).trans hlw
      have gl_60 : la3 p2 = 90 := (hag3 p2 hlt_p2).trans hlt9
      have gl_61 : la3 fl = 70 := (hag3 fl lt_fl2).trans lb_fl2
      have gl_62 : la3 fa = 70 := (hag3 fa lt_fa4).trans lb_fa4
      have gl_63 : la3 sp = 71 := (hag3 sp lt_sp6).trans lb_sp6
      have gl_64 : la3 lsp = 71 := (hag3 lsp lt_lsp10).trans lb_lsp10
      have gl_65 : la3 ssp = 71 := (hag3 ssp lt_ssp12).trans lb_ssp12
      have gl_66 : la3 wl = 20 := (hag3 wl lt_wl17).trans lb_wl17
      have gl_67 : la3 wz = 20 := (hag3 wz lt_wz19).trans lb_wz19
      have gl_68 : la3 wh = 93 := (hag3 wh lt_wh24).trans lb_wh24
      have gl_69 : la3 pg = 96 := (hag3 pg lt_pg26).trans lb_pg26
      have gl_70 : la3 fi = 97 := (hag3 fi lt_fi28).trans lb_fi28
      have gl_71 : la3 pa = 98 := (hag3 pa lt_pa30).trans lb_pa30
      have gl_72 : la3 pk = 96 := (hag3 pk lt_pk32).trans lb_pk32
      have gl_73 : la3 sz = 96 := (hag3 sz lt_sz34).trans lb_sz34
      have gl_74 : la3 cl = 96 := (hag3 cl lt_cl36).trans lb_cl36
      have gl_75 : 91 ≤ la3 nw ∧ la3 nw ≤ 92 := by rw [hag3 nw lt_nw38]; exact lb_nw38
      have gl_76 : 91 ≤ la3 nx ∧ la3 nx ≤ 92 := by rw [hag3 nx lt_nx40]; exact lb_nx40
      have hn77 : (d3_P 3) this = some fl := (hF3_P 3 this (by omega) (fun q => absurd q (by decide))).trans h3
      have lt_fl78 := ((hB3.1 3 fl_3) this fl hn77).2.1
      have hk_fl := (((CInv_P3 hCI3 :) this).2 fl hn77).1
      have hl1_fl := (((CInv_P3 hCI3 :) this).2 fl hn77).2.1
      have hl2_fl := (((CInv_P3 hCI3 :) this).2 fl hn77).2.2.1
      have hw_fl : id _ := (((CInv_P3 hCI3 :) this).2 fl hn77).2.2.2
      have hn79 : (d3_P 1) this = some fa := (hF3_P 1 this (by omega) (fun q => absurd q (by decide))).trans h1
      have lt_fa80 := ((hB3.1 1 fl_1) this fa hn79).2.1
      have hk_fa := (((CInv_P1 hCI3 :) this).2 fa hn79).1
      have hl1_fa := (((CInv_P1 hCI3 :) this).2 fa hn79).2.1
      have hl2_fa := (((CInv_P1 hCI3 :) this).2 fa hn79).2.2.1
      have hw_fa : id _ := (((CInv_P1 hCI3 :) this).2 fa hn79).2.2.2
      have hn81 : (d3_P 4) this = some sp := (hF3_P 4 this (by omega) (fun q => absurd q (by decide))).trans h4
      have lt_sp82 := ((hB3.1 4 fl_4) this sp hn81).2.1
      have hk_sp := (((CInv_P4 hCI3 :) this).2 sp hn81).1
      have hl1_sp := (((CInv_P4 hCI3 :) this).2 sp hn81).2.1
      have hl2_sp := (((CInv_P4 hCI3 :) this).2 sp hn81).2.2.1
      have hw_sp : id _ := (((CInv_P4 hCI3 :) this).2 sp hn81).2.2.2
      have hn83 : (d3_P 0) this = some wd := (hF3_P 0 this (by omega) (fun q => absurd q (by decide))).trans h0
      have lt_wd84 := ((hB3.1 0 fl_0) this wd hn83).2.1
      have hk_wd := (((CInv_P0 hCI3 :) this).2 wd hn83).1
      have hl1_wd := (((CInv_P0 hCI3 :) this).2 wd hn83).2.1
      have hl2_wd := (((CInv_P0 hCI3 :) this).2 wd hn83).2.2.1
      have hw_wd : id _ := (((CInv_P0 hCI3 :) this).2 wd hn83).2.2.2
      have hn85 : (d3_P 201) sp = some lsp := (hF3_P 201 sp (by omega) (fun q => absurd q (by decide))).trans hls
      have lt_lsp86 := ((hB3.1 201 fl_201) sp lsp hn85).2.1
      have hk_lsp := (((CInv_P201 hCI3 :) sp).2 lsp hn85).1
      have hl1_lsp := (((CInv_P201 hCI3 :) sp).2 lsp hn85).2.1
      have hl2_lsp := (((CInv_P201 hCI3 :) sp).2 lsp hn85).2.2.1
      have hw_lsp : id _ := (((CInv_P201 hCI3 :) sp).2 lsp hn85).2.2.2
      have hn87 : (d3_P 202) sp = some ssp := (hF3_P 202 sp (by omega) (fun q => absurd q (by decide))).trans hss
      have lt_ssp88 := ((hB3.1 202 fl_202) sp ssp hn87).2.1
      have hk_ssp := (((CInv_P202 hCI3 :) sp).2 ssp hn87).1
      have hl1_ssp := (((CInv_P202 hCI3 :) sp).2 ssp hn87).2.1
      have hl2_ssp := (((CInv_P202 hCI3 :) sp).2 ssp hn87).2.2.1
      have hw_ssp : id _ := (((CInv_P202 hCI3 :) sp).2 ssp hn87).2.2.2
      have rb89 := ((CInv_RB hCI3 :) sp ssp hk_sp hn87).1
      have hn92 : (d3_P 201) wd = some wl := (hF3_P 201 wd (by omega) (fun q => absurd q (by decide))).trans hwl
      have lt_wl93 := ((hB3.1 201 fl_201) wd wl hn92).2.1
      have hk_wl := (((CInv_P201 hCI3 :) wd).2 wl hn92).1
      have hl1_wl := (((CInv_P201 hCI3 :) wd).2 wl hn92).2.1
      have hl2_wl := (((CInv_P201 hCI3 :) wd).2 wl hn92).2.2.1
      have hw_wl : id _ := (((CInv_P201 hCI3 :) wd).2 wl hn92).2.2.2
      have hn94 : (d3_P 202) wd = some wz := (hF3_P 202 wd (by omega) (fun q => absurd q (by decide))).trans hwz
      have lt_wz95 := ((hB3.1 202 fl_202) wd wz hn94).2.1
      have hk_wz := (((CInv_P202 hCI3 :) wd).2 wz hn94).1
      have hl1_wz := (((CInv_P202 hCI3 :) wd).2 wz hn94).2.1
      have hl2_wz := (((CInv_P202 hCI3 :) wd).2 wz hn94).2.2.1
      have hw_wz : id _ := (((CInv_P202 hCI3 :) wd).2 wz hn94).2.2.2
      have rb96 := ((CInv_RB hCI3 :) wd wz hk_wd hn94).1
      have hn99 : (d3_P 185) p2 = some wh := (hF3_P 185 p2 (by omega) (fun q => absurd q (by decide))).trans h185
      have lt_wh100 := ((hB3.1 185 fl_185) p2 wh hn99).2.1
      have hk_wh := (((CInv_P185 hCI3 :) p2).2 wh hn99).1
      have hl1_wh := (((CInv_P185 hCI3 :) p2).2 wh hn99).2.1
      have hl2_wh := (((CInv_P185 hCI3 :) p2).2 wh hn99).2.2.1
      have hw_wh : id _ := (((CInv_P185 hCI3 :) p2).2 wh hn99).2.2.2
      have hn101 : (d3_P 180) p2 = some pg := (hF3_P 180 p2 (by omega) (fun q => absurd q (by decide))).trans h180
      have lt_pg102 := ((hB3.1 180 fl_180) p2 pg hn101).2.1
      have hk_pg := (((CInv_P180 hCI3 :) p2).2 pg hn101).1
      have hl1_pg := (((CInv_P180 hCI3 :) p2).2 pg hn101).2.1
      have hl2_pg := (((CInv_P180 hCI3 :) p2).2 pg hn101).2.2.1
      have hw_pg : id _ := (((CInv_P180 hCI3 :) p2).2 pg hn101).2.2.2
      have hn103 : (d3_P 63) pg = some fi := (hF3_P 63 pg (by omega) (fun q => absurd q (by decide))).trans hfi
      have lt_fi104 := ((hB3.1 63 fl_63) pg fi hn103).2.1
      have hk_fi := (((CInv_P63 hCI3 :) pg).2 fi hn103).1
      have hl1_fi := (((CInv_P63 hCI3 :) pg).2 fi hn103).2.1
      have hl2_fi := (((CInv_P63 hCI3 :) pg).2 fi hn103).2.2.1
      have hw_fi : id _ := (((CInv_P63 hCI3 :) pg).2 fi hn103).2.2.2
      have hn105 : (d3_P 65) pg = some pa := (hF3_P 65 pg (by omega) (fun q => absurd q (by decide))).trans hpa
      have lt_pa106 := ((hB3.1 65 fl_65) pg pa hn105).2.1
      have hk_pa := (((CInv_P65 hCI3 :) pg).2 pa hn105).1
      have hl1_pa := (((CInv_P65 hCI3 :) pg).2 pa hn105).2.1
      have hl2_pa := (((CInv_P65 hCI3 :) pg).2 pa hn105).2.2.1
      have hw_pa : id _ := (((CInv_P65 hCI3 :) pg).2 pa hn105).2.2.2
      have hn107 : (d3_P 62) pg = some pk := (hF3_P 62 pg (by omega) (fun q => absurd q (by decide))).trans hpk
      have lt_pk108 := ((hB3.1 62 fl_62) pg pk hn107).2.1
      have hk_pk := (((CInv_P62 hCI3 :) pg).2 pk hn107).1
      have hl1_pk := (((CInv_P62 hCI3 :) pg).2 pk hn107).2.1
      have hl2_pk := (((CInv_P62 hCI3 :) pg).2 pk hn107).2.2.1
      have hw_pk : id _ := (((CInv_P62 hCI3 :) pg).2 pk hn107).2.2.2
      have hn109 : (d3_P 61) pg = some sz := (hF3_P 61 pg (by omega) (fun q => absurd q (by decide))).trans hsz
      have lt_sz110 := ((hB3.1 61 fl_61) pg sz hn109).2.1
      have hk_sz := (((CInv_P61 hCI3 :) pg).2 sz hn109).1
      have hl1_sz := (((CInv_P61 hCI3 :) pg).2 sz hn109).2.1
      have hl2_sz := (((CInv_P61 hCI3 :) pg).2 sz hn109).2.2.1
      have hw_sz : id _ := (((CInv_P61 hCI3 :) pg).2 sz hn109).2.2.2
      have hn111 : (d3_P 64) pg = some cl := (hF3_P 64 pg (by omega) (fun q => absurd q (by decide))).trans hcl
      have lt_cl112 := ((hB3.1 64 fl_64) pg cl hn111).2.1
      have hk_cl := (((CInv_P64 hCI3 :) pg).2 cl hn111).1
      have hl1_cl := (((CInv_P64 hCI3 :) pg).2 cl hn111).2.1
      have hl2_cl := (((CInv_P64 hCI3 :) pg).2 cl hn111).2.2.1
      have hw_cl : id _ := (((CInv_P64 hCI3 :) pg).2 cl hn111).2.2.2
      have hlp1 : d3_ln p1 = ln p1 := hlnn3 p1 hlt_p1
      have gz3 : (d3_G 203) wd = (G 203) wd := by assumption
      have gz3i := congrArg Int32.toInt gz3
      have c4 := clampI (x := y3_4) (by omega)
      refine pw_ite (fun c6 => ?_) (fun c6 => ?_)
      · have c6 := (z_lt _ _).mp c6
        refine pw_j9 ek194 (fun z194_0 ez194_0 z194_1 ez194_1 z194_2 ez194_2 z194_3 ez194_3 z194_4 ez194_4 z194_5 ez194_5 z194_6 ez194_6 z194_7 ez194_7 z194_8 ez194_8 => ?_)
        subst ez194_0 ez194_1 ez194_2 ez194_3 ez194_4 ez194_5 ez194_6 ez194_7 ez194_8
        have qq0 : BKR d3_G d3_P d3_V la3 d3_cnt D ((d3_O 1) fa) (fun s => Int32.toNatClampNeg ((d3_V 3) fl s)) (FMT d Ws) := by refine BKR_nb bk3 (fun s hs => ?_); show Int32.toNatClampNeg ((d3_V 3) fl s) ≤ (if s < _ then _ else _); rw [vf3 s]; by_cases q8 : s < Int32.toNatClampNeg y3_4; (rw [if_pos q8, if_pos q8]; exact Nat.le_refl _); (rw [if_neg q8, if_neg q8]; exact Nat.le_refl _)
        have qq1 : id ((∀ s : Nat, s < 7 → (d3_V 3) fl s = (if (s : Int) ≤ p0.toInt then (G 203) wd else (V 3) fl s))) := show (∀ s : Nat, s < 7 → (d3_V 3) fl s = (if (s : Int) ≤ p0.toInt then (G 203) wd else (V 3) fl s)) from by intro s hs; rw [vf3 s]; by_cases q8 : s < Int32.toNatClampNeg y3_4; (rw [if_pos q8, if_pos (by omega)]); (rw [if_neg q8, if_neg (by omega)])
        exact pw_some ⟨la3, hag3, hB3, qq0, qq1⟩
      · have c6 := z_nlt c6
        refine pw_ite (fun c13 => ?_) (fun c13 => ?_)
        · have c13 := (z_le _ _).mp c13
          refine pw_j9 ek194 (fun z194_0 ez194_0 z194_1 ez194_1 z194_2 ez194_2 z194_3 ez194_3 z194_4 ez194_4 z194_5 ez194_5 z194_6 ez194_6 z194_7 ez194_7 z194_8 ez194_8 => ?_)
          subst ez194_0 ez194_1 ez194_2 ez194_3 ez194_4 ez194_5 ez194_6 ez194_7 ez194_8
          have qq0 : BKR d3_G d3_P d3_V la3 d3_cnt D ((d3_O 1) fa) (fun s => Int32.toNatClampNeg ((d3_V 3) fl s)) (FMT d Ws) := by refine BKR_nb bk3 (fun s hs => ?_); show Int32.toNatClampNeg ((d3_V 3) fl s) ≤ (if s < _ then _ else _); rw [vf3 s]; by_cases q8 : s < Int32.toNatClampNeg y3_4; (rw [if_pos q8, if_pos q8]; exact Nat.le_refl _); (rw [if_neg q8, if_neg q8]; exact Nat.le_refl _)
          have qq1 : id ((∀ s : Nat, s < 7 → (d3_V 3) fl s = (if (s : Int) ≤ p0.toInt then (G 203) wd else (V 3) fl s))) := show (∀ s : Nat, s < 7 → (d3_V 3) fl s = (if (s : Int) ≤ p0.toInt then (G 203) wd else (V 3) fl s)) from by intro s hs; rw [vf3 s]; by_cases q8 : s < Int32.toNatClampNeg y3_4; (rw [if_pos q8, if_pos (by omega)]); (rw [if_neg q8, if_neg (by omega)])
          exact pw_some ⟨la3, hag3, hB3, qq0, qq1⟩
        · have c13 := z_nle c13
          refine pw_nne hn77 ?_
          refine pw_if (fun hb22 => ?_)
          obtain ⟨hbl22, hbr22⟩ := hb22
          have b113 := (CInv_V3 hCI3 :) fl (Int32.toNatClampNeg y3_4)
          have hfl := (CInv_FL hCI3 :) fl (Int32.toNatClampNeg y3_4)
          refine pw_vl (fun x23 ex23 => ?_)
          have f114 : x23.toInt = (((d3_V 3) fl) (Int32.toNatClampNeg y3_4)).toInt := congrArg Int32.toInt ex23
          refine pw_jE (fun k174 ek174 => ?_)
          have lp25 : ∀ (n25 : Nat) (y25_5 : Int32) (d25_G : Nat → Nat → Int32) (d25_P : Nat → Nat → Option Nat) (d25_U : Nat → Nat → Int64) (d25_V : Nat → Nat → Nat → Int32) (d25_X : Nat → Nat → Nat → Int64) (d25_O : Nat → Nat → Nat → Option Nat) (d25_kd : Nat → Nat) (d25_ln : Nat → Nat) (d25_cnt : Nat) (κ25 : Nat → Nat) (la25 : Nat → Nat), CInv κ25 wd d25_G d25_P d25_V d25_O d25_ln d25_cnt → (∀ a, κ a ≠ 0 → κ25 a = κ a) → cnt ≤ d25_cnt → κ25 this = 1 → κ25 p1 = 302 → κ25 p2 = 10 → FRM cnt [60, 183, 203] (fun z => (la z < la this ∨ la this + 2 < la z) ∧ (la z < la p2 ∨ la p2 + 8 < la z)) G d25_G → FRM cnt [66, 181, 182] (fun z => (la z < la this ∨ la this + 2 < la z) ∧ (la z < la p2 ∨ la p2 + 8 < la z)) P d25_P → FRM cnt [184] (fun z => (la z < la this ∨ la this + 2 < la z) ∧ (la z < la p2 ∨ la p2 + 8 < la z)) U d25_U → FRM cnt [0, 1, 2, 3, 12] (fun z => (la z < la this ∨ la this + 2 < la z) ∧ (la z < la p2 ∨ la p2 + 8 < la z)) V d25_V → FRM cnt [1] (fun z => (la z < la this ∨ la this + 2 < la z) ∧ (la z < la p2 ∨ la p2 + 8 < la z)) X d25_X → FRM cnt [1] (fun z => (la z < la this ∨ la this + 2 < la z) ∧ (la z < la p2 ∨ la p2 + 8 < la z)) O d25_O → (∀ z, z < cnt → d25_ln z = ln z) → (∀ z, z < cnt → la25 z = la z) → LB la25 d25_cnt d25_P → fa < d25_cnt → fl < d25_cnt → lsp < d25_cnt → p1 < d25_cnt → p2 < d25_cnt → sp < d25_cnt → ssp < d25_cnt → this < d25_cnt → wl < d25_cnt → wz < d25_cnt → (x23.toInt ≤ y25_5.toInt ∧ y25_5.toInt ≤ ((G 203) wd).toInt) → (d25_G 203) wd = (G 203) wd → (d25_V 3) fl = (d3_V 3) fl → (id (BKR d25_G d25_P d25_V la25 d25_cnt D ((d25_O 1) fa) (fun s => if s < Int32.toNatClampNeg y3_4 then Int32.toNatClampNeg ((G 203) wd) else if s = Int32.toNatClampNeg y3_4 then Int32.toNatClampNeg y25_5 else Int32.toNatClampNeg ((V 3) fl s)) (FMT d Ws))) → (∃ nw1 nx1, (d25_P 181) p2 = some nw1 ∧ (d25_P 182) p2 = some nx1 ∧ ((nw1 = nw ∧ nx1 = nx) ∨ (nw1 = nx ∧ nx1 = nw))) → pw (L_X0_fill_25 this p1 p2 y3_4 k174 n25 y25_5 d25_G d25_P d25_U d25_V d25_X d25_O d25_kd d25_ln d25_cnt) (sp1 (QF_X0_fill κ wd la G P U V X O kd ln cnt this p0 p1 p2 nw nx wh pg fi pa pk sz cl fa fl sp lsp ssp wl wz D d Ws)) := by
            intro n25
            induction n25 with
            | zero => intros; exact pw_none
            | succ n25 ih25 =>
              intro y25_5 d25_G d25_P d25_U d25_V d25_X d25_O d25_kd d25_ln d25_cnt κ25 la25 hCI25 hx25 hcc115 hk116 hk117 hk118 hF25_G hF25_P hF25_U hF25_V hF25_X hF25_O hlnn25 hag25 hB25 lt119 lt120 lt121 lt122 lt123 lt124 lt125 lt126 lt127 lt128 f129 f130 f131 bk25 sw25
              replace sw25 : id _ := sw25
              show pw (B_X0_fill_25 this p1 p2 y3_4 k174 (L_X0_fill_25 this p1 p2 y3_4 k174 n25) y25_5 d25_G d25_P d25_U d25_V d25_X d25_O d25_kd d25_ln d25_cnt) _
              unfold B_X0_fill_25
              have gl_132 : la25 this = 70 := (hag25 this hlt_this).trans hlb
              have gl_133 : la25 wd = 20 := (hag25 wd lt_wd8).trans hlw
              have gl_134 : la25 p2 = 90 := (hag25 p2 hlt_p2).trans hlt9
              have gl_135 : la25 fl = 70 := (hag25 fl lt_fl2).trans lb_fl2
              have gl_136 : la25 fa = 70 := (hag25 fa lt_fa4).trans lb_fa4
              have gl_137 : la25 sp = 71 := (hag25 sp lt_sp6).trans lb_sp6
              have gl_138 : la25 lsp = 71 := (hag25 lsp lt_lsp10).trans lb_lsp10
              have gl_139 : la25 ssp = 71 := (hag25 ssp lt_ssp12).trans lb_ssp12
              have gl_140 : la25 wl = 20 := (hag25 wl lt_wl17).trans lb_wl17
              have gl_141 : la25 wz = 20 := (hag25 wz lt_wz19).trans lb_wz19
              have gl_142 : la25 wh = 93 := (hag25 wh lt_wh24).trans lb_wh24
              have gl_143 : la25 pg = 96 := (hag25 pg lt_pg26).trans lb_pg26
              have gl_144 : la25 fi = 97 := (hag25 fi lt_fi28).trans lb_fi28
              have gl_145 : la25 pa = 98 := (hag25 pa lt_pa30).trans lb_pa30
              have gl_146 : la25 pk = 96 := (hag25 pk lt_pk32).trans lb_pk32
              have gl_147 : la25 sz = 96 := (hag25 sz lt_sz34).trans lb_sz34
              have gl_148 : la25 cl = 96 := (hag25 cl lt_cl36).trans lb_cl36
              have gl_149 : 91 ≤ la25 nw ∧ la25 nw ≤ 92 := by rw [hag25 nw lt_nw38]; exact lb_nw38
              have gl_150 : 91 ≤ la25 nx ∧ la25 nx ≤ 92 := by rw [hag25 nx lt_nx40]; exact lb_nx40
              have hn151 : (d25_P 3) this = some fl := (hF25_P 3 this (by omega) (fun q => absurd q (by decide))).trans h3
              have lt_fl152 := ((hB25.1 3 fl_3) this fl hn151).2.1
              have hk_fl := (((CInv_P3 hCI25 :) this).2 fl hn151).1
              have hl1_fl := (((CInv_P3 hCI25 :) this).2 fl hn151).2.1
              have hl2_fl := (((CInv_P3 hCI25 :) this).2 fl hn151).2.2.1
              have hw_fl : id _ := (((CInv_P3 hCI25 :) this).2 fl hn151).2.2.2
              have hn153 : (d25_P 1) this = some fa := (hF25_P 1 this (by omega) (fun q => absurd q (by decide))).trans h1
              have lt_fa154 := ((hB25.1 1 fl_1) this fa hn153).2.1
              have hk_fa := (((CInv_P1 hCI25 :) this).2 fa hn153).1
              have hl1_fa := (((CInv_P1 hCI25 :) this).2 fa hn153).2.1
              have hl2_fa := (((CInv_P1 hCI25 :) this).2 fa hn153).2.2.1
              have hw_fa : id _ := (((CInv_P1 hCI25 :) this).2 fa hn153).2.2.2
              have hn155 : (d25_P 4) this = some sp := (hF25_P 4 this (by omega) (fun q => absurd q (by decide))).trans h4
              have lt_sp156 := ((hB25.1 4 fl_4) this sp hn155).2.1
              have hk_sp := (((CInv_P4 hCI25 :) this).2 sp hn155).1
              have hl1_sp := (((CInv_P4 hCI25 :) this).2 sp hn155).2.1
              have hl2_sp := (((CInv_P4 hCI25 :) this).2 sp hn155).2.2.1
              have hw_sp : id _ := (((CInv_P4 hCI25 :) this).2 sp hn155).2.2.2
              have hn157 : (d25_P 0) this = some wd := (hF25_P 0 this (by omega) (fun q => absurd q (by decide))).trans h0
              have lt_wd158 := ((hB25.1 0 fl_0) this wd hn157).2.1
              have hk_wd := (((CInv_P0 hCI25 :) this).2 wd hn157).1
              have hl1_wd := (((CInv_P0 hCI25 :) this).2 wd hn157).2.1
              have hl2_wd := (((CInv_P0 hCI25 :) this).2 wd hn157).2.2.1
              have hw_wd : id _ := (((CInv_P0 hCI25 :) this).2 wd hn157).2.2.2
              have hn159 : (d25_P 201) sp = some lsp := (hF25_P 201 sp (by omega) (fun q => absurd q (by decide))).trans hls
              have lt_lsp160 := ((hB25.1 201 fl_201) sp lsp hn159).2.1
              have hk_lsp := (((CInv_P201 hCI25 :) sp).2 lsp hn159).1
              have hl1_lsp := (((CInv_P201 hCI25 :) sp).2 lsp hn159).2.1
              have hl2_lsp := (((CInv_P201 hCI25 :) sp).2 lsp hn159).2.2.1
              have hw_lsp : id _ := (((CInv_P201 hCI25 :) sp).2 lsp hn159).2.2.2
              have hn161 : (d25_P 202) sp = some ssp := (hF25_P 202 sp (by omega) (fun q => absurd q (by decide))).trans hss
              have lt_ssp162 := ((hB25.1 202 fl_202) sp ssp hn161).2.1
              have hk_ssp := (((CInv_P202 hCI25 :) sp).2 ssp hn161).1
              have hl1_ssp := (((CInv_P202 hCI25 :) sp).2 ssp hn161).2.1
              have hl2_ssp := (((CInv_P202 hCI25 :) sp).2 ssp hn161).2.2.1
              have hw_ssp : id _ := (((CInv_P202 hCI25 :) sp).2 ssp hn161).2.2.2
              have rb163 := ((CInv_RB hCI25 :) sp ssp hk_sp hn161).1
              have hn166 : (d25_P 201) wd = some wl := (hF25_P 201 wd (by omega) (fun q => absurd q (by decide))).trans hwl
              have lt_wl167 := ((hB25.1 201 fl_201) wd wl hn166).2.1
              have hk_wl := (((CInv_P201 hCI25 :) wd).2 wl hn166).1
              have hl1_wl := (((CInv_P201 hCI25 :) wd).2 wl hn166).2.1
              have hl2_wl := (((CInv_P201 hCI25 :) wd).2 wl hn166).2.2.1
              have hw_wl : id _ := (((CInv_P201 hCI25 :) wd).2 wl hn166).2.2.2
              have hn168 : (d25_P 202) wd = some wz := (hF25_P 202 wd (by omega) (fun q => absurd q (by decide))).trans hwz
              have lt_wz169 := ((hB25.1 202 fl_202) wd wz hn168).2.1
              have hk_wz := (((CInv_P202 hCI25 :) wd).2 wz hn168).1
              have hl1_wz := (((CInv_P202 hCI25 :) wd).2 wz hn168).2.1
              have hl2_wz := (((CInv_P202 hCI25 :) wd).2 wz hn168).2.2.1
              have hw_wz : id _ := (((CInv_P202 hCI25 :) wd).2 wz hn168).2.2.2
              have rb170 := ((CInv_RB hCI25 :) wd wz hk_wd hn168).1
              have hn173 : (d25_P 185) p2 = some wh := (hF25_P 185 p2 (by omega) (fun q => absurd q (by decide))).trans h185
              have lt_wh174 := ((hB25.1 185 fl_185) p2 wh hn173).2.1
              have hk_wh := (((CInv_P185 hCI25 :) p2).2 wh hn173).1
              have hl1_wh := (((CInv_P185 hCI25 :) p2).2 wh hn173).2.1
              have hl2_wh := (((CInv_P185 hCI25 :) p2).2 wh hn173).2.2.1
              have hw_wh : id _ := (((CInv_P185 hCI25 :) p2).2 wh hn173).2.2.2
              have hn175 : (d25_P 180) p2 = some pg := (hF25_P 180 p2 (by omega) (fun q => absurd q (by decide))).trans h180
              have lt_pg176 := ((hB25.1 180 fl_180) p2 pg hn175).2.1
              have hk_pg := (((CInv_P180 hCI25 :) p2).2 pg hn175).1
              have hl1_pg := (((CInv_P180 hCI25 :) p2).2 pg hn175).2.1
              have hl2_pg := (((CInv_P180 hCI25 :) p2).2 pg hn175).2.2.1
              have hw_pg : id _ := (((CInv_P180 hCI25 :) p2).2 pg hn175).2.2.2
              have hn177 : (d25_P 63) pg = some fi := (hF25_P 63 pg (by omega) (fun q => absurd q (by decide))).trans hfi
              have lt_fi178 := ((hB25.1 63 fl_63) pg fi hn177).2.1
              have hk_fi := (((CInv_P63 hCI25 :) pg).2 fi hn177).1
              have hl1_fi := (((CInv_P63 hCI25 :) pg).2 fi hn177).2.1
              have hl2_fi := (((CInv_P63 hCI25 :) pg).2 fi hn177).2.2.1
              have hw_fi : id _ := (((CInv_P63 hCI25 :) pg).2 fi hn177).2.2.2
              have hn179 : (d25_P 65) pg = some pa := (hF25_P 65 pg (by omega) (fun q => absurd q (by decide))).trans hpa
              have lt_pa180 := ((hB25.1 65 fl_65) pg pa hn179).2.1
              have hk_pa := (((CInv_P65 hCI25 :) pg).2 pa hn179).1
              have hl1_pa := (((CInv_P65 hCI25 :) pg).2 pa hn179).2.1
              have hl2_pa := (((CInv_P65 hCI25 :) pg).2 pa hn179).2.2.1
              have hw_pa : id _ := (((CInv_P65 hCI25 :) pg).2 pa hn179).2.2.2
              have hn181 : (d25_P 62) pg = some pk := (hF25_P 62 pg (by omega) (fun q => absurd q (by decide))).trans hpk
              have lt_pk182 := ((hB25.1 62 fl_62) pg pk hn181).2.1
              have hk_pk := (((CInv_P62 hCI25 :) pg).2 pk hn181).1
              have hl1_pk := (((CInv_P62 hCI25 :) pg).2 pk hn181).2.1
              have hl2_pk := (((CInv_P62 hCI25 :) pg).2 pk hn181).2.2.1
              have hw_pk : id _ := (((CInv_P62 hCI25 :) pg).2 pk hn181).2.2.2
              have hn183 : (d25_P 61) pg = some sz := (hF25_P 61 pg (by omega) (fun q => absurd q (by decide))).trans hsz
              have lt_sz184 := ((hB25.1 61 fl_61) pg sz hn183).2.1
              have hk_sz := (((CInv_P61 hCI25 :) pg).2 sz hn183).1
              have hl1_sz := (((CInv_P61 hCI25 :) pg).2 sz hn183).2.1
              have hl2_sz := (((CInv_P61 hCI25 :) pg).2 sz hn183).2.2.1
              have hw_sz : id _ := (((CInv_P61 hCI25 :) pg).2 sz hn183).2.2.2
              have hn185 : (d25_P 64) pg = some cl := (hF25_P 64 pg (by omega) (fun q => absurd q (by decide))).trans hcl
              have lt_cl186 := ((hB25.1 64 fl_64) pg cl hn185).2.1
              have hk_cl := (((CInv_P64 hCI25 :) pg).2 cl hn185).1
              have hl1_cl := (((CInv_P64 hCI25 :) pg).2 cl hn185).2.1
              have hl2_cl := (((CInv_P64 hCI25 :) pg).2 cl hn185).2.2.1
              have hw_cl : id _ := (((CInv_P64 hCI25 :) pg).2 cl hn185).2.2.2
              have hlp1 : d25_ln p1 = ln p1 := hlnn25 p1 hlt_p1
              have gz25 : (d25_G 203) wd = (G 203) wd := by assumption
              have gz25i := congrArg Int32.toInt gz25
              have hv25 : (d25_V 3) fl = (d3_V 3) fl := by assumption
              have hbw := (CInv_G203 hI :) wd
              have hul : fl < d25_cnt := kcl0 (CInv_KC hCI25 :) hk_fl (by decide)
              have hwl : wd < d25_cnt := kcl0 (CInv_KC hCI25 :) (CInv_WK hCI25 :) (by decide)
              have c5 := clampI (x := y25_5) (by omega)
              have cw5 := clampI (x := (G 203) wd) (by omega)
              have hv0w : (d25_V 0) wl = (V 0) wl := hF25_V 0 wl (by omega) (fun _ => show (la wl < la this ∨ la this + 2 < la wl) ∧ (la wl < la p2 ∨ la p2 + 8 < la wl) from by omega)
              have hv1w : (d25_V 1) wz = (V 1) wz := hF25_V 1 wz (by omega) (fun _ => show (la wz < la this ∨ la this + 2 < la wz) ∧ (la wz < la p2 ∨ la p2 + 8 < la wz) from by omega)
              have hg2w : (d25_G 200) wd = (G 200) wd := hF25_G 200 wd (by omega) (fun q => absurd q (by decide))
              have hg2s : (d25_G 200) sp = (G 200) sp := hF25_G 200 sp (by omega) (fun q => absurd q (by decide))
              have hg2wi := congrArg Int32.toInt hg2w
              have hg2si := congrArg Int32.toInt hg2s
              have hl12 : d25_ln ssp = 12 := (hlnn25 ssp (by omega)).trans hn4
              have hWl : Ws.length = Int32.toNatClampNeg ((G 203) wd) := by rw [← hWs]; exact rw_len
              obtain ⟨nw1, nx1, e181, e182, hsw⟩ := sw25
              replace hsw : id _ := hsw
              have hrx25 : ∀ q : Nat, (q : Int) < p0.toInt → ∃ rf, (d25_O 2) p1 q = some rf ∧ rf < d25_cnt ∧ 100000 ≤ la25 rf ∧ RFX d25_G d25_P d25_V d25_O d25_ln la25 d25_cnt rf (d q) := fun q hq => by obtain ⟨rf9, y1, y2, y3, y4⟩ := hrf q hq; exact ⟨rf9, (congrFun (hF25_O 2 p1 (by omega) (fun q => absurd q (by decide))) q).trans y1, by omega, by rw [hag25 rf9 y2]; exact y3, RFX_fr y4 hB y2 (fun z hz h3 h4 => ⟨hF25_G 100 z (by omega) (fun _ => show (la z < la this ∨ la this + 2 < la z) ∧ (la z < la p2 ∨ la p2 + 8 < la z) from by omega), hF25_G 102 z (by omega) (fun _ => show (la z < la this ∨ la this + 2 < la z) ∧ (la z < la p2 ∨ la p2 + 8 < la z) from by omega), hF25_G 107 z (by omega) (fun _ => show (la z < la this ∨ la this + 2 < la z) ∧ (la z < la p2 ∨ la p2 + 8 < la z) from by omega), hF25_G 200 z (by omega) (fun _ => show (la z < la this ∨ la this + 2 < la z) ∧ (la z < la p2 ∨ la p2 + 8 < la z) from by omega), hF25_G 203 z (by omega) (fun _ => show (la z < la this ∨ la this + 2 < la z) ∧ (la z < la p2 ∨ la p2 + 8 < la z) from by omega), hF25_G 24 z (by omega) (fun _ => show (la z < la this ∨ la this + 2 < la z) ∧ (la z < la p2 ∨ la p2 + 8 < la z) from by omega), hF25_G 25 z (by omega) (fun _ => show (la z < la this ∨ la this + 2 < la z) ∧ (la z < la p2 ∨ la p2 + 8 < la z) from by omega), hF25_P 101 z (by omega) (fun _ => show (la z < la this ∨ la this + 2 < la z) ∧ (la z < la p2 ∨ la p2 + 8 < la z) from by omega), hF25_P 103 z (by omega) (fun _ => show (la z < la this ∨ la this + 2 < la z) ∧ (la z < la p2 ∨ la p2 + 8 < la z) from by omega), hF25_P 104 z (by omega) (fun _ => show (la z < la this ∨ la this + 2 < la z) ∧ (la z < la p2 ∨ la p2 + 8 < la z) from by omega), hF25_P 105 z (by omega) (fun _ => show (la z < la this ∨ la this + 2 < la z) ∧ (la z < la p2 ∨ la p2 + 8 < la z) from by omega), hF25_P 106 z (by omega) (fun _ => show (la z < la this ∨ la this + 2 < la z) ∧ (la z < la p2 ∨ la p2 + 8 < la z) from by omega), hF25_P 201 z (by omega) (fun _ => show (la z < la this ∨ la this + 2 < la z) ∧ (la z < la p2 ∨ la p2 + 8 < la z) from by omega), hF25_P 202 z (by omega) (fun _ => show (la z < la this ∨ la this + 2 < la z) ∧ (la z < la p2 ∨ la p2 + 8 < la z) from by omega), hF25_P 20 z (by omega) (fun _ => show (la z < la this ∨ la this + 2 < la z) ∧ (la z < la p2 ∨ la p2 + 8 < la z) from by omega), hF25_P 21 z (by omega) (fun _ => show (la z < la this ∨ la this + 2 < la z) ∧ (la z < la p2 ∨ la p2 + 8 < la z) from by omega), hF25_P 22 z (by omega) (fun _ => show (la z < la this ∨ la this + 2 < la z) ∧ (la z < la p2 ∨ la p2 + 8 < la z) from by omega), hF25_P 23 z (by omega) (fun _ => show (la z < la this ∨ la this + 2 < la z) ∧ (la z < la p2 ∨ la p2 + 8 < la z) from by omega), hF25_V 0 z (by omega) (fun _ => show (la z < la this ∨ la this + 2 < la z) ∧ (la z < la p2 ∨ la p2 + 8 < la z) from by omega), hF25_V 1 z (by omega) (fun _ => show (la z < la this ∨ la this + 2 < la z) ∧ (la z < la p2 ∨ la p2 + 8 < la z) from by omega), hF25_V 10 z (by omega) (fun _ => show (la z < la this ∨ la this + 2 < la z) ∧ (la z < la p2 ∨ la p2 + 8 < la z) from by omega), hF25_O 0 z (by omega) (fun _ => show (la z < la this ∨ la this + 2 < la z) ∧ (la z < la p2 ∨ la p2 + 8 < la z) from by omega), hF25_P 108 z (by omega) (fun _ => show (la z < la this ∨ la this + 2 < la z) ∧ (la z < la p2 ∨ la p2 + 8 < la z) from by omega), hF25_P 109 z (by omega) (fun _ => show (la z < la this ∨ la this + 2 < la z) ∧ (la z < la p2 ∨ la p2 + 8 < la z) from by omega), hF25_V 11 z (by omega) (fun _ => show (la z < la this ∨ la this + 2 < la z) ∧ (la z < la p2 ∨ la p2 + 8 < la z) from by omega), hlnn25 z (by omega)⟩) (by omega) hag25⟩
              have hn187 : (d25_P 181) p2 = some nw1 := e181
              obtain ⟨_, lt_nw1188, lb_nw1188⟩ := (hB25.1 181 fl_181) p2 nw1 hn187
              have lb_nw1188 : 91 ≤ la25 nw1 ∧ la25 nw1 ≤ 92 := by have z9 := lk_181.mp lb_nw1188; rw [gl_134] at z9; exact or_bd z9 (by decide)
              have hk_nw1 := (((CInv_P181 hCI25 :) p2).2 nw1 hn187).1
              have hl1_nw1 := (((CInv_P181 hCI25 :) p2).2 nw1 hn187).2.1
              have hl2_nw1 := (((CInv_P181 hCI25 :) p2).2 nw1 hn187).2.2.1
              have hw_nw1 : id _ := (((CInv_P181 hCI25 :) p2).2 nw1 hn187).2.2.2
              have hz_nw1 : (Int32.ofNat (d25_ln nw1)).toInt = ((d25_ln nw1 : Nat) : Int) := ofN_eq (by first | exact Nat.le_trans hl2_nw1 (by decide) | omega)
              have hn189 : (d25_P 182) p2 = some nx1 := e182
              obtain ⟨_, lt_nx1190, lb_nx1190⟩ := (hB25.1 182 fl_182) p2 nx1 hn189
              have lb_nx1190 : 91 ≤ la25 nx1 ∧ la25 nx1 ≤ 92 := by have z9 := lk_182.mp lb_nx1190; rw [gl_134] at z9; exact or_bd z9 (by decide)
              have hk_nx1 := (((CInv_P182 hCI25 :) p2).2 nx1 hn189).1
              have hl1_nx1 := (((CInv_P182 hCI25 :) p2).2 nx1 hn189).2.1
              have hl2_nx1 := (((CInv_P182 hCI25 :) p2).2 nx1 hn189).2.2.1
              have hw_nx1 : id _ := (((CInv_P182 hCI25 :) p2).2 nx1 hn189).2.2.2
              have hz_nx1 : (Int32.ofNat (d25_ln nx1)).toInt = ((d25_ln nx1 : Nat) : Int) := ofN_eq (by first | exact Nat.le_trans hl2_nx1 (by decide) | omega)
              refine pw_nne hn157 ?_
              have b191 := (CInv_G203 hCI25 :) wd
              refine pw_ite (fun c34 => ?_) (fun c34 => ?_)
              · have c34 := (z_le _ _).mp c34
                refine pw_j9 ek174 (fun z174_0 ez174_0 z174_1 ez174_1 z174_2 ez174_2 z174_3 ez174_3 z174_4 ez174_4 z174_5 ez174_5 z174_6 ez174_6 z174_7 ez174_7 z174_8 ez174_8 => ?_)
                subst ez174_0 ez174_1 ez174_2 ez174_3 ez174_4 ez174_5 ez174_6 ez174_7 ez174_8
                have gz174 : (d25_G 203) wd = (G 203) wd := by assumption
                have gz174i := congrArg Int32.toInt gz174
                have hv174 : (d25_V 3) fl = (d3_V 3) fl := by assumption
                refine pw_nne hn151 ?_
                refine pw_nne hn157 ?_
                refine pw_if (fun hb187 => ?_)
                obtain ⟨hbl187, hbr187⟩ := hb187
                refine pw_vl (fun m187 em187 => ?_)
                have hfr199 : ∀ z, (z < cnt ∧ (la z < la this ∨ la this + 2 < la z) ∧ (la z < la p2 ∨ la p2 + 8 < la z)) → m187 z = (V 3) z := fr_up (e0 := (V 3)) (fun (z : Nat) (hz : (z < cnt ∧ (la z < la this ∨ la this + 2 < la z) ∧ (la z < la p2 ∨ la p2 + 8 < la z))) => hF25_V 3 z hz.1 (fun _ => hz.2)) em187 (show ¬ (fl < cnt ∧ (la fl < la this ∨ la this + 2 < la fl) ∧ (la fl < la p2 ∨ la p2 + 8 < la fl)) from fun hz => by have q1 := hag25 fl hz.1; omega)
                have hv200 : rng2 (0) 100 m187 := by rw [em187]; exact rng2_up (CInv_V3 hCI25 :) (by omega) (by omega)
                have hFL201 : FL wd (d25_G 203) m187 := by rw [em187]; exact FL_fill (CInv_FL hCI25 :) (by omega)
                have hs7 : s7 (m187 fl) = s7 ((d3_V 3) fl) - x23.toInt + ((G 203) wd).toInt := by rw [em187, va_up_self, s7_upd (by omega) (by omega), hv174, gz174]; omega
                have f202 : (y3_4 + 1).toInt = y3_4.toInt + (1) := z_addc (by decide +kernel) (by omega) (by omega)
                have iv3_0 : (0 ≤ (y3_4 + 1).toInt ∧ (y3_4 + 1).toInt ≤ 7) := by first | omega | assumption
                have iv3_1 : (d25_G 203) wd = (G 203) wd := by first | assumption | omega
                have iv3_2 : (y3_4 + 1).toInt ≤ p0.toInt + 1 := by first | omega | assumption
                have iv3_3 : (∀ s : Nat, m187 fl s = (if s < Int32.toNatClampNeg (y3_4 + 1) then (G 203) wd else (V 3) fl s)) := by have k5 := clampI (x := y3_4 + 1) (by omega); intro s; by_cases q9 : s = Int32.toNatClampNeg y3_4; (rw [q9, if_pos (by omega), em187, va_up_self, pk_us]; exact gz174); (rw [em187, va_up_self, pk_un q9, hv174, vf3 s]; by_cases q8 : s < Int32.toNatClampNeg y3_4; (rw [if_pos q8, if_pos (by omega)]); (rw [if_neg q8, if_neg (by omega)]))
                have iv3_4 : (id (BKR d25_G d25_P (va_up d25_V 3 m187) la25 d25_cnt D ((d25_O 1) fa) (fun s => if s < Int32.toNatClampNeg (y3_4 + 1) then Int32.toNatClampNeg ((G 203) wd) else Int32.toNatClampNeg ((V 3) fl s)) (FMT d Ws))) := by have k5 := clampI (x := y3_4 + 1) (by omega); have c25 := clampI (x := y25_5) (by omega); have cw := clampI (x := (G 203) wd) (by omega); exact BKR_nb (BKR_fr bk25 hB25 (fun _ => rfl) (fun _ _ => ⟨rfl, rfl, rfl⟩) (fun _ _ _ _ => ⟨rfl, rfl, rfl⟩) (Nat.le_refl _) (fun _ _ => rfl) (fun _ _ h => h)) (fun s hs => by show (if s < Int32.toNatClampNeg (y3_4 + 1) then _ else _) ≤ (if s < Int32.toNatClampNeg y3_4 then _ else if s = Int32.toNatClampNeg y3_4 then _ else _); by_cases q8 : s < Int32.toNatClampNeg y3_4; (rw [if_pos q8, if_pos (by omega)]; exact Nat.le_refl _); (rw [if_neg q8]; by_cases q7 : s = Int32.toNatClampNeg y3_4; (rw [if_pos q7, if_pos (by omega)]; omega); (rw [if_neg q7, if_neg (by omega)]; exact Nat.le_refl _)))
                have iv3_5 : id ((∃ nw1 nx1, (d25_P 181) p2 = some nw1 ∧ (d25_P 182) p2 = some nx1 ∧ ((nw1 = nw ∧ nx1 = nx) ∨ (nw1 = nx ∧ nx1 = nw)))) := show (∃ nw1 nx1, (d25_P 181) p2 = some nw1 ∧ (d25_P 182) p2 = some nx1 ∧ ((nw1 = nw ∧ nx1 = nx) ∨ (nw1 = nx ∧ nx1 = nw))) from by exact ⟨nw1, nx1, e181, e182, hsw⟩
                exact ih3 (y3_4 + 1) d25_G d25_P d25_U (va_up d25_V 3 m187) d25_X d25_O d25_kd d25_ln d25_cnt κ25 la25 (CInv_i (CInv_G43 hCI25 :) (CInv_G44 hCI25 :) (CInv_G45 hCI25 :) (CInv_G60 hCI25 :) (CInv_G83 hCI25 :) (CInv_G84 hCI25 :) (CInv_G85 hCI25 :) (CInv_G87 hCI25 :) (CInv_G88 hCI25 :) (CInv_G102 hCI25 :) (CInv_G125 hCI25 :) (CInv_G126 hCI25 :) (CInv_G127 hCI25 :) (CInv_G141 hCI25 :) (CInv_G160 hCI25 :) (CInv_G161 hCI25 :) (CInv_G162 hCI25 :) (CInv_G165 hCI25 :) (CInv_G166 hCI25 :) (CInv_G183 hCI25 :) (CInv_G200 hCI25 :) (CInv_G203 hCI25 :) (CInv_G222 hCI25 :) (CInv_G231 hCI25 :) (CInv_G233 hCI25 :) (CInv_P0 hCI25 :) (CInv_P1 hCI25 :) (CInv_P2 hCI25 :) (CInv_P3 hCI25 :) (CInv_P4 hCI25 :) (CInv_P5 hCI25 :) (CInv_P20 hCI25 :) (CInv_P21 hCI25 :) (CInv_P22 hCI25 :) (CInv_P23 hCI25 :) (CInv_P40 hCI25 :) (CInv_P41 hCI25 :) (CInv_P42 hCI25 :) (CInv_P61 hCI25 :) (CInv_P62 hCI25 :) (CInv_P63 hCI25 :) (CInv_P64 hCI25 :) (CInv_P65 hCI25 :) (CInv_P66 hCI25 :) (CInv_P82 hCI25 :) (CInv_P101 hCI25 :) (CInv_P103 hCI25 :) (CInv_P104 hCI25 :) (CInv_P105 hCI25 :) (CInv_P106 hCI25 :) (CInv_P108 hCI25 :) (CInv_P109 hCI25 :) (CInv_P110 hCI25 :) (CInv_P120 hCI25 :) (CInv_P121 hCI25 :) (CInv_P122 hCI25 :) (CInv_P123 hCI25 :) (CInv_P140 hCI25 :) (CInv_P164 hCI25 :) (CInv_P180 hCI25 :) (CInv_P181 hCI25 :) (CInv_P182 hCI25 :) (CInv_P185 hCI25 :) (CInv_P186 hCI25 :) (CInv_P187 hCI25 :) (CInv_P201 hCI25 :) (CInv_P202 hCI25 :) (CInv_P220 hCI25 :) (CInv_P221 hCI25 :) (CInv_P224 hCI25 :) (CInv_P225 hCI25 :) (CInv_P226 hCI25 :) (CInv_P227 hCI25 :) (CInv_P228 hCI25 :) (CInv_P229 hCI25 :) (CInv_P230 hCI25 :) (CInv_P232 hCI25 :) (CInv_P234 hCI25 :) (CInv_P235 hCI25 :) (CInv_P236 hCI25 :) (CInv_V1 hCI25 :) (CInv_V2 hCI25 :) hv200 (CInv_V9 hCI25 :) (CInv_O0 hCI25 :) (CInv_O1 hCI25 :) (CInv_O2 hCI25 :) (CInv_RA hCI25 :) (CInv_RB hCI25 :) (CInv_RI hCI25 :) (CInv_RM103 hCI25 :) (CInv_RM104 hCI25 :) (CInv_RM108 hCI25 :) (CInv_LN hCI25 :) hFL201 (CInv_W0 hCI25 :) (CInv_KC hCI25 :) (CInv_WK hCI25 :)) hx25 hcc115 hk116 hk117 hk118 hF25_G hF25_P hF25_U (FRM_set hF25_V (by decide) (fun z h1 h2 => hfr199 z ⟨h1, h2⟩)) hF25_X hF25_O hlnn25 hag25 hB25 lt_fa154 lt_fl152 lt_lsp160 lt122 lt123 lt_sp156 lt_ssp162 lt126 lt_wl167 lt_wz169 iv3_0 iv3_1 iv3_2 iv3_3 iv3_4 iv3_5
              · have c34 := z_nle c34
                obtain ⟨x, hx⟩ := get_ex (l := Ws) (i := Int32.toNatClampNeg y25_5) (by omega)
                have hxe : wdl ((V 0) wl) (24 * Int32.toNatClampNeg y25_5) (Int32.toNatClampNeg ((V 1) wz (Int32.toNatClampNeg y25_5))) = x := by rw [← hWs, rw_at (by omega)] at hx; exact Option.some.inj hx
                have em42x : True := trivial
                refine pw_nne hn155 ?_
                refine pw_vl (fun m42 em42 => ?_)
                have hfr203 : ∀ z, (z < cnt ∧ (la z < la this ∨ la this + 2 < la z) ∧ (la z < la p2 ∨ la p2 + 8 < la z)) → m42 z = (G 203) z := fr_up (e0 := (G 203)) (fun (z : Nat) (hz : (z < cnt ∧ (la z < la this ∨ la this + 2 < la z) ∧ (la z < la p2 ∨ la p2 + 8 < la z))) => hF25_G 203 z hz.1 (fun _ => hz.2)) em42 (show ¬ (sp < cnt ∧ (la sp < la this ∨ la this + 2 < la sp) ∧ (la sp < la p2 ∨ la p2 + 8 < la sp)) from fun hz => by have q1 := hag25 sp hz.1; omega)
                have hg204 : rng (0) 100 m42 := by rw [em42]; exact rng_vup (CInv_G203 hCI25 :) (by omega) (by omega)
                have sm42 : (m42 sp).toInt = 0 := by rw [em42, va_up_self]; decide +kernel
                have b205 := hg204 sp
                have hRB206 : RB κ25 d25_ln (d25_G 200) m42 (d25_P 202) (d25_V 1) := by rw [em42]; exact RB_cnt (CInv_RB hCI25 :) (fun s hs => by omega)
                have hFL207 : FL wd m42 (d25_V 3) := by rw [em42]; exact FL_ne (CInv_FL hCI25 :) (hw_sp rfl)
                have gz42 : m42 wd = (d25_G 203) wd := by rw [em42]; exact va_up_ne _ _ (fun q => hw_sp rfl q.symm)
                have gz42i := congrArg Int32.toInt gz42
                have em42z : ∀ z, z ≠ sp → m42 z = (d25_G 203) z := fun z hz => by rw [em42, va_up_ne _ _ hz]
                refine pw_jE (fun j126 ej126 => ?_)
                refine pw_ite (fun c47 => ?_) (fun c47 => ?_)
                · have c47 := congrArg Int32.toInt c47
                  obtain ⟨hm1, hm2, hm3⟩ := mulW (x := y25_5) (g := (d25_G 200) wd) (w := 24) (by omega) (by omega) (by decide)
                  have hv1x := congrFun hv1w (Int32.toNatClampNeg y25_5)
                  have hv1xi := congrArg Int32.toInt hv1x
                  have hx24 := (hWw x (List.mem_of_getElem? hx)).2.1
                  have hs0 : Int32.toNatClampNeg y3_4 = 0 := by omega
                  refine pw_nne hn155 ?_
                  refine pw_nne hn157 ?_
                  refine pw_nne hn166 ?_
                  refine pw_nne hn157 ?_
                  have b208 := (CInv_G200 hCI25 :) wd
                  have f209 := zmw (x := y25_5) (y := ((d25_G 200) wd)) (by omega) (by omega) (by omega) (by omega)
                  have ix210 := rowix (x := y25_5) ((CInv_RA hCI25 :) wd wl wz hk_wd hn166 hn168) ((CInv_G200 hCI25 :) wd).1
                  refine pw_nne hn157 ?_
                  refine pw_nne hn168 ?_
                  refine pw_if (fun hb80 => ?_)
                  obtain ⟨hbl80, hbr80⟩ := hb80
                  have b211 := (CInv_V1 hCI25 :) wz (Int32.toNatClampNeg y25_5)
                  have rl212 := (hRB206 wd wz hk_wd hn168).2 (Int32.toNatClampNeg y25_5)
                  refine pw_b3 (fun c81_G203 c81_V0 c81_V1 hc81 => ?_)
                  have hq81 := wp_at (ok_X10_add κ25 wd (va_up d25_G 203 m42) d25_P d25_U d25_V d25_X d25_O d25_kd d25_ln d25_cnt sp wl (y25_5 * ((d25_G 200) wd)) (((d25_V 1) wz) (Int32.toNatClampNeg y25_5)) (CInv_G200 hCI25 :) hg204 (CInv_P201 hCI25 :) (CInv_P202 hCI25 :) (CInv_V1 hCI25 :) (CInv_RA hCI25 :) hRB206 (CInv_RI hCI25 :) (CInv_LN hCI25 :) hk_sp hk_wl) hc81
                  obtain ⟨hg213, hg214, hRB215, f216, f217⟩ : (rng (0) 100 c81_G203) ∧ (rng2 (0) 24 c81_V1) ∧ (RB κ25 d25_ln (d25_G 200) c81_G203 (d25_P 202) c81_V1) ∧ (id ((sp ≠ wd → c81_G203 wd = m42 wd))) ∧ ((m42 sp).toInt ≤ (c81_G203 sp).toInt) := hq81
                  have hq81 := pwq (fr_X10_add la25 (va_up d25_G 203 m42) d25_P d25_U d25_V d25_X d25_O d25_kd d25_ln d25_cnt sp wl (y25_5 * ((d25_G 200) wd)) (((d25_V 1) wz) (Int32.toNatClampNeg y25_5)) hB25) hc81
                  obtain ⟨q81_G203, q81_V0, q81_V1⟩ : (∀ z, (la25 z < la25 sp ∨ la25 sp < la25 z) → c81_G203 z = m42 z) ∧ (∀ z, (la25 z < la25 sp ∨ la25 sp < la25 z) → c81_V0 z = (d25_V 0) z) ∧ (∀ z, (la25 z < la25 sp ∨ la25 sp < la25 z) → c81_V1 z = (d25_V 1) z) := hq81
                  have tz81 : ∀ z, (z < cnt ∧ (la z < la this ∨ la this + 2 < la z) ∧ (la z < la p2 ∨ la p2 + 8 < la z)) → ((la25 z < la25 sp ∨ la25 sp < la25 z)) := fun z hz => by have q1 := hag25 z hz.1; have q2 := hB.2 z hz.1; omega
                  have hfr218 : ∀ z, (z < cnt ∧ (la z < la this ∨ la this + 2 < la z) ∧ (la z < la p2 ∨ la p2 + 8 < la z)) → c81_G203 z = (G 203) z := fun z hz => (q81_G203 z (tz81 z hz)).trans (hfr203 z hz)
                  have hfr219 : ∀ z, (z < cnt ∧ (la z < la this ∨ la this + 2 < la z) ∧ (la z < la p2 ∨ la p2 + 8 < la z)) → c81_V0 z = (V 0) z := fun z hz => (q81_V0 z (tz81 z hz)).trans ((fun (z : Nat) (hz : (z < cnt ∧ (la z < la this ∨ la this + 2 < la z) ∧ (la z < la p2 ∨ la p2 + 8 < la z))) => hF25_V 0 z hz.1 (fun _ => hz.2)) z hz)
                  have hfr220 : ∀ z, (z < cnt ∧ (la z < la this ∨ la this + 2 < la z) ∧ (la z < la p2 ∨ la p2 + 8 < la z)) → c81_V1 z = (V 1) z := fun z hz => (q81_V1 z (tz81 z hz)).trans ((fun (z : Nat) (hz : (z < cnt ∧ (la z < la this ∨ la this + 2 < la z) ∧ (la z < la p2 ∨ la p2 + 8 < la z))) => hF25_V 1 z hz.1 (fun _ => hz.2)) z hz)
                  have h881_hl : (d25_P 201) sp = some (lsp) := by exact hn159
                  have h881_hs : (d25_P 202) sp = some (ssp) := by exact hn161
                  have h881_hw : ((d25_G 200) sp).toInt = ((24) : Int) := by omega
                  have h881_hst : 0 ≤ (y25_5 * ((d25_G 200) wd)).toInt := by omega
                  have h881_hm : 0 ≤ (((d25_V 1) wz) (Int32.toNatClampNeg y25_5)).toInt := by omega
                  have h881_hmw : (((d25_V 1) wz) (Int32.toNatClampNeg y25_5)).toInt ≤ ((24) : Int) := by omega
                  have h881_hlf : (y25_5 * ((d25_G 200) wd)).toInt + (((d25_V 1) wz) (Int32.toNatClampNeg y25_5)).toInt ≤ ((d25_ln wl : Nat) : Int) := by have z9 := (CInv_RA hCI25 :) wd wl wz hk_wd hn166 hn168; have z8 := rowix (x := y25_5) (w := (d25_G 200) wd) z9 (by omega) (by omega); have z7 := ((CInv_RB hCI25 :) wd wz hk_wd hn168).2 (Int32.toNatClampNeg y25_5); omega
                  have h881_hw24 : (24) ≤ 24 := by decide
                  have hx81 := pwq (fn_X10_add2 κ25 wd la25 (va_up d25_G 203 m42) d25_P d25_U d25_V d25_X d25_O d25_kd d25_ln d25_cnt sp wl (y25_5 * ((d25_G 200) wd)) (((d25_V 1) wz) (Int32.toNatClampNeg y25_5)) (lsp) (ssp) (24) (CInv_G200 hCI25 :) hg204 (CInv_P201 hCI25 :) (CInv_P202 hCI25 :) (CInv_V1 hCI25 :) (CInv_RA hCI25 :) hRB206 (CInv_RI hCI25 :) (CInv_LN hCI25 :) hk_sp hk_wl hB25 lt_sp156 lt_wl167 h881_hl h881_hs h881_hw h881_hst h881_hm h881_hmw h881_hlf h881_hw24) hc81
                  obtain ⟨p81_0, p81_1, p81_2, p81_3⟩ : (rwW (c81_G203 sp) (c81_V0 (lsp)) (c81_V1 (ssp)) (24) = (if (m42 sp).toInt < ((d25_ln (ssp) : Nat) : Int) then rwW (m42 sp) ((d25_V 0) (lsp)) ((d25_V 1) (ssp)) (24) ++ [wdl ((d25_V 0) wl) (Int32.toNatClampNeg (y25_5 * ((d25_G 200) wd))) (Int32.toNatClampNeg (((d25_V 1) wz) (Int32.toNatClampNeg y25_5)))] else rwW (m42 sp) ((d25_V 0) (lsp)) ((d25_V 1) (ssp)) (24))) ∧ (id ((∀ z, z ≠ (lsp) → c81_V0 z = (d25_V 0) z))) ∧ (id ((∀ z, z ≠ (ssp) → c81_V1 z = (d25_V 1) z))) ∧ (id ((∀ z, z ≠ sp → c81_G203 z = m42 z))) := hx81
                  clear h881_hl h881_hs h881_hw h881_hst h881_hm h881_hmw h881_hlf h881_hw24
                  have hFL221 : FL wd c81_G203 (d25_V 3) := by exact FL_eq hFL207 (f216 (hw_sp rfl))
                  have gz81 := ((f216 (hw_sp rfl)).trans gz42).trans gz25
                  have hT : rwW (c81_G203 sp) (c81_V0 lsp) (c81_V1 ssp) 24 = FMT d Ws (Int32.toNatClampNeg y3_4) (Int32.toNatClampNeg y25_5) := by rw [p81_0, if_pos (by omega), show rwW (m42 sp) ((d25_V 0) lsp) ((d25_V 1) ssp) 24 = [] from List.length_eq_zero_iff.mp (by rw [rw_len, em42, va_up_self]; rfl), hm1, hv0w, hv1x, hxe, FMT_at hx, hs0]; rfl
                  refine pw_j12 ej126 (fun z126_0 ez126_0 z126_1 ez126_1 z126_2 ez126_2 z126_3 ez126_3 z126_4 ez126_4 z126_5 ez126_5 z126_6 ez126_6 z126_7 ez126_7 z126_8 ez126_8 z126_9 ez126_9 z126_10 ez126_10 z126_11 ez126_11 => ?_)
                  subst ez126_0 ez126_1 ez126_2 ez126_3 ez126_4 ez126_5 ez126_6 ez126_7 ez126_8 ez126_9 ez126_10 ez126_11
                  have gz126 : c81_G203 wd = (G 203) wd := by assumption
                  refine pw_tk ?_
                  refine pw_newd (κ := κ25) (la := la25) (wd := wd) (Ke := 0) (L := 100000 + 10 * d25_cnt) (CInv_i (CInv_G43 hCI25 :) (CInv_G44 hCI25 :) (CInv_G45 hCI25 :) (CInv_G60 hCI25 :) (CInv_G83 hCI25 :) (CInv_G84 hCI25 :) (CInv_G85 hCI25 :) (CInv_G87 hCI25 :) (CInv_G88 hCI25 :) (CInv_G102 hCI25 :) (CInv_G125 hCI25 :) (CInv_G126 hCI25 :) (CInv_G127 hCI25 :) (CInv_G141 hCI25 :) (CInv_G160 hCI25 :) (CInv_G161 hCI25 :) (CInv_G162 hCI25 :) (CInv_G165 hCI25 :) (CInv_G166 hCI25 :) (CInv_G183 hCI25 :) (CInv_G200 hCI25 :) hg213 (CInv_G222 hCI25 :) (CInv_G231 hCI25 :) (CInv_G233 hCI25 :) (CInv_P0 hCI25 :) (CInv_P1 hCI25 :) (CInv_P2 hCI25 :) (CInv_P3 hCI25 :) (CInv_P4 hCI25 :) (CInv_P5 hCI25 :) (CInv_P20 hCI25 :) (CInv_P21 hCI25 :) (CInv_P22 hCI25 :) (CInv_P23 hCI25 :) (CInv_P40 hCI25 :) (CInv_P41 hCI25 :) (CInv_P42 hCI25 :) (CInv_P61 hCI25 :) (CInv_P62 hCI25 :) (CInv_P63 hCI25 :) (CInv_P64 hCI25 :) (CInv_P65 hCI25 :) (CInv_P66 hCI25 :) (CInv_P82 hCI25 :) (CInv_P101 hCI25 :) (CInv_P103 hCI25 :) (CInv_P104 hCI25 :) (CInv_P105 hCI25 :) (CInv_P106 hCI25 :) (CInv_P108 hCI25 :) (CInv_P109 hCI25 :) (CInv_P110 hCI25 :) (CInv_P120 hCI25 :) (CInv_P121 hCI25 :) (CInv_P122 hCI25 :) (CInv_P123 hCI25 :) (CInv_P140 hCI25 :) (CInv_P164 hCI25 :) (CInv_P180 hCI25 :) (CInv_P181 hCI25 :) (CInv_P182 hCI25 :) (CInv_P185 hCI25 :) (CInv_P186 hCI25 :) (CInv_P187 hCI25 :) (CInv_P201 hCI25 :) (CInv_P202 hCI25 :) (CInv_P220 hCI25 :) (CInv_P221 hCI25 :) (CInv_P224 hCI25 :) (CInv_P225 hCI25 :) (CInv_P226 hCI25 :) (CInv_P227 hCI25 :) (CInv_P228 hCI25 :) (CInv_P229 hCI25 :) (CInv_P230 hCI25 :) (CInv_P232 hCI25 :) (CInv_P234 hCI25 :) (CInv_P235 hCI25 :) (CInv_P236 hCI25 :) hg214 (CInv_V2 hCI25 :) (CInv_V3 hCI25 :) (CInv_V9 hCI25 :) (CInv_O0 hCI25 :) (CInv_O1 hCI25 :) (CInv_O2 hCI25 :) (CInv_RA hCI25 :) hRB215 (CInv_RI hCI25 :) (CInv_RM103 hCI25 :) (CInv_RM104 hCI25 :) (CInv_RM108 hCI25 :) (CInv_LN hCI25 :) hFL221 (CInv_W0 hCI25 :) (CInv_KC hCI25 :) (CInv_WK hCI25 :)) (by decide) (by omega) (LB_set (LB_set (LB_set hB25 (hB25.1 66 fl_66)) (hB25.1 181 fl_181)) (hB25.1 182 fl_182)) (by have q222 := hB25.2 this lt126; omega) (fun κ126 la126 G126 P126 U126 V126 X126 O126 kd126 ln126 cnt126 hCI126 hcn126 hkn126 hln126 hex126 hvz126 hfs126 hB126 hL126 ag126 fU126 fX126 => ?_)
                  have hx223 : ∀ a, κ25 a ≠ 0 → κ126 a = κ25 a := fun a ha => (hex126 a (kclt (CInv_KC hCI25 :) ha) (Nat.ne_of_lt (kclt (CInv_KC hCI25 :) ha))).1
                  have hw_d25_cnt : 1 = 1 → d25_cnt ≠ wd := fun _ q => absurd (kcl0 (CInv_KC hCI25 :) (CInv_WK hCI25 :) (by decide)) (by omega)
                  have ccf126 : d25_cnt ≤ cnt126 := by rw [hcn126]; exact Nat.le_succ _
                  clear hvz126 hfs126 hFL221 tz81 hg213 hg214 hRB215 hc81 hx24 hFL207 hRB206 hg204 hfr203
                  have kx224 : ∀ a, κ a ≠ 0 → κ126 a = κ a := kxt hx25 hx223
                  have hk225 : κ126 this = 1 := kxk hx223 hk116 (by decide)
                  have hl226 := (hex126 p1 (kcl0 (CInv_KC hCI25 :) hk117 (by decide)) (Nat.ne_of_lt (kcl0 (CInv_KC hCI25 :) hk117 (by decide)))).2.2.2.2.2
                  have hk227 : κ126 p1 = 302 := kxk hx223 hk117 (by decide)
                  have hk228 : κ126 p2 = 10 := kxk hx223 hk118 (by decide)
                  have gl_229 : la126 fa = 70 := (ag126 fa lt_fa154).trans gl_136
                  have lt230 : fa < cnt126 := Nat.lt_of_lt_of_le lt_fa154 ccf126
                  have gl_231 : la126 fl = 70 := (ag126 fl lt_fl152).trans gl_135
                  have lt232 : fl < cnt126 := Nat.lt_of_lt_of_le lt_fl152 ccf126
                  have gl_233 : la126 lsp = 71 := (ag126 lsp lt_lsp160).trans gl_138
                  have lt234 : lsp < cnt126 := Nat.lt_of_lt_of_le lt_lsp160 ccf126
                  have gl_235 : la126 p1 = la25 p1 := ag126 p1 lt122
                  have lt236 : p1 < cnt126 := Nat.lt_of_lt_of_le lt122 ccf126
                  have gl_237 : la126 p2 = 90 := (ag126 p2 lt123).trans gl_134
                  have lt238 : p2 < cnt126 := Nat.lt_of_lt_of_le lt123 ccf126
                  have gl_239 : la126 sp = 71 := (ag126 sp lt_sp156).trans gl_137
                  have lt240 : sp < cnt126 := Nat.lt_of_lt_of_le lt_sp156 ccf126
                  have gl_241 : la126 ssp = 71 := (ag126 ssp lt_ssp162).trans gl_139
                  have lt242 : ssp < cnt126 := Nat.lt_of_lt_of_le lt_ssp162 ccf126
                  have gl_243 : la126 this = 70 := (ag126 this lt126).trans gl_132
                  have lt244 : this < cnt126 := Nat.lt_of_lt_of_le lt126 ccf126
                  have gl_245 : la126 wl = 20 := (ag126 wl lt_wl167).trans gl_140
                  have lt246 : wl < cnt126 := Nat.lt_of_lt_of_le lt_wl167 ccf126
                  have gl_247 : la126 wz = 20 := (ag126 wz lt_wz169).trans gl_141
                  have lt248 : wz < cnt126 := Nat.lt_of_lt_of_le lt_wz169 ccf126
                  have gl_249 : la126 wd = 20 := (ag126 wd lt_wd158).trans gl_133
                  have lt250 : wd < cnt126 := Nat.lt_of_lt_of_le lt_wd158 ccf126
                  have gl_251 : la126 wh = 93 := (ag126 wh lt_wh174).trans gl_142
                  have lt252 : wh < cnt126 := Nat.lt_of_lt_of_le lt_wh174 ccf126
                  have gl_253 : la126 pg = 96 := (ag126 pg lt_pg176).trans gl_143
                  have lt254 : pg < cnt126 := Nat.lt_of_lt_of_le lt_pg176 ccf126
                  have gl_255 : la126 fi = 97 := (ag126 fi lt_fi178).trans gl_144
                  have lt256 : fi < cnt126 := Nat.lt_of_lt_of_le lt_fi178 ccf126
                  have gl_257 : la126 pa = 98 := (ag126 pa lt_pa180).trans gl_145
                  have lt258 : pa < cnt126 := Nat.lt_of_lt_of_le lt_pa180 ccf126
                  have gl_259 : la126 pk = 96 := (ag126 pk lt_pk182).trans gl_146
                  have lt260 : pk < cnt126 := Nat.lt_of_lt_of_le lt_pk182 ccf126
                  have gl_261 : la126 sz = 96 := (ag126 sz lt_sz184).trans gl_147
                  have lt262 : sz < cnt126 := Nat.lt_of_lt_of_le lt_sz184 ccf126
                  have gl_263 : la126 cl = 96 := (ag126 cl lt_cl186).trans gl_148
                  have lt264 : cl < cnt126 := Nat.lt_of_lt_of_le lt_cl186 ccf126
                  have gl_265 : 91 ≤ la126 nw1 ∧ la126 nw1 ≤ 92 := by rw [ag126 nw1 lt_nw1188]; exact lb_nw1188
                  have lt266 : nw1 < cnt126 := Nat.lt_of_lt_of_le lt_nw1188 ccf126
                  have gl_267 : 91 ≤ la126 nx1 ∧ la126 nx1 ≤ 92 := by rw [ag126 nx1 lt_nx1190]; exact lb_nx1190
                  have lt268 : nx1 < cnt126 := Nat.lt_of_lt_of_le lt_nx1190 ccf126
                  have hag126 : ∀ z, z < cnt → la126 z = la z := fun z hz => (ag126 z (Nat.lt_of_lt_of_le hz hcc115)).trans (hag25 z hz)
                  have fG126 : FRM d25_cnt [] (fun _ => True) (va_up (va_up (va_up d25_G 60 (d25_G 60)) 183 (d25_G 183)) 203 c81_G203) G126 := fun g z hz _ => (hex126 z hz (Nat.ne_of_lt hz)).2.1 g
                  have fP126 : FRM d25_cnt [] (fun _ => True) (va_up (va_up (va_up d25_P 66 (d25_P 66)) 181 (d25_P 181)) 182 (d25_P 182)) P126 := fun g z hz _ => (hex126 z hz (Nat.ne_of_lt hz)).2.2.1 g
                  have fV126 : FRM d25_cnt [] (fun _ => True) (va_up (va_up (va_up (va_up d25_V 0 c81_V0) 1 c81_V1) 2 (d25_V 2)) 12 (d25_V 12)) V126 := fun g z hz _ => (hex126 z hz (Nat.ne_of_lt hz)).2.2.2.1 g
                  have fO126 : FRM d25_cnt [] (fun _ => True) d25_O O126 := fun g z hz _ => (hex126 z hz (Nat.ne_of_lt hz)).2.2.2.2.1 g
                  have fl126 : ∀ z, z < d25_cnt → ln126 z = d25_ln z := fun z hz => (hex126 z hz (Nat.ne_of_lt hz)).2.2.2.2.2
                  have hle126 : cnt ≤ d25_cnt := hcc115
                  have hF126_G : FRM cnt [60, 183, 203] (fun z => (la z < la this ∨ la this + 2 < la z) ∧ (la z < la p2 ∨ la p2 + 8 < la z)) G G126 := FRM_trans (FRM_set (FRM_set (FRM_set hF25_G (by decide) (fun z h1 h2 => (fun (z : Nat) (hz : (z < cnt ∧ (la z < la this ∨ la this + 2 < la z) ∧ (la z < la p2 ∨ la p2 + 8 < la z))) => hF25_G 60 z hz.1 (fun _ => hz.2)) z ⟨h1, h2⟩)) (by decide) (fun z h1 h2 => (fun (z : Nat) (hz : (z < cnt ∧ (la z < la this ∨ la this + 2 < la z) ∧ (la z < la p2 ∨ la p2 + 8 < la z))) => hF25_G 183 z hz.1 (fun _ => hz.2)) z ⟨h1, h2⟩)) (by decide) (fun z h1 h2 => hfr218 z ⟨h1, h2⟩)) fG126 hle126 (by decide) (fun _ _ _ => trivial)
                  have hF126_P : FRM cnt [66, 181, 182] (fun z => (la z < la this ∨ la this + 2 < la z) ∧ (la z < la p2 ∨ la p2 + 8 < la z)) P P126 := FRM_trans (FRM_set (FRM_set (FRM_set hF25_P (by decide) (fun z h1 h2 => (fun (z : Nat) (hz : (z < cnt ∧ (la z < la this ∨ la this + 2 < la z) ∧ (la z < la p2 ∨ la p2 + 8 < la z))) => hF25_P 66 z hz.1 (fun _ => hz.2)) z ⟨h1, h2⟩)) (by decide) (fun z h1 h2 => (fun (z : Nat) (hz : (z < cnt ∧ (la z < la this ∨ la this + 2 < la z) ∧ (la z < la p2 ∨ la p2 + 8 < la z))) => hF25_P 181 z hz.1 (fun _ => hz.2)) z ⟨h1, h2⟩)) (by decide) (fun z h1 h2 => (fun (z : Nat) (hz : (z < cnt ∧ (la z < la this ∨ la this + 2 < la z) ∧ (la z < la p2 ∨ la p2 + 8 < la z))) => hF25_P 182 z hz.1 (fun _ => hz.2)) z ⟨h1, h2⟩)) fP126 hle126 (by decide) (fun _ _ _ => trivial)
                  have hF126_U : FRM cnt [184] (fun z => (la z < la this ∨ la this + 2 < la z) ∧ (la z < la p2 ∨ la p2 + 8 < la z)) U U126 := FRM_trans (FRM_set hF25_U (by decide) (fun z h1 h2 => (fun (z : Nat) (hz : (z < cnt ∧ (la z < la this ∨ la this + 2 < la z) ∧ (la z < la p2 ∨ la p2 + 8 < la z))) => hF25_U 184 z hz.1 (fun _ => hz.2)) z ⟨h1, h2⟩)) fU126 hle126 (by decide) (fun _ _ _ => trivial)
                  have hF126_V : FRM cnt [0, 1, 2, 3, 12] (fun z => (la z < la this ∨ la this + 2 < la z) ∧ (la z < la p2 ∨ la p2 + 8 < la z)) V V126 := FRM_trans (FRM_set (FRM_set (FRM_set (FRM_set hF25_V (by decide) (fun z h1 h2 => hfr219 z ⟨h1, h2⟩)) (by decide) (fun z h1 h2 => hfr220 z ⟨h1, h2⟩)) (by decide) (fun z h1 h2 => (fun (z : Nat) (hz : (z < cnt ∧ (la z < la this ∨ la this + 2 < la z) ∧ (la z < la p2 ∨ la p2 + 8 < la z))) => hF25_V 2 z hz.1 (fun _ => hz.2)) z ⟨h1, h2⟩)) (by decide) (fun z h1 h2 => (fun (z : Nat) (hz : (z < cnt ∧ (la z < la this ∨ la this + 2 < la z) ∧ (la z < la p2 ∨ la p2 + 8 < la z))) => hF25_V 12 z hz.1 (fun _ => hz.2)) z ⟨h1, h2⟩)) fV126 hle126 (by decide) (fun _ _ _ => trivial)
                  have hF126_X : FRM cnt [1] (fun z => (la z < la this ∨ la this + 2 < la z) ∧ (la z < la p2 ∨ la p2 + 8 < la z)) X X126 := FRM_trans (FRM_set hF25_X (by decide) (fun z h1 h2 => (fun (z : Nat) (hz : (z < cnt ∧ (la z < la this ∨ la this + 2 < la z) ∧ (la z < la p2 ∨ la p2 + 8 < la z))) => hF25_X 1 z hz.1 (fun _ => hz.2)) z ⟨h1, h2⟩)) fX126 hle126 (by decide) (fun _ _ _ => trivial)
                  have hF126_O : FRM cnt [1] (fun z => (la z < la this ∨ la this + 2 < la z) ∧ (la z < la p2 ∨ la p2 + 8 < la z)) O O126 := FRM_trans hF25_O fO126 hle126 (by decide) (fun _ _ _ => trivial)
                  have hlnn126 : ∀ z, z < cnt → ln126 z = ln z := fun z hz => (fl126 z (Nat.lt_of_lt_of_le hz hle126)).trans (hlnn25 z hz)
                  clear fl126 hx223 fU126 fX126 hfr220 hfr219 hfr218
                  have lt269 : d25_cnt < cnt126 := by rw [hcn126]; exact Nat.lt_succ_self _
                  have hn270 : (P126 3) this = some fl := ((hex126 this lt126 (Nat.ne_of_lt lt126)).2.2.1 3).trans hn151
                  have lt_fl271 := ((hB126.1 3 fl_3) this fl hn270).2.1
                  have hk_fl := (((CInv_P3 hCI126 :) this).2 fl hn270).1
                  have hl1_fl := (((CInv_P3 hCI126 :) this).2 fl hn270).2.1
                  have hl2_fl := (((CInv_P3 hCI126 :) this).2 fl hn270).2.2.1
                  have hw_fl : id _ := (((CInv_P3 hCI126 :) this).2 fl hn270).2.2.2
                  have hn272 : (P126 1) this = some fa := ((hex126 this lt126 (Nat.ne_of_lt lt126)).2.2.1 1).trans hn153
                  have lt_fa273 := ((hB126.1 1 fl_1) this fa hn272).2.1
                  have hk_fa := (((CInv_P1 hCI126 :) this).2 fa hn272).1
                  have hl1_fa := (((CInv_P1 hCI126 :) this).2 fa hn272).2.1
                  have hl2_fa := (((CInv_P1 hCI126 :) this).2 fa hn272).2.2.1
                  have hw_fa : id _ := (((CInv_P1 hCI126 :) this).2 fa hn272).2.2.2
                  have hn274 : (P126 4) this = some sp := ((hex126 this lt126 (Nat.ne_of_lt lt126)).2.2.1 4).trans hn155
                  have lt_sp275 := ((hB126.1 4 fl_4) this sp hn274).2.1
                  have hk_sp := (((CInv_P4 hCI126 :) this).2 sp hn274).1
                  have hl1_sp := (((CInv_P4 hCI126 :) this).2 sp hn274).2.1
                  have hl2_sp := (((CInv_P4 hCI126 :) this).2 sp hn274).2.2.1
                  have hw_sp : id _ := (((CInv_P4 hCI126 :) this).2 sp hn274).2.2.2
                  have hn276 : (P126 0) this = some wd := ((hex126 this lt126 (Nat.ne_of_lt lt126)).2.2.1 0).trans hn157
                  have lt_wd277 := ((hB126.1 0 fl_0) this wd hn276).2.1
                  have hk_wd := (((CInv_P0 hCI126 :) this).2 wd hn276).1
                  have hl1_wd := (((CInv_P0 hCI126 :) this).2 wd hn276).2.1
                  have hl2_wd := (((CInv_P0 hCI126 :) this).2 wd hn276).2.2.1
                  have hw_wd : id _ := (((CInv_P0 hCI126 :) this).2 wd hn276).2.2.2
                  have hn278 : (P126 201) sp = some lsp := ((hex126 sp lt_sp156 (Nat.ne_of_lt lt_sp156)).2.2.1 201).trans hn159
                  have lt_lsp279 := ((hB126.1 201 fl_201) sp lsp hn278).2.1
                  have hk_lsp := (((CInv_P201 hCI126 :) sp).2 lsp hn278).1
                  have hl1_lsp := (((CInv_P201 hCI126 :) sp).2 lsp hn278).2.1
                  have hl2_lsp := (((CInv_P201 hCI126 :) sp).2 lsp hn278).2.2.1
                  have hw_lsp : id _ := (((CInv_P201 hCI126 :) sp).2 lsp hn278).2.2.2
                  have hn280 : (P126 202) sp = some ssp := ((hex126 sp lt_sp156 (Nat.ne_of_lt lt_sp156)).2.2.1 202).trans hn161
                  have lt_ssp281 := ((hB126.1 202 fl_202) sp ssp hn280).2.1
                  have hk_ssp := (((CInv_P202 hCI126 :) sp).2 ssp hn280).1
                  have hl1_ssp := (((CInv_P202 hCI126 :) sp).2 ssp hn280).2.1
                  have hl2_ssp := (((CInv_P202 hCI126 :) sp).2 ssp hn280).2.2.1
                  have hw_ssp : id _ := (((CInv_P202 hCI126 :) sp).2 ssp hn280).2.2.2
                  have rb282 := ((CInv_RB hCI126 :) sp ssp hk_sp hn280).1
                  have hn285 : (P126 201) wd = some wl := ((hex126 wd lt_wd158 (Nat.ne_of_lt lt_wd158)).2.2.1 201).trans hn166
                  have lt_wl286 := ((hB126.1 201 fl_201) wd wl hn285).2.1
                  have hk_wl := (((CInv_P201 hCI126 :) wd).2 wl hn285).1
                  have hl1_wl := (((CInv_P201 hCI126 :) wd).2 wl hn285).2.1
                  have hl2_wl := (((CInv_P201 hCI126 :) wd).2 wl hn285).2.2.1
                  have hw_wl : id _ := (((CInv_P201 hCI126 :) wd).2 wl hn285).2.2.2
                  have hn287 : (P126 202) wd = some wz := ((hex126 wd lt_wd158 (Nat.ne_of_lt lt_wd158)).2.2.1 202).trans hn168
                  have lt_wz288 := ((hB126.1 202 fl_202) wd wz hn287).2.1
                  have hk_wz := (((CInv_P202 hCI126 :) wd).2 wz hn287).1
                  have hl1_wz := (((CInv_P202 hCI126 :) wd).2 wz hn287).2.1
                  have hl2_wz := (((CInv_P202 hCI126 :) wd).2 wz hn287).2.2.1
                  have hw_wz : id _ := (((CInv_P202 hCI126 :) wd).2 wz hn287).2.2.2
                  have rb289 := ((CInv_RB hCI126 :) wd wz hk_wd hn287).1
                  have hn292 : (P126 185) p2 = some wh := ((hex126 p2 lt123 (Nat.ne_of_lt lt123)).2.2.1 185).trans hn173
                  have lt_wh293 := ((hB126.1 185 fl_185) p2 wh hn292).2.1
                  have hk_wh := (((CInv_P185 hCI126 :) p2).2 wh hn292).1
                  have hl1_wh := (((CInv_P185 hCI126 :) p2).2 wh hn292).2.1
                  have hl2_wh := (((CInv_P185 hCI126 :) p2).2 wh hn292).2.2.1
                  have hw_wh : id _ := (((CInv_P185 hCI126 :) p2).2 wh hn292).2.2.2
                  have hn294 : (P126 180) p2 = some pg := ((hex126 p2 lt123 (Nat.ne_of_lt lt123)).2.2.1 180).trans hn175
                  have lt_pg295 := ((hB126.1 180 fl_180) p2 pg hn294).2.1
                  have hk_pg := (((CInv_P180 hCI126 :) p2).2 pg hn294).1
                  have hl1_pg := (((CInv_P180 hCI126 :) p2).2 pg hn294).2.1
                  have hl2_pg := (((CInv_P180 hCI126 :) p2).2 pg hn294).2.2.1
                  have hw_pg : id _ := (((CInv_P180 hCI126 :) p2).2 pg hn294).2.2.2
                  have hn296 : (P126 63) pg = some fi := ((hex126 pg lt_pg176 (Nat.ne_of_lt lt_pg176)).2.2.1 63).trans hn177
                  have lt_fi297 := ((hB126.1 63 fl_63) pg fi hn296).2.1
                  have hk_fi := (((CInv_P63 hCI126 :) pg).2 fi hn296).1
                  have hl1_fi := (((CInv_P63 hCI126 :) pg).2 fi hn296).2.1
                  have hl2_fi := (((CInv_P63 hCI126 :) pg).2 fi hn296).2.2.1
                  have hw_fi : id _ := (((CInv_P63 hCI126 :) pg).2 fi hn296).2.2.2
                  have hn298 : (P126 65) pg = some pa := ((hex126 pg lt_pg176 (Nat.ne_of_lt lt_pg176)).2.2.1 65).trans hn179
                  have lt_pa299 := ((hB126.1 65 fl_65) pg pa hn298).2.1
                  have hk_pa := (((CInv_P65 hCI126 :) pg).2 pa hn298).1
                  have hl1_pa := (((CInv_P65 hCI126 :) pg).2 pa hn298).2.1
                  have hl2_pa := (((CInv_P65 hCI126 :) pg).2 pa hn298).2.2.1
                  have hw_pa : id _ := (((CInv_P65 hCI126 :) pg).2 pa hn298).2.2.2
                  have hn300 : (P126 62) pg = some pk := ((hex126 pg lt_pg176 (Nat.ne_of_lt lt_pg176)).2.2.1 62).trans hn181
                  have lt_pk301 := ((hB126.1 62 fl_62) pg pk hn300).2.1
                  have hk_pk := (((CInv_P62 hCI126 :) pg).2 pk hn300).1
                  have hl1_pk := (((CInv_P62 hCI126 :) pg).2 pk hn300).2.1
                  have hl2_pk := (((CInv_P62 hCI126 :) pg).2 pk hn300).2.2.1
                  have hw_pk : id _ := (((CInv_P62 hCI126 :) pg).2 pk hn300).2.2.2
                  have hn302 : (P126 61) pg = some sz := ((hex126 pg lt_pg176 (Nat.ne_of_lt lt_pg176)).2.2.1 61).trans hn183
                  have lt_sz303 := ((hB126.1 61 fl_61) pg sz hn302).2.1
                  have hk_sz := (((CInv_P61 hCI126 :) pg).2 sz hn302).1
                  have hl1_sz := (((CInv_P61 hCI126 :) pg).2 sz hn302).2.1
                  have hl2_sz := (((CInv_P61 hCI126 :) pg).2 sz hn302).2.2.1
                  have hw_sz : id _ := (((CInv_P61 hCI126 :) pg).2 sz hn302).2.2.2
                  have hn304 : (P126 64) pg = some cl := ((hex126 pg lt_pg176 (Nat.ne_of_lt lt_pg176)).2.2.1 64).trans hn185
                  have lt_cl305 := ((hB126.1 64 fl_64) pg cl hn304).2.1
                  have hk_cl := (((CInv_P64 hCI126 :) pg).2 cl hn304).1
                  have hl1_cl := (((CInv_P64 hCI126 :) pg).2 cl hn304).2.1
                  have hl2_cl := (((CInv_P64 hCI126 :) pg).2 cl hn304).2.2.1
                  have hw_cl : id _ := (((CInv_P64 hCI126 :) pg).2 cl hn304).2.2.2
                  have hn306 : (P126 181) p2 = some nw1 := ((hex126 p2 lt123 (Nat.ne_of_lt lt123)).2.2.1 181).trans hn187
                  have lt_nw1307 := ((hB126.1 181 fl_181) p2 nw1 hn306).2.1
                  have hk_nw1 := (((CInv_P181 hCI126 :) p2).2 nw1 hn306).1
                  have hl1_nw1 := (((CInv_P181 hCI126 :) p2).2 nw1 hn306).2.1
                  have hl2_nw1 := (((CInv_P181 hCI126 :) p2).2 nw1 hn306).2.2.1
                  have hw_nw1 : id _ := (((CInv_P181 hCI126 :) p2).2 nw1 hn306).2.2.2
                  have hn308 : (P126 182) p2 = some nx1 := ((hex126 p2 lt123 (Nat.ne_of_lt lt123)).2.2.1 182).trans hn189
                  have lt_nx1309 := ((hB126.1 182 fl_182) p2 nx1 hn308).2.1
                  have hk_nx1 := (((CInv_P182 hCI126 :) p2).2 nx1 hn308).1
                  have hl1_nx1 := (((CInv_P182 hCI126 :) p2).2 nx1 hn308).2.1
                  have hl2_nx1 := (((CInv_P182 hCI126 :) p2).2 nx1 hn308).2.2.1
                  have hw_nx1 : id _ := (((CInv_P182 hCI126 :) p2).2 nx1 hn308).2.2.2
                  have gzM : (G126 203) wd = (G 203) wd := ((hex126 wd (by omega) (by omega)).2.1 203).trans gz126
                  have hvM : (V126 3) fl = (d3_V 3) fl := ((hex126 fl (by omega) (by omega)).2.2.2.1 3).trans hv25
                  refine pw_nne hn274 ?_
                  have b310 := (CInv_G203 hCI126 :) sp
                  have hpr139_0 : (0 ≤ ((G126 203) sp).toInt ∧ ((G126 203) sp).toInt ≤ 100) := by first | assumption | omega
                  have hpr139_1 : (0 ≤ (24 : Int32).toInt ∧ (24 : Int32).toInt ≤ 24) := by first | assumption | omega
                  refine pw_bA9 (fun c139_G c139_P c139_U c139_V c139_X c139_O c139_kd c139_ln c139_cnt v1_139 v2_139 hc139 => ?_)
                  have hq139 := wp_at (ok_X10_init κ126 wd G126 P126 U126 V126 X126 O126 kd126 ln126 cnt126 d25_cnt ((G126 203) sp) (24 : Int32) (CInv_i (CInv_G43 hCI126 :) (CInv_G44 hCI126 :) (CInv_G45 hCI126 :) (CInv_G60 hCI126 :) (CInv_G83 hCI126 :) (CInv_G84 hCI126 :) (CInv_G85 hCI126 :) (CInv_G87 hCI126 :) (CInv_G88 hCI126 :) (CInv_G102 hCI126 :) (CInv_G125 hCI126 :) (CInv_G126 hCI126 :) (CInv_G127 hCI126 :) (CInv_G141 hCI126 :) (CInv_G160 hCI126 :) (CInv_G161 hCI126 :) (CInv_G162 hCI126 :) (CInv_G165 hCI126 :) (CInv_G166 hCI126 :) (CInv_G183 hCI126 :) (CInv_G200 hCI126 :) (CInv_G203 hCI126 :) (CInv_G222 hCI126 :) (CInv_G231 hCI126 :) (CInv_G233 hCI126 :) (CInv_P0 hCI126 :) (CInv_P1 hCI126 :) (CInv_P2 hCI126 :) (CInv_P3 hCI126 :) (CInv_P4 hCI126 :) (CInv_P5 hCI126 :) (CInv_P20 hCI126 :) (CInv_P21 hCI126 :) (CInv_P22 hCI126 :) (CInv_P23 hCI126 :) (CInv_P40 hCI126 :) (CInv_P41 hCI126 :) (CInv_P42 hCI126 :) (CInv_P61 hCI126 :) (CInv_P62 hCI126 :) (CInv_P63 hCI126 :) (CInv_P64 hCI126 :) (CInv_P65 hCI126 :) (CInv_P66 hCI126 :) (CInv_P82 hCI126 :) (CInv_P101 hCI126 :) (CInv_P103 hCI126 :) (CInv_P104 hCI126 :) (CInv_P105 hCI126 :) (CInv_P106 hCI126 :) (CInv_P108 hCI126 :) (CInv_P109 hCI126 :) (CInv_P110 hCI126 :) (CInv_P120 hCI126 :) (CInv_P121 hCI126 :) (CInv_P122 hCI126 :) (CInv_P123 hCI126 :) (CInv_P140 hCI126 :) (CInv_P164 hCI126 :) (CInv_P180 hCI126 :) (CInv_P181 hCI126 :) (CInv_P182 hCI126 :) (CInv_P185 hCI126 :) (CInv_P186 hCI126 :) (CInv_P187 hCI126 :) (CInv_P201 hCI126 :) (CInv_P202 hCI126 :) (CInv_P220 hCI126 :) (CInv_P221 hCI126 :) (CInv_P224 hCI126 :) (CInv_P225 hCI126 :) (CInv_P226 hCI126 :) (CInv_P227 hCI126 :) (CInv_P228 hCI126 :) (CInv_P229 hCI126 :) (CInv_P230 hCI126 :) (CInv_P232 hCI126 :) (CInv_P234 hCI126 :) (CInv_P235 hCI126 :) (CInv_P236 hCI126 :) (CInv_V1 hCI126 :) (CInv_V2 hCI126 :) (CInv_V3 hCI126 :) (CInv_V9 hCI126 :) (CInv_O0 hCI126 :) (CInv_O1 hCI126 :) (CInv_O2 hCI126 :) (CInv_RA hCI126 :) (CInv_RB hCI126 :) (CInv_RI hCI126 :) (CInv_RM103 hCI126 :) (CInv_RM104 hCI126 :) (CInv_RM108 hCI126 :) (CInv_LN hCI126 :) (CInv_FL hCI126 :) (CInv_W0 hCI126 :) (CInv_KC hCI126 :) (CInv_WK hCI126 :)) hkn126 (by omega) (by omega) hpr139_0 hpr139_1) hc139
                  obtain ⟨κ139_313, hCI139, hxx139, hcc315, hk316, hex139, f317, f318, f319⟩ : ∃ κ1 : Nat → Nat, (CInv κ1 wd c139_G c139_P c139_V c139_O c139_ln c139_cnt) ∧ (∀ a, κ126 a ≠ 0 → κ1 a = κ126 a) ∧ (cnt126 ≤ c139_cnt) ∧ (κ1 d25_cnt = 11) ∧ (EX d25_cnt cnt126 κ126 κ1 G126 c139_G P126 c139_P V126 c139_V O126 c139_O ln126 c139_ln) ∧ (id ((∀ s, (c139_P 202) d25_cnt = some s → c139_ln s = Int32.toNatClampNeg ((G126 203) sp)))) ∧ (v1_139 ≤ 2) ∧ (((v2_139 : Nat) : Int) ≤ 25 * ((G126 203) sp).toInt) := hq139
                  have kx320 : ∀ a, κ a ≠ 0 → κ139_313 a = κ a := kxt kx224 hxx139
                  have hk321 : κ139_313 this = 1 := kxk hxx139 hk225 (by decide)
                  have hl322 := (hex139 p1 (kcl0 (CInv_KC hCI126 :) hk227 (by decide)) (by intro q; rw [q] at hk227; exact absurd (hk227.symm.trans hkn126) (by decide))).2.2.2.2.2
                  have hk323 : κ139_313 p1 = 302 := kxk hxx139 hk227 (by decide)
                  have hk324 : κ139_313 p2 = 10 := kxk hxx139 hk228 (by decide)
                  have hlo_d25_cnt := (CInv_LN hCI139 :) d25_cnt (by rw [hk316]; decide)
                  have hq139 := pwq (fr_X10_init la126 G126 P126 U126 V126 X126 O126 kd126 ln126 cnt126 d25_cnt ((G126 203) sp) (24 : Int32) hB126 lt269) hc139
                  obtain ⟨la139_f, agf139, hBf139, ccf139, fG139, fP139, fU139, fV139, fX139, fO139, fl139⟩ : ∃ la9 : Nat → Nat, (∀ z, z < cnt126 → la9 z = la126 z) ∧ LB la9 c139_cnt c139_P ∧ cnt126 ≤ c139_cnt ∧ FRM cnt126 [200, 203] (fun z => z ≠ d25_cnt) G126 c139_G ∧ FRM cnt126 [201, 202] (fun z => z ≠ d25_cnt) P126 c139_P ∧ FRM cnt126 [] (fun z => z ≠ d25_cnt) U126 c139_U ∧ FRM cnt126 [] (fun z => z ≠ d25_cnt) V126 c139_V ∧ FRM cnt126 [] (fun z => z ≠ d25_cnt) X126 c139_X ∧ FRM cnt126 [] (fun z => z ≠ d25_cnt) O126 c139_O ∧ (∀ z, z < cnt126 → c139_ln z = ln126 z) := hq139
                  have hx139 := pwq (fn_X10_init κ126 wd la126 G126 P126 U126 V126 X126 O126 kd126 ln126 cnt126 d25_cnt ((G126 203) sp) (24 : Int32) (CInv_i (CInv_G43 hCI126 :) (CInv_G44 hCI126 :) (CInv_G45 hCI126 :) (CInv_G60 hCI126 :) (CInv_G83 hCI126 :) (CInv_G84 hCI126 :) (CInv_G85 hCI126 :) (CInv_G87 hCI126 :) (CInv_G88 hCI126 :) (CInv_G102 hCI126 :) (CInv_G125 hCI126 :) (CInv_G126 hCI126 :) (CInv_G127 hCI126 :) (CInv_G141 hCI126 :) (CInv_G160 hCI126 :) (CInv_G161 hCI126 :) (CInv_G162 hCI126 :) (CInv_G165 hCI126 :) (CInv_G166 hCI126 :) (CInv_G183 hCI126 :) (CInv_G200 hCI126 :) (CInv_G203 hCI126 :) (CInv_G222 hCI126 :) (CInv_G231 hCI126 :) (CInv_G233 hCI126 :) (CInv_P0 hCI126 :) (CInv_P1 hCI126 :) (CInv_P2 hCI126 :) (CInv_P3 hCI126 :) (CInv_P4 hCI126 :) (CInv_P5 hCI126 :) (CInv_P20 hCI126 :) (CInv_P21 hCI126 :) (CInv_P22 hCI126 :) (CInv_P23 hCI126 :) (CInv_P40 hCI126 :) (CInv_P41 hCI126 :) (CInv_P42 hCI126 :) (CInv_P61 hCI126 :) (CInv_P62 hCI126 :) (CInv_P63 hCI126 :) (CInv_P64 hCI126 :) (CInv_P65 hCI126 :) (CInv_P66 hCI126 :) (CInv_P82 hCI126 :) (CInv_P101 hCI126 :) (CInv_P103 hCI126 :) (CInv_P104 hCI126 :) (CInv_P105 hCI126 :) (CInv_P106 hCI126 :) (CInv_P108 hCI126 :) (CInv_P109 hCI126 :) (CInv_P110 hCI126 :) (CInv_P120 hCI126 :) (CInv_P121 hCI126 :) (CInv_P122 hCI126 :) (CInv_P123 hCI126 :) (CInv_P140 hCI126 :) (CInv_P164 hCI126 :) (CInv_P180 hCI126 :) (CInv_P181 hCI126 :) (CInv_P182 hCI126 :) (CInv_P185 hCI126 :) (CInv_P186 hCI126 :) (CInv_P187 hCI126 :) (CInv_P201 hCI126 :) (CInv_P202 hCI126 :) (CInv_P220 hCI126 :) (CInv_P221 hCI126 :) (CInv_P224 hCI126 :) (CInv_P225 hCI126 :) (CInv_P226 hCI126 :) (CInv_P227 hCI126 :) (CInv_P228 hCI126 :) (CInv_P229 hCI126 :) (CInv_P230 hCI126 :) (CInv_P232 hCI126 :) (CInv_P234 hCI126 :) (CInv_P235 hCI126 :) (CInv_P236 hCI126 :) (CInv_V1 hCI126 :) (CInv_V2 hCI126 :) (CInv_V3 hCI126 :) (CInv_V9 hCI126 :) (CInv_O0 hCI126 :) (CInv_O1 hCI126 :) (CInv_O2 hCI126 :) (CInv_RA hCI126 :) (CInv_RB hCI126 :) (CInv_RI hCI126 :) (CInv_RM103 hCI126 :) (CInv_RM104 hCI126 :) (CInv_RM108 hCI126 :) (CInv_LN hCI126 :) (CInv_FL hCI126 :) (CInv_W0 hCI126 :) (CInv_KC hCI126 :) (CInv_WK hCI126 :)) hkn126 (by omega) (by omega) hpr139_0 hpr139_1 hB126) hc139
                  obtain ⟨la139, ag139, hB139, p139_0, p139_1⟩ : ∃ la9 : Nat → Nat, (∀ z, z < cnt126 → la9 z = la126 z) ∧ LB la9 c139_cnt c139_P ∧ (id (∃ l s, (c139_P 201) d25_cnt = some l ∧ (c139_P 202) d25_cnt = some s ∧ c139_ln s = Int32.toNatClampNeg ((G126 203) sp))) ∧ ((c139_G 200) d25_cnt = (24 : Int32) ∧ (c139_G 203) d25_cnt = 0) := hx139
                  clear agf139 hBf139 hxx139 hc139 hpr139_1 hpr139_0 hk228 hk227 hk225 kx224 hex126 hB126 hv25
                  have gl_325 : la139 fa = 70 := (ag139 fa lt_fa273).trans gl_229
                  have lt326 : fa < c139_cnt := Nat.lt_of_lt_of_le lt_fa273 ccf139
                  have gl_327 : la139 fl = 70 := (ag139 fl lt_fl271).trans gl_231
                  have lt328 : fl < c139_cnt := Nat.lt_of_lt_of_le lt_fl271 ccf139
                  have gl_329 : la139 lsp = 71 := (ag139 lsp lt_lsp279).trans gl_233
                  have lt330 : lsp < c139_cnt := Nat.lt_of_lt_of_le lt_lsp279 ccf139
                  have gl_331 : la139 p1 = la25 p1 := (ag139 p1 lt236).trans gl_235
                  have lt332 : p1 < c139_cnt := Nat.lt_of_lt_of_le lt236 ccf139
                  have gl_333 : la139 p2 = 90 := (ag139 p2 lt238).trans gl_237
                  have lt334 : p2 < c139_cnt := Nat.lt_of_lt_of_le lt238 ccf139
                  have gl_335 : la139 sp = 71 := (ag139 sp lt_sp275).trans gl_239
                  have lt336 : sp < c139_cnt := Nat.lt_of_lt_of_le lt_sp275 ccf139
                  have gl_337 : la139 ssp = 71 := (ag139 ssp lt_ssp281).trans gl_241
                  have lt338 : ssp < c139_cnt := Nat.lt_of_lt_of_le lt_ssp281 ccf139
                  have gl_339 : la139 this = 70 := (ag139 this lt244).trans gl_243
                  have lt340 : this < c139_cnt := Nat.lt_of_lt_of_le lt244 ccf139
                  have gl_341 : la139 wl = 20 := (ag139 wl lt_wl286).trans gl_245
                  have lt342 : wl < c139_cnt := Nat.lt_of_lt_of_le lt_wl286 ccf139
                  have gl_343 : la139 wz = 20 := (ag139 wz lt_wz288).trans gl_247
                  have lt344 : wz < c139_cnt := Nat.lt_of_lt_of_le lt_wz288 ccf139
                  have gl_345 : la139 wd = 20 := (ag139 wd lt_wd277).trans gl_249
                  have lt346 : wd < c139_cnt := Nat.lt_of_lt_of_le lt_wd277 ccf139
                  have gl_347 : la139 wh = 93 := (ag139 wh lt_wh293).trans gl_251
                  have lt348 : wh < c139_cnt := Nat.lt_of_lt_of_le lt_wh293 ccf139
                  have gl_349 : la139 pg = 96 := (ag139 pg lt_pg295).trans gl_253
                  have lt350 : pg < c139_cnt := Nat.lt_of_lt_of_le lt_pg295 ccf139
                  have gl_351 : la139 fi = 97 := (ag139 fi lt_fi297).trans gl_255
                  have lt352 : fi < c139_cnt := Nat.lt_of_lt_of_le lt_fi297 ccf139
                  have gl_353 : la139 pa = 98 := (ag139 pa lt_pa299).trans gl_257
                  have lt354 : pa < c139_cnt := Nat.lt_of_lt_of_le lt_pa299 ccf139
                  have gl_355 : la139 pk = 96 := (ag139 pk lt_pk301).trans gl_259
                  have lt356 : pk < c139_cnt := Nat.lt_of_lt_of_le lt_pk301 ccf139
                  have gl_357 : la139 sz = 96 := (ag139 sz lt_sz303).trans gl_261
                  have lt358 : sz < c139_cnt := Nat.lt_of_lt_of_le lt_sz303 ccf139
                  have gl_359 : la139 cl = 96 := (ag139 cl lt_cl305).trans gl_263
                  have lt360 : cl < c139_cnt := Nat.lt_of_lt_of_le lt_cl305 ccf139
                  have gl_361 : 91 ≤ la139 nw1 ∧ la139 nw1 ≤ 92 := by rw [ag139 nw1 lt_nw1307]; exact gl_265
                  have lt362 : nw1 < c139_cnt := Nat.lt_of_lt_of_le lt_nw1307 ccf139
                  have gl_363 : 91 ≤ la139 nx1 ∧ la139 nx1 ≤ 92 := by rw [ag139 nx1 lt_nx1309]; exact gl_267
                  have lt364 : nx1 < c139_cnt := Nat.lt_of_lt_of_le lt_nx1309 ccf139
                  have gl_365 : la139 d25_cnt = la126 d25_cnt := ag139 d25_cnt lt269
                  have lt366 : d25_cnt < c139_cnt := Nat.lt_of_lt_of_le lt269 ccf139
                  have hag139 : ∀ z, z < cnt → la139 z = la z := fun z hz => (ag139 z (Nat.lt_of_lt_of_le hz (Nat.le_trans hcc115 ccf126))).trans (hag126 z hz)
                  have hle139 : cnt ≤ cnt126 := (Nat.le_trans hcc115 ccf126)
                  have hfs139z : cnt ≤ d25_cnt := by omega
                  have hF139_G : FRM cnt [60, 183, 203] (fun z => (la z < la this ∨ la this + 2 < la z) ∧ (la z < la p2 ∨ la p2 + 8 < la z)) G c139_G := FRM_tri hF126_G fG139 hle139 hfs139z
                  have hF139_P : FRM cnt [66, 181, 182] (fun z => (la z < la this ∨ la this + 2 < la z) ∧ (la z < la p2 ∨ la p2 + 8 < la z)) P c139_P := FRM_tri hF126_P fP139 hle139 hfs139z
                  have hF139_U : FRM cnt [184] (fun z => (la z < la this ∨ la this + 2 < la z) ∧ (la z < la p2 ∨ la p2 + 8 < la z)) U c139_U := FRM_tri hF126_U fU139 hle139 hfs139z
                  have hF139_V : FRM cnt [0, 1, 2, 3, 12] (fun z => (la z < la this ∨ la this + 2 < la z) ∧ (la z < la p2 ∨ la p2 + 8 < la z)) V c139_V := FRM_tri hF126_V fV139 hle139 hfs139z
                  have hF139_X : FRM cnt [1] (fun z => (la z < la this ∨ la this + 2 < la z) ∧ (la z < la p2 ∨ la p2 + 8 < la z)) X c139_X := FRM_tri hF126_X fX139 hle139 hfs139z
                  have hF139_O : FRM cnt [1] (fun z => (la z < la this ∨ la this + 2 < la z) ∧ (la z < la p2 ∨ la p2 + 8 < la z)) O c139_O := FRM_tri hF126_O fO139 hle139 hfs139z
                  have hlnn139 : ∀ z, z < cnt → c139_ln z = ln z := fun z hz => (fl139 z (Nat.lt_of_lt_of_le hz hle139)).trans (hlnn126 z hz)
                  clear fU139 fX139 fl139 hlnn126 hF126_O hF126_X hF126_V hF126_U hF126_P hF126_G hag126
                  have hn367 : (c139_P 3) this = some fl := ((hex139 this lt244 (by omega)).2.2.1 3).trans hn270
                  have lt_fl368 := ((hB139.1 3 fl_3) this fl hn367).2.1
                  have hk_fl := (((CInv_P3 hCI139 :) this).2 fl hn367).1
                  have hl1_fl := (((CInv_P3 hCI139 :) this).2 fl hn367).2.1
                  have hl2_fl := (((CInv_P3 hCI139 :) this).2 fl hn367).2.2.1
                  have hw_fl : id _ := (((CInv_P3 hCI139 :) this).2 fl hn367).2.2.2
                  have hn369 : (c139_P 1) this = some fa := ((hex139 this lt244 (by omega)).2.2.1 1).trans hn272
                  have lt_fa370 := ((hB139.1 1 fl_1) this fa hn369).2.1
                  have hk_fa := (((CInv_P1 hCI139 :) this).2 fa hn369).1
                  have hl1_fa := (((CInv_P1 hCI139 :) this).2 fa hn369).2.1
                  have hl2_fa := (((CInv_P1 hCI139 :) this).2 fa hn369).2.2.1
                  have hw_fa : id _ := (((CInv_P1 hCI139 :) this).2 fa hn369).2.2.2
                  have hn371 : (c139_P 4) this = some sp := ((hex139 this lt244 (by omega)).2.2.1 4).trans hn274
                  have lt_sp372 := ((hB139.1 4 fl_4) this sp hn371).2.1
                  have hk_sp := (((CInv_P4 hCI139 :) this).2 sp hn371).1
                  have hl1_sp := (((CInv_P4 hCI139 :) this).2 sp hn371).2.1
                  have hl2_sp := (((CInv_P4 hCI139 :) this).2 sp hn371).2.2.1
                  have hw_sp : id _ := (((CInv_P4 hCI139 :) this).2 sp hn371).2.2.2
                  have hn373 : (c139_P 0) this = some wd := ((hex139 this lt244 (by omega)).2.2.1 0).trans hn276
                  have lt_wd374 := ((hB139.1 0 fl_0) this wd hn373).2.1
                  have hk_wd := (((CInv_P0 hCI139 :) this).2 wd hn373).1
                  have hl1_wd := (((CInv_P0 hCI139 :) this).2 wd hn373).2.1
                  have hl2_wd := (((CInv_P0 hCI139 :) this).2 wd hn373).2.2.1
                  have hw_wd : id _ := (((CInv_P0 hCI139 :) this).2 wd hn373).2.2.2
                  have hn375 : (c139_P 201) sp = some lsp := ((hex139 sp lt_sp275 (by omega)).2.2.1 201).trans hn278
                  have lt_lsp376 := ((hB139.1 201 fl_201) sp lsp hn375).2.1
                  have hk_lsp := (((CInv_P201 hCI139 :) sp).2 lsp hn375).1
                  have hl1_lsp := (((CInv_P201 hCI139 :) sp).2 lsp hn375).2.1
                  have hl2_lsp := (((CInv_P201 hCI139 :) sp).2 lsp hn375).2.2.1
                  have hw_lsp : id _ := (((CInv_P201 hCI139 :) sp).2 lsp hn375).2.2.2
                  have hn377 : (c139_P 202) sp = some ssp := ((hex139 sp lt_sp275 (by omega)).2.2.1 202).trans hn280
                  have lt_ssp378 := ((hB139.1 202 fl_202) sp ssp hn377).2.1
                  have hk_ssp := (((CInv_P202 hCI139 :) sp).2 ssp hn377).1
                  have hl1_ssp := (((CInv_P202 hCI139 :) sp).2 ssp hn377).2.1
                  have hl2_ssp := (((CInv_P202 hCI139 :) sp).2 ssp hn377).2.2.1
                  have hw_ssp : id _ := (((CInv_P202 hCI139 :) sp).2 ssp hn377).2.2.2
                  have rb379 := ((CInv_RB hCI139 :) sp ssp hk_sp hn377).1
                  have hn382 : (c139_P 201) wd = some wl := ((hex139 wd lt_wd277 (by omega)).2.2.1 201).trans hn285
                  have lt_wl383 := ((hB139.1 201 fl_201) wd wl hn382).2.1
                  have hk_wl := (((CInv_P201 hCI139 :) wd).2 wl hn382).1
                  have hl1_wl := (((CInv_P201 hCI139 :) wd).2 wl hn382).2.1
                  have hl2_wl := (((CInv_P201 hCI139 :) wd).2 wl hn382).2.2.1
                  have hw_wl : id _ := (((CInv_P201 hCI139 :) wd).2 wl hn382).2.2.2
                  have hn384 : (c139_P 202) wd = some wz := ((hex139 wd lt_wd277 (by omega)).2.2.1 202).trans hn287
                  have lt_wz385 := ((hB139.1 202 fl_202) wd wz hn384).2.1
                  have hk_wz := (((CInv_P202 hCI139 :) wd).2 wz hn384).1
                  have hl1_wz := (((CInv_P202 hCI139 :) wd).2 wz hn384).2.1
                  have hl2_wz := (((CInv_P202 hCI139 :) wd).2 wz hn384).2.2.1
                  have hw_wz : id _ := (((CInv_P202 hCI139 :) wd).2 wz hn384).2.2.2
                  have rb386 := ((CInv_RB hCI139 :) wd wz hk_wd hn384).1
                  have hn389 : (c139_P 185) p2 = some wh := ((hex139 p2 lt238 (by omega)).2.2.1 185).trans hn292
                  have lt_wh390 := ((hB139.1 185 fl_185) p2 wh hn389).2.1
                  have hk_wh := (((CInv_P185 hCI139 :) p2).2 wh hn389).1
                  have hl1_wh := (((CInv_P185 hCI139 :) p2).2 wh hn389).2.1
                  have hl2_wh := (((CInv_P185 hCI139 :) p2).2 wh hn389).2.2.1
                  have hw_wh : id _ := (((CInv_P185 hCI139 :) p2).2 wh hn389).2.2.2
                  have hn391 : (c139_P 180) p2 = some pg := ((hex139 p2 lt238 (by omega)).2.2.1 180).trans hn294
                  have lt_pg392 := ((hB139.1 180 fl_180) p2 pg hn391).2.1
                  have hk_pg := (((CInv_P180 hCI139 :) p2).2 pg hn391).1
                  have hl1_pg := (((CInv_P180 hCI139 :) p2).2 pg hn391).2.1
                  have hl2_pg := (((CInv_P180 hCI139 :) p2).2 pg hn391).2.2.1
                  have hw_pg : id _ := (((CInv_P180 hCI139 :) p2).2 pg hn391).2.2.2
                  have hn393 : (c139_P 63) pg = some fi := ((hex139 pg lt_pg295 (by omega)).2.2.1 63).trans hn296
                  have lt_fi394 := ((hB139.1 63 fl_63) pg fi hn393).2.1
                  have hk_fi := (((CInv_P63 hCI139 :) pg).2 fi hn393).1
                  have hl1_fi := (((CInv_P63 hCI139 :) pg).2 fi hn393).2.1
                  have hl2_fi := (((CInv_P63 hCI139 :) pg).2 fi hn393).2.2.1
                  have hw_fi : id _ := (((CInv_P63 hCI139 :) pg).2 fi hn393).2.2.2
                  have hn395 : (c139_P 65) pg = some pa := ((hex139 pg lt_pg295 (by omega)).2.2.1 65).trans hn298
                  have lt_pa396 := ((hB139.1 65 fl_65) pg pa hn395).2.1
                  have hk_pa := (((CInv_P65 hCI139 :) pg).2 pa hn395).1
                  have hl1_pa := (((CInv_P65 hCI139 :) pg).2 pa hn395).2.1
                  have hl2_pa := (((CInv_P65 hCI139 :) pg).2 pa hn395).2.2.1
                  have hw_pa : id _ := (((CInv_P65 hCI139 :) pg).2 pa hn395).2.2.2
                  have hn397 : (c139_P 62) pg = some pk := ((hex139 pg lt_pg295 (by omega)).2.2.1 62).trans hn300
                  have lt_pk398 := ((hB139.1 62 fl_62) pg pk hn397).2.1
                  have hk_pk := (((CInv_P62 hCI139 :) pg).2 pk hn397).1
                  have hl1_pk := (((CInv_P62 hCI139 :) pg).2 pk hn397).2.1
                  have hl2_pk := (((CInv_P62 hCI139 :) pg).2 pk hn397).2.2.1
                  have hw_pk : id _ := (((CInv_P62 hCI139 :) pg).2 pk hn397).2.2.2
                  have hn399 : (c139_P 61) pg = some sz := ((hex139 pg lt_pg295 (by omega)).2.2.1 61).trans hn302
                  have lt_sz400 := ((hB139.1 61 fl_61) pg sz hn399).2.1
                  have hk_sz := (((CInv_P61 hCI139 :) pg).2 sz hn399).1
                  have hl1_sz := (((CInv_P61 hCI139 :) pg).2 sz hn399).2.1
                  have hl2_sz := (((CInv_P61 hCI139 :) pg).2 sz hn399).2.2.1
                  have hw_sz : id _ := (((CInv_P61 hCI139 :) pg).2 sz hn399).2.2.2
                  have hn401 : (c139_P 64) pg = some cl := ((hex139 pg lt_pg295 (by omega)).2.2.1 64).trans hn304
                  have lt_cl402 := ((hB139.1 64 fl_64) pg cl hn401).2.1
                  have hk_cl := (((CInv_P64 hCI139 :) pg).2 cl hn401).1
                  have hl1_cl := (((CInv_P64 hCI139 :) pg).2 cl hn401).2.1
                  have hl2_cl := (((CInv_P64 hCI139 :) pg).2 cl hn401).2.2.1
                  have hw_cl : id _ := (((CInv_P64 hCI139 :) pg).2 cl hn401).2.2.2
                  have hn403 : (c139_P 181) p2 = some nw1 := ((hex139 p2 lt238 (by omega)).2.2.1 181).trans hn306
                  have lt_nw1404 := ((hB139.1 181 fl_181) p2 nw1 hn403).2.1
                  have hk_nw1 := (((CInv_P181 hCI139 :) p2).2 nw1 hn403).1
                  have hl1_nw1 := (((CInv_P181 hCI139 :) p2).2 nw1 hn403).2.1
                  have hl2_nw1 := (((CInv_P181 hCI139 :) p2).2 nw1 hn403).2.2.1
                  have hw_nw1 : id _ := (((CInv_P181 hCI139 :) p2).2 nw1 hn403).2.2.2
                  have hn405 : (c139_P 182) p2 = some nx1 := ((hex139 p2 lt238 (by omega)).2.2.1 182).trans hn308
                  have lt_nx1406 := ((hB139.1 182 fl_182) p2 nx1 hn405).2.1
                  have hk_nx1 := (((CInv_P182 hCI139 :) p2).2 nx1 hn405).1
                  have hl1_nx1 := (((CInv_P182 hCI139 :) p2).2 nx1 hn405).2.1
                  have hl2_nx1 := (((CInv_P182 hCI139 :) p2).2 nx1 hn405).2.2.1
                  have hw_nx1 : id _ := (((CInv_P182 hCI139 :) p2).2 nx1 hn405).2.2.2
                  have gzI0 : (c139_G 203) wd = (G 203) wd := ((hex139 wd (by omega) (by omega)).2.1 203).trans gzM
                  have hvI0 : (c139_V 3) fl = (d3_V 3) fl := ((hex139 fl (by omega) (by omega)).2.2.2.1 3).trans hvM
                  obtain ⟨lN, sN, e_lN, e_sN, n_N⟩ := p139_0
                  have w_N : c139_G 200 d25_cnt = 24 := p139_1.1
                  have gN9 := (ag139 d25_cnt (by omega)).trans hL126
                  have gS9 := (ag139 sp (by omega)).trans (ag126 sp (by omega))
                  have hG9 : c139_G 203 sp = _ := ((fG139 203 sp (by omega) (fun _ => show sp ≠ d25_cnt from by omega)).trans (fG126 203 sp (by omega) (fun q => absurd q (by decide))))
                  have hG9i := congrArg Int32.toInt hG9
                  have hTs : rwW ((c139_G 203) sp) ((c139_V 0) lsp) ((c139_V 1) ssp) 24 = FMT d Ws (Int32.toNatClampNeg y3_4) (Int32.toNatClampNeg y25_5) := by rw [hG9, ((fV139 0 lsp (by omega) (fun _ => show lsp ≠ d25_cnt from by omega)).trans (fV126 0 lsp (by omega) (fun q => absurd q (by decide)))), ((fV139 1 ssp (by omega) (fun _ => show ssp ≠ d25_cnt from by omega)).trans (fV126 1 ssp (by omega) (fun q => absurd q (by decide))))]; exact hT
                  have hG8 : c139_G 200 sp = d25_G 200 sp := ((fG139 200 sp (by omega) (fun _ => show sp ≠ d25_cnt from by omega)).trans (fG126 200 sp (by omega) (fun q => absurd q (by decide))))
                  have hG8i := congrArg Int32.toInt hG8
                  have hb9 := (CInv_G203 hCI139 :) sp
                  have cb9 := clampI (x := (c139_G 203) sp) (by omega)
                  have hn407 : (c139_P 201) d25_cnt = some lN := e_lN
                  have lt_lN408 := ((hB139.1 201 fl_201) d25_cnt lN hn407).2.1
                  have lb_lN408 : la139 lN = la139 d25_cnt + 0 := lk_201.mp ((hB139.1 201 fl_201) d25_cnt lN hn407).2.2
                  have hk_lN := (((CInv_P201 hCI139 :) d25_cnt).2 lN hn407).1
                  have hl1_lN := (((CInv_P201 hCI139 :) d25_cnt).2 lN hn407).2.1
                  have hl2_lN := (((CInv_P201 hCI139 :) d25_cnt).2 lN hn407).2.2.1
                  have hw_lN : id _ := (((CInv_P201 hCI139 :) d25_cnt).2 lN hn407).2.2.2
                  have hz_lN : (Int32.ofNat (c139_ln lN)).toInt = ((c139_ln lN : Nat) : Int) := ofN_eq (by first | exact Nat.le_trans hl2_lN (by decide) | omega)
                  have hn409 : (c139_P 202) d25_cnt = some sN := e_sN
                  have lt_sN410 := ((hB139.1 202 fl_202) d25_cnt sN hn409).2.1
                  have lb_sN410 : la139 sN = la139 d25_cnt + 0 := lk_202.mp ((hB139.1 202 fl_202) d25_cnt sN hn409).2.2
                  have hk_sN := (((CInv_P202 hCI139 :) d25_cnt).2 sN hn409).1
                  have hl1_sN := (((CInv_P202 hCI139 :) d25_cnt).2 sN hn409).2.1
                  have hl2_sN := (((CInv_P202 hCI139 :) d25_cnt).2 sN hn409).2.2.1
                  have hw_sN : id _ := (((CInv_P202 hCI139 :) d25_cnt).2 sN hn409).2.2.2
                  have hz_sN : (Int32.ofNat (c139_ln sN)).toInt = ((c139_ln sN : Nat) : Int) := ofN_eq (by first | exact Nat.le_trans hl2_sN (by decide) | omega)
                  have rb411 := ((CInv_RB hCI139 :) d25_cnt sN hk316 hn409).1
                  have ra412 := (CInv_RA hCI139 :) d25_cnt lN sN hk316 hn407 hn409
                  have bw413 := (CInv_G200 hCI139 :) d25_cnt
                  refine pw_nne hn371 ?_
                  refine pw_b3 (fun c150_G203 c150_V0 c150_V1 hc150 => ?_)
                  have hq150 := wp_at (ok_X10_copy κ139_313 wd c139_G c139_P c139_U c139_V c139_X c139_O c139_kd c139_ln c139_cnt d25_cnt sp (CInv_G200 hCI139 :) (CInv_G203 hCI139 :) (CInv_P201 hCI139 :) (CInv_P202 hCI139 :) (CInv_V1 hCI139 :) (CInv_RA hCI139 :) (CInv_RB hCI139 :) (CInv_RI hCI139 :) (CInv_LN hCI139 :) hk316 hk_sp) hc150
                  obtain ⟨hg414, hg415, hRB416, f417⟩ : (rng (0) 100 c150_G203) ∧ (rng2 (0) 24 c150_V1) ∧ (RB κ139_313 c139_ln (c139_G 200) c150_G203 (c139_P 202) c150_V1) ∧ (id ((d25_cnt ≠ wd → c150_G203 wd = (c139_G 203) wd))) := hq150
                  have hq150 := pwq (fr_X10_copy la139 c139_G c139_P c139_U c139_V c139_X c139_O c139_kd c139_ln c139_cnt d25_cnt sp hB139) hc150
                  obtain ⟨q150_G203, q150_V0, q150_V1⟩ : (∀ z, (la139 z < la139 d25_cnt ∨ la139 d25_cnt < la139 z) → c150_G203 z = (c139_G 203) z) ∧ (∀ z, (la139 z < la139 d25_cnt ∨ la139 d25_cnt < la139 z) → c150_V0 z = (c139_V 0) z) ∧ (∀ z, (la139 z < la139 d25_cnt ∨ la139 d25_cnt < la139 z) → c150_V1 z = (c139_V 1) z) := hq150
                  have tz150 : ∀ z, (z < cnt ∧ (la z < la this ∨ la this + 2 < la z) ∧ (la z < la p2 ∨ la p2 + 8 < la z)) → ((la139 z < la139 d25_cnt ∨ la139 d25_cnt < la139 z)) := fun z hz => by have q1 := hag139 z hz.1; have q2 := hB.2 z hz.1; omega
                  have hfr418 : ∀ z, (z < cnt ∧ (la z < la this ∨ la this + 2 < la z) ∧ (la z < la p2 ∨ la p2 + 8 < la z)) → c150_G203 z = (G 203) z := fun z hz => (q150_G203 z (tz150 z hz)).trans ((fun (z : Nat) (hz : (z < cnt ∧ (la z < la this ∨ la this + 2 < la z) ∧ (la z < la p2 ∨ la p2 + 8 < la z))) => hF139_G 203 z hz.1 (fun _ => hz.2)) z hz)
                  have hfr419 : ∀ z, (z < cnt ∧ (la z < la this ∨ la this + 2 < la z) ∧ (la z < la p2 ∨ la p2 + 8 < la z)) → c150_V0 z = (V 0) z := fun z hz => (q150_V0 z (tz150 z hz)).trans ((fun (z : Nat) (hz : (z < cnt ∧ (la z < la this ∨ la this + 2 < la z) ∧ (la z < la p2 ∨ la p2 + 8 < la z))) => hF139_V 0 z hz.1 (fun _ => hz.2)) z hz)
                  have hfr420 : ∀ z, (z < cnt ∧ (la z < la this ∨ la this + 2 < la z) ∧ (la z < la p2 ∨ la p2 + 8 < la z)) → c150_V1 z = (V 1) z := fun z hz => (q150_V1 z (tz150 z hz)).trans ((fun (z : Nat) (hz : (z < cnt ∧ (la z < la this ∨ la this + 2 < la z) ∧ (la z < la p2 ∨ la p2 + 8 < la z))) => hF139_V 1 z hz.1 (fun _ => hz.2)) z hz)
                  have h8150_hl : (c139_P 201) d25_cnt = some (lN) := by exact e_lN
                  have h8150_hs : (c139_P 202) d25_cnt = some (sN) := by exact e_sN
                  have h8150_hw : ((c139_G 200) d25_cnt).toInt = ((24 : Nat) : Int) := by rw [w_N]; decide
                  have h8150_hlo : (c139_P 201) sp = some (lsp) := by exact hn375
                  have h8150_hso : (c139_P 202) sp = some (ssp) := by exact hn377
                  have h8150_hwo : ((c139_G 200) sp).toInt = ((24 : Nat) : Int) := by omega
                  have h8150_hws : rwW ((c139_G 203) sp) ((c139_V 0) (lsp)) ((c139_V 1) (ssp)) 24 = (FMT d Ws (Int32.toNatClampNeg y3_4) (Int32.toNatClampNeg y25_5)) := by exact hTs
                  have h8150_hcap : ((c139_G 203) sp).toInt ≤ ((c139_ln (sN) : Nat) : Int) := by have q1 : c139_G 203 sp = G126 203 sp := fG139 203 sp (by omega) (fun _ => show sp ≠ d25_cnt from by omega); rw [n_N, ← q1]; omega
                  have h8150_hne : la139 d25_cnt ≠ la139 sp := by omega
                  have hx150 := pwq (fn_X10_copy κ139_313 wd la139 c139_G c139_P c139_U c139_V c139_X c139_O c139_kd c139_ln c139_cnt d25_cnt sp (lN) (sN) (lsp) (ssp) (FMT d Ws (Int32.toNatClampNeg y3_4) (Int32.toNatClampNeg y25_5)) (CInv_G200 hCI139 :) (CInv_G203 hCI139 :) (CInv_P201 hCI139 :) (CInv_P202 hCI139 :) (CInv_V1 hCI139 :) (CInv_RA hCI139 :) (CInv_RB hCI139 :) (CInv_RI hCI139 :) (CInv_LN hCI139 :) hk316 hk_sp hB139 lt366 lt_sp372 h8150_hl h8150_hs h8150_hw h8150_hlo h8150_hso h8150_hwo h8150_hws h8150_hcap h8150_hne) hc150
                  have p150_0 : rwW (c150_G203 d25_cnt) (c150_V0 (lN)) (c150_V1 (sN)) 24 = (FMT d Ws (Int32.toNatClampNeg y3_4) (Int32.toNatClampNeg y25_5)) := hx150
                  clear hx150
                  clear h8150_hl h8150_hs h8150_hw h8150_hlo h8150_hso h8150_hwo h8150_hws h8150_hcap h8150_hne
                  have hFL421 : FL wd c150_G203 (c139_V 3) := by exact FL_eq (CInv_FL hCI139 :) (f417 (hw_d25_cnt rfl))
                  have gzC := (f417 (hw_d25_cnt rfl)).trans gzI0
                  refine pw_nne hn369 ?_
                  have f422 : (y3_4 * 100).toInt = y3_4.toInt * 100 := z_mulc (by decide +kernel) (by omega) (by omega)
                  have f423 : ((y3_4 * 100) + y25_5).toInt = (y3_4 * 100).toInt + y25_5.toInt := z_add (by omega) (by omega)
                  refine pw_if (fun hb167 => ?_)
                  obtain ⟨hbl167, hbr167⟩ := hb167
                  refine pw_vl (fun m167 em167 => ?_)
                  have hfr424 : ∀ z, (z < cnt ∧ (la z < la this ∨ la this + 2 < la z) ∧ (la z < la p2 ∨ la p2 + 8 < la z)) → m167 z = (O 1) z := fr_up (e0 := (O 1)) (fun (z : Nat) (hz : (z < cnt ∧ (la z < la this ∨ la this + 2 < la z) ∧ (la z < la p2 ∨ la p2 + 8 < la z))) => hF139_O 1 z hz.1 (fun _ => hz.2)) em167 (show ¬ (fa < cnt ∧ (la fa < la this ∨ la this + 2 < la fa) ∧ (la fa < la p2 ∨ la p2 + 8 < la fa)) from fun hz => by have q1 := hag139 fa hz.1; omega)
                  have ho425 : OB κ139_313 11 m167 := by rw [em167]; exact OB_up (CInv_O1 hCI139 :) hk316
                  have f426 : (y25_5 + 1).toInt = y25_5.toInt + (1) := z_addc (by decide +kernel) (by omega) (by omega)
                  have iv25_0 : (x23.toInt ≤ (y25_5 + 1).toInt ∧ (y25_5 + 1).toInt ≤ ((G 203) wd).toInt) := by first | omega | exact gzC | exact hvI0
                  have iv25_1 : c150_G203 wd = (G 203) wd := by first | exact gzC | exact hvI0 | omega
                  have iv25_2 : (c139_V 3) fl = (d3_V 3) fl := by first | exact gzC | exact hvI0 | omega
                  have iv25_3 : (id (BKR (va_up c139_G 203 c150_G203) c139_P (va_up (va_up c139_V 0 c150_V0) 1 c150_V1) la139 c139_cnt D (m167 fa) (fun s => if s < Int32.toNatClampNeg y3_4 then Int32.toNatClampNeg ((G 203) wd) else if s = Int32.toNatClampNeg y3_4 then Int32.toNatClampNeg (y25_5 + 1) else Int32.toNatClampNeg ((V 3) fl s)) (FMT d Ws))) := by have k6 := clampI (x := y25_5 + 1) (by omega); have kix := clampI (x := (y3_4 * 100) + y25_5) (by omega); have gN := (ag139 d25_cnt (by omega)).trans hL126; refine BKR_add (s0 := Int32.toNatClampNeg y3_4) (w0 := Int32.toNatClampNeg y25_5) (BKR_fr (ob := c139_O 1 fa) bk25 hB25 (fun i => congrFun ((fO139 1 fa (by omega) (fun _ => show fa ≠ d25_cnt from by omega)).trans (fO126 1 fa (by omega) (fun q => absurd q (by decide)))) i) (fun z hz => ⟨((fP139 201 z (by omega) (fun _ => show z ≠ d25_cnt from by omega)).trans (fP126 201 z (by omega) (fun q => absurd q (by decide)))), ((fP139 202 z (by omega) (fun _ => show z ≠ d25_cnt from by omega)).trans (fP126 202 z (by omega) (fun q => absurd q (by decide)))), ((fG139 200 z (by omega) (fun _ => show z ≠ d25_cnt from by omega)).trans (fG126 200 z (by omega) (fun q => absurd q (by decide))))⟩) (fun z hz hk hd => by obtain ⟨k9, hk9⟩ := hk; have b9 := hB25.2 z hz; have g9 := (ag139 z (by omega)).trans (ag126 z hz); exact ⟨((q150_G203 z (show la139 z < la139 d25_cnt ∨ la139 d25_cnt < la139 z from by omega)).trans (((fG139 203 z (by omega) (fun _ => show z ≠ d25_cnt from by omega)).trans (fG126 203 z (by omega) (fun q => absurd q (by decide)))).trans ((q81_G203 z (show (la25 z < la25 sp ∨ la25 sp < la25 z) from by omega)).trans (em42z z (fun q => by have q9 := congrArg la25 q; omega))))), ((q150_V0 z (show la139 z < la139 d25_cnt ∨ la139 d25_cnt < la139 z from by omega)).trans (((fV139 0 z (by omega) (fun _ => show z ≠ d25_cnt from by omega)).trans (fV126 0 z (by omega) (fun q => absurd q (by decide)))).trans (q81_V0 z (show (la25 z < la25 sp ∨ la25 sp < la25 z) from by omega)))), ((q150_V1 z (show la139 z < la139 d25_cnt ∨ la139 d25_cnt < la139 z from by omega)).trans (((fV139 1 z (by omega) (fun _ => show z ≠ d25_cnt from by omega)).trans (fV126 1 z (by omega) (fun q => absurd q (by decide)))).trans (q81_V1 z (show (la25 z < la25 sp ∨ la25 sp < la25 z) from by omega))))⟩) (by omega) (fun z hz => (ag139 z (by omega)).trans (ag126 z hz)) (fun z hz h => h)) ?_ (fun i hi => by rw [em167, va_up_self, va_up_ne _ _ (by omega)]) (fun s hs => by show (if s < Int32.toNatClampNeg y3_4 then _ else if s = Int32.toNatClampNeg y3_4 then _ else _) = (if s < Int32.toNatClampNeg y3_4 then _ else if s = Int32.toNatClampNeg y3_4 then _ else _); rw [if_neg hs, if_neg hs]) (by show (if Int32.toNatClampNeg y3_4 < Int32.toNatClampNeg y3_4 then _ else if Int32.toNatClampNeg y3_4 = Int32.toNatClampNeg y3_4 then _ else _) = _; rw [if_neg (by omega), if_pos rfl]; omega) (by show _ ≤ (if Int32.toNatClampNeg y3_4 < Int32.toNatClampNeg y3_4 then _ else if Int32.toNatClampNeg y3_4 = Int32.toNatClampNeg y3_4 then _ else _); rw [if_neg (by omega), if_pos rfl]; exact Nat.le_refl _) (fun s hs => by show (if s < Int32.toNatClampNeg y3_4 then _ else if s = Int32.toNatClampNeg y3_4 then _ else _) ≤ 100; have z9 := (CInv_V3 hI :) fl s; have z8 := clampI (x := (V 3) fl s) (by omega); by_cases q8 : s < Int32.toNatClampNeg y3_4; (rw [if_pos q8]; omega); (rw [if_neg q8]; by_cases q7 : s = Int32.toNatClampNeg y3_4; (rw [if_pos q7]; omega); (rw [if_neg q7]; omega))) (by omega); exact ⟨d25_cnt, lN, sN, by rw [em167, va_up_self, show 100 * Int32.toNatClampNeg y3_4 + Int32.toNatClampNeg y25_5 = Int32.toNatClampNeg ((y3_4 * 100) + y25_5) by omega, va_up_self], ⟨by omega, ⟨d25_cnt, gN⟩, by omega⟩, ⟨e_lN, e_sN, by show (c139_G 200 d25_cnt).toInt = _; rw [w_N]; decide⟩, p150_0⟩
                  have iv25_4 : id ((∃ nw1 nx1, (c139_P 181) p2 = some nw1 ∧ (c139_P 182) p2 = some nx1 ∧ ((nw1 = nw ∧ nx1 = nx) ∨ (nw1 = nx ∧ nx1 = nw)))) := show (∃ nw1 nx1, (c139_P 181) p2 = some nw1 ∧ (c139_P 182) p2 = some nx1 ∧ ((nw1 = nw ∧ nx1 = nx) ∨ (nw1 = nx ∧ nx1 = nw))) from by exact ⟨nw1, nx1, ((fP139 181 p2 (by omega) (fun _ => show p2 ≠ d25_cnt from by omega)).trans (fP126 181 p2 (by omega) (fun q => absurd q (by decide)))).trans e181, ((fP139 182 p2 (by omega) (fun _ => show p2 ≠ d25_cnt from by omega)).trans (fP126 182 p2 (by omega) (fun q => absurd q (by decide)))).trans e182, hsw⟩
                  exact ih25 (y25_5 + 1) (va_up c139_G 203 c150_G203) c139_P c139_U (va_up (va_up c139_V 0 c150_V0) 1 c150_V1) c139_X (va_up c139_O 1 m167) c139_kd c139_ln c139_cnt κ139_313 la139 (CInv_i (CInv_G43 hCI139 :) (CInv_G44 hCI139 :) (CInv_G45 hCI139 :) (CInv_G60 hCI139 :) (CInv_G83 hCI139 :) (CInv_G84 hCI139 :) (CInv_G85 hCI139 :) (CInv_G87 hCI139 :) (CInv_G88 hCI139 :) (CInv_G102 hCI139 :) (CInv_G125 hCI139 :) (CInv_G126 hCI139 :) (CInv_G127 hCI139 :) (CInv_G141 hCI139 :) (CInv_G160 hCI139 :) (CInv_G161 hCI139 :) (CInv_G162 hCI139 :) (CInv_G165 hCI139 :) (CInv_G166 hCI139 :) (CInv_G183 hCI139 :) (CInv_G200 hCI139 :) hg414 (CInv_G222 hCI139 :) (CInv_G231 hCI139 :) (CInv_G233 hCI139 :) (CInv_P0 hCI139 :) (CInv_P1 hCI139 :) (CInv_P2 hCI139 :) (CInv_P3 hCI139 :) (CInv_P4 hCI139 :) (CInv_P5 hCI139 :) (CInv_P20 hCI139 :) (CInv_P21 hCI139 :) (CInv_P22 hCI139 :) (CInv_P23 hCI139 :) (CInv_P40 hCI139 :) (CInv_P41 hCI139 :) (CInv_P42 hCI139 :) (CInv_P61 hCI139 :) (CInv_P62 hCI139 :) (CInv_P63 hCI139 :) (CInv_P64 hCI139 :) (CInv_P65 hCI139 :) (CInv_P66 hCI139 :) (CInv_P82 hCI139 :) (CInv_P101 hCI139 :) (CInv_P103 hCI139 :) (CInv_P104 hCI139 :) (CInv_P105 hCI139 :) (CInv_P106 hCI139 :) (CInv_P108 hCI139 :) (CInv_P109 hCI139 :) (CInv_P110 hCI139 :) (CInv_P120 hCI139 :) (CInv_P121 hCI139 :) (CInv_P122 hCI139 :) (CInv_P123 hCI139 :) (CInv_P140 hCI139 :) (CInv_P164 hCI139 :) (CInv_P180 hCI139 :) (CInv_P181 hCI139 :) (CInv_P182 hCI139 :) (CInv_P185 hCI139 :) (CInv_P186 hCI139 :) (CInv_P187 hCI139 :) (CInv_P201 hCI139 :) (CInv_P202 hCI139 :) (CInv_P220 hCI139 :) (CInv_P221 hCI139 :) (CInv_P224 hCI139 :) (CInv_P225 hCI139 :) (CInv_P226 hCI139 :) (CInv_P227 hCI139 :) (CInv_P228 hCI139 :) (CInv_P229 hCI139 :) (CInv_P230 hCI139 :) (CInv_P232 hCI139 :) (CInv_P234 hCI139 :) (CInv_P235 hCI139 :) (CInv_P236 hCI139 :) hg415 (CInv_V2 hCI139 :) (CInv_V3 hCI139 :) (CInv_V9 hCI139 :) (CInv_O0 hCI139 :) ho425 (CInv_O2 hCI139 :) (CInv_RA hCI139 :) hRB416 (CInv_RI hCI139 :) (CInv_RM103 hCI139 :) (CInv_RM104 hCI139 :) (CInv_RM108 hCI139 :) (CInv_LN hCI139 :) hFL421 (CInv_W0 hCI139 :) (CInv_KC hCI139 :) (CInv_WK hCI139 :)) kx320 (Nat.le_trans (Nat.le_trans hcc115 ccf126) ccf139) hk321 hk323 hk324 (FRM_set hF139_G (by decide) (fun z h1 h2 => hfr418 z ⟨h1, h2⟩)) hF139_P hF139_U (FRM_set (FRM_set hF139_V (by decide) (fun z h1 h2 => hfr419 z ⟨h1, h2⟩)) (by decide) (fun z h1 h2 => hfr420 z ⟨h1, h2⟩)) hF139_X (FRM_set hF139_O (by decide) (fun z h1 h2 => hfr424 z ⟨h1, h2⟩)) hlnn139 hag139 hB139 lt_fa370 lt_fl368 lt_lsp376 lt332 lt334 lt_sp372 lt_ssp378 lt340 lt_wl383 lt_wz385 iv25_0 iv25_1 iv25_2 iv25_3 iv25_4
                · have c47 := z_ne c47
                  refine pw_nn (fun a88 hn_a88 => ?_)
                  obtain ⟨_, lt_a88427, lb_a88427⟩ := (hB25.1 2 fl_2) this a88 hn_a88
                  have lb_a88427 : la25 a88 = 70 := (lk_2.mp lb_a88427).trans (congrArg (fun z9 => z9 + 0) gl_132)
                  have hk_a88 := (((CInv_P2 hCI25 :) this).2 a88 hn_a88).1
                  have hl1_a88 := (((CInv_P2 hCI25 :) this).2 a88 hn_a88).2.1
                  have hl2_a88 := (((CInv_P2 hCI25 :) this).2 a88 hn_a88).2.2.1
                  have hw_a88 : id _ := (((CInv_P2 hCI25 :) this).2 a88 hn_a88).2.2.2
                  have hz_a88 : (Int32.ofNat (d25_ln a88)).toInt = ((d25_ln a88 : Nat) : Int) := ofN_eq (by first | exact Nat.le_trans hl2_a88 (by decide) | omega)
                  have f428 : (y3_4 - 1).toInt = y3_4.toInt - 1 := z_subc (by decide +kernel) (by omega) (by omega)
                  have f429 : ((y3_4 - 1) * 100).toInt = (y3_4 - 1).toInt * 100 := z_mulc (by decide +kernel) (by omega) (by omega)
                  have f430 : (((y3_4 - 1) * 100) + y25_5).toInt = ((y3_4 - 1) * 100).toInt + y25_5.toInt := z_add (by omega) (by omega)
                  refine pw_if (fun hb107 => ?_)
                  obtain ⟨hbl107, hbr107⟩ := hb107
                  refine pw_vl (fun o107 eo107 => ?_)
                  have hk_o107 : ∀ b, o107 = some b → κ25 b = 6 := fun b hq => (CInv_O2 hCI25 :) _ _ b (eo107.symm.trans hq)
                  have hpr115_0 : (0 ≤ (y3_4 - 1).toInt ∧ (y3_4 - 1).toInt ≤ 6) := by first | assumption | omega
                  have hpr115_1 : (0 ≤ y25_5.toInt ∧ y25_5.toInt < 100) := by first | assumption | omega
                  refine pw_b1 (fun r115 hc115 => ?_)
                  have hq115 := wp_at (ok_X0_formsAt κ25 wd (va_up d25_G 203 m42) d25_P d25_U d25_V d25_X d25_O d25_kd d25_ln d25_cnt this (y3_4 - 1) y25_5 (CInv_P1 hCI25 :) (CInv_P5 hCI25 :) (CInv_O1 hCI25 :) (CInv_LN hCI25 :) hk116 hpr115_0 hpr115_1) hc115
                  have hk433 : κ25 r115 = 11 := hq115
                  clear hq115
                  have h8115_h1 : (d25_P 1) this = some fa := by exact hn153
                  have hx115 := pwq (fn_X0_formsAt κ25 wd la25 (va_up d25_G 203 m42) d25_P d25_U d25_V d25_X d25_O d25_kd d25_ln d25_cnt this (y3_4 - 1) y25_5 (fa) (CInv_P1 hCI25 :) (CInv_P5 hCI25 :) (CInv_O1 hCI25 :) (CInv_LN hCI25 :) hk116 hpr115_0 hpr115_1 hB25 lt126 h8115_h1) hc115
                  have p115_0 : id ((∀ b, (d25_O 1) fa (Int32.toNatClampNeg ((y3_4 - 1) * 100 + y25_5)) = some b → r115 = b)) := hx115
                  clear hx115
                  clear h8115_h1
                  have kp := clampI (x := (y3_4 - 1)) (by omega)
                  have kq := clampI (x := ((y3_4 - 1) * 100) + y25_5) (by omega)
                  obtain ⟨row, lr, sr, e1, ⟨e2, ⟨k9, e3⟩, e4⟩, ⟨e5, e6, e7⟩, e8⟩ := bk25 (Int32.toNatClampNeg y3_4 - 1) (Int32.toNatClampNeg y25_5) (by omega) (by show _ < (if Int32.toNatClampNeg y3_4 - 1 < Int32.toNatClampNeg y3_4 then _ else _); rw [if_pos (by omega)]; omega)
                  have er : r115 = row := p115_0 row (by rw [← e1]; exact congrArg ((d25_O 1) fa) (by omega))
                  obtain ⟨rf, y1, y2, y3, y4⟩ := hrx25 (Int32.toNatClampNeg y3_4 - 1) (by omega)
                  refine pw_nne hn155 ?_
                  refine pw_b12 (fun r122 c122_G60 c122_G183 c122_G203 c122_P66 c122_P181 c122_P182 c122_U184 c122_V0 c122_V1 c122_V2 c122_V12 hc122 => ?_)
                  have hq122 := wp_at (ok_X9_turnForms κ25 wd (va_up d25_G 203 m42) d25_P d25_U d25_V d25_X d25_O d25_kd d25_ln d25_cnt p2 o107 r115 sp (CInv_G60 hCI25 :) (CInv_G102 hCI25 :) (CInv_G183 hCI25 :) (CInv_G200 hCI25 :) hg204 (CInv_P20 hCI25 :) (CInv_P21 hCI25 :) (CInv_P22 hCI25 :) (CInv_P23 hCI25 :) (CInv_P61 hCI25 :) (CInv_P62 hCI25 :) (CInv_P63 hCI25 :) (CInv_P64 hCI25 :) (CInv_P65 hCI25 :) (CInv_P66 hCI25 :) (CInv_P101 hCI25 :) (CInv_P103 hCI25 :) (CInv_P104 hCI25 :) (CInv_P105 hCI25 :) (CInv_P106 hCI25 :) (CInv_P108 hCI25 :) (CInv_P109 hCI25 :) (CInv_P110 hCI25 :) (CInv_P180 hCI25 :) (CInv_P181 hCI25 :) (CInv_P182 hCI25 :) (CInv_P185 hCI25 :) (CInv_P201 hCI25 :) (CInv_P202 hCI25 :) (CInv_V1 hCI25 :) (CInv_V2 hCI25 :) (CInv_O0 hCI25 :) (CInv_RA hCI25 :) hRB206 (CInv_RI hCI25 :) (CInv_RM103 hCI25 :) (CInv_RM104 hCI25 :) (CInv_RM108 hCI25 :) (CInv_LN hCI25 :) hk118 hk_o107 hk433 hk_sp) hc122
                  obtain ⟨hg434, hg435, hg436, hg437, hg438, hg439, hg440, hg441, hRB442, f443⟩ : (rng (0) 30 c122_G60) ∧ (rng (0) 40 c122_G183) ∧ (rng (0) 100 c122_G203) ∧ (PB κ25 d25_ln wd 4 11 0 2500 0 c122_P66) ∧ (PB κ25 d25_ln wd 10 100 40 40 0 c122_P181) ∧ (PB κ25 d25_ln wd 10 100 40 40 0 c122_P182) ∧ (rng2 (0) 24 c122_V1) ∧ (rng2 (0) 24 c122_V2) ∧ (RB κ25 d25_ln (d25_G 200) c122_G203 (d25_P 202) c122_V1) ∧ (id ((sp ≠ wd → c122_G203 wd = m42 wd))) := hq122
                  have hq122 := pwq (fr_X9_turnForms la25 (va_up d25_G 203 m42) d25_P d25_U d25_V d25_X d25_O d25_kd d25_ln d25_cnt p2 o107 r115 sp hB25 lt123) hc122
                  obtain ⟨q122_G60, q122_G183, q122_G203, q122_P66, q122_P181, q122_P182, q122_U184, q122_V0, q122_V1, q122_V2, q122_V12, ql122_66, ql122_181, ql122_182⟩ : (∀ z, (la25 z < la25 p2 ∨ la25 p2 + 8 < la25 z) ∧ (la25 z < la25 sp ∨ la25 sp < la25 z) → c122_G60 z = (d25_G 60) z) ∧ (∀ z, (la25 z < la25 p2 ∨ la25 p2 + 8 < la25 z) ∧ (la25 z < la25 sp ∨ la25 sp < la25 z) → c122_G183 z = (d25_G 183) z) ∧ (∀ z, (la25 z < la25 p2 ∨ la25 p2 + 8 < la25 z) ∧ (la25 z < la25 sp ∨ la25 sp < la25 z) → c122_G203 z = m42 z) ∧ (∀ z, (la25 z < la25 p2 ∨ la25 p2 + 8 < la25 z) ∧ (la25 z < la25 sp ∨ la25 sp < la25 z) → c122_P66 z = (d25_P 66) z) ∧ (∀ z, (la25 z < la25 p2 ∨ la25 p2 + 8 < la25 z) ∧ (la25 z < la25 sp ∨ la25 sp < la25 z) → c122_P181 z = (d25_P 181) z) ∧ (∀ z, (la25 z < la25 p2 ∨ la25 p2 + 8 < la25 z) ∧ (la25 z < la25 sp ∨ la25 sp < la25 z) → c122_P182 z = (d25_P 182) z) ∧ (∀ z, (la25 z < la25 p2 ∨ la25 p2 + 8 < la25 z) ∧ (la25 z < la25 sp ∨ la25 sp < la25 z) → c122_U184 z = (d25_U 184) z) ∧ (∀ z, (la25 z < la25 p2 ∨ la25 p2 + 8 < la25 z) ∧ (la25 z < la25 sp ∨ la25 sp < la25 z) → c122_V0 z = (d25_V 0) z) ∧ (∀ z, (la25 z < la25 p2 ∨ la25 p2 + 8 < la25 z) ∧ (la25 z < la25 sp ∨ la25 sp < la25 z) → c122_V1 z = (d25_V 1) z) ∧ (∀ z, (la25 z < la25 p2 ∨ la25 p2 + 8 < la25 z) ∧ (la25 z < la25 sp ∨ la25 sp < la25 z) → c122_V2 z = (d25_V 2) z) ∧ (∀ z, (la25 z < la25 p2 ∨ la25 p2 + 8 < la25 z) ∧ (la25 z < la25 sp ∨ la25 sp < la25 z) → c122_V12 z = (d25_V 12) z) ∧ LC 66 la25 d25_cnt c122_P66 ∧ LC 181 la25 d25_cnt c122_P181 ∧ LC 182 la25 d25_cnt c122_P182 := hq122
                  have tz122 : ∀ z, (z < cnt ∧ (la z < la this ∨ la this + 2 < la z) ∧ (la z < la p2 ∨ la p2 + 8 < la z)) → ((la25 z < la25 p2 ∨ la25 p2 + 8 < la25 z) ∧ (la25 z < la25 sp ∨ la25 sp < la25 z)) := fun z hz => by have q1 := hag25 z hz.1; have q2 := hB.2 z hz.1; omega
                  have hfr444 : ∀ z, (z < cnt ∧ (la z < la this ∨ la this + 2 < la z) ∧ (la z < la p2 ∨ la p2 + 8 < la z)) → c122_G60 z = (G 60) z := fun z hz => (q122_G60 z (tz122 z hz)).trans ((fun (z : Nat) (hz : (z < cnt ∧ (la z < la this ∨ la this + 2 < la z) ∧ (la z < la p2 ∨ la p2 + 8 < la z))) => hF25_G 60 z hz.1 (fun _ => hz.2)) z hz)
                  have hfr445 : ∀ z, (z < cnt ∧ (la z < la this ∨ la this + 2 < la z) ∧ (la z < la p2 ∨ la p2 + 8 < la z)) → c122_G183 z = (G 183) z := fun z hz => (q122_G183 z (tz122 z hz)).trans ((fun (z : Nat) (hz : (z < cnt ∧ (la z < la this ∨ la this + 2 < la z) ∧ (la z < la p2 ∨ la p2 + 8 < la z))) => hF25_G 183 z hz.1 (fun _ => hz.2)) z hz)
                  have hfr446 : ∀ z, (z < cnt ∧ (la z < la this ∨ la this + 2 < la z) ∧ (la z < la p2 ∨ la p2 + 8 < la z)) → c122_G203 z = (G 203) z := fun z hz => (q122_G203 z (tz122 z hz)).trans (hfr203 z hz)
                  have hfr447 : ∀ z, (z < cnt ∧ (la z < la this ∨ la this + 2 < la z) ∧ (la z < la p2 ∨ la p2 + 8 < la z)) → c122_P66 z = (P 66) z := fun z hz => (q122_P66 z (tz122 z hz)).trans ((fun (z : Nat) (hz : (z < cnt ∧ (la z < la this ∨ la this + 2 < la z) ∧ (la z < la p2 ∨ la p2 + 8 < la z))) => hF25_P 66 z hz.1 (fun _ => hz.2)) z hz)
                  have hfr448 : ∀ z, (z < cnt ∧ (la z < la this ∨ la this + 2 < la z) ∧ (la z < la p2 ∨ la p2 + 8 < la z)) → c122_P181 z = (P 181) z := fun z hz => (q122_P181 z (tz122 z hz)).trans ((fun (z : Nat) (hz : (z < cnt ∧ (la z < la this ∨ la this + 2 < la z) ∧ (la z < la p2 ∨ la p2 + 8 < la z))) => hF25_P 181 z hz.1 (fun _ => hz.2)) z hz)
                  have hfr449 : ∀ z, (z < cnt ∧ (la z < la this ∨ la this + 2 < la z) ∧ (la z < la p2 ∨ la p2 + 8 < la z)) → c122_P182 z = (P 182) z := fun z hz => (q122_P182 z (tz122 z hz)).trans ((fun (z : Nat) (hz : (z < cnt ∧ (la z < la this ∨ la this + 2 < la z) ∧ (la z < la p2 ∨ la p2 + 8 < la z))) => hF25_P 182 z hz.1 (fun _ => hz.2)) z hz)
                  have hfr450 : ∀ z, (z < cnt ∧ (la z < la this ∨ la this + 2 < la z) ∧ (la z < la p2 ∨ la p2 + 8 < la z)) → c122_U184 z = (U 184) z := fun z hz => (q122_U184 z (tz122 z hz)).trans ((fun (z : Nat) (hz : (z < cnt ∧ (la z < la this ∨ la this + 2 < la z) ∧ (la z < la p2 ∨ la p2 + 8 < la z))) => hF25_U 184 z hz.1 (fun _ => hz.2)) z hz)
                  have hfr451 : ∀ z, (z < cnt ∧ (la z < la this ∨ la this + 2 < la z) ∧ (la z < la p2 ∨ la p2 + 8 < la z)) → c122_V0 z = (V 0) z := fun z hz => (q122_V0 z (tz122 z hz)).trans ((fun (z : Nat) (hz : (z < cnt ∧ (la z < la this ∨ la this + 2 < la z) ∧ (la z < la p2 ∨ la p2 + 8 < la z))) => hF25_V 0 z hz.1 (fun _ => hz.2)) z hz)
                  have hfr452 : ∀ z, (z < cnt ∧ (la z < la this ∨ la this + 2 < la z) ∧ (la z < la p2 ∨ la p2 + 8 < la z)) → c122_V1 z = (V 1) z := fun z hz => (q122_V1 z (tz122 z hz)).trans ((fun (z : Nat) (hz : (z < cnt ∧ (la z < la this ∨ la this + 2 < la z) ∧ (la z < la p2 ∨ la p2 + 8 < la z))) => hF25_V 1 z hz.1 (fun _ => hz.2)) z hz)
                  have hfr453 : ∀ z, (z < cnt ∧ (la z < la this ∨ la this + 2 < la z) ∧ (la z < la p2 ∨ la p2 + 8 < la z)) → c122_V2 z = (V 2) z := fun z hz => (q122_V2 z (tz122 z hz)).trans ((fun (z : Nat) (hz : (z < cnt ∧ (la z < la this ∨ la this + 2 < la z) ∧ (la z < la p2 ∨ la p2 + 8 < la z))) => hF25_V 2 z hz.1 (fun _ => hz.2)) z hz)
                  have hfr454 : ∀ z, (z < cnt ∧ (la z < la this ∨ la this + 2 < la z) ∧ (la z < la p2 ∨ la p2 + 8 < la z)) → c122_V12 z = (V 12) z := fun z hz => (q122_V12 z (tz122 z hz)).trans ((fun (z : Nat) (hz : (z < cnt ∧ (la z < la this ∨ la this + 2 < la z) ∧ (la z < la p2 ∨ la p2 + 8 < la z))) => hF25_V 12 z hz.1 (fun _ => hz.2)) z hz)
                  have h8122_h181 : (d25_P 181) p2 = some (nw1) := by exact e181
                  have h8122_h182 : (d25_P 182) p2 = some (nx1) := by exact e182
                  have h8122_hnn : (nw1) ≠ (nx1) := by exact sw_nn hsw hnn
                  have h8122_h185 : (d25_P 185) p2 = some wh := by exact hn173
                  have h8122_h180 : (d25_P 180) p2 = some pg := by exact hn175
                  have h8122_hfi : (d25_P 63) pg = some fi := by exact hn177
                  have h8122_hpa : (d25_P 65) pg = some pa := by exact hn179
                  have h8122_hpk : (d25_P 62) pg = some pk := by exact hn181
                  have h8122_hsz : (d25_P 61) pg = some sz := by exact hn183
                  have h8122_hcl : (d25_P 64) pg = some cl := by exact hn185
                  have h8122_hlt9 : la25 p2 = 90 := by omega
                  have h8122_hlo : (d25_P 201) r115 = some (lr) := by rw [er]; exact e5
                  have h8122_hso : (d25_P 202) r115 = some (sr) := by rw [er]; exact e6
                  have h8122_hwo : ((d25_G 200) r115).toInt = ((24 : Nat) : Int) := by rw [er]; exact e7
                  have h8122_hfw : rwW (m42 r115) ((d25_V 0) (lr)) ((d25_V 1) (sr)) 24 = (FMT d Ws (Int32.toNatClampNeg y3_4 - 1) (Int32.toNatClampNeg y25_5)) := by rw [er, em42z row (fun q => by have q9 := congrArg la25 q; omega)]; exact e8
                  have h8122_hWw : id (∀ W9, W9 ∈ (FMT d Ws (Int32.toNatClampNeg y3_4 - 1) (Int32.toNatClampNeg y25_5)) → 1 ≤ W9.length ∧ W9.length ≤ 24 ∧ BW W9) := show ∀ W9, W9 ∈ (FMT d Ws (Int32.toNatClampNeg y3_4 - 1) (Int32.toNatClampNeg y25_5)) → 1 ≤ W9.length ∧ W9.length ≤ 24 ∧ BW W9 from by exact FMT_wds hWw (fun q hq => by obtain ⟨_, _, _, _, z9⟩ := hrx25 q (by omega); exact z9.2.2)
                  have h8122_hl : (d25_P 201) sp = some (lsp) := by exact hn159
                  have h8122_hs : (d25_P 202) sp = some (ssp) := by exact hn161
                  have h8122_hw : ((d25_G 200) sp).toInt = ((24 : Nat) : Int) := by omega
                  have h8122_hws : rwW (m42 sp) ((d25_V 0) (lsp)) ((d25_V 1) (ssp)) 24 = ([]) := by exact List.length_eq_zero_iff.mp (by rw [rw_len, em42, va_up_self]; rfl)
                  have h8122_hp0 : o107 = some rf := by exact eo107.trans (by rw [show Int32.toNatClampNeg (y3_4 - 1) = Int32.toNatClampNeg y3_4 - 1 by omega]; exact y1)
                  have h8122_hrl : rf < d25_cnt := by exact y2
                  have h8122_hrf : RFX (va_up d25_G 203 m42) d25_P d25_V d25_O d25_ln la25 d25_cnt rf (d (Int32.toNatClampNeg y3_4 - 1)) := by refine RFX_fr y4 hB25 y2 (fun z hz h3 h4 => ?_) (Nat.le_refl _) (fun _ _ => rfl); have h8 : z ≠ sp := (fun q => by have q9 := congrArg la25 q; omega); exact ⟨rfl, rfl, rfl, rfl, em42z z h8, rfl, rfl, rfl, rfl, rfl, rfl, rfl, rfl, rfl, rfl, rfl, rfl, rfl, rfl, rfl, rfl, rfl, rfl, rfl, rfl, rfl⟩
                  have h8122_hld : 100000 ≤ la25 rf := by exact y3
                  have h8122_hl1 : (la25 r115 < 90 ∨ 98 < la25 r115 ∨ la25 r115 = 94 ∨ la25 r115 = 95) := by rw [er]; omega
                  have h8122_hl2 : (la25 sp < 90 ∨ 98 < la25 sp ∨ la25 sp = 94 ∨ la25 sp = 95) := by omega
                  have h8122_hl12 : la25 r115 ≠ la25 sp := by rw [er]; omega
                  have h8122_hl2d : la25 sp < la25 rf ∨ la25 rf + 5 < la25 sp := by omega
                  have hx122 := pwq (fn_X9_turnForms κ25 wd la25 (va_up d25_G 203 m42) d25_P d25_U d25_V d25_X d25_O d25_kd d25_ln d25_cnt p2 o107 r115 sp (nw1) (nx1) (wh) (pg) (fi) (pa) (pk) (sz) (cl) (rf) (lr) (sr) (lsp) (ssp) (d (Int32.toNatClampNeg y3_4 - 1)) (FMT d Ws (Int32.toNatClampNeg y3_4 - 1) (Int32.toNatClampNeg y25_5)) ([]) (CInv_G60 hCI25 :) (CInv_G102 hCI25 :) (CInv_G183 hCI25 :) (CInv_G200 hCI25 :) hg204 (CInv_P20 hCI25 :) (CInv_P21 hCI25 :) (CInv_P22 hCI25 :) (CInv_P23 hCI25 :) (CInv_P61 hCI25 :) (CInv_P62 hCI25 :) (CInv_P63 hCI25 :) (CInv_P64 hCI25 :) (CInv_P65 hCI25 :) (CInv_P66 hCI25 :) (CInv_P101 hCI25 :) (CInv_P103 hCI25 :) (CInv_P104 hCI25 :) (CInv_P105 hCI25 :) (CInv_P106 hCI25 :) (CInv_P108 hCI25 :) (CInv_P109 hCI25 :) (CInv_P110 hCI25 :) (CInv_P180 hCI25 :) (CInv_P181 hCI25 :) (CInv_P182 hCI25 :) (CInv_P185 hCI25 :) (CInv_P201 hCI25 :) (CInv_P202 hCI25 :) (CInv_V1 hCI25 :) (CInv_V2 hCI25 :) (CInv_O0 hCI25 :) (CInv_RA hCI25 :) hRB206 (CInv_RI hCI25 :) (CInv_RM103 hCI25 :) (CInv_RM104 hCI25 :) (CInv_RM108 hCI25 :) (CInv_LN hCI25 :) hk118 hk_o107 hk433 hk_sp hB25 lt123 (by omega) lt_sp156 h8122_h181 h8122_h182 h8122_hnn h8122_h185 h8122_h180 h8122_hfi h8122_hpa h8122_hpk h8122_hsz h8122_hcl h8122_hlt9 h8122_hlo h8122_hso h8122_hwo h8122_hfw h8122_hWw h8122_hl h8122_hs h8122_hw h8122_hws h8122_hp0 h8122_hrl h8122_hrf h8122_hld h8122_hl1 h8122_hl2 h8122_hl12 h8122_hl2d) hc122
                  obtain ⟨p122_0, p122_1, p122_2⟩ : (rwW (c122_G203 sp) (c122_V0 (lsp)) (c122_V1 (ssp)) 24 = (FMT d Ws (Int32.toNatClampNeg y3_4 - 1) (Int32.toNatClampNeg y25_5)).foldl (fun a9 W9 => (cdF (d (Int32.toNatClampNeg y3_4 - 1)) W9).foldl (addF (d25_ln (ssp))) a9) ([])) ∧ (id ((∃ nwb nxb, c122_P181 p2 = some nwb ∧ c122_P182 p2 = some nxb ∧ ((nwb = (nw1) ∧ nxb = (nx1)) ∨ (nwb = (nx1) ∧ nxb = (nw1)))))) ∧ (id ((∀ z, (la25 z = 94 ∨ la25 z = 95) → la25 z ≠ la25 sp → c122_V0 z = (d25_V 0) z ∧ c122_V1 z = (d25_V 1) z ∧ c122_G203 z = m42 z))) := hx122
                  clear h8122_h181 h8122_h182 h8122_hnn h8122_h185 h8122_h180 h8122_hfi h8122_hpa h8122_hpk h8122_hsz h8122_hcl h8122_hlt9 h8122_hlo h8122_hso h8122_hwo h8122_hfw h8122_hWw h8122_hl h8122_hs h8122_hw h8122_hws h8122_hp0 h8122_hrl h8122_hrf h8122_hld h8122_hl1 h8122_hl2 h8122_hl12 h8122_hl2d
                  have hFL455 : FL wd c122_G203 (d25_V 3) := by exact FL_eq hFL207 (f443 (hw_sp rfl))
                  have gz122 := ((f443 (hw_sp rfl)).trans gz42).trans gz25
                  have hT : rwW (c122_G203 sp) (c122_V0 lsp) (c122_V1 ssp) 24 = FMT d Ws (Int32.toNatClampNeg y3_4) (Int32.toNatClampNeg y25_5) := by rw [hl12] at p122_0; rw [p122_0, FMT_s hx (m := Int32.toNatClampNeg y3_4) (s := Int32.toNatClampNeg y3_4 - 1) (by omega)]; rfl
                  refine pw_if (fun hb125 => ?_)
                  obtain ⟨hbl125, hbr125⟩ := hb125
                  refine pw_vl (fun m125 em125 => ?_)
                  have hfr456 : ∀ z, (z < cnt ∧ (la z < la this ∨ la this + 2 < la z) ∧ (la z < la p2 ∨ la p2 + 8 < la z)) → m125 z = (X 1) z := fr_up (e0 := (X 1)) (fun (z : Nat) (hz : (z < cnt ∧ (la z < la this ∨ la this + 2 < la z) ∧ (la z < la p2 ∨ la p2 + 8 < la z))) => hF25_X 1 z hz.1 (fun _ => hz.2)) em125 (show ¬ (a88 < cnt ∧ (la a88 < la this ∨ la this + 2 < la a88) ∧ (la a88 < la p2 ∨ la p2 + 8 < la a88)) from fun hz => by have q1 := hag25 a88 hz.1; omega)
                  refine pw_j12 ej126 (fun z126_0 ez126_0 z126_1 ez126_1 z126_2 ez126_2 z126_3 ez126_3 z126_4 ez126_4 z126_5 ez126_5 z126_6 ez126_6 z126_7 ez126_7 z126_8 ez126_8 z126_9 ez126_9 z126_10 ez126_10 z126_11 ez126_11 => ?_)
                  subst ez126_0 ez126_1 ez126_2 ez126_3 ez126_4 ez126_5 ez126_6 ez126_7 ez126_8 ez126_9 ez126_10 ez126_11
                  have gz126 : c122_G203 wd = (G 203) wd := by assumption
                  refine pw_tk ?_
                  refine pw_newd (κ := κ25) (la := la25) (wd := wd) (Ke := 0) (L := 100000 + 10 * d25_cnt) (CInv_i (CInv_G43 hCI25 :) (CInv_G44 hCI25 :) (CInv_G45 hCI25 :) hg434 (CInv_G83 hCI25 :) (CInv_G84 hCI25 :) (CInv_G85 hCI25 :) (CInv_G87 hCI25 :) (CInv_G88 hCI25 :) (CInv_G102 hCI25 :) (CInv_G125 hCI25 :) (CInv_G126 hCI25 :) (CInv_G127 hCI25 :) (CInv_G141 hCI25 :) (CInv_G160 hCI25 :) (CInv_G161 hCI25 :) (CInv_G162 hCI25 :) (CInv_G165 hCI25 :) (CInv_G166 hCI25 :) hg435 (CInv_G200 hCI25 :) hg436 (CInv_G222 hCI25 :) (CInv_G231 hCI25 :) (CInv_G233 hCI25 :) (CInv_P0 hCI25 :) (CInv_P1 hCI25 :) (CInv_P2 hCI25 :) (CInv_P3 hCI25 :) (CInv_P4 hCI25 :) (CInv_P5 hCI25 :) (CInv_P20 hCI25 :) (CInv_P21 hCI25 :) (CInv_P22 hCI25 :) (CInv_P23 hCI25 :) (CInv_P40 hCI25 :) (CInv_P41 hCI25 :) (CInv_P42 hCI25 :) (CInv_P61 hCI25 :) (CInv_P62 hCI25 :) (CInv_P63 hCI25 :) (CInv_P64 hCI25 :) (CInv_P65 hCI25 :) hg437 (CInv_P82 hCI25 :) (CInv_P101 hCI25 :) (CInv_P103 hCI25 :) (CInv_P104 hCI25 :) (CInv_P105 hCI25 :) (CInv_P106 hCI25 :) (CInv_P108 hCI25 :) (CInv_P109 hCI25 :) (CInv_P110 hCI25 :) (CInv_P120 hCI25 :) (CInv_P121 hCI25 :) (CInv_P122 hCI25 :) (CInv_P123 hCI25 :) (CInv_P140 hCI25 :) (CInv_P164 hCI25 :) (CInv_P180 hCI25 :) hg438 hg439 (CInv_P185 hCI25 :) (CInv_P186 hCI25 :) (CInv_P187 hCI25 :) (CInv_P201 hCI25 :) (CInv_P202 hCI25 :) (CInv_P220 hCI25 :) (CInv_P221 hCI25 :) (CInv_P224 hCI25 :) (CInv_P225 hCI25 :) (CInv_P226 hCI25 :) (CInv_P227 hCI25 :) (CInv_P228 hCI25 :) (CInv_P229 hCI25 :) (CInv_P230 hCI25 :) (CInv_P232 hCI25 :) (CInv_P234 hCI25 :) (CInv_P235 hCI25 :) (CInv_P236 hCI25 :) hg440 hg441 (CInv_V3 hCI25 :) (CInv_V9 hCI25 :) (CInv_O0 hCI25 :) (CInv_O1 hCI25 :) (CInv_O2 hCI25 :) (CInv_RA hCI25 :) hRB442 (CInv_RI hCI25 :) (CInv_RM103 hCI25 :) (CInv_RM104 hCI25 :) (CInv_RM108 hCI25 :) (CInv_LN hCI25 :) hFL455 (CInv_W0 hCI25 :) (CInv_KC hCI25 :) (CInv_WK hCI25 :)) (by decide) (by omega) (LB_set (LB_set (LB_set hB25 ql122_66) ql122_181) ql122_182) (by have q457 := hB25.2 this lt126; omega) (fun κ126 la126 G126 P126 U126 V126 X126 O126 kd126 ln126 cnt126 hCI126 hcn126 hkn126 hln126 hex126 hvz126 hfs126 hB126 hL126 ag126 fU126 fX126 => ?_)
                  have hx458 : ∀ a, κ25 a ≠ 0 → κ126 a = κ25 a := fun a ha => (hex126 a (kclt (CInv_KC hCI25 :) ha) (Nat.ne_of_lt (kclt (CInv_KC hCI25 :) ha))).1
                  have hw_d25_cnt : 1 = 1 → d25_cnt ≠ wd := fun _ q => absurd (kcl0 (CInv_KC hCI25 :) (CInv_WK hCI25 :) (by decide)) (by omega)
                  have ccf126 : d25_cnt ≤ cnt126 := by rw [hcn126]; exact Nat.le_succ _
                  clear hvz126 hfs126 hFL455 tz122 q122_G60 q122_G183 q122_P66 q122_P181 q122_P182 q122_U184 q122_V2 q122_V12 ql122_66 ql122_181 ql122_182 hg434 hg435 hg436 hg437 hg438 hg439 hg440 hg441 hRB442 hc122 hk433 hc115 hpr115_1 hpr115_0 hFL207 hRB206 hg204 hfr203
                  have kx459 : ∀ a, κ a ≠ 0 → κ126 a = κ a := kxt hx25 hx458
                  have hk460 : κ126 this = 1 := kxk hx458 hk116 (by decide)
                  have hl461 := (hex126 p1 (kcl0 (CInv_KC hCI25 :) hk117 (by decide)) (Nat.ne_of_lt (kcl0 (CInv_KC hCI25 :) hk117 (by decide)))).2.2.2.2.2
                  have hk462 : κ126 p1 = 302 := kxk hx458 hk117 (by decide)
                  have hk463 : κ126 p2 = 10 := kxk hx458 hk118 (by decide)
                  have gl_464 : la126 fa = 70 := (ag126 fa lt_fa154).trans gl_136
                  have lt465 : fa < cnt126 := Nat.lt_of_lt_of_le lt_fa154 ccf126
                  have gl_466 : la126 fl = 70 := (ag126 fl lt_fl152).trans gl_135
                  have lt467 : fl < cnt126 := Nat.lt_of_lt_of_le lt_fl152 ccf126
                  have gl_468 : la126 lsp = 71 := (ag126 lsp lt_lsp160).trans gl_138
                  have lt469 : lsp < cnt126 := Nat.lt_of_lt_of_le lt_lsp160 ccf126
                  have gl_470 : la126 p1 = la25 p1 := ag126 p1 lt122
                  have lt471 : p1 < cnt126 := Nat.lt_of_lt_of_le lt122 ccf126
                  have gl_472 : la126 p2 = 90 := (ag126 p2 lt123).trans gl_134
                  have lt473 : p2 < cnt126 := Nat.lt_of_lt_of_le lt123 ccf126
                  have gl_474 : la126 sp = 71 := (ag126 sp lt_sp156).trans gl_137
                  have lt475 : sp < cnt126 := Nat.lt_of_lt_of_le lt_sp156 ccf126
                  have gl_476 : la126 ssp = 71 := (ag126 ssp lt_ssp162).trans gl_139
                  have lt477 : ssp < cnt126 := Nat.lt_of_lt_of_le lt_ssp162 ccf126
                  have gl_478 : la126 this = 70 := (ag126 this lt126).trans gl_132
                  have lt479 : this < cnt126 := Nat.lt_of_lt_of_le lt126 ccf126
                  have gl_480 : la126 wl = 20 := (ag126 wl lt_wl167).trans gl_140
                  have lt481 : wl < cnt126 := Nat.lt_of_lt_of_le lt_wl167 ccf126
                  have gl_482 : la126 wz = 20 := (ag126 wz lt_wz169).trans gl_141
                  have lt483 : wz < cnt126 := Nat.lt_of_lt_of_le lt_wz169 ccf126
                  have gl_484 : la126 wd = 20 := (ag126 wd lt_wd158).trans gl_133
                  have lt485 : wd < cnt126 := Nat.lt_of_lt_of_le lt_wd158 ccf126
                  have gl_486 : la126 wh = 93 := (ag126 wh lt_wh174).trans gl_142
                  have lt487 : wh < cnt126 := Nat.lt_of_lt_of_le lt_wh174 ccf126
                  have gl_488 : la126 pg = 96 := (ag126 pg lt_pg176).trans gl_143
                  have lt489 : pg < cnt126 := Nat.lt_of_lt_of_le lt_pg176 ccf126
                  have gl_490 : la126 fi = 97 := (ag126 fi lt_fi178).trans gl_144
                  have lt491 : fi < cnt126 := Nat.lt_of_lt_of_le lt_fi178 ccf126
                  have gl_492 : la126 pa = 98 := (ag126 pa lt_pa180).trans gl_145
                  have lt493 : pa < cnt126 := Nat.lt_of_lt_of_le lt_pa180 ccf126
                  have gl_494 : la126 pk = 96 := (ag126 pk lt_pk182).trans gl_146
                  have lt495 : pk < cnt126 := Nat.lt_of_lt_of_le lt_pk182 ccf126
                  have gl_496 : la126 sz = 96 := (ag126 sz lt_sz184).trans gl_147
                  have lt497 : sz < cnt126 := Nat.lt_of_lt_of_le lt_sz184 ccf126
                  have gl_498 : la126 cl = 96 := (ag126 cl lt_cl186).trans gl_148
                  have lt499 : cl < cnt126 := Nat.lt_of_lt_of_le lt_cl186 ccf126
                  have gl_500 : 91 ≤ la126 nw1 ∧ la126 nw1 ≤ 92 := by rw [ag126 nw1 lt_nw1188]; exact lb_nw1188
                  have lt501 : nw1 < cnt126 := Nat.lt_of_lt_of_le lt_nw1188 ccf126
                  have gl_502 : 91 ≤ la126 nx1 ∧ la126 nx1 ≤ 92 := by rw [ag126 nx1 lt_nx1190]; exact lb_nx1190
                  have lt503 : nx1 < cnt126 := Nat.lt_of_lt_of_le lt_nx1190 ccf126
                  have gl_504 : la126 a88 = 70 := (ag126 a88 lt_a88427).trans lb_a88427
                  have lt505 : a88 < cnt126 := Nat.lt_of_lt_of_le lt_a88427 ccf126
                  have hag126 : ∀ z, z < cnt → la126 z = la z := fun z hz => (ag126 z (Nat.lt_of_lt_of_le hz hcc115)).trans (hag25 z hz)
                  have fG126 : FRM d25_cnt [] (fun _ => True) (va_up (va_up (va_up d25_G 60 c122_G60) 183 c122_G183) 203 c122_G203) G126 := fun g z hz _ => (hex126 z hz (Nat.ne_of_lt hz)).2.1 g
                  have fP126 : FRM d25_cnt [] (fun _ => True) (va_up (va_up (va_up d25_P 66 c122_P66) 181 c122_P181) 182 c122_P182) P126 := fun g z hz _ => (hex126 z hz (Nat.ne_of_lt hz)).2.2.1 g
                  have fV126 : FRM d25_cnt [] (fun _ => True) (va_up (va_up (va_up (va_up d25_V 0 c122_V0) 1 c122_V1) 2 c122_V2) 12 c122_V12) V126 := fun g z hz _ => (hex126 z hz (Nat.ne_of_lt hz)).2.2.2.1 g
                  have fO126 : FRM d25_cnt [] (fun _ => True) d25_O O126 := fun g z hz _ => (hex126 z hz (Nat.ne_of_lt hz)).2.2.2.2.1 g
                  have fl126 : ∀ z, z < d25_cnt → ln126 z = d25_ln z := fun z hz => (hex126 z hz (Nat.ne_of_lt hz)).2.2.2.2.2
                  have hle126 : cnt ≤ d25_cnt := hcc115
                  have hF126_G : FRM cnt [60, 183, 203] (fun z => (la z < la this ∨ la this + 2 < la z) ∧ (la z < la p2 ∨ la p2 + 8 < la z)) G G126 := FRM_trans (FRM_set (FRM_set (FRM_set hF25_G (by decide) (fun z h1 h2 => hfr444 z ⟨h1, h2⟩)) (by decide) (fun z h1 h2 => hfr445 z ⟨h1, h2⟩)) (by decide) (fun z h1 h2 => hfr446 z ⟨h1, h2⟩)) fG126 hle126 (by decide) (fun _ _ _ => trivial)
                  have hF126_P : FRM cnt [66, 181, 182] (fun z => (la z < la this ∨ la this + 2 < la z) ∧ (la z < la p2 ∨ la p2 + 8 < la z)) P P126 := FRM_trans (FRM_set (FRM_set (FRM_set hF25_P (by decide) (fun z h1 h2 => hfr447 z ⟨h1, h2⟩)) (by decide) (fun z h1 h2 => hfr448 z ⟨h1, h2⟩)) (by decide) (fun z h1 h2 => hfr449 z ⟨h1, h2⟩)) fP126 hle126 (by decide) (fun _ _ _ => trivial)
                  have hF126_U : FRM cnt [184] (fun z => (la z < la this ∨ la this + 2 < la z) ∧ (la z < la p2 ∨ la p2 + 8 < la z)) U U126 := FRM_trans (FRM_set hF25_U (by decide) (fun z h1 h2 => hfr450 z ⟨h1, h2⟩)) fU126 hle126 (by decide) (fun _ _ _ => trivial)
                  have hF126_V : FRM cnt [0, 1, 2, 3, 12] (fun z => (la z < la this ∨ la this + 2 < la z) ∧ (la z < la p2 ∨ la p2 + 8 < la z)) V V126 := FRM_trans (FRM_set (FRM_set (FRM_set (FRM_set hF25_V (by decide) (fun z h1 h2 => hfr451 z ⟨h1, h2⟩)) (by decide) (fun z h1 h2 => hfr452 z ⟨h1, h2⟩)) (by decide) (fun z h1 h2 => hfr453 z ⟨h1, h2⟩)) (by decide) (fun z h1 h2 => hfr454 z ⟨h1, h2⟩)) fV126 hle126 (by decide) (fun _ _ _ => trivial)
                  have hF126_X : FRM cnt [1] (fun z => (la z < la this ∨ la this + 2 < la z) ∧ (la z < la p2 ∨ la p2 + 8 < la z)) X X126 := FRM_trans (FRM_set hF25_X (by decide) (fun z h1 h2 => hfr456 z ⟨h1, h2⟩)) fX126 hle126 (by decide) (fun _ _ _ => trivial)
                  have hF126_O : FRM cnt [1] (fun z => (la z < la this ∨ la this + 2 < la z) ∧ (la z < la p2 ∨ la p2 + 8 < la z)) O O126 := FRM_trans hF25_O fO126 hle126 (by decide) (fun _ _ _ => trivial)
                  have hlnn126 : ∀ z, z < cnt → ln126 z = ln z := fun z hz => (fl126 z (Nat.lt_of_lt_of_le hz hle126)).trans (hlnn25 z hz)
                  clear fl126 hx458 fU126 fX126 hfr456 hfr454 hfr453 hfr452 hfr451 hfr450 hfr449 hfr448 hfr447 hfr446 hfr445 hfr444
                  have lt506 : d25_cnt < cnt126 := by rw [hcn126]; exact Nat.lt_succ_self _
                  have hn507 : (P126 3) this = some fl := ((hex126 this lt126 (Nat.ne_of_lt lt126)).2.2.1 3).trans hn151
                  have lt_fl508 := ((hB126.1 3 fl_3) this fl hn507).2.1
                  have hk_fl := (((CInv_P3 hCI126 :) this).2 fl hn507).1
                  have hl1_fl := (((CInv_P3 hCI126 :) this).2 fl hn507).2.1
                  have hl2_fl := (((CInv_P3 hCI126 :) this).2 fl hn507).2.2.1
                  have hw_fl : id _ := (((CInv_P3 hCI126 :) this).2 fl hn507).2.2.2
                  have hn509 : (P126 1) this = some fa := ((hex126 this lt126 (Nat.ne_of_lt lt126)).2.2.1 1).trans hn153
                  have lt_fa510 := ((hB126.1 1 fl_1) this fa hn509).2.1
                  have hk_fa := (((CInv_P1 hCI126 :) this).2 fa hn509).1
                  have hl1_fa := (((CInv_P1 hCI126 :) this).2 fa hn509).2.1
                  have hl2_fa := (((CInv_P1 hCI126 :) this).2 fa hn509).2.2.1
                  have hw_fa : id _ := (((CInv_P1 hCI126 :) this).2 fa hn509).2.2.2
                  have hn511 : (P126 4) this = some sp := ((hex126 this lt126 (Nat.ne_of_lt lt126)).2.2.1 4).trans hn155
                  have lt_sp512 := ((hB126.1 4 fl_4) this sp hn511).2.1
                  have hk_sp := (((CInv_P4 hCI126 :) this).2 sp hn511).1
                  have hl1_sp := (((CInv_P4 hCI126 :) this).2 sp hn511).2.1
                  have hl2_sp := (((CInv_P4 hCI126 :) this).2 sp hn511).2.2.1
                  have hw_sp : id _ := (((CInv_P4 hCI126 :) this).2 sp hn511).2.2.2
                  have hn513 : (P126 0) this = some wd := ((hex126 this lt126 (Nat.ne_of_lt lt126)).2.2.1 0).trans hn157
                  have lt_wd514 := ((hB126.1 0 fl_0) this wd hn513).2.1
                  have hk_wd := (((CInv_P0 hCI126 :) this).2 wd hn513).1
                  have hl1_wd := (((CInv_P0 hCI126 :) this).2 wd hn513).2.1
                  have hl2_wd := (((CInv_P0 hCI126 :) this).2 wd hn513).2.2.1
                  have hw_wd : id _ := (((CInv_P0 hCI126 :) this).2 wd hn513).2.2.2
                  have hn515 : (P126 201) sp = some lsp := ((hex126 sp lt_sp156 (Nat.ne_of_lt lt_sp156)).2.2.1 201).trans hn159
                  have lt_lsp516 := ((hB126.1 201 fl_201) sp lsp hn515).2.1
                  have hk_lsp := (((CInv_P201 hCI126 :) sp).2 lsp hn515).1
                  have hl1_lsp := (((CInv_P201 hCI126 :) sp).2 lsp hn515).2.1
                  have hl2_lsp := (((CInv_P201 hCI126 :) sp).2 lsp hn515).2.2.1
                  have hw_lsp : id _ := (((CInv_P201 hCI126 :) sp).2 lsp hn515).2.2.2
                  have hn517 : (P126 202) sp = some ssp := ((hex126 sp lt_sp156 (Nat.ne_of_lt lt_sp156)).2.2.1 202).trans hn161
                  have lt_ssp518 := ((hB126.1 202 fl_202) sp ssp hn517).2.1
                  have hk_ssp := (((CInv_P202 hCI126 :) sp).2 ssp hn517).1
                  have hl1_ssp := (((CInv_P202 hCI126 :) sp).2 ssp hn517).2.1
                  have hl2_ssp := (((CInv_P202 hCI126 :) sp).2 ssp hn517).2.2.1
                  have hw_ssp : id _ := (((CInv_P202 hCI126 :) sp).2 ssp hn517).2.2.2
                  have rb519 := ((CInv_RB hCI126 :) sp ssp hk_sp hn517).1
                  have hn522 : (P126 201) wd = some wl := ((hex126 wd lt_wd158 (Nat.ne_of_lt lt_wd158)).2.2.1 201).trans hn166
                  have lt_wl523 := ((hB126.1 201 fl_201) wd wl hn522).2.1
                  have hk_wl := (((CInv_P201 hCI126 :) wd).2 wl hn522).1
                  have hl1_wl := (((CInv_P201 hCI126 :) wd).2 wl hn522).2.1
                  have hl2_wl := (((CInv_P201 hCI126 :) wd).2 wl hn522).2.2.1
                  have hw_wl : id _ := (((CInv_P201 hCI126 :) wd).2 wl hn522).2.2.2
                  have hn524 : (P126 202) wd = some wz := ((hex126 wd lt_wd158 (Nat.ne_of_lt lt_wd158)).2.2.1 202).trans hn168
                  have lt_wz525 := ((hB126.1 202 fl_202) wd wz hn524).2.1
                  have hk_wz := (((CInv_P202 hCI126 :) wd).2 wz hn524).1
                  have hl1_wz := (((CInv_P202 hCI126 :) wd).2 wz hn524).2.1
                  have hl2_wz := (((CInv_P202 hCI126 :) wd).2 wz hn524).2.2.1
                  have hw_wz : id _ := (((CInv_P202 hCI126 :) wd).2 wz hn524).2.2.2
                  have rb526 := ((CInv_RB hCI126 :) wd wz hk_wd hn524).1
                  have hn529 : (P126 185) p2 = some wh := ((hex126 p2 lt123 (Nat.ne_of_lt lt123)).2.2.1 185).trans hn173
                  have lt_wh530 := ((hB126.1 185 fl_185) p2 wh hn529).2.1
                  have hk_wh := (((CInv_P185 hCI126 :) p2).2 wh hn529).1
                  have hl1_wh := (((CInv_P185 hCI126 :) p2).2 wh hn529).2.1
                  have hl2_wh := (((CInv_P185 hCI126 :) p2).2 wh hn529).2.2.1
                  have hw_wh : id _ := (((CInv_P185 hCI126 :) p2).2 wh hn529).2.2.2
                  have hn531 : (P126 180) p2 = some pg := ((hex126 p2 lt123 (Nat.ne_of_lt lt123)).2.2.1 180).trans hn175
                  have lt_pg532 := ((hB126.1 180 fl_180) p2 pg hn531).2.1
                  have hk_pg := (((CInv_P180 hCI126 :) p2).2 pg hn531).1
                  have hl1_pg := (((CInv_P180 hCI126 :) p2).2 pg hn531).2.1
                  have hl2_pg := (((CInv_P180 hCI126 :) p2).2 pg hn531).2.2.1
                  have hw_pg : id _ := (((CInv_P180 hCI126 :) p2).2 pg hn531).2.2.2
                  have hn533 : (P126 63) pg = some fi := ((hex126 pg lt_pg176 (Nat.ne_of_lt lt_pg176)).2.2.1 63).trans hn177
                  have lt_fi534 := ((hB126.1 63 fl_63) pg fi hn533).2.1
                  have hk_fi := (((CInv_P63 hCI126 :) pg).2 fi hn533).1
                  have hl1_fi := (((CInv_P63 hCI126 :) pg).2 fi hn533).2.1
                  have hl2_fi := (((CInv_P63 hCI126 :) pg).2 fi hn533).2.2.1
                  have hw_fi : id _ := (((CInv_P63 hCI126 :) pg).2 fi hn533).2.2.2
                  have hn535 : (P126 65) pg = some pa := ((hex126 pg lt_pg176 (Nat.ne_of_lt lt_pg176)).2.2.1 65).trans hn179
                  have lt_pa536 := ((hB126.1 65 fl_65) pg pa hn535).2.1
                  have hk_pa := (((CInv_P65 hCI126 :) pg).2 pa hn535).1
                  have hl1_pa := (((CInv_P65 hCI126 :) pg).2 pa hn535).2.1
                  have hl2_pa := (((CInv_P65 hCI126 :) pg).2 pa hn535).2.2.1
                  have hw_pa : id _ := (((CInv_P65 hCI126 :) pg).2 pa hn535).2.2.2
                  have hn537 : (P126 62) pg = some pk := ((hex126 pg lt_pg176 (Nat.ne_of_lt lt_pg176)).2.2.1 62).trans hn181
                  have lt_pk538 := ((hB126.1 62 fl_62) pg pk hn537).2.1
                  have hk_pk := (((CInv_P62 hCI126 :) pg).2 pk hn537).1
                  have hl1_pk := (((CInv_P62 hCI126 :) pg).2 pk hn537).2.1
                  have hl2_pk := (((CInv_P62 hCI126 :) pg).2 pk hn537).2.2.1
                  have hw_pk : id _ := (((CInv_P62 hCI126 :) pg).2 pk hn537).2.2.2
                  have hn539 : (P126 61) pg = some sz := ((hex126 pg lt_pg176 (Nat.ne_of_lt lt_pg176)).2.2.1 61).trans hn183
                  have lt_sz540 := ((hB126.1 61 fl_61) pg sz hn539).2.1
                  have hk_sz := (((CInv_P61 hCI126 :) pg).2 sz hn539).1
                  have hl1_sz := (((CInv_P61 hCI126 :) pg).2 sz hn539).2.1
                  have hl2_sz := (((CInv_P61 hCI126 :) pg).2 sz hn539).2.2.1
                  have hw_sz : id _ := (((CInv_P61 hCI126 :) pg).2 sz hn539).2.2.2
                  have hn541 : (P126 64) pg = some cl := ((hex126 pg lt_pg176 (Nat.ne_of_lt lt_pg176)).2.2.1 64).trans hn185
                  have lt_cl542 := ((hB126.1 64 fl_64) pg cl hn541).2.1
                  have hk_cl := (((CInv_P64 hCI126 :) pg).2 cl hn541).1
                  have hl1_cl := (((CInv_P64 hCI126 :) pg).2 cl hn541).2.1
                  have hl2_cl := (((CInv_P64 hCI126 :) pg).2 cl hn541).2.2.1
                  have hw_cl : id _ := (((CInv_P64 hCI126 :) pg).2 cl hn541).2.2.2
                  have hn543 : (P126 2) this = some a88 := ((hex126 this lt126 (Nat.ne_of_lt lt126)).2.2.1 2).trans hn_a88
                  have lt_a88544 := ((hB126.1 2 fl_2) this a88 hn543).2.1
                  have hk_a88 := (((CInv_P2 hCI126 :) this).2 a88 hn543).1
                  have hl1_a88 := (((CInv_P2 hCI126 :) this).2 a88 hn543).2.1
                  have hl2_a88 := (((CInv_P2 hCI126 :) this).2 a88 hn543).2.2.1
                  have hw_a88 : id _ := (((CInv_P2 hCI126 :) this).2 a88 hn543).2.2.2
                  have gzM : (G126 203) wd = (G 203) wd := ((hex126 wd (by omega) (by omega)).2.1 203).trans gz126
                  have hvM : (V126 3) fl = (d3_V 3) fl := ((hex126 fl (by omega) (by omega)).2.2.2.1 3).trans hv25
                  refine pw_nne hn511 ?_
                  have b545 := (CInv_G203 hCI126 :) sp
                  have hpr139_0 : (0 ≤ ((G126 203) sp).toInt ∧ ((G126 203) sp).toInt ≤ 100) := by first | assumption | omega
                  have hpr139_1 : (0 ≤ (24 : Int32).toInt ∧ (24 : Int32).toInt ≤ 24) := by first | assumption | omega
                  refine pw_bA9 (fun c139_G c139_P c139_U c139_V c139_X c139_O c139_kd c139_ln c139_cnt v1_139 v2_139 hc139 => ?_)
                  have hq139 := wp_at (ok_X10_init κ126 wd G126 P126 U126 V126 X126 O126 kd126 ln126 cnt126 d25_cnt ((G126 203) sp) (24 : Int32) (CInv_i (CInv_G43 hCI126 :) (CInv_G44 hCI126 :) (CInv_G45 hCI126 :) (CInv_G60 hCI126 :) (CInv_G83 hCI126 :) (CInv_G84 hCI126 :) (CInv_G85 hCI126 :) (CInv_G87 hCI126 :) (CInv_G88 hCI126 :) (CInv_G102 hCI126 :) (CInv_G125 hCI126 :) (CInv_G126 hCI126 :) (CInv_G127 hCI126 :) (CInv_G141 hCI126 :) (CInv_G160 hCI126 :) (CInv_G161 hCI126 :) (CInv_G162 hCI126 :) (CInv_G165 hCI126 :) (CInv_G166 hCI126 :) (CInv_G183 hCI126 :) (CInv_G200 hCI126 :) (CInv_G203 hCI126 :) (CInv_G222 hCI126 :) (CInv_G231 hCI126 :) (CInv_G233 hCI126 :) (CInv_P0 hCI126 :) (CInv_P1 hCI126 :) (CInv_P2 hCI126 :) (CInv_P3 hCI126 :) (CInv_P4 hCI126 :) (CInv_P5 hCI126 :) (CInv_P20 hCI126 :) (CInv_P21 hCI126 :) (CInv_P22 hCI126 :) (CInv_P23 hCI126 :) (CInv_P40 hCI126 :) (CInv_P41 hCI126 :) (CInv_P42 hCI126 :) (CInv_P61 hCI126 :) (CInv_P62 hCI126 :) (CInv_P63 hCI126 :) (CInv_P64 hCI126 :) (CInv_P65 hCI126 :) (CInv_P66 hCI126 :) (CInv_P82 hCI126 :) (CInv_P101 hCI126 :) (CInv_P103 hCI126 :) (CInv_P104 hCI126 :) (CInv_P105 hCI126 :) (CInv_P106 hCI126 :) (CInv_P108 hCI126 :) (CInv_P109 hCI126 :) (CInv_P110 hCI126 :) (CInv_P120 hCI126 :) (CInv_P121 hCI126 :) (CInv_P122 hCI126 :) (CInv_P123 hCI126 :) (CInv_P140 hCI126 :) (CInv_P164 hCI126 :) (CInv_P180 hCI126 :) (CInv_P181 hCI126 :) (CInv_P182 hCI126 :) (CInv_P185 hCI126 :) (CInv_P186 hCI126 :) (CInv_P187 hCI126 :) (CInv_P201 hCI126 :) (CInv_P202 hCI126 :) (CInv_P220 hCI126 :) (CInv_P221 hCI126 :) (CInv_P224 hCI126 :) (CInv_P225 hCI126 :) (CInv_P226 hCI126 :) (CInv_P227 hCI126 :) (CInv_P228 hCI126 :) (CInv_P229 hCI126 :) (CInv_P230 hCI126 :) (CInv_P232 hCI126 :) (CInv_P234 hCI126 :) (CInv_P235 hCI126 :) (CInv_P236 hCI126 :) (CInv_V1 hCI126 :) (CInv_V2 hCI126 :) (CInv_V3 hCI126 :) (CInv_V9 hCI126 :) (CInv_O0 hCI126 :) (CInv_O1 hCI126 :) (CInv_O2 hCI126 :) (CInv_RA hCI126 :) (CInv_RB hCI126 :) (CInv_RI hCI126 :) (CInv_RM103 hCI126 :) (CInv_RM104 hCI126 :) (CInv_RM108 hCI126 :) (CInv_LN hCI126 :) (CInv_FL hCI126 :) (CInv_W0 hCI126 :) (CInv_KC hCI126 :) (CInv_WK hCI126 :)) hkn126 (by omega) (by omega) hpr139_0 hpr139_1) hc139
                  obtain ⟨κ139_548, hCI139, hxx139, hcc550, hk551, hex139, f552, f553, f554⟩ : ∃ κ1 : Nat → Nat, (CInv κ1 wd c139_G c139_P c139_V c139_O c139_ln c139_cnt) ∧ (∀ a, κ126 a ≠ 0 → κ1 a = κ126 a) ∧ (cnt126 ≤ c139_cnt) ∧ (κ1 d25_cnt = 11) ∧ (EX d25_cnt cnt126 κ126 κ1 G126 c139_G P126 c139_P V126 c139_V O126 c139_O ln126 c139_ln) ∧ (id ((∀ s, (c139_P 202) d25_cnt = some s → c139_ln s = Int32.toNatClampNeg ((G126 203) sp)))) ∧ (v1_139 ≤ 2) ∧ (((v2_139 : Nat) : Int) ≤ 25 * ((G126 203) sp).toInt) := hq139
                  have kx555 : ∀ a, κ a ≠ 0 → κ139_548 a = κ a := kxt kx459 hxx139
                  have hk556 : κ139_548 this = 1 := kxk hxx139 hk460 (by decide)
                  have hl557 := (hex139 p1 (kcl0 (CInv_KC hCI126 :) hk462 (by decide)) (by intro q; rw [q] at hk462; exact absurd (hk462.symm.trans hkn126) (by decide))).2.2.2.2.2
                  have hk558 : κ139_548 p1 = 302 := kxk hxx139 hk462 (by decide)
                  have hk559 : κ139_548 p2 = 10 := kxk hxx139 hk463 (by decide)
                  have hlo_d25_cnt := (CInv_LN hCI139 :) d25_cnt (by rw [hk551]; decide)
                  have hq139 := pwq (fr_X10_init la126 G126 P126 U126 V126 X126 O126 kd126 ln126 cnt126 d25_cnt ((G126 203) sp) (24 : Int32) hB126 lt506) hc139
                  obtain ⟨la139_f, agf139, hBf139, ccf139, fG139, fP139, fU139, fV139, fX139, fO139, fl139⟩ : ∃ la9 : Nat → Nat, (∀ z, z < cnt126 → la9 z = la126 z) ∧ LB la9 c139_cnt c139_P ∧ cnt126 ≤ c139_cnt ∧ FRM cnt126 [200, 203] (fun z => z ≠ d25_cnt) G126 c139_G ∧ FRM cnt126 [201, 202] (fun z => z ≠ d25_cnt) P126 c139_P ∧ FRM cnt126 [] (fun z => z ≠ d25_cnt) U126 c139_U ∧ FRM cnt126 [] (fun z => z ≠ d25_cnt) V126 c139_V ∧ FRM cnt126 [] (fun z => z ≠ d25_cnt) X126 c139_X ∧ FRM cnt126 [] (fun z => z ≠ d25_cnt) O126 c139_O ∧ (∀ z, z < cnt126 → c139_ln z = ln126 z) := hq139
                  have hx139 := pwq (fn_X10_init κ126 wd la126 G126 P126 U126 V126 X126 O126 kd126 ln126 cnt126 d25_cnt ((G126 203) sp) (24 : Int32) (CInv_i (CInv_G43 hCI126 :) (CInv_G44 hCI126 :) (CInv_G45 hCI126 :) (CInv_G60 hCI126 :) (CInv_G83 hCI126 :) (CInv_G84 hCI126 :) (CInv_G85 hCI126 :) (CInv_G87 hCI126 :) (CInv_G88 hCI126 :) (CInv_G102 hCI126 :) (CInv_G125 hCI126 :) (CInv_G126 hCI126 :) (CInv_G127 hCI126 :) (CInv_G141 hCI126 :) (CInv_G160 hCI126 :) (CInv_G161 hCI126 :) (CInv_G162 hCI126 :) (CInv_G165 hCI126 :) (CInv_G166 hCI126 :) (CInv_G183 hCI126 :) (CInv_G200 hCI126 :) (CInv_G203 hCI126 :) (CInv_G222 hCI126 :) (CInv_G231 hCI126 :) (CInv_G233 hCI126 :) (CInv_P0 hCI126 :) (CInv_P1 hCI126 :) (CInv_P2 hCI126 :) (CInv_P3 hCI126 :) (CInv_P4 hCI126 :) (CInv_P5 hCI126 :) (CInv_P20 hCI126 :) (CInv_P21 hCI126 :) (CInv_P22 hCI126 :) (CInv_P23 hCI126 :) (CInv_P40 hCI126 :) (CInv_P41 hCI126 :) (CInv_P42 hCI126 :) (CInv_P61 hCI126 :) (CInv_P62 hCI126 :) (CInv_P63 hCI126 :) (CInv_P64 hCI126 :) (CInv_P65 hCI126 :) (CInv_P66 hCI126 :) (CInv_P82 hCI126 :) (CInv_P101 hCI126 :) (CInv_P103 hCI126 :) (CInv_P104 hCI126 :) (CInv_P105 hCI126 :) (CInv_P106 hCI126 :) (CInv_P108 hCI126 :) (CInv_P109 hCI126 :) (CInv_P110 hCI126 :) (CInv_P120 hCI126 :) (CInv_P121 hCI126 :) (CInv_P122 hCI126 :) (CInv_P123 hCI126 :) (CInv_P140 hCI126 :) (CInv_P164 hCI126 :) (CInv_P180 hCI126 :) (CInv_P181 hCI126 :) (CInv_P182 hCI126 :) (CInv_P185 hCI126 :) (CInv_P186 hCI126 :) (CInv_P187 hCI126 :) (CInv_P201 hCI126 :) (CInv_P202 hCI126 :) (CInv_P220 hCI126 :) (CInv_P221 hCI126 :) (CInv_P224 hCI126 :) (CInv_P225 hCI126 :) (CInv_P226 hCI126 :) (CInv_P227 hCI126 :) (CInv_P228 hCI126 :) (CInv_P229 hCI126 :) (CInv_P230 hCI126 :) (CInv_P232 hCI126 :) (CInv_P234 hCI126 :) (CInv_P235 hCI126 :) (CInv_P236 hCI126 :) (CInv_V1 hCI126 :) (CInv_V2 hCI126 :) (CInv_V3 hCI126 :) (CInv_V9 hCI126 :) (CInv_O0 hCI126 :) (CInv_O1 hCI126 :) (CInv_O2 hCI126 :) (CInv_RA hCI126 :) (CInv_RB hCI126 :) (CInv_RI hCI126 :) (CInv_RM103 hCI126 :) (CInv_RM104 hCI126 :) (CInv_RM108 hCI126 :) (CInv_LN hCI126 :) (CInv_FL hCI126 :) (CInv_W0 hCI126 :) (CInv_KC hCI126 :) (CInv_WK hCI126 :)) hkn126 (by omega) (by omega) hpr139_0 hpr139_1 hB126) hc139
                  obtain ⟨la139, ag139, hB139, p139_0, p139_1⟩ : ∃ la9 : Nat → Nat, (∀ z, z < cnt126 → la9 z = la126 z) ∧ LB la9 c139_cnt c139_P ∧ (id (∃ l s, (c139_P 201) d25_cnt = some l ∧ (c139_P 202) d25_cnt = some s ∧ c139_ln s = Int32.toNatClampNeg ((G126 203) sp))) ∧ ((c139_G 200) d25_cnt = (24 : Int32) ∧ (c139_G 203) d25_cnt = 0) := hx139
                  clear agf139 hBf139 hxx139 hc139 hpr139_1 hpr139_0 hk463 hk462 hk460 kx459 hex126 hB126 hv25
                  have gl_560 : la139 fa = 70 := (ag139 fa lt_fa510).trans gl_464
                  have lt561 : fa < c139_cnt := Nat.lt_of_lt_of_le lt_fa510 ccf139
                  have gl_562 : la139 fl = 70 := (ag139 fl lt_fl508).trans gl_466
                  have lt563 : fl < c139_cnt := Nat.lt_of_lt_of_le lt_fl508 ccf139
                  have gl_564 : la139 lsp = 71 := (ag139 lsp lt_lsp516).trans gl_468
                  have lt565 : lsp < c139_cnt := Nat.lt_of_lt_of_le lt_lsp516 ccf139
                  have gl_566 : la139 p1 = la25 p1 := (ag139 p1 lt471).trans gl_470
                  have lt567 : p1 < c139_cnt := Nat.lt_of_lt_of_le lt471 ccf139
                  have gl_568 : la139 p2 = 90 := (ag139 p2 lt473).trans gl_472
                  have lt569 : p2 < c139_cnt := Nat.lt_of_lt_of_le lt473 ccf139
                  have gl_570 : la139 sp = 71 := (ag139 sp lt_sp512).trans gl_474
                  have lt571 : sp < c139_cnt := Nat.lt_of_lt_of_le lt_sp512 ccf139
                  have gl_572 : la139 ssp = 71 := (ag139 ssp lt_ssp518).trans gl_476
                  have lt573 : ssp < c139_cnt := Nat.lt_of_lt_of_le lt_ssp518 ccf139
                  have gl_574 : la139 this = 70 := (ag139 this lt479).trans gl_478
                  have lt575 : this < c139_cnt := Nat.lt_of_lt_of_le lt479 ccf139
                  have gl_576 : la139 wl = 20 := (ag139 wl lt_wl523).trans gl_480
                  have lt577 : wl < c139_cnt := Nat.lt_of_lt_of_le lt_wl523 ccf139
                  have gl_578 : la139 wz = 20 := (ag139 wz lt_wz525).trans gl_482
                  have lt579 : wz < c139_cnt := Nat.lt_of_lt_of_le lt_wz525 ccf139
                  have gl_580 : la139 wd = 20 := (ag139 wd lt_wd514).trans gl_484
                  have lt581 : wd < c139_cnt := Nat.lt_of_lt_of_le lt_wd514 ccf139
                  have gl_582 : la139 wh = 93 := (ag139 wh lt_wh530).trans gl_486
                  have lt583 : wh < c139_cnt := Nat.lt_of_lt_of_le lt_wh530 ccf139
                  have gl_584 : la139 pg = 96 := (ag139 pg lt_pg532).trans gl_488
                  have lt585 : pg < c139_cnt := Nat.lt_of_lt_of_le lt_pg532 ccf139
                  have gl_586 : la139 fi = 97 := (ag139 fi lt_fi534).trans gl_490
                  have lt587 : fi < c139_cnt := Nat.lt_of_lt_of_le lt_fi534 ccf139
                  have gl_588 : la139 pa = 98 := (ag139 pa lt_pa536).trans gl_492
                  have lt589 : pa < c139_cnt := Nat.lt_of_lt_of_le lt_pa536 ccf139
                  have gl_590 : la139 pk = 96 := (ag139 pk lt_pk538).trans gl_494
                  have lt591 : pk < c139_cnt := Nat.lt_of_lt_of_le lt_pk538 ccf139
                  have gl_592 : la139 sz = 96 := (ag139 sz lt_sz540).trans gl_496
                  have lt593 : sz < c139_cnt := Nat.lt_of_lt_of_le lt_sz540 ccf139
                  have gl_594 : la139 cl = 96 := (ag139 cl lt_cl542).trans gl_498
                  have lt595 : cl < c139_cnt := Nat.lt_of_lt_of_le lt_cl542 ccf139
                  have gl_596 : 91 ≤ la139 nw1 ∧ la139 nw1 ≤ 92 := by rw [ag139 nw1 lt501]; exact gl_500
                  have lt597 : nw1 < c139_cnt := Nat.lt_of_lt_of_le lt501 ccf139
                  have gl_598 : 91 ≤ la139 nx1 ∧ la139 nx1 ≤ 92 := by rw [ag139 nx1 lt503]; exact gl_502
                  have lt599 : nx1 < c139_cnt := Nat.lt_of_lt_of_le lt503 ccf139
                  have gl_600 : la139 a88 = 70 := (ag139 a88 lt_a88544).trans gl_504
                  have lt601 : a88 < c139_cnt := Nat.lt_of_lt_of_le lt_a88544 ccf139
                  have gl_602 : la139 d25_cnt = la126 d25_cnt := ag139 d25_cnt lt506
                  have lt603 : d25_cnt < c139_cnt := Nat.lt_of_lt_of_le lt506 ccf139
                  have hag139 : ∀ z, z < cnt → la139 z = la z := fun z hz => (ag139 z (Nat.lt_of_lt_of_le hz (Nat.le_trans hcc115 ccf126))).trans (hag126 z hz)
                  have hle139 : cnt ≤ cnt126 := (Nat.le_trans hcc115 ccf126)
                  have hfs139z : cnt ≤ d25_cnt := by omega
                  have hF139_G : FRM cnt [60, 183, 203] (fun z => (la z < la this ∨ la this + 2 < la z) ∧ (la z < la p2 ∨ la p2 + 8 < la z)) G c139_G := FRM_tri hF126_G fG139 hle139 hfs139z
                  have hF139_P : FRM cnt [66, 181, 182] (fun z => (la z < la this ∨ la this + 2 < la z) ∧ (la z < la p2 ∨ la p2 + 8 < la z)) P c139_P := FRM_tri hF126_P fP139 hle139 hfs139z
                  have hF139_U : FRM cnt [184] (fun z => (la z < la this ∨ la this + 2 < la z) ∧ (la z < la p2 ∨ la p2 + 8 < la z)) U c139_U := FRM_tri hF126_U fU139 hle139 hfs139z
                  have hF139_V : FRM cnt [0, 1, 2, 3, 12] (fun z => (la z < la this ∨ la this + 2 < la z) ∧ (la z < la p2 ∨ la p2 + 8 < la z)) V c139_V := FRM_tri hF126_V fV139 hle139 hfs139z
                  have hF139_X : FRM cnt [1] (fun z => (la z < la this ∨ la this + 2 < la z) ∧ (la z < la p2 ∨ la p2 + 8 < la z)) X c139_X := FRM_tri hF126_X fX139 hle139 hfs139z
                  have hF139_O : FRM cnt [1] (fun z => (la z < la this ∨ la this + 2 < la z) ∧ (la z < la p2 ∨ la p2 + 8 < la z)) O c139_O := FRM_tri hF126_O fO139 hle139 hfs139z
                  have hlnn139 : ∀ z, z < cnt → c139_ln z = ln z := fun z hz => (fl139 z (Nat.lt_of_lt_of_le hz hle139)).trans (hlnn126 z hz)
                  clear fU139 fX139 fl139 hlnn126 hF126_O hF126_X hF126_V hF126_U hF126_P hF126_G hag126
                  have hn604 : (c139_P 3) this = some fl := ((hex139 this lt479 (by omega)).2.2.1 3).trans hn507
                  have lt_fl605 := ((hB139.1 3 fl_3) this fl hn604).2.1
                  have hk_fl := (((CInv_P3 hCI139 :) this).2 fl hn604).1
                  have hl1_fl := (((CInv_P3 hCI139 :) this).2 fl hn604).2.1
                  have hl2_fl := (((CInv_P3 hCI139 :) this).2 fl hn604).2.2.1
                  have hw_fl : id _ := (((CInv_P3 hCI139 :) this).2 fl hn604).2.2.2
                  have hn606 : (c139_P 1) this = some fa := ((hex139 this lt479 (by omega)).2.2.1 1).trans hn509
                  have lt_fa607 := ((hB139.1 1 fl_1) this fa hn606).2.1
                  have hk_fa := (((CInv_P1 hCI139 :) this).2 fa hn606).1
                  have hl1_fa := (((CInv_P1 hCI139 :) this).2 fa hn606).2.1
                  have hl2_fa := (((CInv_P1 hCI139 :) this).2 fa hn606).2.2.1
                  have hw_fa : id _ := (((CInv_P1 hCI139 :) this).2 fa hn606).2.2.2
                  have hn608 : (c139_P 4) this = some sp := ((hex139 this lt479 (by omega)).2.2.1 4).trans hn511
                  have lt_sp609 := ((hB139.1 4 fl_4) this sp hn608).2.1
                  have hk_sp := (((CInv_P4 hCI139 :) this).2 sp hn608).1
                  have hl1_sp := (((CInv_P4 hCI139 :) this).2 sp hn608).2.1
                  have hl2_sp := (((CInv_P4 hCI139 :) this).2 sp hn608).2.2.1
                  have hw_sp : id _ := (((CInv_P4 hCI139 :) this).2 sp hn608).2.2.2
                  have hn610 : (c139_P 0) this = some wd := ((hex139 this lt479 (by omega)).2.2.1 0).trans hn513
                  have lt_wd611 := ((hB139.1 0 fl_0) this wd hn610).2.1
                  have hk_wd := (((CInv_P0 hCI139 :) this).2 wd hn610).1
                  have hl1_wd := (((CInv_P0 hCI139 :) this).2 wd hn610).2.1
                  have hl2_wd := (((CInv_P0 hCI139 :) this).2 wd hn610).2.2.1
                  have hw_wd : id _ := (((CInv_P0 hCI139 :) this).2 wd hn610).2.2.2
                  have hn612 : (c139_P 201) sp = some lsp := ((hex139 sp lt_sp512 (by omega)).2.2.1 201).trans hn515
                  have lt_lsp613 := ((hB139.1 201 fl_201) sp lsp hn612).2.1
                  have hk_lsp := (((CInv_P201 hCI139 :) sp).2 lsp hn612).1
                  have hl1_lsp := (((CInv_P201 hCI139 :) sp).2 lsp hn612).2.1
                  have hl2_lsp := (((CInv_P201 hCI139 :) sp).2 lsp hn612).2.2.1
                  have hw_lsp : id _ := (((CInv_P201 hCI139 :) sp).2 lsp hn612).2.2.2
                  have hn614 : (c139_P 202) sp = some ssp := ((hex139 sp lt_sp512 (by omega)).2.2.1 202).trans hn517
                  have lt_ssp615 := ((hB139.1 202 fl_202) sp ssp hn614).2.1
                  have hk_ssp := (((CInv_P202 hCI139 :) sp).2 ssp hn614).1
                  have hl1_ssp := (((CInv_P202 hCI139 :) sp).2 ssp hn614).2.1
                  have hl2_ssp := (((CInv_P202 hCI139 :) sp).2 ssp hn614).2.2.1
                  have hw_ssp : id _ := (((CInv_P202 hCI139 :) sp).2 ssp hn614).2.2.2
                  have rb616 := ((CInv_RB hCI139 :) sp ssp hk_sp hn614).1
                  have hn619 : (c139_P 201) wd = some wl := ((hex139 wd lt_wd514 (by omega)).2.2.1 201).trans hn522
                  have lt_wl620 := ((hB139.1 201 fl_201) wd wl hn619).2.1
                  have hk_wl := (((CInv_P201 hCI139 :) wd).2 wl hn619).1
                  have hl1_wl := (((CInv_P201 hCI139 :) wd).2 wl hn619).2.1
                  have hl2_wl := (((CInv_P201 hCI139 :) wd).2 wl hn619).2.2.1
                  have hw_wl : id _ := (((CInv_P201 hCI139 :) wd).2 wl hn619).2.2.2
                  have hn621 : (c139_P 202) wd = some wz := ((hex139 wd lt_wd514 (by omega)).2.2.1 202).trans hn524
                  have lt_wz622 := ((hB139.1 202 fl_202) wd wz hn621).2.1
                  have hk_wz := (((CInv_P202 hCI139 :) wd).2 wz hn621).1
                  have hl1_wz := (((CInv_P202 hCI139 :) wd).2 wz hn621).2.1
                  have hl2_wz := (((CInv_P202 hCI139 :) wd).2 wz hn621).2.2.1
                  have hw_wz : id _ := (((CInv_P202 hCI139 :) wd).2 wz hn621).2.2.2
                  have rb623 := ((CInv_RB hCI139 :) wd wz hk_wd hn621).1
                  have hn626 : (c139_P 185) p2 = some wh := ((hex139 p2 lt473 (by omega)).2.2.1 185).trans hn529
                  have lt_wh627 := ((hB139.1 185 fl_185) p2 wh hn626).2.1
                  have hk_wh := (((CInv_P185 hCI139 :) p2).2 wh hn626).1
                  have hl1_wh := (((CInv_P185 hCI139 :) p2).2 wh hn626).2.1
                  have hl2_wh := (((CInv_P185 hCI139 :) p2).2 wh hn626).2.2.1
                  have hw_wh : id _ := (((CInv_P185 hCI139 :) p2).2 wh hn626).2.2.2
                  have hn628 : (c139_P 180) p2 = some pg := ((hex139 p2 lt473 (by omega)).2.2.1 180).trans hn531
                  have lt_pg629 := ((hB139.1 180 fl_180) p2 pg hn628).2.1
                  have hk_pg := (((CInv_P180 hCI139 :) p2).2 pg hn628).1
                  have hl1_pg := (((CInv_P180 hCI139 :) p2).2 pg hn628).2.1
                  have hl2_pg := (((CInv_P180 hCI139 :) p2).2 pg hn628).2.2.1
                  have hw_pg : id _ := (((CInv_P180 hCI139 :) p2).2 pg hn628).2.2.2
                  have hn630 : (c139_P 63) pg = some fi := ((hex139 pg lt_pg532 (by omega)).2.2.1 63).trans hn533
                  have lt_fi631 := ((hB139.1 63 fl_63) pg fi hn630).2.1
                  have hk_fi := (((CInv_P63 hCI139 :) pg).2 fi hn630).1
                  have hl1_fi := (((CInv_P63 hCI139 :) pg).2 fi hn630).2.1
                  have hl2_fi := (((CInv_P63 hCI139 :) pg).2 fi hn630).2.2.1
                  have hw_fi : id _ := (((CInv_P63 hCI139 :) pg).2 fi hn630).2.2.2
                  have hn632 : (c139_P 65) pg = some pa := ((hex139 pg lt_pg532 (by omega)).2.2.1 65).trans hn535
                  have lt_pa633 := ((hB139.1 65 fl_65) pg pa hn632).2.1
                  have hk_pa := (((CInv_P65 hCI139 :) pg).2 pa hn632).1
                  have hl1_pa := (((CInv_P65 hCI139 :) pg).2 pa hn632).2.1
                  have hl2_pa := (((CInv_P65 hCI139 :) pg).2 pa hn632).2.2.1
                  have hw_pa : id _ := (((CInv_P65 hCI139 :) pg).2 pa hn632).2.2.2
                  have hn634 : (c139_P 62) pg = some pk := ((hex139 pg lt_pg532 (by omega)).2.2.1 62).trans hn537
                  have lt_pk635 := ((hB139.1 62 fl_62) pg pk hn634).2.1
                  have hk_pk := (((CInv_P62 hCI139 :) pg).2 pk hn634).1
                  have hl1_pk := (((CInv_P62 hCI139 :) pg).2 pk hn634).2.1
                  have hl2_pk := (((CInv_P62 hCI139 :) pg).2 pk hn634).2.2.1
                  have hw_pk : id _ := (((CInv_P62 hCI139 :) pg).2 pk hn634).2.2.2
                  have hn636 : (c139_P 61) pg = some sz := ((hex139 pg lt_pg532 (by omega)).2.2.1 61).trans hn539
                  have lt_sz637 := ((hB139.1 61 fl_61) pg sz hn636).2.1
                  have hk_sz := (((CInv_P61 hCI139 :) pg).2 sz hn636).1
                  have hl1_sz := (((CInv_P61 hCI139 :) pg).2 sz hn636).2.1
                  have hl2_sz := (((CInv_P61 hCI139 :) pg).2 sz hn636).2.2.1
                  have hw_sz : id _ := (((CInv_P61 hCI139 :) pg).2 sz hn636).2.2.2
                  have hn638 : (c139_P 64) pg = some cl := ((hex139 pg lt_pg532 (by omega)).2.2.1 64).trans hn541
                  have lt_cl639 := ((hB139.1 64 fl_64) pg cl hn638).2.1
                  have hk_cl := (((CInv_P64 hCI139 :) pg).2 cl hn638).1
                  have hl1_cl := (((CInv_P64 hCI139 :) pg).2 cl hn638).2.1
                  have hl2_cl := (((CInv_P64 hCI139 :) pg).2 cl hn638).2.2.1
                  have hw_cl : id _ := (((CInv_P64 hCI139 :) pg).2 cl hn638).2.2.2
                  have hn640 : (c139_P 2) this = some a88 := ((hex139 this lt479 (by omega)).2.2.1 2).trans hn543
                  have lt_a88641 := ((hB139.1 2 fl_2) this a88 hn640).2.1
                  have hk_a88 := (((CInv_P2 hCI139 :) this).2 a88 hn640).1
                  have hl1_a88 := (((CInv_P2 hCI139 :) this).2 a88 hn640).2.1
                  have hl2_a88 := (((CInv_P2 hCI139 :) this).2 a88 hn640).2.2.1
                  have hw_a88 : id _ := (((CInv_P2 hCI139 :) this).2 a88 hn640).2.2.2
                  have gzI0 : (c139_G 203) wd = (G 203) wd := ((hex139 wd (by omega) (by omega)).2.1 203).trans gzM
                  have hvI0 : (c139_V 3) fl = (d3_V 3) fl := ((hex139 fl (by omega) (by omega)).2.2.2.1 3).trans hvM
                  obtain ⟨lN, sN, e_lN, e_sN, n_N⟩ := p139_0
                  have w_N : c139_G 200 d25_cnt = 24 := p139_1.1
                  have gN9 := (ag139 d25_cnt (by omega)).trans hL126
                  have gS9 := (ag139 sp (by omega)).trans (ag126 sp (by omega))
                  have hG9 : c139_G 203 sp = _ := ((fG139 203 sp (by omega) (fun _ => show sp ≠ d25_cnt from by omega)).trans (fG126 203 sp (by omega) (fun q => absurd q (by decide))))
                  have hG9i := congrArg Int32.toInt hG9
                  have hTs : rwW ((c139_G 203) sp) ((c139_V 0) lsp) ((c139_V 1) ssp) 24 = FMT d Ws (Int32.toNatClampNeg y3_4) (Int32.toNatClampNeg y25_5) := by rw [hG9, ((fV139 0 lsp (by omega) (fun _ => show lsp ≠ d25_cnt from by omega)).trans (fV126 0 lsp (by omega) (fun q => absurd q (by decide)))), ((fV139 1 ssp (by omega) (fun _ => show ssp ≠ d25_cnt from by omega)).trans (fV126 1 ssp (by omega) (fun q => absurd q (by decide))))]; exact hT
                  have hG8 : c139_G 200 sp = d25_G 200 sp := ((fG139 200 sp (by omega) (fun _ => show sp ≠ d25_cnt from by omega)).trans (fG126 200 sp (by omega) (fun q => absurd q (by decide))))
                  have hG8i := congrArg Int32.toInt hG8
                  have hb9 := (CInv_G203 hCI139 :) sp
                  have cb9 := clampI (x := (c139_G 203) sp) (by omega)
                  have hn642 : (c139_P 201) d25_cnt = some lN := e_lN
                  have lt_lN643 := ((hB139.1 201 fl_201) d25_cnt lN hn642).2.1
                  have lb_lN643 : la139 lN = la139 d25_cnt + 0 := lk_201.mp ((hB139.1 201 fl_201) d25_cnt lN hn642).2.2
                  have hk_lN := (((CInv_P201 hCI139 :) d25_cnt).2 lN hn642).1
                  have hl1_lN := (((CInv_P201 hCI139 :) d25_cnt).2 lN hn642).2.1
                  have hl2_lN := (((CInv_P201 hCI139 :) d25_cnt).2 lN hn642).2.2.1
                  have hw_lN : id _ := (((CInv_P201 hCI139 :) d25_cnt).2 lN hn642).2.2.2
                  have hz_lN : (Int32.ofNat (c139_ln lN)).toInt = ((c139_ln lN : Nat) : Int) := ofN_eq (by first | exact Nat.le_trans hl2_lN (by decide) | omega)
                  have hn644 : (c139_P 202) d25_cnt = some sN := e_sN
                  have lt_sN645 := ((hB139.1 202 fl_202) d25_cnt sN hn644).2.1
                  have lb_sN645 : la139 sN = la139 d25_cnt + 0 := lk_202.mp ((hB139.1 202 fl_202) d25_cnt sN hn644).2.2
                  have hk_sN := (((CInv_P202 hCI139 :) d25_cnt).2 sN hn644).1
                  have hl1_sN := (((CInv_P202 hCI139 :) d25_cnt).2 sN hn644).2.1
                  have hl2_sN := (((CInv_P202 hCI139 :) d25_cnt).2 sN hn644).2.2.1
                  have hw_sN : id _ := (((CInv_P202 hCI139 :) d25_cnt).2 sN hn644).2.2.2
                  have hz_sN : (Int32.ofNat (c139_ln sN)).toInt = ((c139_ln sN : Nat) : Int) := ofN_eq (by first | exact Nat.le_trans hl2_sN (by decide) | omega)
                  have rb646 := ((CInv_RB hCI139 :) d25_cnt sN hk551 hn644).1
                  have ra647 := (CInv_RA hCI139 :) d25_cnt lN sN hk551 hn642 hn644
                  have bw648 := (CInv_G200 hCI139 :) d25_cnt
                  refine pw_nne hn608 ?_
                  refine pw_b3 (fun c150_G203 c150_V0 c150_V1 hc150 => ?_)
                  have hq150 := wp_at (ok_X10_copy κ139_548 wd c139_G c139_P c139_U c139_V c139_X c139_O c139_kd c139_ln c139_cnt d25_cnt sp (CInv_G200 hCI139 :) (CInv_G203 hCI139 :) (CInv_P201 hCI139 :) (CInv_P202 hCI139 :) (CInv_V1 hCI139 :) (CInv_RA hCI139 :) (CInv_RB hCI139 :) (CInv_RI hCI139 :) (CInv_LN hCI139 :) hk551 hk_sp) hc150
                  obtain ⟨hg649, hg650, hRB651, f652⟩ : (rng (0) 100 c150_G203) ∧ (rng2 (0) 24 c150_V1) ∧ (RB κ139_548 c139_ln (c139_G 200) c150_G203 (c139_P 202) c150_V1) ∧ (id ((d25_cnt ≠ wd → c150_G203 wd = (c139_G 203) wd))) := hq150
                  have hq150 := pwq (fr_X10_copy la139 c139_G c139_P c139_U c139_V c139_X c139_O c139_kd c139_ln c139_cnt d25_cnt sp hB139) hc150
                  obtain ⟨q150_G203, q150_V0, q150_V1⟩ : (∀ z, (la139 z < la139 d25_cnt ∨ la139 d25_cnt < la139 z) → c150_G203 z = (c139_G 203) z) ∧ (∀ z, (la139 z < la139 d25_cnt ∨ la139 d25_cnt < la139 z) → c150_V0 z = (c139_V 0) z) ∧ (∀ z, (la139 z < la139 d25_cnt ∨ la139 d25_cnt < la139 z) → c150_V1 z = (c139_V 1) z) := hq150
                  have tz150 : ∀ z, (z < cnt ∧ (la z < la this ∨ la this + 2 < la z) ∧ (la z < la p2 ∨ la p2 + 8 < la z)) → ((la139 z < la139 d25_cnt ∨ la139 d25_cnt < la139 z)) := fun z hz => by have q1 := hag139 z hz.1; have q2 := hB.2 z hz.1; omega
                  have hfr653 : ∀ z, (z < cnt ∧ (la z < la this ∨ la this + 2 < la z) ∧ (la z < la p2 ∨ la p2 + 8 < la z)) → c150_G203 z = (G 203) z := fun z hz => (q150_G203 z (tz150 z hz)).trans ((fun (z : Nat) (hz : (z < cnt ∧ (la z < la this ∨ la this + 2 < la z) ∧ (la z < la p2 ∨ la p2 + 8 < la z))) => hF139_G 203 z hz.1 (fun _ => hz.2)) z hz)
                  have hfr654 : ∀ z, (z < cnt ∧ (la z < la this ∨ la this + 2 < la z) ∧ (la z < la p2 ∨ la p2 + 8 < la z)) → c150_V0 z = (V 0) z := fun z hz => (q150_V0 z (tz150 z hz)).trans ((fun (z : Nat) (hz : (z < cnt ∧ (la z < la this ∨ la this + 2 < la z) ∧ (la z < la p2 ∨ la p2 + 8 < la z))) => hF139_V 0 z hz.1 (fun _ => hz.2)) z hz)
                  have hfr655 : ∀ z, (z < cnt ∧ (la z < la this ∨ la this + 2 < la z) ∧ (la z < la p2 ∨ la p2 + 8 < la z)) → c150_V1 z = (V 1) z := fun z hz => (q150_V1 z (tz150 z hz)).trans ((fun (z : Nat) (hz : (z < cnt ∧ (la z < la this ∨ la this + 2 < la z) ∧ (la z < la p2 ∨ la p2 + 8 < la z))) => hF139_V 1 z hz.1 (fun _ => hz.2)) z hz)
                  have h8150_hl : (c139_P 201) d25_cnt = some (lN) := by exact e_lN
                  have h8150_hs : (c139_P 202) d25_cnt = some (sN) := by exact e_sN
                  have h8150_hw : ((c139_G 200) d25_cnt).toInt = ((24 : Nat) : Int) := by rw [w_N]; decide
                  have h8150_hlo : (c139_P 201) sp = some (lsp) := by exact hn612
                  have h8150_hso : (c139_P 202) sp = some (ssp) := by exact hn614
                  have h8150_hwo : ((c139_G 200) sp).toInt = ((24 : Nat) : Int) := by omega
                  have h8150_hws : rwW ((c139_G 203) sp) ((c139_V 0) (lsp)) ((c139_V 1) (ssp)) 24 = (FMT d Ws (Int32.toNatClampNeg y3_4) (Int32.toNatClampNeg y25_5)) := by exact hTs
                  have h8150_hcap : ((c139_G 203) sp).toInt ≤ ((c139_ln (sN) : Nat) : Int) := by have q1 : c139_G 203 sp = G126 203 sp := fG139 203 sp (by omega) (fun _ => show sp ≠ d25_cnt from by omega); rw [n_N, ← q1]; omega
                  have h8150_hne : la139 d25_cnt ≠ la139 sp := by omega
                  have hx150 := pwq (fn_X10_copy κ139_548 wd la139 c139_G c139_P c139_U c139_V c139_X c139_O c139_kd c139_ln c139_cnt d25_cnt sp (lN) (sN) (lsp) (ssp) (FMT d Ws (Int32.toNatClampNeg y3_4) (Int32.toNatClampNeg y25_5)) (CInv_G200 hCI139 :) (CInv_G203 hCI139 :) (CInv_P201 hCI139 :) (CInv_P202 hCI139 :) (CInv_V1 hCI139 :) (CInv_RA hCI139 :) (CInv_RB hCI139 :) (CInv_RI hCI139 :) (CInv_LN hCI139 :) hk551 hk_sp hB139 lt603 lt_sp609 h8150_hl h8150_hs h8150_hw h8150_hlo h8150_hso h8150_hwo h8150_hws h8150_hcap h8150_hne) hc150
                  have p150_0 : rwW (c150_G203 d25_cnt) (c150_V0 (lN)) (c150_V1 (sN)) 24 = (FMT d Ws (Int32.toNatClampNeg y3_4) (Int32.toNatClampNeg y25_5)) := hx150
                  clear hx150
                  clear h8150_hl h8150_hs h8150_hw h8150_hlo h8150_hso h8150_hwo h8150_hws h8150_hcap h8150_hne
                  have hFL656 : FL wd c150_G203 (c139_V 3) := by exact FL_eq (CInv_FL hCI139 :) (f652 (hw_d25_cnt rfl))
                  have gzC := (f652 (hw_d25_cnt rfl)).trans gzI0
                  refine pw_nne hn606 ?_
                  have f657 : (y3_4 * 100).toInt = y3_4.toInt * 100 := z_mulc (by decide +kernel) (by omega) (by omega)
                  have f658 : ((y3_4 * 100) + y25_5).toInt = (y3_4 * 100).toInt + y25_5.toInt := z_add (by omega) (by omega)
                  refine pw_if (fun hb167 => ?_)
                  obtain ⟨hbl167, hbr167⟩ := hb167
                  refine pw_vl (fun m167 em167 => ?_)
                  have hfr659 : ∀ z, (z < cnt ∧ (la z < la this ∨ la this + 2 < la z) ∧ (la z < la p2 ∨ la p2 + 8 < la z)) → m167 z = (O 1) z := fr_up (e0 := (O 1)) (fun (z : Nat) (hz : (z < cnt ∧ (la z < la this ∨ la this + 2 < la z) ∧ (la z < la p2 ∨ la p2 + 8 < la z))) => hF139_O 1 z hz.1 (fun _ => hz.2)) em167 (show ¬ (fa < cnt ∧ (la fa < la this ∨ la this + 2 < la fa) ∧ (la fa < la p2 ∨ la p2 + 8 < la fa)) from fun hz => by have q1 := hag139 fa hz.1; omega)
                  have ho660 : OB κ139_548 11 m167 := by rw [em167]; exact OB_up (CInv_O1 hCI139 :) hk551
                  have f661 : (y25_5 + 1).toInt = y25_5.toInt + (1) := z_addc (by decide +kernel) (by omega) (by omega)
                  have iv25_0 : (x23.toInt ≤ (y25_5 + 1).toInt ∧ (y25_5 + 1).toInt ≤ ((G 203) wd).toInt) := by first | omega | exact gzC | exact hvI0
                  have iv25_1 : c150_G203 wd = (G 203) wd := by first | exact gzC | exact hvI0 | omega
                  have iv25_2 : (c139_V 3) fl = (d3_V 3) fl := by first | exact gzC | exact hvI0 | omega
                  have iv25_3 : (id (BKR (va_up c139_G 203 c150_G203) c139_P (va_up (va_up c139_V 0 c150_V0) 1 c150_V1) la139 c139_cnt D (m167 fa) (fun s => if s < Int32.toNatClampNeg y3_4 then Int32.toNatClampNeg ((G 203) wd) else if s = Int32.toNatClampNeg y3_4 then Int32.toNatClampNeg (y25_5 + 1) else Int32.toNatClampNeg ((V 3) fl s)) (FMT d Ws))) := by have k6 := clampI (x := y25_5 + 1) (by omega); have kix := clampI (x := (y3_4 * 100) + y25_5) (by omega); have gN := (ag139 d25_cnt (by omega)).trans hL126; refine BKR_add (s0 := Int32.toNatClampNeg y3_4) (w0 := Int32.toNatClampNeg y25_5) (BKR_fr (ob := c139_O 1 fa) bk25 hB25 (fun i => congrFun ((fO139 1 fa (by omega) (fun _ => show fa ≠ d25_cnt from by omega)).trans (fO126 1 fa (by omega) (fun q => absurd q (by decide)))) i) (fun z hz => ⟨((fP139 201 z (by omega) (fun _ => show z ≠ d25_cnt from by omega)).trans (fP126 201 z (by omega) (fun q => absurd q (by decide)))), ((fP139 202 z (by omega) (fun _ => show z ≠ d25_cnt from by omega)).trans (fP126 202 z (by omega) (fun q => absurd q (by decide)))), ((fG139 200 z (by omega) (fun _ => show z ≠ d25_cnt from by omega)).trans (fG126 200 z (by omega) (fun q => absurd q (by decide))))⟩) (fun z hz hk hd => by obtain ⟨k9, hk9⟩ := hk; have b9 := hB25.2 z hz; have g9 := (ag139 z (by omega)).trans (ag126 z hz); exact ⟨((q150_G203 z (show la139 z < la139 d25_cnt ∨ la139 d25_cnt < la139 z from by omega)).trans (((fG139 203 z (by omega) (fun _ => show z ≠ d25_cnt from by omega)).trans (fG126 203 z (by omega) (fun q => absurd q (by decide)))).trans ((q122_G203 z (show (la25 z < la25 p2 ∨ la25 p2 + 8 < la25 z) ∧ (la25 z < la25 sp ∨ la25 sp < la25 z) from by omega)).trans (em42z z (fun q => by have q9 := congrArg la25 q; omega))))), ((q150_V0 z (show la139 z < la139 d25_cnt ∨ la139 d25_cnt < la139 z from by omega)).trans (((fV139 0 z (by omega) (fun _ => show z ≠ d25_cnt from by omega)).trans (fV126 0 z (by omega) (fun q => absurd q (by decide)))).trans (q122_V0 z (show (la25 z < la25 p2 ∨ la25 p2 + 8 < la25 z) ∧ (la25 z < la25 sp ∨ la25 sp < la25 z) from by omega)))), ((q150_V1 z (show la139 z < la139 d25_cnt ∨ la139 d25_cnt < la139 z from by omega)).trans (((fV139 1 z (by omega) (fun _ => show z ≠ d25_cnt from by omega)).trans (fV126 1 z (by omega) (fun q => absurd q (by decide)))).trans (q122_V1 z (show (la25 z < la25 p2 ∨ la25 p2 + 8 < la25 z) ∧ (la25 z < la25 sp ∨ la25 sp < la25 z) from by omega))))⟩) (by omega) (fun z hz => (ag139 z (by omega)).trans (ag126 z hz)) (fun z hz h => h)) ?_ (fun i hi => by rw [em167, va_up_self, va_up_ne _ _ (by omega)]) (fun s hs => by show (if s < Int32.toNatClampNeg y3_4 then _ else if s = Int32.toNatClampNeg y3_4 then _ else _) = (if s < Int32.toNatClampNeg y3_4 then _ else if s = Int32.toNatClampNeg y3_4 then _ else _); rw [if_neg hs, if_neg hs]) (by show (if Int32.toNatClampNeg y3_4 < Int32.toNatClampNeg y3_4 then _ else if Int32.toNatClampNeg y3_4 = Int32.toNatClampNeg y3_4 then _ else _) = _; rw [if_neg (by omega), if_pos rfl]; omega) (by show _ ≤ (if Int32.toNatClampNeg y3_4 < Int32.toNatClampNeg y3_4 then _ else if Int32.toNatClampNeg y3_4 = Int32.toNatClampNeg y3_4 then _ else _); rw [if_neg (by omega), if_pos rfl]; exact Nat.le_refl _) (fun s hs => by show (if s < Int32.toNatClampNeg y3_4 then _ else if s = Int32.toNatClampNeg y3_4 then _ else _) ≤ 100; have z9 := (CInv_V3 hI :) fl s; have z8 := clampI (x := (V 3) fl s) (by omega); by_cases q8 : s < Int32.toNatClampNeg y3_4; (rw [if_pos q8]; omega); (rw [if_neg q8]; by_cases q7 : s = Int32.toNatClampNeg y3_4; (rw [if_pos q7]; omega); (rw [if_neg q7]; omega))) (by omega); exact ⟨d25_cnt, lN, sN, by rw [em167, va_up_self, show 100 * Int32.toNatClampNeg y3_4 + Int32.toNatClampNeg y25_5 = Int32.toNatClampNeg ((y3_4 * 100) + y25_5) by omega, va_up_self], ⟨by omega, ⟨d25_cnt, gN⟩, by omega⟩, ⟨e_lN, e_sN, by show (c139_G 200 d25_cnt).toInt = _; rw [w_N]; decide⟩, p150_0⟩
                  have iv25_4 : id ((∃ nw1 nx1, (c139_P 181) p2 = some nw1 ∧ (c139_P 182) p2 = some nx1 ∧ ((nw1 = nw ∧ nx1 = nx) ∨ (nw1 = nx ∧ nx1 = nw)))) := show (∃ nw1 nx1, (c139_P 181) p2 = some nw1 ∧ (c139_P 182) p2 = some nx1 ∧ ((nw1 = nw ∧ nx1 = nx) ∨ (nw1 = nx ∧ nx1 = nw))) from by obtain ⟨nw2, nx2, b1, b2, b3⟩ := p122_1; exact ⟨nw2, nx2, ((fP139 181 p2 (by omega) (fun _ => show p2 ≠ d25_cnt from by omega)).trans (fP126 181 p2 (by omega) (fun q => absurd q (by decide)))).trans b1, ((fP139 182 p2 (by omega) (fun _ => show p2 ≠ d25_cnt from by omega)).trans (fP126 182 p2 (by omega) (fun q => absurd q (by decide)))).trans b2, sw_tr b3 hsw⟩
                  exact ih25 (y25_5 + 1) (va_up c139_G 203 c150_G203) c139_P c139_U (va_up (va_up c139_V 0 c150_V0) 1 c150_V1) c139_X (va_up c139_O 1 m167) c139_kd c139_ln c139_cnt κ139_548 la139 (CInv_i (CInv_G43 hCI139 :) (CInv_G44 hCI139 :) (CInv_G45 hCI139 :) (CInv_G60 hCI139 :) (CInv_G83 hCI139 :) (CInv_G84 hCI139 :) (CInv_G85 hCI139 :) (CInv_G87 hCI139 :) (CInv_G88 hCI139 :) (CInv_G102 hCI139 :) (CInv_G125 hCI139 :) (CInv_G126 hCI139 :) (CInv_G127 hCI139 :) (CInv_G141 hCI139 :) (CInv_G160 hCI139 :) (CInv_G161 hCI139 :) (CInv_G162 hCI139 :) (CInv_G165 hCI139 :) (CInv_G166 hCI139 :) (CInv_G183 hCI139 :) (CInv_G200 hCI139 :) hg649 (CInv_G222 hCI139 :) (CInv_G231 hCI139 :) (CInv_G233 hCI139 :) (CInv_P0 hCI139 :) (CInv_P1 hCI139 :) (CInv_P2 hCI139 :) (CInv_P3 hCI139 :) (CInv_P4 hCI139 :) (CInv_P5 hCI139 :) (CInv_P20 hCI139 :) (CInv_P21 hCI139 :) (CInv_P22 hCI139 :) (CInv_P23 hCI139 :) (CInv_P40 hCI139 :) (CInv_P41 hCI139 :) (CInv_P42 hCI139 :) (CInv_P61 hCI139 :) (CInv_P62 hCI139 :) (CInv_P63 hCI139 :) (CInv_P64 hCI139 :) (CInv_P65 hCI139 :) (CInv_P66 hCI139 :) (CInv_P82 hCI139 :) (CInv_P101 hCI139 :) (CInv_P103 hCI139 :) (CInv_P104 hCI139 :) (CInv_P105 hCI139 :) (CInv_P106 hCI139 :) (CInv_P108 hCI139 :) (CInv_P109 hCI139 :) (CInv_P110 hCI139 :) (CInv_P120 hCI139 :) (CInv_P121 hCI139 :) (CInv_P122 hCI139 :) (CInv_P123 hCI139 :) (CInv_P140 hCI139 :) (CInv_P164 hCI139 :) (CInv_P180 hCI139 :) (CInv_P181 hCI139 :) (CInv_P182 hCI139 :) (CInv_P185 hCI139 :) (CInv_P186 hCI139 :) (CInv_P187 hCI139 :) (CInv_P201 hCI139 :) (CInv_P202 hCI139 :) (CInv_P220 hCI139 :) (CInv_P221 hCI139 :) (CInv_P224 hCI139 :) (CInv_P225 hCI139 :) (CInv_P226 hCI139 :) (CInv_P227 hCI139 :) (CInv_P228 hCI139 :) (CInv_P229 hCI139 :) (CInv_P230 hCI139 :) (CInv_P232 hCI139 :) (CInv_P234 hCI139 :) (CInv_P235 hCI139 :) (CInv_P236 hCI139 :) hg650 (CInv_V2 hCI139 :) (CInv_V3 hCI139 :) (CInv_V9 hCI139 :) (CInv_O0 hCI139 :) ho660 (CInv_O2 hCI139 :) (CInv_RA hCI139 :) hRB651 (CInv_RI hCI139 :) (CInv_RM103 hCI139 :) (CInv_RM104 hCI139 :) (CInv_RM108 hCI139 :) (CInv_LN hCI139 :) hFL656 (CInv_W0 hCI139 :) (CInv_KC hCI139 :) (CInv_WK hCI139 :)) kx555 (Nat.le_trans (Nat.le_trans hcc115 ccf126) ccf139) hk556 hk558 hk559 (FRM_set hF139_G (by decide) (fun z h1 h2 => hfr653 z ⟨h1, h2⟩)) hF139_P hF139_U (FRM_set (FRM_set hF139_V (by decide) (fun z h1 h2 => hfr654 z ⟨h1, h2⟩)) (by decide) (fun z h1 h2 => hfr655 z ⟨h1, h2⟩)) hF139_X (FRM_set hF139_O (by decide) (fun z h1 h2 => hfr659 z ⟨h1, h2⟩)) hlnn139 hag139 hB139 lt_fa607 lt_fl605 lt_lsp613 lt567 lt569 lt_sp609 lt_ssp615 lt575 lt_wl620 lt_wz622 iv25_0 iv25_1 iv25_2 iv25_3 iv25_4
          exact lp25 NN x23 d3_G d3_P d3_U d3_V d3_X d3_O d3_kd d3_ln d3_cnt κ3 la3 (CInv_i (CInv_G43 hCI3 :) (CInv_G44 hCI3 :) (CInv_G45 hCI3 :) (CInv_G60 hCI3 :) (CInv_G83 hCI3 :) (CInv_G84 hCI3 :) (CInv_G85 hCI3 :) (CInv_G87 hCI3 :) (CInv_G88 hCI3 :) (CInv_G102 hCI3 :) (CInv_G125 hCI3 :) (CInv_G126 hCI3 :) (CInv_G127 hCI3 :) (CInv_G141 hCI3 :) (CInv_G160 hCI3 :) (CInv_G161 hCI3 :) (CInv_G162 hCI3 :) (CInv_G165 hCI3 :) (CInv_G166 hCI3 :) (CInv_G183 hCI3 :) (CInv_G200 hCI3 :) (CInv_G203 hCI3 :) (CInv_G222 hCI3 :) (CInv_G231 hCI3 :) (CInv_G233 hCI3 :) (CInv_P0 hCI3 :) (CInv_P1 hCI3 :) (CInv_P2 hCI3 :) (CInv_P3 hCI3 :) (CInv_P4 hCI3 :) (CInv_P5 hCI3 :) (CInv_P20 hCI3 :) (CInv_P21 hCI3 :) (CInv_P22 hCI3 :) (CInv_P23 hCI3 :) (CInv_P40 hCI3 :) (CInv_P41 hCI3 :) (CInv_P42 hCI3 :) (CInv_P61 hCI3 :) (CInv_P62 hCI3 :) (CInv_P63 hCI3 :) (CInv_P64 hCI3 :) (CInv_P65 hCI3 :) (CInv_P66 hCI3 :) (CInv_P82 hCI3 :) (CInv_P101 hCI3 :) (CInv_P103 hCI3 :) (CInv_P104 hCI3 :) (CInv_P105 hCI3 :) (CInv_P106 hCI3 :) (CInv_P108 hCI3 :) (CInv_P109 hCI3 :) (CInv_P110 hCI3 :) (CInv_P120 hCI3 :) (CInv_P121 hCI3 :) (CInv_P122 hCI3 :) (CInv_P123 hCI3 :) (CInv_P140 hCI3 :) (CInv_P164 hCI3 :) (CInv_P180 hCI3 :) (CInv_P181 hCI3 :) (CInv_P182 hCI3 :) (CInv_P185 hCI3 :) (CInv_P186 hCI3 :) (CInv_P187 hCI3 :) (CInv_P201 hCI3 :) (CInv_P202 hCI3 :) (CInv_P220 hCI3 :) (CInv_P221 hCI3 :) (CInv_P224 hCI3 :) (CInv_P225 hCI3 :) (CInv_P226 hCI3 :) (CInv_P227 hCI3 :) (CInv_P228 hCI3 :) (CInv_P229 hCI3 :) (CInv_P230 hCI3 :) (CInv_P232 hCI3 :) (CInv_P234 hCI3 :) (CInv_P235 hCI3 :) (CInv_P236 hCI3 :) (CInv_V1 hCI3 :) (CInv_V2 hCI3 :) (CInv_V3 hCI3 :) (CInv_V9 hCI3 :) (CInv_O0 hCI3 :) (CInv_O1 hCI3 :) (CInv_O2 hCI3 :) (CInv_RA hCI3 :) (CInv_RB hCI3 :) (CInv_RI hCI3 :) (CInv_RM103 hCI3 :) (CInv_RM104 hCI3 :) (CInv_RM108 hCI3 :) (CInv_LN hCI3 :) (CInv_FL hCI3 :) (CInv_W0 hCI3 :) (CInv_KC hCI3 :) (CInv_WK hCI3 :)) hx3 hcc41 hk42 hk43 hk44 hF3_G hF3_P hF3_U hF3_V hF3_X hF3_O hlnn3 hag3 hB3 lt_fa80 lt_fl78 lt_lsp86 lt48 lt49 lt_sp82 lt_ssp88 lt52 lt_wl93 lt_wz95 (show (x23.toInt ≤ x23.toInt ∧ x23.toInt ≤ ((G 203) wd).toInt) from by first | omega | rfl | assumption) (show (d3_G 203) wd = (G 203) wd from by first | rfl | assumption | omega) (show (d3_V 3) fl = (d3_V 3) fl from by first | rfl | assumption | omega) (show (id (BKR d3_G d3_P d3_V la3 d3_cnt D ((d3_O 1) fa) (fun s => if s < Int32.toNatClampNeg y3_4 then Int32.toNatClampNeg ((G 203) wd) else if s = Int32.toNatClampNeg y3_4 then Int32.toNatClampNeg x23 else Int32.toNatClampNeg ((V 3) fl s)) (FMT d Ws))) from by refine BKR_nb bk3 (fun s hs => ?_); show (if s < Int32.toNatClampNeg y3_4 then _ else if s = Int32.toNatClampNeg y3_4 then _ else _) ≤ (if s < Int32.toNatClampNeg y3_4 then _ else _); by_cases q8 : s < Int32.toNatClampNeg y3_4; (rw [if_pos q8, if_pos q8]; exact Nat.le_refl _); (rw [if_neg q8, if_neg q8]; by_cases q7 : s = Int32.toNatClampNeg y3_4; (rw [if_pos q7, ex23, vf3, q7, if_neg (Nat.lt_irrefl _)]; exact Nat.le_refl _); (rw [if_neg q7]; exact Nat.le_refl _))) (show (∃ nw1 nx1, (d3_P 181) p2 = some nw1 ∧ (d3_P 182) p2 = some nx1 ∧ ((nw1 = nw ∧ nx1 = nx) ∨ (nw1 = nx ∧ nx1 = nw))) from by exact sw3)
  exact lp3 NN (0 : Int32) G P U V X O kd ln cnt κ la (CInv_i (CInv_G43 hI :) (CInv_G44 hI :) (CInv_G45 hI :) (CInv_G60 hI :) (CInv_G83 hI :) (CInv_G84 hI :) (CInv_G85 hI :) (CInv_G87 hI :) (CInv_G88 hI :) (CInv_G102 hI :) (CInv_G125 hI :) (CInv_G126 hI :) (CInv_G127 hI :) (CInv_G141 hI :) (CInv_G160 hI :) (CInv_G161 hI :) (CInv_G162 hI :) (CInv_G165 hI :) (CInv_G166 hI :) (CInv_G183 hI :) (CInv_G200 hI :) (CInv_G203 hI :) (CInv_G222 hI :) (CInv_G231 hI :) (CInv_G233 hI :) (CInv_P0 hI :) (CInv_P1 hI :) (CInv_P2 hI :) (CInv_P3 hI :) (CInv_P4 hI :) (CInv_P5 hI :) (CInv_P20 hI :) (CInv_P21 hI :) (CInv_P22 hI :) (CInv_P23 hI :) (CInv_P40 hI :) (CInv_P41 hI :) (CInv_P42 hI :) (CInv_P61 hI :) (CInv_P62 hI :) (CInv_P63 hI :) (CInv_P64 hI :) (CInv_P65 hI :) (CInv_P66 hI :) (CInv_P82 hI :) (CInv_P101 hI :) (CInv_P103 hI :) (CInv_P104 hI :) (CInv_P105 hI :) (CInv_P106 hI :) (CInv_P108 hI :) (CInv_P109 hI :) (CInv_P110 hI :) (CInv_P120 hI :) (CInv_P121 hI :) (CInv_P122 hI :) (CInv_P123 hI :) (CInv_P140 hI :) (CInv_P164 hI :) (CInv_P180 hI :) (CInv_P181 hI :) (CInv_P182 hI :) (CInv_P185 hI :) (CInv_P186 hI :) (CInv_P187 hI :) (CInv_P201 hI :) (CInv_P202 hI :) (CInv_P220 hI :) (CInv_P221 hI :) (CInv_P224 hI :) (CInv_P225 hI :) (CInv_P226 hI :) (CInv_P227 hI :) (CInv_P228 hI :) (CInv_P229 hI :) (CInv_P230 hI :) (CInv_P232 hI :) (CInv_P234 hI :) (CInv_P235 hI :) (CInv_P236 hI :) (CInv_V1 hI :) (CInv_V2 hI :) (CInv_V3 hI :) (CInv_V9 hI :) (CInv_O0 hI :) (CInv_O1 hI :) (CInv_O2 hI :) (CInv_RA hI :) (CInv_RB hI :) (CInv_RI hI :) (CInv_RM103 hI :) (CInv_RM104 hI :) (CInv_RM108 hI :) (CInv_LN hI :) (CInv_FL hI :) (CInv_W0 hI :) (CInv_KC hI :) (CInv_WK hI :)) (fun _ _ => rfl) (Nat.le_refl _) hk_this hk_p1 hk_p2 FRM_refl FRM_refl FRM_refl FRM_refl FRM_refl FRM_refl (fun _ _ => rfl) (fun _ _ => rfl) hB lt_fa4 lt_fl2 lt_lsp10 hlt_p1 hlt_p2 lt_sp6 lt_ssp12 hlt_this lt_wl17 lt_wz19 (show (0 ≤ (0 : Int32).toInt ∧ (0 : Int32).toInt ≤ 7) from by first | omega | rfl) (show (G 203) wd = (G 203) wd from by first | rfl | omega) (show (0 : Int32).toInt ≤ p0.toInt + 1 from by first | omega | rfl) (show (∀ s : Nat, (V 3) fl s = (if s < Int32.toNatClampNeg (0 : Int32) then (G 203) wd else (V 3) fl s)) from by intro s; rw [show Int32.toNatClampNeg (0 : Int32) = 0 from rfl, if_neg (Nat.not_lt_zero _)]) (show (id (BKR G P V la cnt D ((O 1) fa) (fun s => if s < Int32.toNatClampNeg (0 : Int32) then Int32.toNatClampNeg ((G 203) wd) else Int32.toNatClampNeg ((V 3) fl s)) (FMT d Ws))) from by exact BKR_nb hbk (fun s hs => by show (if s < 0 then _ else _) ≤ _; rw [if_neg (Nat.not_lt_zero _)]; exact Nat.le_refl _)) (show (∃ nw1 nx1, (P 181) p2 = some nw1 ∧ (P 182) p2 = some nx1 ∧ ((nw1 = nw ∧ nx1 = nx) ∨ (nw1 = nx ∧ nx1 = nw))) from by exact ⟨nw, nx, h181, h182, Or.inl ⟨rfl, rfl⟩⟩)
