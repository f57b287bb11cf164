abbrev QC_X11_write (κ : Nat → Nat) (wd : Nat) (G : Nat → Nat → Int32) (P : Nat → Nat → Option Nat) (U : Nat → Nat → Int64) (V : Nat → Nat → Nat → Int32) (X : Nat → Nat → Nat → Int64) (O : Nat → Nat → Nat → Option Nat) (kd : Nat → Nat) (ln : Nat → Nat) (cnt : Nat) (this : Nat) (p0 : Int32) (p1 : Int32) : (Int32 × (Nat → Int32) × (Nat → Int32) × (Nat → Int32) × (Nat → Int32) × (Nat → Int32) × (Nat → Int32) × (Nat → Int32) × (Nat → Int32) × (Nat → Int32) × (Nat → Int32) × (Nat → Int32) × (Nat → Int32) × (Nat → Int32) × (Nat → Int32) × (Nat → Int32) × (Nat → Int32) × (Nat → Option Nat) × (Nat → Option Nat) × (Nat → Option Nat) × (Nat → Option Nat) × (Nat → Option Nat) × (Nat → Option Nat) × (Nat → Option Nat) × (Nat → Option Nat) × (Nat → Option Nat) × (Nat → Option Nat) × (Nat → Int64) × (Nat → Nat → Int32) × (Nat → Nat → Int32) × (Nat → Nat → Int32) × (Nat → Nat → Int32) × (Nat → Nat → Int32)) → Prop := (fun t => (rng (0) 30 (t.2.1)) ∧ (rng (0) 2500 (t.2.2.2.1)) ∧ (rng (0) 2500 (t.2.2.2.2.1)) ∧ (rng (0) 2000 (t.2.2.2.2.2.1)) ∧ (rng (0) 2000 (t.2.2.2.2.2.2.2.1)) ∧ (rng (0) 2000 (t.2.2.2.2.2.2.2.2.1)) ∧ (rng (0) 2000 (t.2.2.2.2.2.2.2.2.2.1)) ∧ (rng (0) 2000 (t.2.2.2.2.2.2.2.2.2.2.1)) ∧ (rng (0) 2000 (t.2.2.2.2.2.2.2.2.2.2.2.2.1)) ∧ (rng (0) 2000 (t.2.2.2.2.2.2.2.2.2.2.2.2.2.1)) ∧ (rng (0) 40 (t.2.2.2.2.2.2.2.2.2.2.2.2.2.2.2.1)) ∧ (rng (0) 100 (t.2.2.2.2.2.2.2.2.2.2.2.2.2.2.2.2.1)) ∧ (PB κ ln wd 4 11 0 2500 0 (t.2.2.2.2.2.2.2.2.2.2.2.2.2.2.2.2.2.1)) ∧ (PB κ ln wd 7 100 2500 2500 0 (t.2.2.2.2.2.2.2.2.2.2.2.2.2.2.2.2.2.2.1)) ∧ (PB κ ln wd 7 100 2500 2500 0 (t.2.2.2.2.2.2.2.2.2.2.2.2.2.2.2.2.2.2.2.1)) ∧ (PB κ ln wd 7 106 5 5 0 (t.2.2.2.2.2.2.2.2.2.2.2.2.2.2.2.2.2.2.2.2.1)) ∧ (PB κ ln wd 7 106 5 5 0 (t.2.2.2.2.2.2.2.2.2.2.2.2.2.2.2.2.2.2.2.2.2.1)) ∧ (PB κ ln wd 9 100 0 2000 0 (t.2.2.2.2.2.2.2.2.2.2.2.2.2.2.2.2.2.2.2.2.2.2.1)) ∧ (PB κ ln wd 10 100 40 40 0 (t.2.2.2.2.2.2.2.2.2.2.2.2.2.2.2.2.2.2.2.2.2.2.2.1)) ∧ (PB κ ln wd 10 100 40 40 0 (t.2.2.2.2.2.2.2.2.2.2.2.2.2.2.2.2.2.2.2.2.2.2.2.2.1)) ∧ (PB κ ln wd 10 11 0 2500 1 (t.2.2.2.2.2.2.2.2.2.2.2.2.2.2.2.2.2.2.2.2.2.2.2.2.2.1)) ∧ (PB κ ln wd 10 11 0 2500 1 (t.2.2.2.2.2.2.2.2.2.2.2.2.2.2.2.2.2.2.2.2.2.2.2.2.2.2.1)) ∧ (rng2 (0) 24 (t.2.2.2.2.2.2.2.2.2.2.2.2.2.2.2.2.2.2.2.2.2.2.2.2.2.2.2.2.2.1)) ∧ (rng2 (0) 24 (t.2.2.2.2.2.2.2.2.2.2.2.2.2.2.2.2.2.2.2.2.2.2.2.2.2.2.2.2.2.2.1)) ∧ (RB κ ln (G 200) (t.2.2.2.2.2.2.2.2.2.2.2.2.2.2.2.2.1) (P 202) (t.2.2.2.2.2.2.2.2.2.2.2.2.2.2.2.2.2.2.2.2.2.2.2.2.2.2.2.2.2.1)) ∧ (FL wd (t.2.2.2.2.2.2.2.2.2.2.2.2.2.2.2.2.1) (V 3)) ∧ ((∀ tp, (P 220) this = some tp → ((t.2.2.2.2.2.2.2.1) tp).toInt = 0)))
set_option maxHeartbeats 4000000 in
set_option maxRecDepth 100000 in
theorem ok_X11_write (κ : Nat → Nat) (wd : Nat) (G : Nat → Nat → Int32) (P : Nat → Nat → Option Nat) (U : Nat → Nat → Int64) (V : Nat → Nat → Nat → Int32) (X : Nat → Nat → Nat → Int64) (O : Nat → Nat → Nat → Option Nat) (kd : Nat → Nat) (ln : Nat → Nat) (cnt : Nat) (this : Nat) (p0 : Int32) (p1 : Int32) (hzG60 : rng (0) 30 (G 60)) (hzG102 : rng (0) 40 (G 102)) (hzG125 : rng (0) 2500 (G 125)) (hzG126 : rng (0) 2500 (G 126)) (hzG127 : rng (0) 2000 (G 127)) (hzG141 : rng (0) 2000 (G 141)) (hzG160 : rng (0) 2000 (G 160)) (hzG161 : rng (0) 2000 (G 161)) (hzG162 : rng (0) 2000 (G 162)) (hzG165 : rng (0) 2000 (G 165)) (hzG166 : rng (0) 2000 (G 166)) (hzG183 : rng (0) 40 (G 183)) (hzG200 : rng (0) 24 (G 200)) (hzG203 : rng (0) 100 (G 203)) (hzG222 : rng (0) 6 (G 222)) (hzP20 : PB κ ln wd 2 100 0 16 0 (P 20)) (hzP21 : PB κ ln wd 2 100 0 16 0 (P 21)) (hzP22 : PB κ ln wd 2 100 0 16 0 (P 22)) (hzP23 : PB κ ln wd 2 100 0 16 0 (P 23)) (hzP61 : PB κ ln wd 4 102 30 30 0 (P 61)) (hzP62 : PB κ ln wd 4 100 720 720 0 (P 62)) (hzP63 : PB κ ln wd 4 100 408 408 0 (P 63)) (hzP64 : PB κ ln wd 4 112 25 25 0 (P 64)) (hzP65 : PB κ ln wd 4 100 24 24 0 (P 65)) (hzP66 : PB κ ln wd 4 11 0 2500 0 (P 66)) (hzP101 : PB κ ln wd 6 300 40 40 0 (P 101)) (hzP103 : PB κ ln wd 6 11 0 2500 1 (P 103)) (hzP104 : PB κ ln wd 6 11 0 2500 1 (P 104)) (hzP105 : PB κ ln wd 6 11 0 2500 1 (P 105)) (hzP106 : PB κ ln wd 6 110 40 40 0 (P 106)) (hzP108 : PB κ ln wd 6 11 0 2500 1 (P 108)) (hzP109 : PB κ ln wd 6 111 40 40 0 (P 109)) (hzP110 : PB κ ln wd 6 200 40 40 0 (P 110)) (hzP120 : PB κ ln wd 7 100 2500 2500 0 (P 120)) (hzP121 : PB κ ln wd 7 100 2500 2500 0 (P 121)) (hzP122 : PB κ ln wd 7 106 5 5 0 (P 122)) (hzP123 : PB κ ln wd 7 106 5 5 0 (P 123)) (hzP140 : PB κ ln wd 8 100 2000 2000 0 (P 140)) (hzP164 : PB κ ln wd 9 100 0 2000 0 (P 164)) (hzP180 : PB κ ln wd 10 4 0 2500 0 (P 180)) (hzP181 : PB κ ln wd 10 100 40 40 0 (P 181)) (hzP182 : PB κ ln wd 10 100 40 40 0 (P 182)) (hzP185 : PB κ ln wd 10 100 24 24 0 (P 185)) (hzP186 : PB κ ln wd 10 11 0 2500 1 (P 186)) (hzP187 : PB κ ln wd 10 11 0 2500 1 (P 187)) (hzP201 : PB κ ln wd 11 100 0 2400 0 (P 201)) (hzP202 : PB κ ln wd 11 101 0 100 0 (P 202)) (hzP220 : PB κ ln wd 12 8 0 2500 0 (P 220)) (hzP221 : PB κ ln wd 12 302 6 6 0 (P 221)) (hzP226 : PB κ ln wd 12 10 0 2500 0 (P 226)) (hzP234 : PB κ ln wd 12 9 0 2500 0 (P 234)) (hzP235 : PB κ ln wd 12 7 0 2500 0 (P 235)) (hzV1 : rng2 (0) 24 (V 1)) (hzV2 : rng2 (0) 24 (V 2)) (hzV3 : rng2 (0) 100 (V 3)) (hzO0 : OB κ 2 (O 0)) (hzO2 : OB κ 6 (O 2)) (hzRA : RA κ ln (G 200) (P 201) (P 202)) (hzRB : RB κ ln (G 200) (G 203) (P 202) (V 1)) (hzRI : RI (P 202)) (hzRM103 : RM ln 40 (P 103) (P 202)) (hzRM104 : RM ln 40 (P 104) (P 202)) (hzRM108 : RM ln 40 (P 108) (P 202)) (hzLN : LN κ ln) (hzFL : FL wd (G 203) (V 3)) (hk_this : κ this = 12) : wp (f_X11_write G P U V X O kd ln cnt this p0 p1) (QC_X11_write κ wd G P U V X O kd ln cnt this p0 p1) := by
  unfold f_X11_write
  have zkm2 : (-2 : Int32).toInt = -2 := by decide +kernel
  have zkm1 : (-1 : Int32).toInt = -1 := by decide +kernel
  have zk0 : (0 : Int32).toInt = 0 := by decide +kernel
  have zk24 : (24 : Int32).toInt = 24 := by decide +kernel
  have r_p0 := i32r p0
  have r_p1 := i32r p1
  obtain ⟨u1, hn_u1⟩ := PBs (hzP220 this) hk_this
  have hk_u1 := ((hzP220 this).2 u1 hn_u1).1
  have hl1_u1 := ((hzP220 this).2 u1 hn_u1).2.1
  have hl2_u1 := ((hzP220 this).2 u1 hn_u1).2.2.1
  have hw_u1 := ((hzP220 this).2 u1 hn_u1).2.2.2
  obtain ⟨u2, hn_u2⟩ := PBs (hzP234 this) hk_this
  have hk_u2 := ((hzP234 this).2 u2 hn_u2).1
  have hl1_u2 := ((hzP234 this).2 u2 hn_u2).2.1
  have hl2_u2 := ((hzP234 this).2 u2 hn_u2).2.2.1
  have hw_u2 := ((hzP234 this).2 u2 hn_u2).2.2.2
  obtain ⟨u3, hn_u3⟩ := PBs (hzP235 this) hk_this
  have hk_u3 := ((hzP235 this).2 u3 hn_u3).1
  have hl1_u3 := ((hzP235 this).2 u3 hn_u3).2.1
  have hl2_u3 := ((hzP235 this).2 u3 hn_u3).2.2.1
  have hw_u3 := ((hzP235 this).2 u3 hn_u3).2.2.2
  obtain ⟨u4, hn_u4⟩ := PBs (hzP226 this) hk_this
  have hk_u4 := ((hzP226 this).2 u4 hn_u4).1
  have hl1_u4 := ((hzP226 this).2 u4 hn_u4).2.1
  have hl2_u4 := ((hzP226 this).2 u4 hn_u4).2.2.1
  have hw_u4 := ((hzP226 this).2 u4 hn_u4).2.2.2
  obtain ⟨u5, hn_u5⟩ := PBs (hzP221 this) hk_this
  have hk_u5 := ((hzP221 this).2 u5 hn_u5).1
  have hl1_u5 := ((hzP221 this).2 u5 hn_u5).2.1
  have hl2_u5 := ((hzP221 this).2 u5 hn_u5).2.2.1
  have hw_u5 := ((hzP221 this).2 u5 hn_u5).2.2.2
  have hz_u5 : (Int32.ofNat (ln u5)).toInt = ((ln u5 : Nat) : Int) := ofN_eq (by first | exact Nat.le_trans hl2_u5 (by decide) | omega)
  refine wp_nne hn_u1 ?_
  obtain ⟨⟨r4, c4_G141⟩, hc4, hq4⟩ := ok_X7_take κ wd G P U V X O kd ln cnt u1 hzG141 hzLN hk_u1
  obtain ⟨hg6, f7, f8, f9⟩ : (rng (0) 2000 c4_G141) ∧ (r4.toInt = ((G 141) u1).toInt) ∧ ((c4_G141 u1).toInt = 0) ∧ ((0 ≤ r4.toInt ∧ r4.toInt ≤ 2000)) := hq4
  refine wp_b2 hc4 ?_
  clear hc4
  obtain ⟨r11, hc11, hq11⟩ := ok_X11_areStages κ wd (va_up G 141 c4_G141) P U V X O kd ln cnt this p0 p1 hzG222 hzLN hk_this
  have f10 : (0 ≤ r11.toInt ∧ r11.toInt ≤ 1) := hq11
  refine wp_b1 hc11 ?_
  clear hc11
  refine wp_ite (fun c14 => ?_) (fun c14 => ?_)
  · have c14 := congrArg Int32.toInt c14
    exact ⟨_, rfl, ⟨hzG60, hzG125, hzG126, hzG127, hg6, hzG160, hzG161, hzG162, hzG165, hzG166, hzG183, hzG203, hzP66, hzP120, hzP121, hzP122, hzP123, hzP164, hzP181, hzP182, hzP186, hzP187, hzV1, hzV2, hzRB, hzFL, (show (∀ tp, (P 220) this = some tp → (c4_G141 tp).toInt = 0) from by intro tp htp; obtain rfl : u1 = tp := Option.some.inj (hn_u1.symm.trans htp); omega)⟩⟩
  · have c14 := z_ne c14
    refine wp_nne hn_u1 ?_
    obtain ⟨r25, hc25, hq25⟩ := ok_X7_hasZero κ wd (va_up G 141 c4_G141) P U V X O kd ln cnt u1 r4 hzP140 hzLN hk_u1
    have f11 : (0 ≤ r25.toInt ∧ r25.toInt ≤ 1) := hq25
    refine wp_b1 hc25 ?_
    clear hc25
    refine wp_ite (fun c28 => ?_) (fun c28 => ?_)
    · have c28 := congrArg Int32.toInt c28
      refine wp_nne hn_u2 ?_
      refine wp_nne hn_u1 ?_
      refine wp_nn ((hzP140 u1).1 hk_u1) (fun a41 hn_a41 => ?_)
      have hk_a41 := ((hzP140 u1).2 a41 hn_a41).1
      have hl1_a41 := ((hzP140 u1).2 a41 hn_a41).2.1
      have hl2_a41 := ((hzP140 u1).2 a41 hn_a41).2.2.1
      have hw_a41 := ((hzP140 u1).2 a41 hn_a41).2.2.2
      have hz_a41 : (Int32.ofNat (ln a41)).toInt = ((ln a41 : Nat) : Int) := ofN_eq (by first | exact Nat.le_trans hl2_a41 (by decide) | omega)
      obtain ⟨⟨c45_G162, c45_G165, c45_G166, c45_G167, c45_P164⟩, hc45, hq45⟩ := ok_X8_begin κ wd (va_up G 141 c4_G141) P U V X O kd ln cnt u2 a41 r4 hzG162 hzG165 hzG166 hzP164 hzLN hk_u2 hk_a41 (show 0 ≤ r4.toInt from by omega) (show ((ln a41 : Nat) : Int) ≤ 2000 from by omega)
      obtain ⟨hg12, hg13, hg14, hg15, f16, f17, f18, f19, f20⟩ : (rng (0) 2000 c45_G162) ∧ (rng (0) 2000 c45_G165) ∧ (rng (0) 2000 c45_G166) ∧ (PB κ ln wd 9 100 0 2000 0 c45_P164) ∧ ((c45_G166 u2).toInt = 0) ∧ ((c45_G165 u2).toInt ≤ r4.toInt) ∧ (c45_P164 u2 = some a41) ∧ ((c45_G162 u2).toInt = 0) ∧ ((c45_G165 u2).toInt ≤ ((ln a41 : Nat) : Int)) := hq45
      refine wp_b5 hc45 ?_
      clear hc45
      have htx := f18
      have hb45 := hg13 u2
      refine wp_nne hn_u3 ?_
      obtain ⟨⟨c52_G126, c52_G127, c52_G128, c52_V6⟩, hc52, hq52⟩ := ok_X6_begin κ wd (va_up (va_up (va_up (va_up (va_up G 141 c4_G141) 162 c45_G162) 165 c45_G165) 166 c45_G166) 167 c45_G167) (va_up P 164 c45_P164) U V X O kd ln cnt u3 hzG126 hzG127 hzP123 hzLN hk_u3
      obtain ⟨hg21, hg22, f23⟩ : (rng (0) 2500 c52_G126) ∧ (rng (0) 2000 c52_G127) ∧ ((c52_G127 u3).toInt = 0) := hq52
      refine wp_b4 hc52 ?_
      clear hc52
      refine wp_jn (fun k167 => ∀ (c167_G60 : Nat → Int32) (c167_G126 : Nat → Int32) (c167_G127 : Nat → Int32) (c167_G128 : Nat → Int32) (c167_G160 : Nat → Int32) (c167_G161 : Nat → Int32) (c167_G162 : Nat → Int32) (c167_G163 : Nat → Int32) (c167_G166 : Nat → Int32) (c167_G167 : Nat → Int32) (c167_G183 : Nat → Int32) (c167_G203 : Nat → Int32) (c167_P66 : Nat → Option Nat) (c167_P181 : Nat → Option Nat) (c167_P182 : Nat → Option Nat) (c167_P186 : Nat → Option Nat) (c167_P187 : Nat → Option Nat) (c167_U184 : Nat → Int64) (c167_V0 : Nat → Nat → Int32) (c167_V1 : Nat → Nat → Int32) (c167_V2 : Nat → Nat → Int32) (c167_V6 : Nat → Nat → Int32) (c167_V12 : Nat → Nat → Int32), rng (0) 30 c167_G60 → rng (0) 2500 c167_G126 → rng (0) 2000 c167_G127 → rng (0) 2000 c167_G160 → rng (0) 2000 c167_G161 → rng (0) 2000 c167_G162 → rng (0) 2000 c167_G166 → rng (0) 40 c167_G183 → rng (0) 100 c167_G203 → PB κ ln wd 4 11 0 2500 0 c167_P66 → PB κ ln wd 10 100 40 40 0 c167_P181 → PB κ ln wd 10 100 40 40 0 c167_P182 → PB κ ln wd 10 11 0 2500 1 c167_P186 → PB κ ln wd 10 11 0 2500 1 c167_P187 → rng2 (0) 24 c167_V1 → rng2 (0) 24 c167_V2 → RB κ ln (G 200) c167_G203 (P 202) c167_V1 → FL wd c167_G203 (V 3) → (c167_G127 u3).toInt ≤ (c167_G166 u2).toInt → (c167_G166 u2).toInt ≤ (c45_G165 u2).toInt → (c167_G162 u2).toInt ≤ (c167_G166 u2).toInt → wp (k167 c167_G60 c167_G126 c167_G127 c167_G128 c167_G160 c167_G161 c167_G162 c167_G163 c167_G166 c167_G167 c167_G183 c167_G203 c167_P66 c167_P181 c167_P182 c167_P186 c167_P187 c167_U184 c167_V0 c167_V1 c167_V2 c167_V6 c167_V12) (QC_X11_write κ wd G P U V X O kd ln cnt this p0 p1)) ?_ ?_
      · intro c167_G60 c167_G126 c167_G127 c167_G128 c167_G160 c167_G161 c167_G162 c167_G163 c167_G166 c167_G167 c167_G183 c167_G203 c167_P66 c167_P181 c167_P182 c167_P186 c167_P187 c167_U184 c167_V0 c167_V1 c167_V2 c167_V6 c167_V12 hg24 hg25 hg26 hg27 hg28 hg29 hg30 hg31 hg32 hg33 hg34 hg35 hg36 hg37 hg38 hg39 hRB40 hFL41 f42 f43 f44
        show wp _ _
        refine wp_nne hn_u3 ?_
        refine wp_nne hn_u1 ?_
        refine wp_nne hn_a41 ?_
        obtain ⟨⟨r179, c179_G124, c179_G125, c179_G126, c179_G128, c179_P120, c179_P121, c179_P122, c179_P123, c179_V0⟩, hc179, hq179⟩ := ok_X6_finish κ wd (va_up (va_up (va_up (va_up (va_up (va_up (va_up (va_up (va_up (va_up (va_up (va_up (va_up (va_up G 60 c167_G60) 126 c167_G126) 127 c167_G127) 128 c167_G128) 141 c4_G141) 160 c167_G160) 161 c167_G161) 162 c167_G162) 163 c167_G163) 165 c45_G165) 166 c167_G166) 167 c167_G167) 183 c167_G183) 203 c167_G203) (va_up (va_up (va_up (va_up (va_up (va_up P 66 c167_P66) 164 c45_P164) 181 c167_P181) 182 c167_P182) 186 c167_P186) 187 c167_P187) (va_up U 184 c167_U184) (va_up (va_up (va_up (va_up (va_up V 0 c167_V0) 1 c167_V1) 2 c167_V2) 6 c167_V6) 12 c167_V12) X O kd ln cnt u3 a41 r4 hzG125 hg25 hg26 hzP120 hzP121 hzP122 hzP123 hzLN hk_u3 hk_a41 (show (c167_G127 u3).toInt ≤ r4.toInt from by omega) (show r4.toInt ≤ ((ln a41 : Nat) : Int) from by omega)
        obtain ⟨hg45, hg46, hg47, hg48, hg49, hg50⟩ : (rng (0) 2500 c179_G125) ∧ (rng (0) 2500 c179_G126) ∧ (PB κ ln wd 7 100 2500 2500 0 c179_P120) ∧ (PB κ ln wd 7 100 2500 2500 0 c179_P121) ∧ (PB κ ln wd 7 106 5 5 0 c179_P122) ∧ (PB κ ln wd 7 106 5 5 0 c179_P123) := hq179
        refine wp_b10 hc179 ?_
        clear hc179
        exact ⟨_, rfl, ⟨hg24, hg45, hg46, hg26, hg6, hg27, hg28, hg29, hg13, hg30, hg31, hg32, hg33, hg47, hg48, hg49, hg50, hg15, hg34, hg35, hg36, hg37, hg38, hg39, hRB40, hFL41, (show (∀ tp, (P 220) this = some tp → (c4_G141 tp).toInt = 0) from by intro tp htp; obtain rfl : u1 = tp := Option.some.inj (hn_u1.symm.trans htp); omega)⟩⟩
      intro k167 Jk167
      have lp58 : ∀ (n58 : Nat) (y58_4 : Int32) (d58_G60 : Nat → Int32) (d58_G126 : Nat → Int32) (d58_G127 : Nat → Int32) (d58_G128 : Nat → Int32) (d58_G160 : Nat → Int32) (d58_G161 : Nat → Int32) (d58_G162 : Nat → Int32) (d58_G163 : Nat → Int32) (d58_G166 : Nat → Int32) (d58_G167 : Nat → Int32) (d58_G183 : Nat → Int32) (d58_G203 : Nat → Int32) (d58_P66 : Nat → Option Nat) (d58_P181 : Nat → Option Nat) (d58_P182 : Nat → Option Nat) (d58_P186 : Nat → Option Nat) (d58_P187 : Nat → Option Nat) (d58_U184 : Nat → Int64) (d58_V0 : Nat → Nat → Int32) (d58_V1 : Nat → Nat → Int32) (d58_V2 : Nat → Nat → Int32) (d58_V6 : Nat → Nat → Int32) (d58_V12 : Nat → Nat → Int32), (2000 - y58_4.toInt).toNat < n58 → rng (0) 30 d58_G60 → rng (0) 2500 d58_G126 → rng (0) 2000 d58_G127 → rng (0) 2000 d58_G160 → rng (0) 2000 d58_G161 → rng (0) 2000 d58_G162 → rng (0) 2000 d58_G166 → rng (0) 40 d58_G183 → rng (0) 100 d58_G203 → PB κ ln wd 4 11 0 2500 0 d58_P66 → PB κ ln wd 10 100 40 40 0 d58_P181 → PB κ ln wd 10 100 40 40 0 d58_P182 → PB κ ln wd 10 11 0 2500 1 d58_P186 → PB κ ln wd 10 11 0 2500 1 d58_P187 → rng2 (0) 24 d58_V1 → rng2 (0) 24 d58_V2 → RB κ ln (G 200) d58_G203 (P 202) d58_V1 → FL wd d58_G203 (V 3) → 0 ≤ y58_4.toInt → (d58_G127 u3).toInt ≤ (d58_G166 u2).toInt → (d58_G166 u2).toInt ≤ (c45_G165 u2).toInt → (d58_G162 u2).toInt ≤ (d58_G166 u2).toInt → wp (L_X11_write_58 G P U V X O kd ln cnt this p0 p1 r4 c4_G141 c45_G165 c45_P164 k167 n58 y58_4 d58_G60 d58_G126 d58_G127 d58_G128 d58_G160 d58_G161 d58_G162 d58_G163 d58_G166 d58_G167 d58_G183 d58_G203 d58_P66 d58_P181 d58_P182 d58_P186 d58_P187 d58_U184 d58_V0 d58_V1 d58_V2 d58_V6 d58_V12) (QC_X11_write κ wd G P U V X O kd ln cnt this p0 p1) := by
        intro n58
        induction n58 with
        | zero => intro y58_4 d58_G60 d58_G126 d58_G127 d58_G128 d58_G160 d58_G161 d58_G162 d58_G163 d58_G166 d58_G167 d58_G183 d58_G203 d58_P66 d58_P181 d58_P182 d58_P186 d58_P187 d58_U184 d58_V0 d58_V1 d58_V2 d58_V6 d58_V12 hm; exact absurd hm (Nat.not_lt_zero _)
        | succ n58 ih58 =>
          intro y58_4 d58_G60 d58_G126 d58_G127 d58_G128 d58_G160 d58_G161 d58_G162 d58_G163 d58_G166 d58_G167 d58_G183 d58_G203 d58_P66 d58_P181 d58_P182 d58_P186 d58_P187 d58_U184 d58_V0 d58_V1 d58_V2 d58_V6 d58_V12 hm58 hg51 hg52 hg53 hg54 hg55 hg56 hg57 hg58 hg59 hg60 hg61 hg62 hg63 hg64 hg65 hg66 hRB67 hFL68 f69 f70 f71 f72
          show wp (B_X11_write_58 G P U V X O kd ln cnt this p0 p1 r4 c4_G141 c45_G165 c45_P164 k167 (L_X11_write_58 G P U V X O kd ln cnt this p0 p1 r4 c4_G141 c45_G165 c45_P164 k167 n58) y58_4 d58_G60 d58_G126 d58_G127 d58_G128 d58_G160 d58_G161 d58_G162 d58_G163 d58_G166 d58_G167 d58_G183 d58_G203 d58_P66 d58_P181 d58_P182 d58_P186 d58_P187 d58_U184 d58_V0 d58_V1 d58_V2 d58_V6 d58_V12) _
          unfold B_X11_write_58
          refine wp_ite (fun c61 => ?_) (fun c61 => ?_)
          · have c61 := (z_le _ _).mp c61
            exact Jk167 d58_G60 d58_G126 d58_G127 d58_G128 d58_G160 d58_G161 d58_G162 d58_G163 d58_G166 d58_G167 d58_G183 d58_G203 d58_P66 d58_P181 d58_P182 d58_P186 d58_P187 d58_U184 d58_V0 d58_V1 d58_V2 d58_V6 d58_V12 hg51 hg52 hg53 hg54 hg55 hg56 hg57 hg58 hg59 hg60 hg61 hg62 hg63 hg64 hg65 hg66 hRB67 hFL68 (show (d58_G127 u3).toInt ≤ (d58_G166 u2).toInt from by omega) (show (d58_G166 u2).toInt ≤ (c45_G165 u2).toInt from by omega) (show (d58_G162 u2).toInt ≤ (d58_G166 u2).toInt from by omega)
          · have c61 := z_nle c61
            refine wp_nne hn_u2 ?_
            obtain ⟨⟨r68, c68_G160, c68_G161, c68_G162, c68_G163, c68_G166, c68_G167⟩, hc68, hq68⟩ := ok_X8_next κ wd (va_up (va_up (va_up (va_up (va_up (va_up (va_up (va_up (va_up (va_up (va_up (va_up (va_up (va_up G 60 d58_G60) 126 d58_G126) 127 d58_G127) 128 d58_G128) 141 c4_G141) 160 d58_G160) 161 d58_G161) 162 d58_G162) 163 d58_G163) 165 c45_G165) 166 d58_G166) 167 d58_G167) 183 d58_G183) 203 d58_G203) (va_up (va_up (va_up (va_up (va_up (va_up P 66 d58_P66) 164 c45_P164) 181 d58_P181) 182 d58_P182) 186 d58_P186) 187 d58_P187) (va_up U 184 d58_U184) (va_up (va_up (va_up (va_up (va_up V 0 d58_V0) 1 d58_V1) 2 d58_V2) 6 d58_V6) 12 d58_V12) X O kd ln cnt u2 hg54 hg55 hg56 hg13 hg57 hg15 hzLN hk_u2 (show (∀ tx, c45_P164 u2 = some tx → (c45_G165 u2).toInt ≤ ((ln tx : Nat) : Int)) from by intro tx htx2; obtain rfl := Option.some.inj (htx.symm.trans htx2); omega) (show (d58_G166 u2).toInt ≤ (c45_G165 u2).toInt from by omega) (show (d58_G162 u2).toInt ≤ (d58_G166 u2).toInt from by omega)
            obtain ⟨hg73, hg74, hg75, hg76, f77, f78, f79, f80, f81⟩ : (rng (0) 2000 c68_G160) ∧ (rng (0) 2000 c68_G161) ∧ (rng (0) 2000 c68_G162) ∧ (rng (0) 2000 c68_G166) ∧ ((0 ≤ r68.toInt ∧ r68.toInt ≤ 1)) ∧ ((r68.toInt = 1 → (d58_G166 u2).toInt ≤ (c68_G160 u2).toInt ∧ (c68_G160 u2).toInt + (c68_G161 u2).toInt = (c68_G166 u2).toInt)) ∧ ((c68_G166 u2).toInt ≤ (c45_G165 u2).toInt) ∧ ((c68_G162 u2).toInt ≤ (c68_G166 u2).toInt) ∧ ((d58_G166 u2).toInt ≤ (c68_G166 u2).toInt) := hq68
            refine wp_b7 hc68 ?_
            clear hc68
            refine wp_ite (fun c71 => ?_) (fun c71 => ?_)
            · have c71 := congrArg Int32.toInt c71
              exact Jk167 d58_G60 d58_G126 d58_G127 d58_G128 c68_G160 c68_G161 c68_G162 c68_G163 c68_G166 c68_G167 d58_G183 d58_G203 d58_P66 d58_P181 d58_P182 d58_P186 d58_P187 d58_U184 d58_V0 d58_V1 d58_V2 d58_V6 d58_V12 hg51 hg52 hg53 hg73 hg74 hg75 hg76 hg58 hg59 hg60 hg61 hg62 hg63 hg64 hg65 hg66 hRB67 hFL68 (show (d58_G127 u3).toInt ≤ (c68_G166 u2).toInt from by omega) (show (c68_G166 u2).toInt ≤ (c45_G165 u2).toInt from by omega) (show (c68_G162 u2).toInt ≤ (c68_G166 u2).toInt from by omega)
            · have c71 := z_ne c71
              refine wp_nne hn_u2 ?_
              refine wp_jn (fun j161 => ∀ (c161_G60 : Nat → Int32) (c161_G126 : Nat → Int32) (c161_G127 : Nat → Int32) (c161_G128 : Nat → Int32) (c161_G183 : Nat → Int32) (c161_G203 : Nat → Int32) (c161_P66 : Nat → Option Nat) (c161_P181 : Nat → Option Nat) (c161_P182 : Nat → Option Nat) (c161_P186 : Nat → Option Nat) (c161_P187 : Nat → Option Nat) (c161_U184 : Nat → Int64) (c161_V0 : Nat → Nat → Int32) (c161_V1 : Nat → Nat → Int32) (c161_V2 : Nat → Nat → Int32) (c161_V6 : Nat → Nat → Int32) (c161_V12 : Nat → Nat → Int32), rng (0) 30 c161_G60 → rng (0) 2500 c161_G126 → rng (0) 2000 c161_G127 → rng (0) 40 c161_G183 → rng (0) 100 c161_G203 → PB κ ln wd 4 11 0 2500 0 c161_P66 → PB κ ln wd 10 100 40 40 0 c161_P181 → PB κ ln wd 10 100 40 40 0 c161_P182 → PB κ ln wd 10 11 0 2500 1 c161_P186 → PB κ ln wd 10 11 0 2500 1 c161_P187 → rng2 (0) 24 c161_V1 → rng2 (0) 24 c161_V2 → RB κ ln (G 200) c161_G203 (P 202) c161_V1 → FL wd c161_G203 (V 3) → (c161_G127 u3).toInt ≤ (c68_G166 u2).toInt → (c68_G166 u2).toInt ≤ (c45_G165 u2).toInt → (c68_G162 u2).toInt ≤ (c68_G166 u2).toInt → wp (j161 c161_G60 c161_G126 c161_G127 c161_G128 c161_G183 c161_G203 c161_P66 c161_P181 c161_P182 c161_P186 c161_P187 c161_U184 c161_V0 c161_V1 c161_V2 c161_V6 c161_V12) (QC_X11_write κ wd G P U V X O kd ln cnt this p0 p1)) ?_ ?_
              · intro c161_G60 c161_G126 c161_G127 c161_G128 c161_G183 c161_G203 c161_P66 c161_P181 c161_P182 c161_P186 c161_P187 c161_U184 c161_V0 c161_V1 c161_V2 c161_V6 c161_V12 hg82 hg83 hg84 hg85 hg86 hg87 hg88 hg89 hg90 hg91 hg92 hg93 hRB94 hFL95 f96 f97 f98
                show wp _ _
                have f99 : (y58_4 + 1).toInt = y58_4.toInt + (1) := z_addc (by decide +kernel) (by omega) (by omega)
                exact ih58 (y58_4 + 1) c161_G60 c161_G126 c161_G127 c161_G128 c68_G160 c68_G161 c68_G162 c68_G163 c68_G166 c68_G167 c161_G183 c161_G203 c161_P66 c161_P181 c161_P182 c161_P186 c161_P187 c161_U184 c161_V0 c161_V1 c161_V2 c161_V6 c161_V12 (show (2000 - (y58_4 + 1).toInt).toNat < n58 from by omega) hg82 hg83 hg84 hg73 hg74 hg75 hg76 hg85 hg86 hg87 hg88 hg89 hg90 hg91 hg92 hg93 hRB94 hFL95 (show 0 ≤ (y58_4 + 1).toInt from by omega) (show (c161_G127 u3).toInt ≤ (c68_G166 u2).toInt from by omega) (show (c68_G166 u2).toInt ≤ (c45_G165 u2).toInt from by omega) (show (c68_G162 u2).toInt ≤ (c68_G166 u2).toInt from by omega)
              intro j161 Jj161
              refine wp_ite (fun c81 => ?_) (fun c81 => ?_)
              · have c81 := congrArg Int32.toInt c81
                refine wp_nne hn_u2 ?_
                have b100 := hg74 u2
                refine wp_ite (fun c103 => ?_) (fun c103 => ?_)
                · have c103 := (z_le _ _).mp c103
                  refine wp_nne hn_u3 ?_
                  refine wp_nne hn_u2 ?_
                  refine wp_nne hn_u4 ?_
                  refine wp_nne hn_u5 ?_
                  refine wp_nne hn_u1 ?_
                  refine wp_nne hn_a41 ?_
                  refine wp_nne hn_u2 ?_
                  have b101 := hg73 u2
                  refine wp_nne hn_u2 ?_
                  obtain ⟨⟨r155, c155_G60, c155_G183, c155_G203, c155_P66, c155_P181, c155_P182, c155_P186, c155_P187, c155_U184, c155_V0, c155_V1, c155_V2, c155_V12⟩, hc155, hq155⟩ := ok_X9_through κ wd (va_up (va_up (va_up (va_up (va_up (va_up (va_up (va_up (va_up (va_up (va_up (va_up (va_up (va_up (va_up (va_up (va_up (va_up (va_up (va_up G 60 d58_G60) 126 d58_G126) 127 d58_G127) 128 d58_G128) 141 c4_G141) 160 d58_G160) 161 d58_G161) 162 d58_G162) 163 d58_G163) 165 c45_G165) 166 d58_G166) 167 d58_G167) 183 d58_G183) 203 d58_G203) 160 c68_G160) 161 c68_G161) 162 c68_G162) 163 c68_G163) 166 c68_G166) 167 c68_G167) (va_up (va_up (va_up (va_up (va_up (va_up P 66 d58_P66) 164 c45_P164) 181 d58_P181) 182 d58_P182) 186 d58_P186) 187 d58_P187) (va_up U 184 d58_U184) (va_up (va_up (va_up (va_up (va_up V 0 d58_V0) 1 d58_V1) 2 d58_V2) 6 d58_V6) 12 d58_V12) X O kd ln cnt u4 u5 p0 p1 a41 (c68_G160 u2) (c68_G161 u2) hg51 hzG102 hg58 hzG200 hg59 hzP20 hzP21 hzP22 hzP23 hzP61 hzP62 hzP63 hzP64 hzP65 hg60 hzP101 hzP103 hzP104 hzP105 hzP106 hzP108 hzP109 hzP110 hzP180 hg61 hg62 hzP185 hg63 hg64 hzP201 hzP202 hg65 hg66 hzO0 hzO2 hzRA hRB67 hzRI hzRM103 hzRM104 hzRM108 hzLN hk_u4 hk_u5 hk_a41
                  obtain ⟨hg103, hg104, hg105, hg106, hg107, hg108, hg109, hg110, hg111, hg112, hRB113, hk114, f115⟩ : (rng (0) 30 c155_G60) ∧ (rng (0) 40 c155_G183) ∧ (rng (0) 100 c155_G203) ∧ (PB κ ln wd 4 11 0 2500 0 c155_P66) ∧ (PB κ ln wd 10 100 40 40 0 c155_P181) ∧ (PB κ ln wd 10 100 40 40 0 c155_P182) ∧ (PB κ ln wd 10 11 0 2500 1 c155_P186) ∧ (PB κ ln wd 10 11 0 2500 1 c155_P187) ∧ (rng2 (0) 24 c155_V1) ∧ (rng2 (0) 24 c155_V2) ∧ (RB κ ln (G 200) c155_G203 (P 202) c155_V1) ∧ (κ r155 = 11) ∧ (c155_G203 wd = d58_G203 wd) := hq155
                  refine wp_b14 hc155 ?_
                  clear hc155
                  have hFL116 : FL wd c155_G203 (V 3) := by exact FL_eq hFL68 f115
                  obtain ⟨⟨c158_G126, c158_G127, c158_G128, c158_V0, c158_V6⟩, hc158, hq158⟩ := ok_X6_put κ wd (va_up (va_up (va_up (va_up (va_up (va_up (va_up (va_up (va_up (va_up (va_up (va_up (va_up (va_up (va_up (va_up (va_up (va_up (va_up (va_up (va_up (va_up (va_up G 60 d58_G60) 126 d58_G126) 127 d58_G127) 128 d58_G128) 141 c4_G141) 160 d58_G160) 161 d58_G161) 162 d58_G162) 163 d58_G163) 165 c45_G165) 166 d58_G166) 167 d58_G167) 183 d58_G183) 203 d58_G203) 160 c68_G160) 161 c68_G161) 162 c68_G162) 163 c68_G163) 166 c68_G166) 167 c68_G167) 60 c155_G60) 183 c155_G183) 203 c155_G203) (va_up (va_up (va_up (va_up (va_up (va_up (va_up (va_up (va_up (va_up (va_up P 66 d58_P66) 164 c45_P164) 181 d58_P181) 182 d58_P182) 186 d58_P186) 187 d58_P187) 66 c155_P66) 181 c155_P181) 182 c155_P182) 186 c155_P186) 187 c155_P187) (va_up (va_up U 184 d58_U184) 184 c155_U184) (va_up (va_up (va_up (va_up (va_up (va_up (va_up (va_up (va_up V 0 d58_V0) 1 d58_V1) 2 d58_V2) 6 d58_V6) 12 d58_V12) 0 c155_V0) 1 c155_V1) 2 c155_V2) 12 c155_V12) X O kd ln cnt u3 u2 r155 hg52 hg53 hg73 hg74 hzG200 hg105 hzP121 hzP123 hg15 hzP201 hzP202 hg111 hzRA hRB113 hzRI hzLN hk_u3 hk_u2 hk114 (show (d58_G127 u3).toInt ≤ (c68_G160 u2).toInt from by omega) (show (∀ tx, c45_P164 u2 = some tx → (c68_G160 u2).toInt + (c68_G161 u2).toInt ≤ ((ln tx : Nat) : Int)) from by intro tx htx2; obtain rfl := Option.some.inj (htx.symm.trans htx2); omega)
                  obtain ⟨hg117, hg118, f119⟩ : (rng (0) 2500 c158_G126) ∧ (rng (0) 2000 c158_G127) ∧ ((c158_G127 u3).toInt ≤ (c68_G160 u2).toInt + (c68_G161 u2).toInt) := hq158
                  refine wp_b5 hc158 ?_
                  clear hc158
                  exact Jj161 c155_G60 c158_G126 c158_G127 c158_G128 c155_G183 c155_G203 c155_P66 c155_P181 c155_P182 c155_P186 c155_P187 c155_U184 c158_V0 c155_V1 c155_V2 c158_V6 c155_V12 hg103 hg117 hg118 hg104 hg105 hg106 hg107 hg108 hg109 hg110 hg111 hg112 hRB113 hFL116 (show (c158_G127 u3).toInt ≤ (c68_G166 u2).toInt from by omega) (show (c68_G166 u2).toInt ≤ (c45_G165 u2).toInt from by omega) (show (c68_G162 u2).toInt ≤ (c68_G166 u2).toInt from by omega)
                · have c103 := z_nle c103
                  refine wp_nne hn_u3 ?_
                  obtain ⟨c110_V6, hc110, hq110⟩ := ok_X6_leaveLost κ wd (va_up (va_up (va_up (va_up (va_up (va_up (va_up (va_up (va_up (va_up (va_up (va_up (va_up (va_up (va_up (va_up (va_up (va_up (va_up (va_up G 60 d58_G60) 126 d58_G126) 127 d58_G127) 128 d58_G128) 141 c4_G141) 160 d58_G160) 161 d58_G161) 162 d58_G162) 163 d58_G163) 165 c45_G165) 166 d58_G166) 167 d58_G167) 183 d58_G183) 203 d58_G203) 160 c68_G160) 161 c68_G161) 162 c68_G162) 163 c68_G163) 166 c68_G166) 167 c68_G167) (va_up (va_up (va_up (va_up (va_up (va_up P 66 d58_P66) 164 c45_P164) 181 d58_P181) 182 d58_P182) 186 d58_P186) 187 d58_P187) (va_up U 184 d58_U184) (va_up (va_up (va_up (va_up (va_up V 0 d58_V0) 1 d58_V1) 2 d58_V2) 6 d58_V6) 12 d58_V12) X O kd ln cnt u3 hzP123 hzLN hk_u3
                  refine wp_b1 hc110 ?_
                  clear hc110
                  exact Jj161 d58_G60 d58_G126 d58_G127 d58_G128 d58_G183 d58_G203 d58_P66 d58_P181 d58_P182 d58_P186 d58_P187 d58_U184 d58_V0 d58_V1 d58_V2 c110_V6 d58_V12 hg51 hg52 hg53 hg58 hg59 hg60 hg61 hg62 hg63 hg64 hg65 hg66 hRB67 hFL68 (show (d58_G127 u3).toInt ≤ (c68_G166 u2).toInt from by omega) (show (c68_G166 u2).toInt ≤ (c45_G165 u2).toInt from by omega) (show (c68_G162 u2).toInt ≤ (c68_G166 u2).toInt from by omega)
              · have c81 := z_ne c81
                refine wp_nne hn_u3 ?_
                obtain ⟨c88_V6, hc88, hq88⟩ := ok_X6_leaveName κ wd (va_up (va_up (va_up (va_up (va_up (va_up (va_up (va_up (va_up (va_up (va_up (va_up (va_up (va_up (va_up (va_up (va_up (va_up (va_up (va_up G 60 d58_G60) 126 d58_G126) 127 d58_G127) 128 d58_G128) 141 c4_G141) 160 d58_G160) 161 d58_G161) 162 d58_G162) 163 d58_G163) 165 c45_G165) 166 d58_G166) 167 d58_G167) 183 d58_G183) 203 d58_G203) 160 c68_G160) 161 c68_G161) 162 c68_G162) 163 c68_G163) 166 c68_G166) 167 c68_G167) (va_up (va_up (va_up (va_up (va_up (va_up P 66 d58_P66) 164 c45_P164) 181 d58_P181) 182 d58_P182) 186 d58_P186) 187 d58_P187) (va_up U 184 d58_U184) (va_up (va_up (va_up (va_up (va_up V 0 d58_V0) 1 d58_V1) 2 d58_V2) 6 d58_V6) 12 d58_V12) X O kd ln cnt u3 hzP123 hzLN hk_u3
                refine wp_b1 hc88 ?_
                clear hc88
                exact Jj161 d58_G60 d58_G126 d58_G127 d58_G128 d58_G183 d58_G203 d58_P66 d58_P181 d58_P182 d58_P186 d58_P187 d58_U184 d58_V0 d58_V1 d58_V2 c88_V6 d58_V12 hg51 hg52 hg53 hg58 hg59 hg60 hg61 hg62 hg63 hg64 hg65 hg66 hRB67 hFL68 (show (d58_G127 u3).toInt ≤ (c68_G166 u2).toInt from by omega) (show (c68_G166 u2).toInt ≤ (c45_G165 u2).toInt from by omega) (show (c68_G162 u2).toInt ≤ (c68_G166 u2).toInt from by omega)
      exact lp58 NN (0 : Int32) (G 60) c52_G126 c52_G127 c52_G128 (G 160) (G 161) c45_G162 (G 163) c45_G166 c45_G167 (G 183) (G 203) (P 66) (P 181) (P 182) (P 186) (P 187) (U 184) (V 0) (V 1) (V 2) c52_V6 (V 12) (by have := NN_eq; omega) hzG60 hg21 hg22 hzG160 hzG161 hg12 hg14 hzG183 hzG203 hzP66 hzP181 hzP182 hzP186 hzP187 hzV1 hzV2 hzRB hzFL (show 0 ≤ (0 : Int32).toInt from by omega) (show (c52_G127 u3).toInt ≤ (c45_G166 u2).toInt from by omega) (show (c45_G166 u2).toInt ≤ (c45_G165 u2).toInt from by omega) (show (c45_G162 u2).toInt ≤ (c45_G166 u2).toInt from by omega)
    · have c28 := z_ne c28
      exact ⟨_, rfl, ⟨hzG60, hzG125, hzG126, hzG127, hg6, hzG160, hzG161, hzG162, hzG165, hzG166, hzG183, hzG203, hzP66, hzP120, hzP121, hzP122, hzP123, hzP164, hzP181, hzP182, hzP186, hzP187, hzV1, hzV2, hzRB, hzFL, (show (∀ tp, (P 220) this = some tp → (c4_G141 tp).toInt = 0) from by intro tp htp; obtain rfl : u1 = tp := Option.some.inj (hn_u1.symm.trans htp); omega)⟩⟩
