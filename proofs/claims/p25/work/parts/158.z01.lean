theorem pw_newx {β : Type} {K n : Nat} {G : Nat → Nat → Int32} {P : Nat → Nat → Option Nat} {U : Nat → Nat → Int64} {V : Nat → Nat → Nat → Int32} {X : Nat → Nat → Nat → Int64} {O : Nat → Nat → Nat → Option Nat} {kd ln : Nat → Nat} {cnt : Nat} {f : (Nat → Nat → Int32) → (Nat → Nat → Option Nat) → (Nat → Nat → Int64) → (Nat → Nat → Nat → Int32) → (Nat → Nat → Nat → Int64) → (Nat → Nat → Nat → Option Nat) → (Nat → Nat) → (Nat → Nat) → Nat → Option β} {Q : β → Prop} (h : ∀ (G1 : Nat → Nat → Int32) (P1 : Nat → Nat → Option Nat) (U1 : Nat → Nat → Int64) (V1 : Nat → Nat → Nat → Int32) (X1 : Nat → Nat → Nat → Int64) (O1 : Nat → Nat → Nat → Option Nat) (kd1 ln1 : Nat → Nat) (cnt1 : Nat), cnt1 = cnt + 1 → ln1 cnt = n → (∀ z, z < cnt → G1 200 z = G 200 z ∧ ln1 z = ln z ∧ ∀ f, P1 f z = P f z) → pw (f G1 P1 U1 V1 X1 O1 kd1 ln1 cnt1) Q) : pw (newc K n G P U V X O kd ln cnt f) Q := by
  unfold newc
  exact h _ _ _ _ _ _ _ _ _ rfl (va_up_self _ _ _) (fun z hz => ⟨va_up_ne _ _ (Nat.ne_of_lt hz), va_up_ne _ _ (Nat.ne_of_lt hz), fun f => va_up_ne _ _ (Nat.ne_of_lt hz)⟩)
set_option maxHeartbeats 4000000 in
theorem x10i {G : Nat → Nat → Int32} {P : Nat → Nat → Option Nat} {U : Nat → Nat → Int64} {V : Nat → Nat → Nat → Int32} {X : Nat → Nat → Nat → Int64} {O : Nat → Nat → Nat → Option Nat} {kd ln : Nat → Nat} {cnt : Nat} {this : Nat} {p0 p1 : Int32} (ht : this < cnt) : pw (f_X10_init G P U V X O kd ln cnt this p0 p1) (sp1 (fun t => t.2.2.2.2.2.2.2.2 = cnt + 2 ∧ t.2.1 201 this = some cnt ∧ t.2.1 202 this = some (cnt + 1) ∧ t.1 200 this = p1 ∧ t.2.2.2.2.2.2.2.1 (cnt + 1) = Int32.toNatClampNeg p0 ∧ (∀ f, f ≠ 201 → f ≠ 202 → t.2.1 f this = P f this) ∧ (∀ z, z < cnt → z ≠ this → t.1 200 z = G 200 z ∧ t.2.2.2.2.2.2.2.1 z = ln z ∧ ∀ f, t.2.1 f z = P f z))) := by
  unfold f_X10_init
  refine pw_vl (fun m6 em6 => ?_)
  refine pw_vl (fun m11 em11 => ?_)
  refine pw_if (fun _ => ?_)
  refine pw_tk ?_
  refine pw_newx (fun G18 P18 U18 V18 X18 O18 kd18 ln18 cnt18 ec18 el18 ef18 => ?_)
  refine pw_vl (fun m20 em20 => ?_)
  refine pw_if (fun _ => ?_)
  refine pw_tk ?_
  refine pw_newx (fun G25 P25 U25 V25 X25 O25 kd25 ln25 cnt25 ec25 el25 ef25 => ?_)
  refine pw_vl (fun m27 em27 => ?_)
  have l1 : this < cnt18 := by omega
  have hp : ∀ f z, z < cnt → P25 f z = (va_up P18 201 m20) f z := fun f z hz => (ef25 z (by omega)).2.2 f
  have h201 : ∀ z, (va_up P18 201 m20) 201 z = m20 z := fun z => rfl
  have hoth : ∀ f z, f ≠ 201 → (va_up P18 201 m20) f z = P18 f z := fun f z hf => by rw [va_up_ne _ _ hf]
  have hG : ∀ z, z < cnt → z ≠ this → G25 200 z = G 200 z := fun z hz hne => by
    rw [(ef25 z (by omega)).1, (ef18 z hz).1]
    show m11 z = _
    rw [em11, va_up_ne _ _ hne]
  refine pw_some ⟨by show cnt25 = cnt + 2; omega, ?_, ?_, ?_, ?_, ?_, ?_⟩
  · show P25 201 this = some cnt
    rw [hp 201 this ht, h201, em20, va_up_self]
  · show m27 this = some (cnt + 1)
    rw [em27, va_up_self, ec18]
  · show G25 200 this = p1
    rw [(ef25 this l1).1, (ef18 this ht).1]
    show m11 this = p1
    rw [em11, va_up_self]
  · show ln25 (cnt + 1) = _
    rw [← ec18]
    exact el25
  · intro f h1 h2
    show (va_up P25 202 m27) f this = P f this
    rw [va_up_ne _ _ h2, hp f this ht, hoth f this h1]
    exact (ef18 this ht).2.2 f
  · intro z hz hne
    refine ⟨hG z hz hne, ?_, fun f => ?_⟩
    · show ln25 z = ln z
      rw [(ef25 z (by omega)).2.1, (ef18 z hz).2.1]
    · show (va_up P25 202 m27) f z = P f z
      by_cases q2 : f = 202
      · subst q2
        show m27 z = _
        rw [em27, va_up_ne _ _ hne, hp 202 z hz, hoth 202 z (by decide)]
        exact (ef18 z hz).2.2 202
      · rw [va_up_ne _ _ q2, hp f z hz]
        by_cases q1 : f = 201
        · subst q1
          rw [h201, em20, va_up_ne _ _ hne]
          exact (ef18 z hz).2.2 201
        · rw [hoth f z q1]
          exact (ef18 z hz).2.2 f
set_option maxHeartbeats 4000000 in
set_option maxRecDepth 100000 in
theorem x5i {G : Nat → Nat → Int32} {P : Nat → Nat → Option Nat} {U : Nat → Nat → Int64} {V : Nat → Nat → Nat → Int32} {X : Nat → Nat → Nat → Int64} {O : Nat → Nat → Nat → Option Nat} {kd ln : Nat → Nat} {cnt : Nat} {this : Nat} (hlt : this < cnt) : pw (f_X5_init G P U V X O kd ln cnt this) (sp1 (fun t => (∃ er br pr kp lr le lb lp se sb sp, PTS (t.2.1) ((t.1) 200) (t.2.2.2.2.2.2.2.1) this er br pr kp lr le lb lp se sb sp) ∧ DRT (t.1) (t.2.1) (t.2.2.2.2.2.2.2.1) this)) := by
  unfold f_X5_init
  refine pw_vl (fun m6 em6 => ?_)
  refine pw_if (fun _ => ?_)
  refine pw_tk ?_
  refine pw_newx (fun G12 P12 U12 V12 X12 O12 kd12 ln12 cnt12 ec12 el12 ef12 => ?_)
  have l1 : this < cnt12 := by rw [ec12]; exact Nat.lt_succ_of_lt hlt
  have l2 : cnt < cnt12 := by rw [ec12]; exact Nat.lt_succ_self _
  refine pw_vl (fun m15 em15 => ?_)
  have k3 : m15 this = some cnt := by rw [em15]; exact va_up_self _ _ _
  refine pw_vl (fun m20 em20 => ?_)
  refine pw_tk ?_
  refine pw_newx (fun G24 P24 U24 V24 X24 O24 kd24 ln24 cnt24 ec24 el24 ef24 => ?_)
  have l4 : this < cnt24 := by rw [ec24]; exact Nat.lt_succ_of_lt l1
  have l5 : cnt < cnt24 := by rw [ec24]; exact Nat.lt_succ_of_lt l2
  have k6 : P24 101 this = some cnt := ((ef24 this l1).2.2 101).trans k3
  have l7 : cnt12 < cnt24 := by rw [ec24]; exact Nat.lt_succ_self _
  refine pw_bA9 (fun c32_G c32_P c32_U c32_V c32_X c32_O c32_kd c32_ln c32_cnt v1_32 v2_32 hc32 => ?_)
  obtain ⟨e32_1, e32_2, e32_3, e32_4, e32_5, e32_6, e32_7⟩ := pwq (x10i (this := cnt12) l7) hc32
  replace e32_1 : c32_cnt = cnt24 + 2 := e32_1
  replace e32_2 : c32_P 201 cnt12 = some cnt24 := e32_2
  replace e32_3 : c32_P 202 cnt12 = some (cnt24 + 1) := e32_3
  replace e32_4 : c32_G 200 cnt12 = 16 := e32_4
  replace e32_5 : c32_ln (cnt24 + 1) = 40 := e32_5.trans (by decide)
  have l8 : this < c32_cnt := by rw [e32_1]; exact Nat.lt_of_lt_of_le l4 (Nat.le_add_right _ _)
  have l9 : cnt < c32_cnt := by rw [e32_1]; exact Nat.lt_of_lt_of_le l5 (Nat.le_add_right _ _)
  have l10 : cnt12 < c32_cnt := by rw [e32_1]; exact Nat.lt_of_lt_of_le l7 (Nat.le_add_right _ _)
  have k11 : c32_P 101 this = some cnt := ((e32_7 this l4 (Nat.ne_of_lt l1)).2.2 101).trans k6
  have l12 : cnt24 < c32_cnt := by rw [e32_1]; exact Nat.lt_add_of_pos_right (by decide)
  have l13 : (cnt24 + 1) < c32_cnt := by rw [e32_1]; exact Nat.lt_succ_self _
  refine pw_vl (fun m35 em35 => ?_)
  have k14 : m35 this = some cnt12 := by rw [em35]; exact va_up_self _ _ _
  refine pw_tk ?_
  refine pw_newx (fun G39 P39 U39 V39 X39 O39 kd39 ln39 cnt39 ec39 el39 ef39 => ?_)
  have l15 : this < cnt39 := by rw [ec39]; exact Nat.lt_succ_of_lt l8
  have l16 : cnt < cnt39 := by rw [ec39]; exact Nat.lt_succ_of_lt l9
  have l17 : cnt12 < cnt39 := by rw [ec39]; exact Nat.lt_succ_of_lt l10
  have l18 : cnt24 < cnt39 := by rw [ec39]; exact Nat.lt_succ_of_lt l12
  have l19 : (cnt24 + 1) < cnt39 := by rw [ec39]; exact Nat.lt_succ_of_lt l13
  have k20 : P39 101 this = some cnt := ((ef39 this l8).2.2 101).trans k11
  have k21 : P39 201 cnt12 = some cnt24 := ((ef39 cnt12 l10).2.2 201).trans e32_2
  have k22 : P39 202 cnt12 = some (cnt24 + 1) := ((ef39 cnt12 l10).2.2 202).trans e32_3
  have k23 : P39 103 this = some cnt12 := ((ef39 this l8).2.2 103).trans k14
  have w24 : G39 200 cnt12 = 16 := (ef39 cnt12 l10).1.trans e32_4
  have n25 : ln39 (cnt24 + 1) = 40 := (ef39 (cnt24 + 1) l13).2.1.trans e32_5
  have l26 : c32_cnt < cnt39 := by rw [ec39]; exact Nat.lt_succ_self _
  refine pw_bA9 (fun c47_G c47_P c47_U c47_V c47_X c47_O c47_kd c47_ln c47_cnt v1_47 v2_47 hc47 => ?_)
  obtain ⟨e47_1, e47_2, e47_3, e47_4, e47_5, e47_6, e47_7⟩ := pwq (x10i (this := c32_cnt) l26) hc47
  replace e47_1 : c47_cnt = cnt39 + 2 := e47_1
  replace e47_2 : c47_P 201 c32_cnt = some cnt39 := e47_2
  replace e47_3 : c47_P 202 c32_cnt = some (cnt39 + 1) := e47_3
  replace e47_4 : c47_G 200 c32_cnt = 16 := e47_4
  replace e47_5 : c47_ln (cnt39 + 1) = 40 := e47_5.trans (by decide)
  have l27 : this < c47_cnt := by rw [e47_1]; exact Nat.lt_of_lt_of_le l15 (Nat.le_add_right _ _)
  have l28 : cnt < c47_cnt := by rw [e47_1]; exact Nat.lt_of_lt_of_le l16 (Nat.le_add_right _ _)
  have l29 : cnt12 < c47_cnt := by rw [e47_1]; exact Nat.lt_of_lt_of_le l17 (Nat.le_add_right _ _)
  have l30 : cnt24 < c47_cnt := by rw [e47_1]; exact Nat.lt_of_lt_of_le l18 (Nat.le_add_right _ _)
  have l31 : (cnt24 + 1) < c47_cnt := by rw [e47_1]; exact Nat.lt_of_lt_of_le l19 (Nat.le_add_right _ _)
  have l32 : c32_cnt < c47_cnt := by rw [e47_1]; exact Nat.lt_of_lt_of_le l26 (Nat.le_add_right _ _)
  have k33 : c47_P 101 this = some cnt := ((e47_7 this l15 (Nat.ne_of_lt l8)).2.2 101).trans k20
  have k34 : c47_P 201 cnt12 = some cnt24 := ((e47_7 cnt12 l17 (Nat.ne_of_lt l10)).2.2 201).trans k21
  have k35 : c47_P 202 cnt12 = some (cnt24 + 1) := ((e47_7 cnt12 l17 (Nat.ne_of_lt l10)).2.2 202).trans k22
  have k36 : c47_P 103 this = some cnt12 := ((e47_7 this l15 (Nat.ne_of_lt l8)).2.2 103).trans k23
  have w37 : c47_G 200 cnt12 = 16 := (e47_7 cnt12 l17 (Nat.ne_of_lt l10)).1.trans w24
  have n38 : c47_ln (cnt24 + 1) = 40 := (e47_7 (cnt24 + 1) l19 (Nat.ne_of_lt l13)).2.1.trans n25
  have l39 : cnt39 < c47_cnt := by rw [e47_1]; exact Nat.lt_add_of_pos_right (by decide)
  have l40 : (cnt39 + 1) < c47_cnt := by rw [e47_1]; exact Nat.lt_succ_self _
  refine pw_vl (fun m50 em50 => ?_)
  have k41 : m50 this = some c32_cnt := by rw [em50]; exact va_up_self _ _ _
  refine pw_tk ?_
  refine pw_newx (fun G54 P54 U54 V54 X54 O54 kd54 ln54 cnt54 ec54 el54 ef54 => ?_)
  have l42 : this < cnt54 := by rw [ec54]; exact Nat.lt_succ_of_lt l27
  have l43 : cnt < cnt54 := by rw [ec54]; exact Nat.lt_succ_of_lt l28
  have l44 : cnt12 < cnt54 := by rw [ec54]; exact Nat.lt_succ_of_lt l29
  have l45 : cnt24 < cnt54 := by rw [ec54]; exact Nat.lt_succ_of_lt l30
  have l46 : (cnt24 + 1) < cnt54 := by rw [ec54]; exact Nat.lt_succ_of_lt l31
  have l47 : c32_cnt < cnt54 := by rw [ec54]; exact Nat.lt_succ_of_lt l32
  have l48 : cnt39 < cnt54 := by rw [ec54]; exact Nat.lt_succ_of_lt l39
  have l49 : (cnt39 + 1) < cnt54 := by rw [ec54]; exact Nat.lt_succ_of_lt l40
  have k50 : P54 101 this = some cnt := ((ef54 this l27).2.2 101).trans k33
  have k51 : P54 201 cnt12 = some cnt24 := ((ef54 cnt12 l29).2.2 201).trans k34
  have k52 : P54 202 cnt12 = some (cnt24 + 1) := ((ef54 cnt12 l29).2.2 202).trans k35
  have k53 : P54 103 this = some cnt12 := ((ef54 this l27).2.2 103).trans k36
  have k54 : P54 201 c32_cnt = some cnt39 := ((ef54 c32_cnt l32).2.2 201).trans e47_2
  have k55 : P54 202 c32_cnt = some (cnt39 + 1) := ((ef54 c32_cnt l32).2.2 202).trans e47_3
  have k56 : P54 104 this = some c32_cnt := ((ef54 this l27).2.2 104).trans k41
  have w57 : G54 200 cnt12 = 16 := (ef54 cnt12 l29).1.trans w37
  have w58 : G54 200 c32_cnt = 16 := (ef54 c32_cnt l32).1.trans e47_4
  have n59 : ln54 (cnt24 + 1) = 40 := (ef54 (cnt24 + 1) l31).2.1.trans n38
  have n60 : ln54 (cnt39 + 1) = 40 := (ef54 (cnt39 + 1) l40).2.1.trans e47_5
  have l61 : c47_cnt < cnt54 := by rw [ec54]; exact Nat.lt_succ_self _
  refine pw_bA9 (fun c62_G c62_P c62_U c62_V c62_X c62_O c62_kd c62_ln c62_cnt v1_62 v2_62 hc62 => ?_)
  obtain ⟨e62_1, e62_2, e62_3, e62_4, e62_5, e62_6, e62_7⟩ := pwq (x10i (this := c47_cnt) l61) hc62
  replace e62_1 : c62_cnt = cnt54 + 2 := e62_1
  replace e62_2 : c62_P 201 c47_cnt = some cnt54 := e62_2
  replace e62_3 : c62_P 202 c47_cnt = some (cnt54 + 1) := e62_3
  replace e62_4 : c62_G 200 c47_cnt = 16 := e62_4
  replace e62_5 : c62_ln (cnt54 + 1) = 40 := e62_5.trans (by decide)
  have l62 : this < c62_cnt := by rw [e62_1]; exact Nat.lt_of_lt_of_le l42 (Nat.le_add_right _ _)
  have l63 : cnt < c62_cnt := by rw [e62_1]; exact Nat.lt_of_lt_of_le l43 (Nat.le_add_right _ _)
  have l64 : cnt12 < c62_cnt := by rw [e62_1]; exact Nat.lt_of_lt_of_le l44 (Nat.le_add_right _ _)
  have l65 : cnt24 < c62_cnt := by rw [e62_1]; exact Nat.lt_of_lt_of_le l45 (Nat.le_add_right _ _)
  have l66 : (cnt24 + 1) < c62_cnt := by rw [e62_1]; exact Nat.lt_of_lt_of_le l46 (Nat.le_add_right _ _)
  have l67 : c32_cnt < c62_cnt := by rw [e62_1]; exact Nat.lt_of_lt_of_le l47 (Nat.le_add_right _ _)
  have l68 : cnt39 < c62_cnt := by rw [e62_1]; exact Nat.lt_of_lt_of_le l48 (Nat.le_add_right _ _)
  have l69 : (cnt39 + 1) < c62_cnt := by rw [e62_1]; exact Nat.lt_of_lt_of_le l49 (Nat.le_add_right _ _)
  have l70 : c47_cnt < c62_cnt := by rw [e62_1]; exact Nat.lt_of_lt_of_le l61 (Nat.le_add_right _ _)
  have k71 : c62_P 101 this = some cnt := ((e62_7 this l42 (Nat.ne_of_lt l27)).2.2 101).trans k50
  have k72 : c62_P 201 cnt12 = some cnt24 := ((e62_7 cnt12 l44 (Nat.ne_of_lt l29)).2.2 201).trans k51
  have k73 : c62_P 202 cnt12 = some (cnt24 + 1) := ((e62_7 cnt12 l44 (Nat.ne_of_lt l29)).2.2 202).trans k52
  have k74 : c62_P 103 this = some cnt12 := ((e62_7 this l42 (Nat.ne_of_lt l27)).2.2 103).trans k53
  have k75 : c62_P 201 c32_cnt = some cnt39 := ((e62_7 c32_cnt l47 (Nat.ne_of_lt l32)).2.2 201).trans k54
  have k76 : c62_P 202 c32_cnt = some (cnt39 + 1) := ((e62_7 c32_cnt l47 (Nat.ne_of_lt l32)).2.2 202).trans k55
  have k77 : c62_P 104 this = some c32_cnt := ((e62_7 this l42 (Nat.ne_of_lt l27)).2.2 104).trans k56
  have w78 : c62_G 200 cnt12 = 16 := (e62_7 cnt12 l44 (Nat.ne_of_lt l29)).1.trans w57
  have w79 : c62_G 200 c32_cnt = 16 := (e62_7 c32_cnt l47 (Nat.ne_of_lt l32)).1.trans w58
  have n80 : c62_ln (cnt24 + 1) = 40 := (e62_7 (cnt24 + 1) l46 (Nat.ne_of_lt l31)).2.1.trans n59
  have n81 : c62_ln (cnt39 + 1) = 40 := (e62_7 (cnt39 + 1) l49 (Nat.ne_of_lt l40)).2.1.trans n60
  have l82 : cnt54 < c62_cnt := by rw [e62_1]; exact Nat.lt_add_of_pos_right (by decide)
  have l83 : (cnt54 + 1) < c62_cnt := by rw [e62_1]; exact Nat.lt_succ_self _
  refine pw_vl (fun m65 em65 => ?_)
  have k84 : m65 this = some c47_cnt := by rw [em65]; exact va_up_self _ _ _
  refine pw_if (fun _ => ?_)
  refine pw_tk ?_
  refine pw_newx (fun G71 P71 U71 V71 X71 O71 kd71 ln71 cnt71 ec71 el71 ef71 => ?_)
  have l85 : this < cnt71 := by rw [ec71]; exact Nat.lt_succ_of_lt l62
  have l86 : cnt < cnt71 := by rw [ec71]; exact Nat.lt_succ_of_lt l63
  have l87 : cnt12 < cnt71 := by rw [ec71]; exact Nat.lt_succ_of_lt l64
  have l88 : cnt24 < cnt71 := by rw [ec71]; exact Nat.lt_succ_of_lt l65
  have l89 : (cnt24 + 1) < cnt71 := by rw [ec71]; exact Nat.lt_succ_of_lt l66
  have l90 : c32_cnt < cnt71 := by rw [ec71]; exact Nat.lt_succ_of_lt l67
  have l91 : cnt39 < cnt71 := by rw [ec71]; exact Nat.lt_succ_of_lt l68
  have l92 : (cnt39 + 1) < cnt71 := by rw [ec71]; exact Nat.lt_succ_of_lt l69
  have l93 : c47_cnt < cnt71 := by rw [ec71]; exact Nat.lt_succ_of_lt l70
  have l94 : cnt54 < cnt71 := by rw [ec71]; exact Nat.lt_succ_of_lt l82
  have l95 : (cnt54 + 1) < cnt71 := by rw [ec71]; exact Nat.lt_succ_of_lt l83
  have k96 : P71 101 this = some cnt := ((ef71 this l62).2.2 101).trans k71
  have k97 : P71 201 cnt12 = some cnt24 := ((ef71 cnt12 l64).2.2 201).trans k72
  have k98 : P71 202 cnt12 = some (cnt24 + 1) := ((ef71 cnt12 l64).2.2 202).trans k73
  have k99 : P71 103 this = some cnt12 := ((ef71 this l62).2.2 103).trans k74
  have k100 : P71 201 c32_cnt = some cnt39 := ((ef71 c32_cnt l67).2.2 201).trans k75
  have k101 : P71 202 c32_cnt = some (cnt39 + 1) := ((ef71 c32_cnt l67).2.2 202).trans k76
  have k102 : P71 104 this = some c32_cnt := ((ef71 this l62).2.2 104).trans k77
  have k103 : P71 201 c47_cnt = some cnt54 := ((ef71 c47_cnt l70).2.2 201).trans e62_2
  have k104 : P71 202 c47_cnt = some (cnt54 + 1) := ((ef71 c47_cnt l70).2.2 202).trans e62_3
  have k105 : P71 105 this = some c47_cnt := ((ef71 this l62).2.2 105).trans k84
  have w106 : G71 200 cnt12 = 16 := (ef71 cnt12 l64).1.trans w78
  have w107 : G71 200 c32_cnt = 16 := (ef71 c32_cnt l67).1.trans w79
  have w108 : G71 200 c47_cnt = 16 := (ef71 c47_cnt l70).1.trans e62_4
  have n109 : ln71 (cnt24 + 1) = 40 := (ef71 (cnt24 + 1) l66).2.1.trans n80
  have n110 : ln71 (cnt39 + 1) = 40 := (ef71 (cnt39 + 1) l69).2.1.trans n81
  have n111 : ln71 (cnt54 + 1) = 40 := (ef71 (cnt54 + 1) l83).2.1.trans e62_5
  have l112 : c62_cnt < cnt71 := by rw [ec71]; exact Nat.lt_succ_self _
  refine pw_vl (fun m73 em73 => ?_)
  have k113 : m73 this = some c62_cnt := by rw [em73]; exact va_up_self _ _ _
  refine pw_vl (fun m78 em78 => ?_)
  refine pw_tk ?_
  refine pw_newx (fun G82 P82 U82 V82 X82 O82 kd82 ln82 cnt82 ec82 el82 ef82 => ?_)
  have l114 : this < cnt82 := by rw [ec82]; exact Nat.lt_succ_of_lt l85
  have l115 : cnt < cnt82 := by rw [ec82]; exact Nat.lt_succ_of_lt l86
  have l116 : cnt12 < cnt82 := by rw [ec82]; exact Nat.lt_succ_of_lt l87
  have l117 : cnt24 < cnt82 := by rw [ec82]; exact Nat.lt_succ_of_lt l88
  have l118 : (cnt24 + 1) < cnt82 := by rw [ec82]; exact Nat.lt_succ_of_lt l89
  have l119 : c32_cnt < cnt82 := by rw [ec82]; exact Nat.lt_succ_of_lt l90
  have l120 : cnt39 < cnt82 := by rw [ec82]; exact Nat.lt_succ_of_lt l91
  have l121 : (cnt39 + 1) < cnt82 := by rw [ec82]; exact Nat.lt_succ_of_lt l92
  have l122 : c47_cnt < cnt82 := by rw [ec82]; exact Nat.lt_succ_of_lt l93
  have l123 : cnt54 < cnt82 := by rw [ec82]; exact Nat.lt_succ_of_lt l94
  have l124 : (cnt54 + 1) < cnt82 := by rw [ec82]; exact Nat.lt_succ_of_lt l95
  have l125 : c62_cnt < cnt82 := by rw [ec82]; exact Nat.lt_succ_of_lt l112
  have k126 : P82 101 this = some cnt := ((ef82 this l85).2.2 101).trans k96
  have k127 : P82 201 cnt12 = some cnt24 := ((ef82 cnt12 l87).2.2 201).trans k97
  have k128 : P82 202 cnt12 = some (cnt24 + 1) := ((ef82 cnt12 l87).2.2 202).trans k98
  have k129 : P82 103 this = some cnt12 := ((ef82 this l85).2.2 103).trans k99
  have k130 : P82 201 c32_cnt = some cnt39 := ((ef82 c32_cnt l90).2.2 201).trans k100
  have k131 : P82 202 c32_cnt = some (cnt39 + 1) := ((ef82 c32_cnt l90).2.2 202).trans k101
  have k132 : P82 104 this = some c32_cnt := ((ef82 this l85).2.2 104).trans k102
  have k133 : P82 201 c47_cnt = some cnt54 := ((ef82 c47_cnt l93).2.2 201).trans k103
  have k134 : P82 202 c47_cnt = some (cnt54 + 1) := ((ef82 c47_cnt l93).2.2 202).trans k104
  have k135 : P82 105 this = some c47_cnt := ((ef82 this l85).2.2 105).trans k105
  have k136 : P82 106 this = some c62_cnt := ((ef82 this l85).2.2 106).trans k113
  have w137 : G82 200 cnt12 = 16 := (ef82 cnt12 l87).1.trans w106
  have w138 : G82 200 c32_cnt = 16 := (ef82 c32_cnt l90).1.trans w107
  have w139 : G82 200 c47_cnt = 16 := (ef82 c47_cnt l93).1.trans w108
  have n140 : ln82 (cnt24 + 1) = 40 := (ef82 (cnt24 + 1) l89).2.1.trans n109
  have n141 : ln82 (cnt39 + 1) = 40 := (ef82 (cnt39 + 1) l92).2.1.trans n110
  have n142 : ln82 (cnt54 + 1) = 40 := (ef82 (cnt54 + 1) l95).2.1.trans n111
  have l143 : cnt71 < cnt82 := by rw [ec82]; exact Nat.lt_succ_self _
  refine pw_bA9 (fun c90_G c90_P c90_U c90_V c90_X c90_O c90_kd c90_ln c90_cnt v1_90 v2_90 hc90 => ?_)
  obtain ⟨e90_1, e90_2, e90_3, e90_4, e90_5, e90_6, e90_7⟩ := pwq (x10i (this := cnt71) l143) hc90
  replace e90_1 : c90_cnt = cnt82 + 2 := e90_1
  replace e90_2 : c90_P 201 cnt71 = some cnt82 := e90_2
  replace e90_3 : c90_P 202 cnt71 = some (cnt82 + 1) := e90_3
  replace e90_4 : c90_G 200 cnt71 = 24 := e90_4
  replace e90_5 : c90_ln (cnt82 + 1) = 40 := e90_5.trans (by decide)
  have l144 : this < c90_cnt := by rw [e90_1]; exact Nat.lt_of_lt_of_le l114 (Nat.le_add_right _ _)
  have l145 : cnt < c90_cnt := by rw [e90_1]; exact Nat.lt_of_lt_of_le l115 (Nat.le_add_right _ _)
  have l146 : cnt12 < c90_cnt := by rw [e90_1]; exact Nat.lt_of_lt_of_le l116 (Nat.le_add_right _ _)
  have l147 : cnt24 < c90_cnt := by rw [e90_1]; exact Nat.lt_of_lt_of_le l117 (Nat.le_add_right _ _)
  have l148 : (cnt24 + 1) < c90_cnt := by rw [e90_1]; exact Nat.lt_of_lt_of_le l118 (Nat.le_add_right _ _)
  have l149 : c32_cnt < c90_cnt := by rw [e90_1]; exact Nat.lt_of_lt_of_le l119 (Nat.le_add_right _ _)
  have l150 : cnt39 < c90_cnt := by rw [e90_1]; exact Nat.lt_of_lt_of_le l120 (Nat.le_add_right _ _)
  have l151 : (cnt39 + 1) < c90_cnt := by rw [e90_1]; exact Nat.lt_of_lt_of_le l121 (Nat.le_add_right _ _)
  have l152 : c47_cnt < c90_cnt := by rw [e90_1]; exact Nat.lt_of_lt_of_le l122 (Nat.le_add_right _ _)
  have l153 : cnt54 < c90_cnt := by rw [e90_1]; exact Nat.lt_of_lt_of_le l123 (Nat.le_add_right _ _)
  have l154 : (cnt54 + 1) < c90_cnt := by rw [e90_1]; exact Nat.lt_of_lt_of_le l124 (Nat.le_add_right _ _)
  have l155 : c62_cnt < c90_cnt := by rw [e90_1]; exact Nat.lt_of_lt_of_le l125 (Nat.le_add_right _ _)
  have l156 : cnt71 < c90_cnt := by rw [e90_1]; exact Nat.lt_of_lt_of_le l143 (Nat.le_add_right _ _)
  have k157 : c90_P 101 this = some cnt := ((e90_7 this l114 (Nat.ne_of_lt l85)).2.2 101).trans k126
  have k158 : c90_P 201 cnt12 = some cnt24 := ((e90_7 cnt12 l116 (Nat.ne_of_lt l87)).2.2 201).trans k127
  have k159 : c90_P 202 cnt12 = some (cnt24 + 1) := ((e90_7 cnt12 l116 (Nat.ne_of_lt l87)).2.2 202).trans k128
  have k160 : c90_P 103 this = some cnt12 := ((e90_7 this l114 (Nat.ne_of_lt l85)).2.2 103).trans k129
  have k161 : c90_P 201 c32_cnt = some cnt39 := ((e90_7 c32_cnt l119 (Nat.ne_of_lt l90)).2.2 201).trans k130
  have k162 : c90_P 202 c32_cnt = some (cnt39 + 1) := ((e90_7 c32_cnt l119 (Nat.ne_of_lt l90)).2.2 202).trans k131
  have k163 : c90_P 104 this = some c32_cnt := ((e90_7 this l114 (Nat.ne_of_lt l85)).2.2 104).trans k132
  have k164 : c90_P 201 c47_cnt = some cnt54 := ((e90_7 c47_cnt l122 (Nat.ne_of_lt l93)).2.2 201).trans k133
  have k165 : c90_P 202 c47_cnt = some (cnt54 + 1) := ((e90_7 c47_cnt l122 (Nat.ne_of_lt l93)).2.2 202).trans k134
  have k166 : c90_P 105 this = some c47_cnt := ((e90_7 this l114 (Nat.ne_of_lt l85)).2.2 105).trans k135
  have k167 : c90_P 106 this = some c62_cnt := ((e90_7 this l114 (Nat.ne_of_lt l85)).2.2 106).trans k136
  have w168 : c90_G 200 cnt12 = 16 := (e90_7 cnt12 l116 (Nat.ne_of_lt l87)).1.trans w137
  have w169 : c90_G 200 c32_cnt = 16 := (e90_7 c32_cnt l119 (Nat.ne_of_lt l90)).1.trans w138
  have w170 : c90_G 200 c47_cnt = 16 := (e90_7 c47_cnt l122 (Nat.ne_of_lt l93)).1.trans w139
  have n171 : c90_ln (cnt24 + 1) = 40 := (e90_7 (cnt24 + 1) l118 (Nat.ne_of_lt l89)).2.1.trans n140
  have n172 : c90_ln (cnt39 + 1) = 40 := (e90_7 (cnt39 + 1) l121 (Nat.ne_of_lt l92)).2.1.trans n141
  have n173 : c90_ln (cnt54 + 1) = 40 := (e90_7 (cnt54 + 1) l124 (Nat.ne_of_lt l95)).2.1.trans n142
  have l174 : cnt82 < c90_cnt := by rw [e90_1]; exact Nat.lt_add_of_pos_right (by decide)
  have l175 : (cnt82 + 1) < c90_cnt := by rw [e90_1]; exact Nat.lt_succ_self _
  refine pw_vl (fun m93 em93 => ?_)
  have k176 : m93 this = some cnt71 := by rw [em93]; exact va_up_self _ _ _
  refine pw_if (fun _ => ?_)
  refine pw_tk ?_
  refine pw_newx (fun G99 P99 U99 V99 X99 O99 kd99 ln99 cnt99 ec99 el99 ef99 => ?_)
  have l177 : this < cnt99 := by rw [ec99]; exact Nat.lt_succ_of_lt l144
  have l178 : cnt < cnt99 := by rw [ec99]; exact Nat.lt_succ_of_lt l145
  have l179 : cnt12 < cnt99 := by rw [ec99]; exact Nat.lt_succ_of_lt l146
  have l180 : cnt24 < cnt99 := by rw [ec99]; exact Nat.lt_succ_of_lt l147
  have l181 : (cnt24 + 1) < cnt99 := by rw [ec99]; exact Nat.lt_succ_of_lt l148
  have l182 : c32_cnt < cnt99 := by rw [ec99]; exact Nat.lt_succ_of_lt l149
  have l183 : cnt39 < cnt99 := by rw [ec99]; exact Nat.lt_succ_of_lt l150
  have l184 : (cnt39 + 1) < cnt99 := by rw [ec99]; exact Nat.lt_succ_of_lt l151
  have l185 : c47_cnt < cnt99 := by rw [ec99]; exact Nat.lt_succ_of_lt l152
  have l186 : cnt54 < cnt99 := by rw [ec99]; exact Nat.lt_succ_of_lt l153
  have l187 : (cnt54 + 1) < cnt99 := by rw [ec99]; exact Nat.lt_succ_of_lt l154
  have l188 : c62_cnt < cnt99 := by rw [ec99]; exact Nat.lt_succ_of_lt l155
  have l189 : cnt71 < cnt99 := by rw [ec99]; exact Nat.lt_succ_of_lt l156
  have l190 : cnt82 < cnt99 := by rw [ec99]; exact Nat.lt_succ_of_lt l174
  have l191 : (cnt82 + 1) < cnt99 := by rw [ec99]; exact Nat.lt_succ_of_lt l175
  have k192 : P99 101 this = some cnt := ((ef99 this l144).2.2 101).trans k157
  have k193 : P99 201 cnt12 = some cnt24 := ((ef99 cnt12 l146).2.2 201).trans k158
  have k194 : P99 202 cnt12 = some (cnt24 + 1) := ((ef99 cnt12 l146).2.2 202).trans k159
  have k195 : P99 103 this = some cnt12 := ((ef99 this l144).2.2 103).trans k160
  have k196 : P99 201 c32_cnt = some cnt39 := ((ef99 c32_cnt l149).2.2 201).trans k161
  have k197 : P99 202 c32_cnt = some (cnt39 + 1) := ((ef99 c32_cnt l149).2.2 202).trans k162
  have k198 : P99 104 this = some c32_cnt := ((ef99 this l144).2.2 104).trans k163
  have k199 : P99 201 c47_cnt = some cnt54 := ((ef99 c47_cnt l152).2.2 201).trans k164
  have k200 : P99 202 c47_cnt = some (cnt54 + 1) := ((ef99 c47_cnt l152).2.2 202).trans k165
  have k201 : P99 105 this = some c47_cnt := ((ef99 this l144).2.2 105).trans k166
  have k202 : P99 106 this = some c62_cnt := ((ef99 this l144).2.2 106).trans k167
  have k203 : P99 201 cnt71 = some cnt82 := ((ef99 cnt71 l156).2.2 201).trans e90_2
  have k204 : P99 202 cnt71 = some (cnt82 + 1) := ((ef99 cnt71 l156).2.2 202).trans e90_3
  have k205 : P99 108 this = some cnt71 := ((ef99 this l144).2.2 108).trans k176
  have w206 : G99 200 cnt12 = 16 := (ef99 cnt12 l146).1.trans w168
  have w207 : G99 200 c32_cnt = 16 := (ef99 c32_cnt l149).1.trans w169
  have w208 : G99 200 c47_cnt = 16 := (ef99 c47_cnt l152).1.trans w170
  have w209 : G99 200 cnt71 = 24 := (ef99 cnt71 l156).1.trans e90_4
  have n210 : ln99 (cnt24 + 1) = 40 := (ef99 (cnt24 + 1) l148).2.1.trans n171
  have n211 : ln99 (cnt39 + 1) = 40 := (ef99 (cnt39 + 1) l151).2.1.trans n172
  have n212 : ln99 (cnt54 + 1) = 40 := (ef99 (cnt54 + 1) l154).2.1.trans n173
  have n213 : ln99 (cnt82 + 1) = 40 := (ef99 (cnt82 + 1) l175).2.1.trans e90_5
  have l214 : c90_cnt < cnt99 := by rw [ec99]; exact Nat.lt_succ_self _
  refine pw_vl (fun m101 em101 => ?_)
  have k215 : m101 this = some c90_cnt := by rw [em101]; exact va_up_self _ _ _
  refine pw_if (fun _ => ?_)
  refine pw_tk ?_
  refine pw_newx (fun G107 P107 U107 V107 X107 O107 kd107 ln107 cnt107 ec107 el107 ef107 => ?_)
  have l216 : this < cnt107 := by rw [ec107]; exact Nat.lt_succ_of_lt l177
  have l217 : cnt < cnt107 := by rw [ec107]; exact Nat.lt_succ_of_lt l178
  have l218 : cnt12 < cnt107 := by rw [ec107]; exact Nat.lt_succ_of_lt l179
  have l219 : cnt24 < cnt107 := by rw [ec107]; exact Nat.lt_succ_of_lt l180
  have l220 : (cnt24 + 1) < cnt107 := by rw [ec107]; exact Nat.lt_succ_of_lt l181
  have l221 : c32_cnt < cnt107 := by rw [ec107]; exact Nat.lt_succ_of_lt l182
  have l222 : cnt39 < cnt107 := by rw [ec107]; exact Nat.lt_succ_of_lt l183
  have l223 : (cnt39 + 1) < cnt107 := by rw [ec107]; exact Nat.lt_succ_of_lt l184
  have l224 : c47_cnt < cnt107 := by rw [ec107]; exact Nat.lt_succ_of_lt l185
  have l225 : cnt54 < cnt107 := by rw [ec107]; exact Nat.lt_succ_of_lt l186
  have l226 : (cnt54 + 1) < cnt107 := by rw [ec107]; exact Nat.lt_succ_of_lt l187
  have l227 : c62_cnt < cnt107 := by rw [ec107]; exact Nat.lt_succ_of_lt l188
  have l228 : cnt71 < cnt107 := by rw [ec107]; exact Nat.lt_succ_of_lt l189
  have l229 : cnt82 < cnt107 := by rw [ec107]; exact Nat.lt_succ_of_lt l190
  have l230 : (cnt82 + 1) < cnt107 := by rw [ec107]; exact Nat.lt_succ_of_lt l191
  have l231 : c90_cnt < cnt107 := by rw [ec107]; exact Nat.lt_succ_of_lt l214
  have k232 : P107 101 this = some cnt := ((ef107 this l177).2.2 101).trans k192
  have k233 : P107 201 cnt12 = some cnt24 := ((ef107 cnt12 l179).2.2 201).trans k193
  have k234 : P107 202 cnt12 = some (cnt24 + 1) := ((ef107 cnt12 l179).2.2 202).trans k194
  have k235 : P107 103 this = some cnt12 := ((ef107 this l177).2.2 103).trans k195
  have k236 : P107 201 c32_cnt = some cnt39 := ((ef107 c32_cnt l182).2.2 201).trans k196
  have k237 : P107 202 c32_cnt = some (cnt39 + 1) := ((ef107 c32_cnt l182).2.2 202).trans k197
  have k238 : P107 104 this = some c32_cnt := ((ef107 this l177).2.2 104).trans k198
  have k239 : P107 201 c47_cnt = some cnt54 := ((ef107 c47_cnt l185).2.2 201).trans k199
  have k240 : P107 202 c47_cnt = some (cnt54 + 1) := ((ef107 c47_cnt l185).2.2 202).trans k200
  have k241 : P107 105 this = some c47_cnt := ((ef107 this l177).2.2 105).trans k201
  have k242 : P107 106 this = some c62_cnt := ((ef107 this l177).2.2 106).trans k202
  have k243 : P107 201 cnt71 = some cnt82 := ((ef107 cnt71 l189).2.2 201).trans k203
  have k244 : P107 202 cnt71 = some (cnt82 + 1) := ((ef107 cnt71 l189).2.2 202).trans k204
  have k245 : P107 108 this = some cnt71 := ((ef107 this l177).2.2 108).trans k205
  have k246 : P107 109 this = some c90_cnt := ((ef107 this l177).2.2 109).trans k215
  have w247 : G107 200 cnt12 = 16 := (ef107 cnt12 l179).1.trans w206
  have w248 : G107 200 c32_cnt = 16 := (ef107 c32_cnt l182).1.trans w207
  have w249 : G107 200 c47_cnt = 16 := (ef107 c47_cnt l185).1.trans w208
  have w250 : G107 200 cnt71 = 24 := (ef107 cnt71 l189).1.trans w209
  have n251 : ln107 (cnt24 + 1) = 40 := (ef107 (cnt24 + 1) l181).2.1.trans n210
  have n252 : ln107 (cnt39 + 1) = 40 := (ef107 (cnt39 + 1) l184).2.1.trans n211
  have n253 : ln107 (cnt54 + 1) = 40 := (ef107 (cnt54 + 1) l187).2.1.trans n212
  have n254 : ln107 (cnt82 + 1) = 40 := (ef107 (cnt82 + 1) l191).2.1.trans n213
  have l255 : cnt99 < cnt107 := by rw [ec107]; exact Nat.lt_succ_self _
  refine pw_vl (fun m109 em109 => ?_)
  have k256 : m109 this = some cnt99 := by rw [em109]; exact va_up_self _ _ _
  exact pw_some ⟨⟨_, _, _, _, _, _, _, _, _, _, _, ⟨k238, k241, k235, k242, k232⟩, ⟨k236, k239, k233⟩, ⟨k237, k240, k234⟩, ⟨(congrArg Int32.toInt w248).trans (by decide), (congrArg Int32.toInt w249).trans (by decide), (congrArg Int32.toInt w247).trans (by decide)⟩, ⟨n252, n253, n251⟩⟩, _, _, _, _, ⟨k245, k246, k243, k244⟩, (congrArg Int32.toInt w250).trans (by decide), n254⟩
abbrev QF_X5_init (κ : Nat → Nat) (wd : Nat) (la : Nat → Nat) (G : Nat → Nat → Int32) (P : Nat → Nat → Option Nat) (U : Nat → Nat → Int64) (V : Nat → Nat → Nat → Int32) (X : Nat → Nat → Nat → Int64) (O : Nat → Nat → Nat → Option Nat) (kd : Nat → Nat) (ln : Nat → Nat) (cnt : Nat) (this : Nat) : ((Nat → Nat → Int32) × (Nat → Nat → Option Nat) × (Nat → Nat → Int64) × (Nat → Nat → Nat → Int32) × (Nat → Nat → Nat → Int64) × (Nat → Nat → Nat → Option Nat) × (Nat → Nat) × (Nat → Nat) × Nat) → Prop := (fun t => ∃ la1 : Nat → Nat, (∀ z, z < cnt → la1 z = la z) ∧ LB la1 (t.2.2.2.2.2.2.2.2) (t.2.1) ∧ (∃ er br pr kp lr le lb lp se sb sp, PTS (t.2.1) ((t.1) 200) (t.2.2.2.2.2.2.2.1) this er br pr kp lr le lb lp se sb sp) ∧ (DRT (t.1) (t.2.1) (t.2.2.2.2.2.2.2.1) this))
theorem fn_X5_init (κ : Nat → Nat) (wd : Nat) (la : Nat → Nat) (G : Nat → Nat → Int32) (P : Nat → Nat → Option Nat) (U : Nat → Nat → Int64) (V : Nat → Nat → Nat → Int32) (X : Nat → Nat → Nat → Int64) (O : Nat → Nat → Nat → Option Nat) (kd : Nat → Nat) (ln : Nat → Nat) (cnt : Nat) (this : Nat) (hI : CInv κ wd G P V O ln cnt) (hk_this : κ this = 0) (hlt_this : this < cnt) (hln_this : ln this ≤ 2500) (hB : LB la cnt P) : pw (f_X5_init G P U V X O kd ln cnt this) (sp1 (QF_X5_init κ wd la G P U V X O kd ln cnt this)) := by
  intro x hx
  obtain ⟨la1, h1, h2, _⟩ := fr_X5_init la G P U V X O kd ln cnt this hB hlt_this x hx
  exact ⟨la1, h1, h2, x5i hlt_this x hx⟩
