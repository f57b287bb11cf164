abbrev QF_X4_readSide (κ : Nat → Nat) (wd : Nat) (la : Nat → Nat) (G : Nat → Nat → Int32) (P : Nat → Nat → Option Nat) (U : Nat → Nat → Int64) (V : Nat → Nat → Nat → Int32) (X : Nat → Nat → Nat → Int64) (O : Nat → Nat → Nat → Option Nat) (kd : Nat → Nat) (ln : Nat → Nat) (cnt : Nat) (this : Nat) (p0 : Nat) (tx : Nat) (f : Nat → Int32) (n : Nat) (e : Nat) (l : Lw) : ((Nat → Nat → Int32) × (Nat → Nat → Option Nat) × (Nat → Nat → Int64) × (Nat → Nat → Nat → Int32) × (Nat → Nat → Nat → Int64) × (Nat → Nat → Nat → Option Nat) × (Nat → Nat) × (Nat → Nat) × Nat) → Prop := (fun t => ∃ la1 : Nat → Nat, (∀ z, z < cnt → la1 z = la z) ∧ LB la1 (t.2.2.2.2.2.2.2.2) (t.2.1) ∧ (OUTL f n e l (((t.1) 80) this) (((t.1) 81) this) (((t.1) 84) this) (fun l1 => lawC ((t.2.1) 20) ((t.2.1) 21) ((t.2.1) 22) ((t.2.1) 23) ((t.1) 24) ((t.1) 25) ((t.2.2.2.1) 0) (t.2.2.2.2.2.2.2.1) (some p0) = l1)) ∧ ((∀ z, z < cnt → ((t.2.2.2.1) 0) z = (V 0) z)) ∧ ((∀ z, z < cnt → z ≠ p0 → ((t.2.1) 22) z = (P 22) z ∧ ((t.2.1) 23) z = (P 23) z ∧ ((t.1) 24) z = (G 24) z ∧ ((t.1) 25) z = (G 25) z)))
set_option maxHeartbeats 4000000 in
set_option maxRecDepth 100000 in
theorem fn_X4_readSide (κ : Nat → Nat) (wd : Nat) (la : Nat → Nat) (G : Nat → Nat → Int32) (P : Nat → Nat → Option Nat) (U : Nat → Nat → Int64) (V : Nat → Nat → Nat → Int32) (X : Nat → Nat → Nat → Int64) (O : Nat → Nat → Nat → Option Nat) (kd : Nat → Nat) (ln : Nat → Nat) (cnt : Nat) (this : Nat) (p0 : Nat) (tx : Nat) (f : Nat → Int32) (n : Nat) (e : Nat) (l : Lw) (hI : CInv κ wd G P V O ln cnt) (hk_this : κ this = 5) (hk_p0 : κ p0 = 2) (hp0 : (∀ tx, (P 82) this = some tx → ((G 83) this).toInt ≤ ((ln tx : Nat) : Int))) (hp1 : (((G 85) this).toInt = 1 → ((G 87) this).toInt + ((G 88) this).toInt ≤ ((G 83) this).toInt)) (hp2 : ((G 84) this).toInt ≤ ((G 83) this).toInt + 1) (hB : LB la cnt P) (hlt_this : this < cnt) (hlt_p0 : p0 < cnt) (htx : (P 82) this = some tx) (hf : (V 0) tx = f) (hn : Int32.toNatClampNeg ((G 83) this) = n) (htk : TKC f n e ((G 85) this).toInt ((G 86) this).toInt ((G 87) this).toInt ((G 88) this).toInt ((G 84) this).toInt) (hl : lawC (P 20) (P 21) (P 22) (P 23) (G 24) (G 25) (V 0) ln (some p0) = l) (hk0 : ((G 80) this).toInt = 0) (hk1 : ((G 81) this).toInt = -1) (hlx : la tx = 11) (hlh : la this = 300) (hld : 100000 ≤ la p0) : pw (f_X4_readSide G P U V X O kd ln cnt this p0) (sp1 (QF_X4_readSide κ wd la G P U V X O kd ln cnt this p0 tx f n e l)) := by
  unfold f_X4_readSide
  have zk0 : (0 : Int32).toInt = 0 := by decide +kernel
  have zk1 : (1 : Int32).toInt = 1 := by decide +kernel
  have hn1 : (P 82) this = some tx := htx
  have lt_tx2 := ((hB.1 82 fl_82) this tx hn1).2.1
  have hk_tx := (((CInv_P82 hI :) this).2 tx hn1).1
  have hl1_tx := (((CInv_P82 hI :) this).2 tx hn1).2.1
  have hl2_tx := (((CInv_P82 hI :) this).2 tx hn1).2.2.1
  have hw_tx := (((CInv_P82 hI :) this).2 tx hn1).2.2.2
  have hz_tx : (Int32.ofNat (ln tx)).toInt = ((ln tx : Nat) : Int) := ofN_eq (by first | exact Nat.le_trans hl2_tx (by decide) | omega)
  have htk0 := htk
  obtain ⟨t1, t2, t3, t4, t5, t6⟩ := htk0
  have hpr3_0 : (∀ tx, (P 82) this = some tx → ((G 83) this).toInt ≤ ((ln tx : Nat) : Int)) := by assumption
  have hpr3_1 : (((G 85) this).toInt = 1 → ((G 87) this).toInt + ((G 88) this).toInt ≤ ((G 83) this).toInt) := by first | assumption | omega
  refine pw_b1 (fun r3 hc3 => ?_)
  have hq3 := wp_at (ok_X4_wordIs κ wd G P U V X O kd ln cnt this 4 (CInv_G85 hI :) (CInv_G87 hI :) (CInv_G88 hI :) (CInv_P82 hI :) (CInv_LN hI :) hk_this (by decide) hpr3_0 hpr3_1) hc3
  obtain ⟨f3, f4⟩ : ((0 ≤ r3.toInt ∧ r3.toInt ≤ 1)) ∧ ((r3.toInt = 1 → ((G 85) this).toInt = 1)) := hq3
  have h83_htx : (P 82) this = some tx := by first | assumption | omega
  have h83_hf : (V 0) tx = f := by first | assumption | omega
  have h83_htk : TKC f n e ((G 85) this).toInt ((G 86) this).toInt ((G 87) this).toInt ((G 88) this).toInt ((G 84) this).toInt := by exact htk
  have h83_hs9 : 4 < 9 := by decide
  have hx3 := pwq (fn_X4_wordIs κ wd la G P U V X O kd ln cnt this 4 (tx) (f) (n) (e) (CInv_G85 hI :) (CInv_G87 hI :) (CInv_G88 hI :) (CInv_P82 hI :) (CInv_LN hI :) hk_this (by decide) hpr3_0 hpr3_1 hB hlt_this h83_htx h83_hf h83_htk h83_hs9) hc3
  obtain ⟨p3_0, p3_1⟩ : ((r3.toInt ≠ 0 → fKey f n e (kwix 4) = true)) ∧ ((r3.toInt = 0 → fKey f n e (kwix 4) = false)) := hx3
  rw [show kwix 4 = 5 from rfl] at p3_0 p3_1
  refine pw_jE (fun j174 ej174 => ?_)
  refine pw_ite (fun c6 => ?_) (fun c6 => ?_)
  · have c6 := congrArg Int32.toInt c6
    have hpr39_0 : (∀ tx, (P 82) this = some tx → ((G 83) this).toInt ≤ ((ln tx : Nat) : Int)) := by assumption
    have hpr39_1 : (((G 85) this).toInt = 1 → ((G 87) this).toInt + ((G 88) this).toInt ≤ ((G 83) this).toInt) := by first | assumption | omega
    refine pw_b1 (fun r39 hc39 => ?_)
    have hq39 := wp_at (ok_X4_wordIs κ wd G P U V X O kd ln cnt this 5 (CInv_G85 hI :) (CInv_G87 hI :) (CInv_G88 hI :) (CInv_P82 hI :) (CInv_LN hI :) hk_this (by decide) hpr39_0 hpr39_1) hc39
    obtain ⟨f5, f6⟩ : ((0 ≤ r39.toInt ∧ r39.toInt ≤ 1)) ∧ ((r39.toInt = 1 → ((G 85) this).toInt = 1)) := hq39
    have h839_htx : (P 82) this = some tx := by first | assumption | omega
    have h839_hf : (V 0) tx = f := by first | assumption | omega
    have h839_htk : TKC f n e ((G 85) this).toInt ((G 86) this).toInt ((G 87) this).toInt ((G 88) this).toInt ((G 84) this).toInt := by exact htk
    have h839_hs9 : 5 < 9 := by decide
    have hx39 := pwq (fn_X4_wordIs κ wd la G P U V X O kd ln cnt this 5 (tx) (f) (n) (e) (CInv_G85 hI :) (CInv_G87 hI :) (CInv_G88 hI :) (CInv_P82 hI :) (CInv_LN hI :) hk_this (by decide) hpr39_0 hpr39_1 hB hlt_this h839_htx h839_hf h839_htk h839_hs9) hc39
    obtain ⟨p39_0, p39_1⟩ : ((r39.toInt ≠ 0 → fKey f n e (kwix 5) = true)) ∧ ((r39.toInt = 0 → fKey f n e (kwix 5) = false)) := hx39
    rw [show kwix 5 = 6 from rfl] at p39_0 p39_1
    refine pw_ite (fun c42 => ?_) (fun c42 => ?_)
    · have c42 := congrArg Int32.toInt c42
      have hpr75_0 : (∀ tx, (P 82) this = some tx → ((G 83) this).toInt ≤ ((ln tx : Nat) : Int)) := by assumption
      have hpr75_1 : (((G 85) this).toInt = 1 → ((G 87) this).toInt + ((G 88) this).toInt ≤ ((G 83) this).toInt) := by first | assumption | omega
      refine pw_b1 (fun r75 hc75 => ?_)
      have hq75 := wp_at (ok_X4_wordIs κ wd G P U V X O kd ln cnt this 6 (CInv_G85 hI :) (CInv_G87 hI :) (CInv_G88 hI :) (CInv_P82 hI :) (CInv_LN hI :) hk_this (by decide) hpr75_0 hpr75_1) hc75
      obtain ⟨f7, f8⟩ : ((0 ≤ r75.toInt ∧ r75.toInt ≤ 1)) ∧ ((r75.toInt = 1 → ((G 85) this).toInt = 1)) := hq75
      have h875_htx : (P 82) this = some tx := by first | assumption | omega
      have h875_hf : (V 0) tx = f := by first | assumption | omega
      have h875_htk : TKC f n e ((G 85) this).toInt ((G 86) this).toInt ((G 87) this).toInt ((G 88) this).toInt ((G 84) this).toInt := by exact htk
      have h875_hs9 : 6 < 9 := by decide
      have hx75 := pwq (fn_X4_wordIs κ wd la G P U V X O kd ln cnt this 6 (tx) (f) (n) (e) (CInv_G85 hI :) (CInv_G87 hI :) (CInv_G88 hI :) (CInv_P82 hI :) (CInv_LN hI :) hk_this (by decide) hpr75_0 hpr75_1 hB hlt_this h875_htx h875_hf h875_htk h875_hs9) hc75
      obtain ⟨p75_0, p75_1⟩ : ((r75.toInt ≠ 0 → fKey f n e (kwix 6) = true)) ∧ ((r75.toInt = 0 → fKey f n e (kwix 6) = false)) := hx75
      rw [show kwix 6 = 7 from rfl] at p75_0 p75_1
      refine pw_ite (fun c78 => ?_) (fun c78 => ?_)
      · have c78 := congrArg Int32.toInt c78
        have hpr123_0 : (∀ tx, (P 82) this = some tx → ((G 83) this).toInt ≤ ((ln tx : Nat) : Int)) := by assumption
        have hpr123_1 : (((G 85) this).toInt = 1 → ((G 87) this).toInt + ((G 88) this).toInt ≤ ((G 83) this).toInt) := by first | assumption | omega
        refine pw_b1 (fun r123 hc123 => ?_)
        have hq123 := wp_at (ok_X4_wordIs κ wd G P U V X O kd ln cnt this 7 (CInv_G85 hI :) (CInv_G87 hI :) (CInv_G88 hI :) (CInv_P82 hI :) (CInv_LN hI :) hk_this (by decide) hpr123_0 hpr123_1) hc123
        obtain ⟨f9, f10⟩ : ((0 ≤ r123.toInt ∧ r123.toInt ≤ 1)) ∧ ((r123.toInt = 1 → ((G 85) this).toInt = 1)) := hq123
        have h8123_htx : (P 82) this = some tx := by first | assumption | omega
        have h8123_hf : (V 0) tx = f := by first | assumption | omega
        have h8123_htk : TKC f n e ((G 85) this).toInt ((G 86) this).toInt ((G 87) this).toInt ((G 88) this).toInt ((G 84) this).toInt := by exact htk
        have h8123_hs9 : 7 < 9 := by decide
        have hx123 := pwq (fn_X4_wordIs κ wd la G P U V X O kd ln cnt this 7 (tx) (f) (n) (e) (CInv_G85 hI :) (CInv_G87 hI :) (CInv_G88 hI :) (CInv_P82 hI :) (CInv_LN hI :) hk_this (by decide) hpr123_0 hpr123_1 hB hlt_this h8123_htx h8123_hf h8123_htk h8123_hs9) hc123
        obtain ⟨p123_0, p123_1⟩ : ((r123.toInt ≠ 0 → fKey f n e (kwix 7) = true)) ∧ ((r123.toInt = 0 → fKey f n e (kwix 7) = false)) := hx123
        rw [show kwix 7 = 8 from rfl] at p123_0 p123_1
        refine pw_ite (fun c126 => ?_) (fun c126 => ?_)
        · have c126 := congrArg Int32.toInt c126
          refine pw_b3 (fun r170 c170_G80 c170_G81 hc170 => ?_)
          have hq170 := wp_at (ok_X4_blame κ wd G P U V X O kd ln cnt this (1 : Int32) (CInv_LN hI :) hk_this) hc170
          obtain ⟨f11, f12⟩ : ((0 ≤ r170.toInt ∧ r170.toInt ≤ 1)) ∧ (r170.toInt = 0) := hq170
          have hq170 := pwq (fr_X4_blame la G P U V X O kd ln cnt this (1 : Int32) hB) hc170
          obtain ⟨q170_G80, q170_G81⟩ : (∀ z, (la z < la this ∨ la this < la z) → c170_G80 z = (G 80) z) ∧ (∀ z, (la z < la this ∨ la this < la z) → c170_G81 z = (G 81) z) := hq170
          have tz170 : ∀ z, (z < cnt ∧ (la z < la this ∨ la this < la z) ∧ (la z < la p0 ∨ la p0 < la z)) → ((la z < la this ∨ la this < la z)) := fun z hz => by omega
          have hfr13 : ∀ z, (z < cnt ∧ (la z < la this ∨ la this < la z) ∧ (la z < la p0 ∨ la p0 < la z)) → c170_G80 z = (G 80) z := fun z hz => (q170_G80 z (tz170 z hz)).trans ((fun _ _ => rfl) z hz)
          have hfr14 : ∀ z, (z < cnt ∧ (la z < la this ∨ la this < la z) ∧ (la z < la p0 ∨ la p0 < la z)) → c170_G81 z = (G 81) z := fun z hz => (q170_G81 z (tz170 z hz)).trans ((fun _ _ => rfl) z hz)
          have hx170 := pwq (fn_X4_blame κ wd la G P U V X O kd ln cnt this (1 : Int32) (CInv_LN hI :) hk_this hB hlt_this) hc170
          obtain ⟨p170_0, p170_1, p170_2⟩ : (r170.toInt = 0) ∧ ((c170_G80 this).toInt = (1 : Int32).toInt) ∧ ((c170_G81 this).toInt = ((G 86) this).toInt) := hx170
          refine pw_j9 ej174 (fun z174_0 ez174_0 z174_1 ez174_1 z174_2 ez174_2 z174_3 ez174_3 z174_4 ez174_4 z174_5 ez174_5 z174_6 ez174_6 z174_7 ez174_7 z174_8 ez174_8 => ?_)
          subst ez174_0 ez174_1 ez174_2 ez174_3 ez174_4 ez174_5 ez174_6 ez174_7 ez174_8
          have qq0 : OUTL f n e l (c170_G80 this) (c170_G81 this) ((G 84) this) (fun l1 => lawC (P 20) (P 21) (P 22) (P 23) (G 24) (G 25) (V 0) ln (some p0) = l1) := by exact Or.inl ⟨_, Or.inr (Or.inr (Or.inr (Or.inr ⟨p3_1 (by omega), p39_1 (by omega), p75_1 (by omega), p123_1 (by omega), rfl⟩))), err_of rfl (by omega) (by omega) (by omega)⟩
          have qq1 : (∀ z, z < cnt → (V 0) z = (V 0) z) := by exact fun _ _ => rfl
          have qq2 : (∀ z, z < cnt → z ≠ p0 → (P 22) z = (P 22) z ∧ (P 23) z = (P 23) z ∧ (G 24) z = (G 24) z ∧ (G 25) z = (G 25) z) := by exact fun _ _ _ => ⟨rfl, rfl, rfl, rfl⟩
          exact pw_some ⟨la, (fun _ _ => rfl), hB, qq0, qq1, qq2⟩
        · have c126 := z_ne c126
          have hK := p123_0 (by omega)
          have hK1 := (fKey_k hK).1
          obtain ⟨v1, v2, v3⟩ := t4 (by omega)
          refine pw_nn (fun a131 hn_a131 => ?_)
          have lt_a13115 := ((hB.1 23 fl_23) p0 a131 hn_a131).2.1
          have lb_a13115 : la a131 = la p0 + 0 := lk_23.mp ((hB.1 23 fl_23) p0 a131 hn_a131).2.2
          have hk_a131 := (((CInv_P23 hI :) p0).2 a131 hn_a131).1
          have hl1_a131 := (((CInv_P23 hI :) p0).2 a131 hn_a131).2.1
          have hl2_a131 := (((CInv_P23 hI :) p0).2 a131 hn_a131).2.2.1
          have hw_a131 := (((CInv_P23 hI :) p0).2 a131 hn_a131).2.2.2
          have hz_a131 : (Int32.ofNat (ln a131)).toInt = ((ln a131 : Nat) : Int) := ofN_eq (by first | exact Nat.le_trans hl2_a131 (by decide) | omega)
          have hzb_a131 := (CInv_LN hI :) a131 (by rw [hk_a131]; decide)
          refine pw_jE (fun j143 ej143 => ?_)
          refine pw_ite (fun c135 => ?_) (fun c135 => ?_)
          · have c135 := congrArg Int32.toInt c135
            refine pw_j1 ej143 (fun t143_0 et143_0 => ?_)
            have et143_0 := et143_0.symm
            have f_t143_0 : t143_0.toInt = 1 := by rw [et143_0]; decide +kernel
            refine pw_b3 (fun r143 c143_G80 c143_G81 hc143 => ?_)
            have hq143 := wp_at (ok_X4_isNew κ wd G P U V X O kd ln cnt this t143_0 (CInv_LN hI :) hk_this) hc143
            have f16 : (0 ≤ r143.toInt ∧ r143.toInt ≤ 1) := hq143
            clear hq143
            have hq143 := pwq (fr_X4_isNew la G P U V X O kd ln cnt this t143_0 hB) hc143
            obtain ⟨q143_G80, q143_G81⟩ : (∀ z, (la z < la this ∨ la this < la z) → c143_G80 z = (G 80) z) ∧ (∀ z, (la z < la this ∨ la this < la z) → c143_G81 z = (G 81) z) := hq143
            have tz143 : ∀ z, (z < cnt ∧ (la z < la this ∨ la this < la z) ∧ (la z < la p0 ∨ la p0 < la z)) → ((la z < la this ∨ la this < la z)) := fun z hz => by omega
            have hfr17 : ∀ z, (z < cnt ∧ (la z < la this ∨ la this < la z) ∧ (la z < la p0 ∨ la p0 < la z)) → c143_G80 z = (G 80) z := fun z hz => (q143_G80 z (tz143 z hz)).trans ((fun _ _ => rfl) z hz)
            have hfr18 : ∀ z, (z < cnt ∧ (la z < la this ∨ la this < la z) ∧ (la z < la p0 ∨ la p0 < la z)) → c143_G81 z = (G 81) z := fun z hz => (q143_G81 z (tz143 z hz)).trans ((fun _ _ => rfl) z hz)
            have hx143 := pwq (fn_X4_isNew κ wd la G P U V X O kd ln cnt this t143_0 (CInv_LN hI :) hk_this hB hlt_this) hc143
            obtain ⟨p143_0, p143_1⟩ : ((r143.toInt ≠ 0 → t143_0.toInt ≠ 0 ∧ (c143_G80 this).toInt = ((G 80) this).toInt ∧ (c143_G81 this).toInt = ((G 81) this).toInt)) ∧ ((r143.toInt = 0 → t143_0.toInt = 0 ∧ (c143_G80 this).toInt = 3 ∧ (c143_G81 this).toInt = ((G 86) this).toInt)) := hx143
            refine pw_ite (fun c146 => ?_) (fun c146 => ?_)
            · have c146 := congrArg Int32.toInt c146
              exfalso; omega
            · have c146 := z_ne c146
              have hpr151_0 : (∀ tx, (P 82) this = some tx → ((G 83) this).toInt ≤ ((ln tx : Nat) : Int)) := by assumption
              have hpr151_1 : ((G 84) this).toInt ≤ ((G 83) this).toInt + 1 := by first | assumption | omega
              refine pw_b8 (fun r151 c151_G80 c151_G81 c151_G84 c151_G85 c151_G86 c151_G87 c151_G88 hc151 => ?_)
              have hq151 := wp_at (ok_X4_takeLetters κ wd (va_up (va_up G 80 c143_G80) 81 c143_G81) P U V X O kd ln cnt this (0 : Int32) (CInv_G83 hI :) (CInv_G84 hI :) (CInv_G85 hI :) (CInv_G87 hI :) (CInv_G88 hI :) (CInv_P82 hI :) (CInv_LN hI :) hk_this hpr151_0 hpr151_1) hc151
              obtain ⟨hg19, hg20, hg21, hg22, f23, f24, f25, f26⟩ : (rng (0) 2001 c151_G84) ∧ (rng (0) 4 c151_G85) ∧ (rng (0) 2001 c151_G87) ∧ (rng (0) 2000 c151_G88) ∧ ((0 ≤ r151.toInt ∧ r151.toInt ≤ 1)) ∧ (((G 84) this).toInt ≤ (c151_G84 this).toInt) ∧ ((c151_G84 this).toInt ≤ ((G 83) this).toInt + 1) ∧ ((r151.toInt = 1 → 1 ≤ (c151_G87 this).toInt ∧ (c151_G87 this).toInt + (c151_G88 this).toInt ≤ ((G 83) this).toInt ∧ (c151_G88 this).toInt ≤ 16)) := hq151
              have hq151 := pwq (fr_X4_takeLetters la (va_up (va_up G 80 c143_G80) 81 c143_G81) P U V X O kd ln cnt this (0 : Int32) hB) hc151
              obtain ⟨q151_G80, q151_G81, q151_G84, q151_G85, q151_G86, q151_G87, q151_G88⟩ : (∀ z, (la z < la this ∨ la this < la z) → c151_G80 z = c143_G80 z) ∧ (∀ z, (la z < la this ∨ la this < la z) → c151_G81 z = c143_G81 z) ∧ (∀ z, (la z < la this ∨ la this < la z) → c151_G84 z = (G 84) z) ∧ (∀ z, (la z < la this ∨ la this < la z) → c151_G85 z = (G 85) z) ∧ (∀ z, (la z < la this ∨ la this < la z) → c151_G86 z = (G 86) z) ∧ (∀ z, (la z < la this ∨ la this < la z) → c151_G87 z = (G 87) z) ∧ (∀ z, (la z < la this ∨ la this < la z) → c151_G88 z = (G 88) z) := hq151
              have tz151 : ∀ z, (z < cnt ∧ (la z < la this ∨ la this < la z) ∧ (la z < la p0 ∨ la p0 < la z)) → ((la z < la this ∨ la this < la z)) := fun z hz => by omega
              have hfr27 : ∀ z, (z < cnt ∧ (la z < la this ∨ la this < la z) ∧ (la z < la p0 ∨ la p0 < la z)) → c151_G80 z = (G 80) z := fun z hz => (q151_G80 z (tz151 z hz)).trans (hfr17 z hz)
              have hfr28 : ∀ z, (z < cnt ∧ (la z < la this ∨ la this < la z) ∧ (la z < la p0 ∨ la p0 < la z)) → c151_G81 z = (G 81) z := fun z hz => (q151_G81 z (tz151 z hz)).trans (hfr18 z hz)
              have hfr29 : ∀ z, (z < cnt ∧ (la z < la this ∨ la this < la z) ∧ (la z < la p0 ∨ la p0 < la z)) → c151_G84 z = (G 84) z := fun z hz => (q151_G84 z (tz151 z hz)).trans ((fun _ _ => rfl) z hz)
              have hfr30 : ∀ z, (z < cnt ∧ (la z < la this ∨ la this < la z) ∧ (la z < la p0 ∨ la p0 < la z)) → c151_G85 z = (G 85) z := fun z hz => (q151_G85 z (tz151 z hz)).trans ((fun _ _ => rfl) z hz)
              have hfr31 : ∀ z, (z < cnt ∧ (la z < la this ∨ la this < la z) ∧ (la z < la p0 ∨ la p0 < la z)) → c151_G86 z = (G 86) z := fun z hz => (q151_G86 z (tz151 z hz)).trans ((fun _ _ => rfl) z hz)
              have hfr32 : ∀ z, (z < cnt ∧ (la z < la this ∨ la this < la z) ∧ (la z < la p0 ∨ la p0 < la z)) → c151_G87 z = (G 87) z := fun z hz => (q151_G87 z (tz151 z hz)).trans ((fun _ _ => rfl) z hz)
              have hfr33 : ∀ z, (z < cnt ∧ (la z < la this ∨ la this < la z) ∧ (la z < la p0 ∨ la p0 < la z)) → c151_G88 z = (G 88) z := fun z hz => (q151_G88 z (tz151 z hz)).trans ((fun _ _ => rfl) z hz)
              have h8151_htx : (P 82) this = some tx := by first | assumption | omega
              have h8151_hf : (V 0) tx = f := by first | assumption | omega
              have h8151_hn : Int32.toNatClampNeg ((G 83) this) = n := by first | assumption | omega
              have h8151_he : Int32.toNatClampNeg ((G 84) this) = (tE f n e) := by have c9 := clampI (x := (G 84) this) (by omega); omega
              have h8151_hsm : (true) = decide ((0 : Int32).toInt = 0) := by decide
              have hx151 := pwq (fn_X4_takeLetters κ wd la (va_up (va_up G 80 c143_G80) 81 c143_G81) P U V X O kd ln cnt this (0 : Int32) (tx) (f) (n) (tE f n e) (true) (CInv_G83 hI :) (CInv_G84 hI :) (CInv_G85 hI :) (CInv_G87 hI :) (CInv_G88 hI :) (CInv_P82 hI :) (CInv_LN hI :) hk_this hpr151_0 hpr151_1 hB hlt_this h8151_htx h8151_hf h8151_hn h8151_he h8151_hsm) hc151
              obtain ⟨p151_0, p151_1⟩ : ((r151.toInt ≠ 0 → fLet f n (tE f n e) (true) = none ∧ (c151_G80 this).toInt = (c143_G80 this).toInt ∧ (c151_G81 this).toInt = (c143_G81 this).toInt ∧ (c151_G86 this).toInt = ((tP f n (tE f n e) : Nat) : Int) ∧ (c151_G87 this).toInt = ((tP f n (tE f n e) : Nat) : Int) + 1 ∧ (c151_G88 this).toInt = ((tL f n (tE f n e) : Nat) : Int) ∧ Int32.toNatClampNeg (c151_G84 this) = tE f n (tE f n e))) ∧ ((r151.toInt = 0 → ERR (fLet f n (tE f n e) (true)) (c151_G80 this) (c151_G81 this))) := hx151
              refine pw_ite (fun c154 => ?_) (fun c154 => ?_)
              · have c154 := congrArg Int32.toInt c154
                refine pw_j9 ej174 (fun z174_0 ez174_0 z174_1 ez174_1 z174_2 ez174_2 z174_3 ez174_3 z174_4 ez174_4 z174_5 ez174_5 z174_6 ez174_6 z174_7 ez174_7 z174_8 ez174_8 => ?_)
                subst ez174_0 ez174_1 ez174_2 ez174_3 ez174_4 ez174_5 ez174_6 ez174_7 ez174_8
                have qq0 : OUTL f n e l (c151_G80 this) (c151_G81 this) (c151_G84 this) (fun l1 => lawC (P 20) (P 21) (P 22) (P 23) (G 24) (G 25) (V 0) ln (some p0) = l1) := by have h9 := p151_1 (by omega); exact Or.inl ⟨_, Or.inr (Or.inr (Or.inr (Or.inl ⟨hK, Or.inr ⟨by rw [← hl]; show oar (V 0) ln ((P 23) p0) = []; rw [hn_a131, oar_some, wdl_nil]; omega, Or.inl ⟨_, h9.1, rfl⟩⟩⟩))), ⟨rfl, h9.2⟩⟩
                have qq1 : (∀ z, z < cnt → (V 0) z = (V 0) z) := by exact fun _ _ => rfl
                have qq2 : (∀ z, z < cnt → z ≠ p0 → (P 22) z = (P 22) z ∧ (P 23) z = (P 23) z ∧ (G 24) z = (G 24) z ∧ (G 25) z = (G 25) z) := by exact fun _ _ _ => ⟨rfl, rfl, rfl, rfl⟩
                exact pw_some ⟨la, (fun _ _ => rfl), hB, qq0, qq1, qq2⟩
              · have c154 := z_ne c154
                have hpr159_0 : (∀ tx, (P 82) this = some tx → ((G 83) this).toInt ≤ ((ln tx : Nat) : Int)) := by assumption
                have hpr159_1 : (1 ≤ (c151_G87 this).toInt ∧ (c151_G87 this).toInt + (c151_G88 this).toInt ≤ ((G 83) this).toInt ∧ (c151_G88 this).toInt ≤ 16) := by first | assumption | omega
                refine pw_bA10 (fun r159 c159_G c159_P c159_U c159_V c159_X c159_O c159_kd c159_ln c159_cnt v1_159 v2_159 hc159 => ?_)
                have hq159 := wp_at (ok_X4_letters κ wd (va_up (va_up (va_up (va_up (va_up (va_up (va_up (va_up (va_up G 80 c143_G80) 81 c143_G81) 80 c151_G80) 81 c151_G81) 84 c151_G84) 85 c151_G85) 86 c151_G86) 87 c151_G87) 88 c151_G88) P U V X O kd ln cnt this (CInv_i (CInv_G43 hI :) (CInv_G44 hI :) (CInv_G45 hI :) (CInv_G60 hI :) (CInv_G83 hI :) hg19 hg20 hg21 hg22 (CInv_G102 hI :) (CInv_G125 hI :) (CInv_G126 hI :) (CInv_G127 hI :) (CInv_G141 hI :) (CInv_G160 hI :) (CInv_G161 hI :) (CInv_G162 hI :) (CInv_G165 hI :) (CInv_G166 hI :) (CInv_G183 hI :) (CInv_G200 hI :) (CInv_G203 hI :) (CInv_G222 hI :) (CInv_G231 hI :) (CInv_G233 hI :) (CInv_P0 hI :) (CInv_P1 hI :) (CInv_P2 hI :) (CInv_P3 hI :) (CInv_P4 hI :) (CInv_P5 hI :) (CInv_P20 hI :) (CInv_P21 hI :) (CInv_P22 hI :) (CInv_P23 hI :) (CInv_P40 hI :) (CInv_P41 hI :) (CInv_P42 hI :) (CInv_P61 hI :) (CInv_P62 hI :) (CInv_P63 hI :) (CInv_P64 hI :) (CInv_P65 hI :) (CInv_P66 hI :) (CInv_P82 hI :) (CInv_P101 hI :) (CInv_P103 hI :) (CInv_P104 hI :) (CInv_P105 hI :) (CInv_P106 hI :) (CInv_P108 hI :) (CInv_P109 hI :) (CInv_P110 hI :) (CInv_P120 hI :) (CInv_P121 hI :) (CInv_P122 hI :) (CInv_P123 hI :) (CInv_P140 hI :) (CInv_P164 hI :) (CInv_P180 hI :) (CInv_P181 hI :) (CInv_P182 hI :) (CInv_P185 hI :) (CInv_P186 hI :) (CInv_P187 hI :) (CInv_P201 hI :) (CInv_P202 hI :) (CInv_P220 hI :) (CInv_P221 hI :) (CInv_P224 hI :) (CInv_P225 hI :) (CInv_P226 hI :) (CInv_P227 hI :) (CInv_P228 hI :) (CInv_P229 hI :) (CInv_P230 hI :) (CInv_P232 hI :) (CInv_P234 hI :) (CInv_P235 hI :) (CInv_P236 hI :) (CInv_V1 hI :) (CInv_V2 hI :) (CInv_V3 hI :) (CInv_V9 hI :) (CInv_O0 hI :) (CInv_O1 hI :) (CInv_O2 hI :) (CInv_RA hI :) (CInv_RB hI :) (CInv_RI hI :) (CInv_RM103 hI :) (CInv_RM104 hI :) (CInv_RM108 hI :) (CInv_LN hI :) (CInv_FL hI :) (CInv_W0 hI :) (CInv_KC hI :) (CInv_WK hI :)) hk_this hpr159_0 hpr159_1) hc159
                obtain ⟨κ159_33, hCI159, hxx159, hcc35, hex159, hk36, f37, f38, f39, f40⟩ : ∃ κ1 : Nat → Nat, (CInv κ1 wd c159_G c159_P c159_V c159_O c159_ln c159_cnt) ∧ (∀ a, κ a ≠ 0 → κ1 a = κ a) ∧ (cnt ≤ c159_cnt) ∧ (EX cnt cnt κ κ1 (va_up (va_up (va_up (va_up (va_up (va_up (va_up (va_up (va_up G 80 c143_G80) 81 c143_G81) 80 c151_G80) 81 c151_G81) 84 c151_G84) 85 c151_G85) 86 c151_G86) 87 c151_G87) 88 c151_G88) c159_G P c159_P V c159_V O c159_O ln c159_ln) ∧ (κ1 r159 = 100) ∧ (c159_ln r159 ≤ 16) ∧ (cnt ≤ r159) ∧ (v1_159 ≤ 1) ∧ (v2_159 ≤ 16) := hq159
                have kx41 : ∀ a, κ a ≠ 0 → κ159_33 a = κ a := hxx159
                have hk42 : κ159_33 this = 5 := kxk hxx159 hk_this (by decide)
                have hk43 : κ159_33 p0 = 2 := kxk hxx159 hk_p0 (by decide)
                have hq159 := pwq (fr_X4_letters la (va_up (va_up (va_up (va_up (va_up (va_up (va_up (va_up (va_up G 80 c143_G80) 81 c143_G81) 80 c151_G80) 81 c151_G81) 84 c151_G84) 85 c151_G85) 86 c151_G86) 87 c151_G87) 88 c151_G88) P U V X O kd ln cnt this (la p0) hB hlt_this (show (la p0) < 100000 + 10 * cnt + 6 from by have q9 := hB.2 p0 hlt_p0; omega)) hc159
                obtain ⟨la159_f, agf159, hBf159, ccf159, fG159, fP159, fU159, fV159, fX159, fO159, fl159, po159_0⟩ : ∃ la9 : Nat → Nat, (∀ z, z < cnt → la9 z = la z) ∧ LB la9 c159_cnt c159_P ∧ cnt ≤ c159_cnt ∧ FRM cnt [] (fun z => True) (va_up (va_up (va_up (va_up (va_up (va_up (va_up (va_up (va_up G 80 c143_G80) 81 c143_G81) 80 c151_G80) 81 c151_G81) 84 c151_G84) 85 c151_G85) 86 c151_G86) 87 c151_G87) 88 c151_G88) c159_G ∧ FRM cnt [] (fun z => True) P c159_P ∧ FRM cnt [] (fun z => True) U c159_U ∧ FRM cnt [0] (fun z => True) V c159_V ∧ FRM cnt [] (fun z => True) X c159_X ∧ FRM cnt [] (fun z => True) O c159_O ∧ (∀ z, z < cnt → c159_ln z = ln z) ∧ (cnt ≤ r159 ∧ r159 < c159_cnt ∧ la9 r159 = (la p0)) := hq159
                have h8159_htx : (P 82) this = some tx := by first | assumption | omega
                have hx159 := pwq (fn_X4_letters κ wd la (va_up (va_up (va_up (va_up (va_up (va_up (va_up (va_up (va_up G 80 c143_G80) 81 c143_G81) 80 c151_G80) 81 c151_G81) 84 c151_G84) 85 c151_G85) 86 c151_G86) 87 c151_G87) 88 c151_G88) P U V X O kd ln cnt this (la p0) (tx) (CInv_i (CInv_G43 hI :) (CInv_G44 hI :) (CInv_G45 hI :) (CInv_G60 hI :) (CInv_G83 hI :) hg19 hg20 hg21 hg22 (CInv_G102 hI :) (CInv_G125 hI :) (CInv_G126 hI :) (CInv_G127 hI :) (CInv_G141 hI :) (CInv_G160 hI :) (CInv_G161 hI :) (CInv_G162 hI :) (CInv_G165 hI :) (CInv_G166 hI :) (CInv_G183 hI :) (CInv_G200 hI :) (CInv_G203 hI :) (CInv_G222 hI :) (CInv_G231 hI :) (CInv_G233 hI :) (CInv_P0 hI :) (CInv_P1 hI :) (CInv_P2 hI :) (CInv_P3 hI :) (CInv_P4 hI :) (CInv_P5 hI :) (CInv_P20 hI :) (CInv_P21 hI :) (CInv_P22 hI :) (CInv_P23 hI :) (CInv_P40 hI :) (CInv_P41 hI :) (CInv_P42 hI :) (CInv_P61 hI :) (CInv_P62 hI :) (CInv_P63 hI :) (CInv_P64 hI :) (CInv_P65 hI :) (CInv_P66 hI :) (CInv_P82 hI :) (CInv_P101 hI :) (CInv_P103 hI :) (CInv_P104 hI :) (CInv_P105 hI :) (CInv_P106 hI :) (CInv_P108 hI :) (CInv_P109 hI :) (CInv_P110 hI :) (CInv_P120 hI :) (CInv_P121 hI :) (CInv_P122 hI :) (CInv_P123 hI :) (CInv_P140 hI :) (CInv_P164 hI :) (CInv_P180 hI :) (CInv_P181 hI :) (CInv_P182 hI :) (CInv_P185 hI :) (CInv_P186 hI :) (CInv_P187 hI :) (CInv_P201 hI :) (CInv_P202 hI :) (CInv_P220 hI :) (CInv_P221 hI :) (CInv_P224 hI :) (CInv_P225 hI :) (CInv_P226 hI :) (CInv_P227 hI :) (CInv_P228 hI :) (CInv_P229 hI :) (CInv_P230 hI :) (CInv_P232 hI :) (CInv_P234 hI :) (CInv_P235 hI :) (CInv_P236 hI :) (CInv_V1 hI :) (CInv_V2 hI :) (CInv_V3 hI :) (CInv_V9 hI :) (CInv_O0 hI :) (CInv_O1 hI :) (CInv_O2 hI :) (CInv_RA hI :) (CInv_RB hI :) (CInv_RI hI :) (CInv_RM103 hI :) (CInv_RM104 hI :) (CInv_RM108 hI :) (CInv_LN hI :) (CInv_FL hI :) (CInv_W0 hI :) (CInv_KC hI :) (CInv_WK hI :)) hk_this hpr159_0 hpr159_1 hB hlt_this (show (la p0) < 100000 + 10 * cnt + 6 from by have q9 := hB.2 p0 hlt_p0; omega) h8159_htx) hc159
                obtain ⟨la159, ag159, hB159, p159_0, p159_1⟩ : ∃ la9 : Nat → Nat, (∀ z, z < cnt → la9 z = la z) ∧ LB la9 c159_cnt c159_P ∧ (wdl ((c159_V 0) r159) 0 (c159_ln r159) = wdl ((V 0) tx) (Int32.toNatClampNeg (c151_G87 this)) (Int32.toNatClampNeg (c151_G88 this))) ∧ ((cnt ≤ r159 ∧ r159 < c159_cnt ∧ la9 r159 = (la p0))) := hx159
                have g44 : la159 this = la this := ag159 this hlt_this
                have lt45 : this < c159_cnt := Nat.lt_of_lt_of_le hlt_this ccf159
                have g46 : la159 p0 = la p0 := ag159 p0 hlt_p0
                have lt47 : p0 < c159_cnt := Nat.lt_of_lt_of_le hlt_p0 ccf159
                have g48 : la159 tx = la tx := ag159 tx lt_tx2
                have lt49 : tx < c159_cnt := Nat.lt_of_lt_of_le lt_tx2 ccf159
                have g50 : la159 a131 = la a131 := ag159 a131 lt_a13115
                have lt51 : a131 < c159_cnt := Nat.lt_of_lt_of_le lt_a13115 ccf159
                have hag159 : ∀ z, z < cnt → la159 z = la z := fun z hz => (ag159 z (Nat.lt_of_lt_of_le hz (Nat.le_refl _))).trans (rfl)
                have hle159 : cnt ≤ cnt := (Nat.le_refl _)
                have hF159_G : FRM cnt [24, 25, 80, 81, 84, 85, 86, 87, 88] (fun z => (la z < la this ∨ la this < la z) ∧ (la z < la p0 ∨ la p0 < la z)) G c159_G := FRM_trans (FRM_set (FRM_set (FRM_set (FRM_set (FRM_set (FRM_set (FRM_set (FRM_set (FRM_set FRM_refl (by decide) (fun z h1 h2 => hfr17 z ⟨h1, h2⟩)) (by decide) (fun z h1 h2 => hfr18 z ⟨h1, h2⟩)) (by decide) (fun z h1 h2 => hfr27 z ⟨h1, h2⟩)) (by decide) (fun z h1 h2 => hfr28 z ⟨h1, h2⟩)) (by decide) (fun z h1 h2 => hfr29 z ⟨h1, h2⟩)) (by decide) (fun z h1 h2 => hfr30 z ⟨h1, h2⟩)) (by decide) (fun z h1 h2 => hfr31 z ⟨h1, h2⟩)) (by decide) (fun z h1 h2 => hfr32 z ⟨h1, h2⟩)) (by decide) (fun z h1 h2 => hfr33 z ⟨h1, h2⟩)) fG159 hle159 (by decide) (fun _ _ _ => trivial)
                have hF159_P : FRM cnt [22, 23] (fun z => (la z < la this ∨ la this < la z) ∧ (la z < la p0 ∨ la p0 < la z)) P c159_P := FRM_trans FRM_refl fP159 hle159 (by decide) (fun _ _ _ => trivial)
                have hF159_U : FRM cnt [] (fun z => (la z < la this ∨ la this < la z) ∧ (la z < la p0 ∨ la p0 < la z)) U c159_U := FRM_trans FRM_refl fU159 hle159 (by decide) (fun _ _ _ => trivial)
                have hF159_V : FRM cnt [0] (fun z => (la z < la this ∨ la this < la z) ∧ (la z < la p0 ∨ la p0 < la z)) V c159_V := FRM_trans FRM_refl fV159 hle159 (by decide) (fun _ _ _ => trivial)
                have hF159_X : FRM cnt [] (fun z => (la z < la this ∨ la this < la z) ∧ (la z < la p0 ∨ la p0 < la z)) X c159_X := FRM_trans FRM_refl fX159 hle159 (by decide) (fun _ _ _ => trivial)
                have hF159_O : FRM cnt [] (fun z => (la z < la this ∨ la this < la z) ∧ (la z < la p0 ∨ la p0 < la z)) O c159_O := FRM_trans FRM_refl fO159 hle159 (by decide) (fun _ _ _ => trivial)
                have hlnn159 : ∀ z, z < cnt → c159_ln z = ln z := fun z hz => (fl159 z (Nat.lt_of_lt_of_le hz hle159)).trans (rfl)
                have lt52 : r159 < c159_cnt := (p159_1).2.1
                have hn53 : (c159_P 82) this = some tx := ((hex159 this hlt_this (by omega)).2.2.1 82).trans hn1
                have lt_tx54 := ((hB159.1 82 fl_82) this tx hn53).2.1
                have hk_tx := (((CInv_P82 hCI159 :) this).2 tx hn53).1
                have hl1_tx := (((CInv_P82 hCI159 :) this).2 tx hn53).2.1
                have hl2_tx := (((CInv_P82 hCI159 :) this).2 tx hn53).2.2.1
                have hw_tx := (((CInv_P82 hCI159 :) this).2 tx hn53).2.2.2
                have hn55 : (c159_P 23) p0 = some a131 := ((hex159 p0 hlt_p0 (by omega)).2.2.1 23).trans hn_a131
                have lt_a13156 := ((hB159.1 23 fl_23) p0 a131 hn55).2.1
                have lb_a13156 : la159 a131 = la159 p0 + 0 := lk_23.mp ((hB159.1 23 fl_23) p0 a131 hn55).2.2
                have hk_a131 := (((CInv_P23 hCI159 :) p0).2 a131 hn55).1
                have hl1_a131 := (((CInv_P23 hCI159 :) p0).2 a131 hn55).2.1
                have hl2_a131 := (((CInv_P23 hCI159 :) p0).2 a131 hn55).2.2.1
                have hw_a131 := (((CInv_P23 hCI159 :) p0).2 a131 hn55).2.2.2
                refine pw_vl (fun m162 em162 => ?_)
                have hfr57 : ∀ z, (z < cnt ∧ (la z < la this ∨ la this < la z) ∧ (la z < la p0 ∨ la p0 < la z)) → m162 z = (P 23) z := fr_up (e0 := (P 23)) (fun (z : Nat) (hz : (z < cnt ∧ (la z < la this ∨ la this < la z) ∧ (la z < la p0 ∨ la p0 < la z))) => hF159_P 23 z hz.1 (fun _ => hz.2)) em162 (show ¬ (p0 < cnt ∧ (la p0 < la this ∨ la this < la p0) ∧ (la p0 < la p0 ∨ la p0 < la p0)) from fun hz => by have q1 := hag159 p0 hz.1; omega)
                have hl58 : LC 23 la159 c159_cnt m162 := LC_up (hB159.1 23 fl_23) em162 (by omega) (by omega) (lk_23.mpr (by omega))
                have hp59 : PB κ159_33 c159_ln wd 2 100 0 16 0 m162 := by rw [em162]; exact PB_up (CInv_P23 hCI159 :) hk36 (by omega) (by omega) (fun h9 => absurd h9 (by decide))
                have sm162 : m162 p0 = some r159 := by rw [em162]; exact va_up_self _ _ _
                refine pw_j9 ej174 (fun z174_0 ez174_0 z174_1 ez174_1 z174_2 ez174_2 z174_3 ez174_3 z174_4 ez174_4 z174_5 ez174_5 z174_6 ez174_6 z174_7 ez174_7 z174_8 ez174_8 => ?_)
                subst ez174_0 ez174_1 ez174_2 ez174_3 ez174_4 ez174_5 ez174_6 ez174_7 ez174_8
                have qq0 : OUTL f n e l ((c159_G 80) this) ((c159_G 81) this) ((c159_G 84) this) (fun l1 => lawC (c159_P 20) (c159_P 21) (c159_P 22) m162 (c159_G 24) (c159_G 25) (c159_V 0) c159_ln (some p0) = l1) := by obtain ⟨g1, g2, g3, g4, g5, g6, g7⟩ := p151_0 (by omega); have hw9 : wdl (c159_V 0 r159) 0 (c159_ln r159) = tW f n (tE f n e) := (by rw [p159_0, hf, show Int32.toNatClampNeg (c151_G87 this) = tP f n (tE f n e) + 1 by have c8 := clampI (x := c151_G87 this) (by omega); omega, show Int32.toNatClampNeg (c151_G88 this) = tL f n (tE f n e) by have c8 := clampI (x := c151_G88 this) (by omega); omega]; rfl); exact Or.inr ⟨_, _, Or.inr (Or.inr (Or.inr (Or.inl ⟨hK, Or.inr ⟨by rw [← hl]; show oar (V 0) ln ((P 23) p0) = []; rw [hn_a131, oar_some, wdl_nil]; omega, Or.inr ⟨g1, rfl⟩⟩⟩))), by rw [fG159 80 this hlt_this (fun q => absurd q (by decide))]; show (c151_G80 this).toInt = 0; omega, by rw [fG159 81 this hlt_this (fun q => absurd q (by decide))]; show (c151_G81 this).toInt = -1; omega, by rw [fG159 84 this hlt_this (fun q => absurd q (by decide))]; exact g7, lawC_b hl (fP159 20 p0 hlt_p0 (fun q => absurd q (by decide))) (fP159 21 p0 hlt_p0 (fun q => absurd q (by decide))) (fP159 22 p0 hlt_p0 (fun q => absurd q (by decide))) sm162 (fG159 24 p0 hlt_p0 (fun q => absurd q (by decide))) (fG159 25 p0 hlt_p0 (fun q => absurd q (by decide))) hw9 (fun x hx => by have hx1 : x < cnt := (by rcases hx with hx | hx | hx <;> exact (law_fld hB (by omega) hx).1); exact ⟨fV159 0 x hx1 (fun _ => trivial), fl159 x hx1⟩)⟩
                have qq1 : (∀ z, z < cnt → (c159_V 0) z = (V 0) z) := by exact fun z hz => fV159 0 z hz (fun _ => trivial)
                have qq2 : (∀ z, z < cnt → z ≠ p0 → (c159_P 22) z = (P 22) z ∧ m162 z = (P 23) z ∧ (c159_G 24) z = (G 24) z ∧ (c159_G 25) z = (G 25) z) := by exact fun z hz hne => ⟨fP159 22 z hz (fun q => absurd q (by decide)), by rw [em162, va_up_ne _ _ hne]; exact fP159 23 z hz (fun q => absurd q (by decide)), fG159 24 z hz (fun q => absurd q (by decide)), fG159 25 z hz (fun q => absurd q (by decide))⟩
                exact pw_some ⟨la159, hag159, (LB_set hB159 hl58), qq0, qq1, qq2⟩
          · have c135 := z_ne c135
            refine pw_j1 ej143 (fun t143_0 et143_0 => ?_)
            have et143_0 := et143_0.symm
            have f_t143_0 : t143_0.toInt = 0 := by rw [et143_0]; decide +kernel
            refine pw_b3 (fun r143 c143_G80 c143_G81 hc143 => ?_)
            have hq143 := wp_at (ok_X4_isNew κ wd G P U V X O kd ln cnt this t143_0 (CInv_LN hI :) hk_this) hc143
            have f60 : (0 ≤ r143.toInt ∧ r143.toInt ≤ 1) := hq143
            clear hq143
            have hq143 := pwq (fr_X4_isNew la G P U V X O kd ln cnt this t143_0 hB) hc143
            obtain ⟨q143_G80, q143_G81⟩ : (∀ z, (la z < la this ∨ la this < la z) → c143_G80 z = (G 80) z) ∧ (∀ z, (la z < la this ∨ la this < la z) → c143_G81 z = (G 81) z) := hq143
            have tz143 : ∀ z, (z < cnt ∧ (la z < la this ∨ la this < la z) ∧ (la z < la p0 ∨ la p0 < la z)) → ((la z < la this ∨ la this < la z)) := fun z hz => by omega
            have hfr61 : ∀ z, (z < cnt ∧ (la z < la this ∨ la this < la z) ∧ (la z < la p0 ∨ la p0 < la z)) → c143_G80 z = (G 80) z := fun z hz => (q143_G80 z (tz143 z hz)).trans ((fun _ _ => rfl) z hz)
            have hfr62 : ∀ z, (z < cnt ∧ (la z < la this ∨ la this < la z) ∧ (la z < la p0 ∨ la p0 < la z)) → c143_G81 z = (G 81) z := fun z hz => (q143_G81 z (tz143 z hz)).trans ((fun _ _ => rfl) z hz)
            have hx143 := pwq (fn_X4_isNew κ wd la G P U V X O kd ln cnt this t143_0 (CInv_LN hI :) hk_this hB hlt_this) hc143
            obtain ⟨p143_0, p143_1⟩ : ((r143.toInt ≠ 0 → t143_0.toInt ≠ 0 ∧ (c143_G80 this).toInt = ((G 80) this).toInt ∧ (c143_G81 this).toInt = ((G 81) this).toInt)) ∧ ((r143.toInt = 0 → t143_0.toInt = 0 ∧ (c143_G80 this).toInt = 3 ∧ (c143_G81 this).toInt = ((G 86) this).toInt)) := hx143
            refine pw_ite (fun c146 => ?_) (fun c146 => ?_)
            · have c146 := congrArg Int32.toInt c146
              refine pw_j9 ej174 (fun z174_0 ez174_0 z174_1 ez174_1 z174_2 ez174_2 z174_3 ez174_3 z174_4 ez174_4 z174_5 ez174_5 z174_6 ez174_6 z174_7 ez174_7 z174_8 ez174_8 => ?_)
              subst ez174_0 ez174_1 ez174_2 ez174_3 ez174_4 ez174_5 ez174_6 ez174_7 ez174_8
              have qq0 : OUTL f n e l (c143_G80 this) (c143_G81 this) ((G 84) this) (fun l1 => lawC (P 20) (P 21) (P 22) (P 23) (G 24) (G 25) (V 0) ln (some p0) = l1) := by exact Or.inl ⟨_, Or.inr (Or.inr (Or.inr (Or.inl ⟨hK, Or.inl ⟨by rw [← hl]; show oar (V 0) ln ((P 23) p0) ≠ []; rw [hn_a131, oar_some, ne_eq, wdl_nil]; omega, rfl⟩⟩))), (err_of (o := some (3, tP f n e)) rfl (by omega) (by omega) (by omega))⟩
              have qq1 : (∀ z, z < cnt → (V 0) z = (V 0) z) := by exact fun _ _ => rfl
              have qq2 : (∀ z, z < cnt → z ≠ p0 → (P 22) z = (P 22) z ∧ (P 23) z = (P 23) z ∧ (G 24) z = (G 24) z ∧ (G 25) z = (G 25) z) := by exact fun _ _ _ => ⟨rfl, rfl, rfl, rfl⟩
              exact pw_some ⟨la, (fun _ _ => rfl), hB, qq0, qq1, qq2⟩
            · have c146 := z_ne c146
              exfalso; omega
      · have c78 := z_ne c78
        have hK := p75_0 (by omega)
        have hK1 := (fKey_k hK).1
        obtain ⟨v1, v2, v3⟩ := t4 (by omega)
        refine pw_nn (fun a83 hn_a83 => ?_)
        have lt_a8363 := ((hB.1 22 fl_22) p0 a83 hn_a83).2.1
        have lb_a8363 : la a83 = la p0 + 0 := lk_22.mp ((hB.1 22 fl_22) p0 a83 hn_a83).2.2
        have hk_a83 := (((CInv_P22 hI :) p0).2 a83 hn_a83).1
        have hl1_a83 := (((CInv_P22 hI :) p0).2 a83 hn_a83).2.1
        have hl2_a83 := (((CInv_P22 hI :) p0).2 a83 hn_a83).2.2.1
        have hw_a83 := (((CInv_P22 hI :) p0).2 a83 hn_a83).2.2.2
        have hz_a83 : (Int32.ofNat (ln a83)).toInt = ((ln a83 : Nat) : Int) := ofN_eq (by first | exact Nat.le_trans hl2_a83 (by decide) | omega)
        have hzb_a83 := (CInv_LN hI :) a83 (by rw [hk_a83]; decide)
        refine pw_jE (fun j95 ej95 => ?_)
        refine pw_ite (fun c87 => ?_) (fun c87 => ?_)
        · have c87 := congrArg Int32.toInt c87
          refine pw_j1 ej95 (fun t95_0 et95_0 => ?_)
          have et95_0 := et95_0.symm
          have f_t95_0 : t95_0.toInt = 1 := by rw [et95_0]; decide +kernel
          refine pw_b3 (fun r95 c95_G80 c95_G81 hc95 => ?_)
          have hq95 := wp_at (ok_X4_isNew κ wd G P U V X O kd ln cnt this t95_0 (CInv_LN hI :) hk_this) hc95
          have f64 : (0 ≤ r95.toInt ∧ r95.toInt ≤ 1) := hq95
          clear hq95
          have hq95 := pwq (fr_X4_isNew la G P U V X O kd ln cnt this t95_0 hB) hc95
          obtain ⟨q95_G80, q95_G81⟩ : (∀ z, (la z < la this ∨ la this < la z) → c95_G80 z = (G 80) z) ∧ (∀ z, (la z < la this ∨ la this < la z) → c95_G81 z = (G 81) z) := hq95
          have tz95 : ∀ z, (z < cnt ∧ (la z < la this ∨ la this < la z) ∧ (la z < la p0 ∨ la p0 < la z)) → ((la z < la this ∨ la this < la z)) := fun z hz => by omega
          have hfr65 : ∀ z, (z < cnt ∧ (la z < la this ∨ la this < la z) ∧ (la z < la p0 ∨ la p0 < la z)) → c95_G80 z = (G 80) z := fun z hz => (q95_G80 z (tz95 z hz)).trans ((fun _ _ => rfl) z hz)
          have hfr66 : ∀ z, (z < cnt ∧ (la z < la this ∨ la this < la z) ∧ (la z < la p0 ∨ la p0 < la z)) → c95_G81 z = (G 81) z := fun z hz => (q95_G81 z (tz95 z hz)).trans ((fun _ _ => rfl) z hz)
          have hx95 := pwq (fn_X4_isNew κ wd la G P U V X O kd ln cnt this t95_0 (CInv_LN hI :) hk_this hB hlt_this) hc95
          obtain ⟨p95_0, p95_1⟩ : ((r95.toInt ≠ 0 → t95_0.toInt ≠ 0 ∧ (c95_G80 this).toInt = ((G 80) this).toInt ∧ (c95_G81 this).toInt = ((G 81) this).toInt)) ∧ ((r95.toInt = 0 → t95_0.toInt = 0 ∧ (c95_G80 this).toInt = 3 ∧ (c95_G81 this).toInt = ((G 86) this).toInt)) := hx95
          refine pw_ite (fun c98 => ?_) (fun c98 => ?_)
          · have c98 := congrArg Int32.toInt c98
            exfalso; omega
          · have c98 := z_ne c98
            have hpr103_0 : (∀ tx, (P 82) this = some tx → ((G 83) this).toInt ≤ ((ln tx : Nat) : Int)) := by assumption
            have hpr103_1 : ((G 84) this).toInt ≤ ((G 83) this).toInt + 1 := by first | assumption | omega
            refine pw_b8 (fun r103 c103_G80 c103_G81 c103_G84 c103_G85 c103_G86 c103_G87 c103_G88 hc103 => ?_)
            have hq103 := wp_at (ok_X4_takeLetters κ wd (va_up (va_up G 80 c95_G80) 81 c95_G81) P U V X O kd ln cnt this (0 : Int32) (CInv_G83 hI :) (CInv_G84 hI :) (CInv_G85 hI :) (CInv_G87 hI :) (CInv_G88 hI :) (CInv_P82 hI :) (CInv_LN hI :) hk_this hpr103_0 hpr103_1) hc103
            obtain ⟨hg67, hg68, hg69, hg70, f71, f72, f73, f74⟩ : (rng (0) 2001 c103_G84) ∧ (rng (0) 4 c103_G85) ∧ (rng (0) 2001 c103_G87) ∧ (rng (0) 2000 c103_G88) ∧ ((0 ≤ r103.toInt ∧ r103.toInt ≤ 1)) ∧ (((G 84) this).toInt ≤ (c103_G84 this).toInt) ∧ ((c103_G84 this).toInt ≤ ((G 83) this).toInt + 1) ∧ ((r103.toInt = 1 → 1 ≤ (c103_G87 this).toInt ∧ (c103_G87 this).toInt + (c103_G88 this).toInt ≤ ((G 83) this).toInt ∧ (c103_G88 this).toInt ≤ 16)) := hq103
            have hq103 := pwq (fr_X4_takeLetters la (va_up (va_up G 80 c95_G80) 81 c95_G81) P U V X O kd ln cnt this (0 : Int32) hB) hc103
            obtain ⟨q103_G80, q103_G81, q103_G84, q103_G85, q103_G86, q103_G87, q103_G88⟩ : (∀ z, (la z < la this ∨ la this < la z) → c103_G80 z = c95_G80 z) ∧ (∀ z, (la z < la this ∨ la this < la z) → c103_G81 z = c95_G81 z) ∧ (∀ z, (la z < la this ∨ la this < la z) → c103_G84 z = (G 84) z) ∧ (∀ z, (la z < la this ∨ la this < la z) → c103_G85 z = (G 85) z) ∧ (∀ z, (la z < la this ∨ la this < la z) → c103_G86 z = (G 86) z) ∧ (∀ z, (la z < la this ∨ la this < la z) → c103_G87 z = (G 87) z) ∧ (∀ z, (la z < la this ∨ la this < la z) → c103_G88 z = (G 88) z) := hq103
            have tz103 : ∀ z, (z < cnt ∧ (la z < la this ∨ la this < la z) ∧ (la z < la p0 ∨ la p0 < la z)) → ((la z < la this ∨ la this < la z)) := fun z hz => by omega
            have hfr75 : ∀ z, (z < cnt ∧ (la z < la this ∨ la this < la z) ∧ (la z < la p0 ∨ la p0 < la z)) → c103_G80 z = (G 80) z := fun z hz => (q103_G80 z (tz103 z hz)).trans (hfr65 z hz)
            have hfr76 : ∀ z, (z < cnt ∧ (la z < la this ∨ la this < la z) ∧ (la z < la p0 ∨ la p0 < la z)) → c103_G81 z = (G 81) z := fun z hz => (q103_G81 z (tz103 z hz)).trans (hfr66 z hz)
            have hfr77 : ∀ z, (z < cnt ∧ (la z < la this ∨ la this < la z) ∧ (la z < la p0 ∨ la p0 < la z)) → c103_G84 z = (G 84) z := fun z hz => (q103_G84 z (tz103 z hz)).trans ((fun _ _ => rfl) z hz)
            have hfr78 : ∀ z, (z < cnt ∧ (la z < la this ∨ la this < la z) ∧ (la z < la p0 ∨ la p0 < la z)) → c103_G85 z = (G 85) z := fun z hz => (q103_G85 z (tz103 z hz)).trans ((fun _ _ => rfl) z hz)
            have hfr79 : ∀ z, (z < cnt ∧ (la z < la this ∨ la this < la z) ∧ (la z < la p0 ∨ la p0 < la z)) → c103_G86 z = (G 86) z := fun z hz => (q103_G86 z (tz103 z hz)).trans ((fun _ _ => rfl) z hz)
            have hfr80 : ∀ z, (z < cnt ∧ (la z < la this ∨ la this < la z) ∧ (la z < la p0 ∨ la p0 < la z)) → c103_G87 z = (G 87) z := fun z hz => (q103_G87 z (tz103 z hz)).trans ((fun _ _ => rfl) z hz)
            have hfr81 : ∀ z, (z < cnt ∧ (la z < la this ∨ la this < la z) ∧ (la z < la p0 ∨ la p0 < la z)) → c103_G88 z = (G 88) z := fun z hz => (q103_G88 z (tz103 z hz)).trans ((fun _ _ => rfl) z hz)
            have h8103_htx : (P 82) this = some tx := by first | assumption | omega
            have h8103_hf : (V 0) tx = f := by first | assumption | omega
            have h8103_hn : Int32.toNatClampNeg ((G 83) this) = n := by first | assumption | omega
            have h8103_he : Int32.toNatClampNeg ((G 84) this) = (tE f n e) := by have c9 := clampI (x := (G 84) this) (by omega); omega
            have h8103_hsm : (true) = decide ((0 : Int32).toInt = 0) := by decide
            have hx103 := pwq (fn_X4_takeLetters κ wd la (va_up (va_up G 80 c95_G80) 81 c95_G81) P U V X O kd ln cnt this (0 : Int32) (tx) (f) (n) (tE f n e) (true) (CInv_G83 hI :) (CInv_G84 hI :) (CInv_G85 hI :) (CInv_G87 hI :) (CInv_G88 hI :) (CInv_P82 hI :) (CInv_LN hI :) hk_this hpr103_0 hpr103_1 hB hlt_this h8103_htx h8103_hf h8103_hn h8103_he h8103_hsm) hc103
            obtain ⟨p103_0, p103_1⟩ : ((r103.toInt ≠ 0 → fLet f n (tE f n e) (true) = none ∧ (c103_G80 this).toInt = (c95_G80 this).toInt ∧ (c103_G81 this).toInt = (c95_G81 this).toInt ∧ (c103_G86 this).toInt = ((tP f n (tE f n e) : Nat) : Int) ∧ (c103_G87 this).toInt = ((tP f n (tE f n e) : Nat) : Int) + 1 ∧ (c103_G88 this).toInt = ((tL f n (tE f n e) : Nat) : Int) ∧ Int32.toNatClampNeg (c103_G84 this) = tE f n (tE f n e))) ∧ ((r103.toInt = 0 → ERR (fLet f n (tE f n e) (true)) (c103_G80 this) (c103_G81 this))) := hx103
            refine pw_ite (fun c106 => ?_) (fun c106 => ?_)
            · have c106 := congrArg Int32.toInt c106
              refine pw_j9 ej174 (fun z174_0 ez174_0 z174_1 ez174_1 z174_2 ez174_2 z174_3 ez174_3 z174_4 ez174_4 z174_5 ez174_5 z174_6 ez174_6 z174_7 ez174_7 z174_8 ez174_8 => ?_)
              subst ez174_0 ez174_1 ez174_2 ez174_3 ez174_4 ez174_5 ez174_6 ez174_7 ez174_8
              have qq0 : OUTL f n e l (c103_G80 this) (c103_G81 this) (c103_G84 this) (fun l1 => lawC (P 20) (P 21) (P 22) (P 23) (G 24) (G 25) (V 0) ln (some p0) = l1) := by have h9 := p103_1 (by omega); exact Or.inl ⟨_, Or.inr (Or.inr (Or.inl ⟨hK, Or.inr ⟨by rw [← hl]; show oar (V 0) ln ((P 22) p0) = []; rw [hn_a83, oar_some, wdl_nil]; omega, Or.inl ⟨_, h9.1, rfl⟩⟩⟩)), ⟨rfl, h9.2⟩⟩
              have qq1 : (∀ z, z < cnt → (V 0) z = (V 0) z) := by exact fun _ _ => rfl
              have qq2 : (∀ z, z < cnt → z ≠ p0 → (P 22) z = (P 22) z ∧ (P 23) z = (P 23) z ∧ (G 24) z = (G 24) z ∧ (G 25) z = (G 25) z) := by exact fun _ _ _ => ⟨rfl, rfl, rfl, rfl⟩
              exact pw_some ⟨la, (fun _ _ => rfl), hB, qq0, qq1, qq2⟩
            · have c106 := z_ne c106
              have hpr111_0 : (∀ tx, (P 82) this = some tx → ((G 83) this).toInt ≤ ((ln tx : Nat) : Int)) := by assumption
              have hpr111_1 : (1 ≤ (c103_G87 this).toInt ∧ (c103_G87 this).toInt + (c103_G88 this).toInt ≤ ((G 83) this).toInt ∧ (c103_G88 this).toInt ≤ 16) := by omega
              refine pw_bA10 (fun r111 c111_G c111_P c111_U c111_V c111_X c111_O c111_kd c111_ln c111_cnt v1_111 v2_111 hc111 => ?_)
              have hq111 := wp_at (ok_X4_letters κ wd (va_up (va_up (va_up (va_up (va_up (va_up (va_up (va_up (va_up G 80 c95_G80) 81 c95_G81) 80 c103_G80) 81 c103_G81) 84 c103_G84) 85 c103_G85) 86 c103_G86) 87 c103_G87) 88 c103_G88) P U V X O kd ln cnt this (CInv_i (CInv_G43 hI :) (CInv_G44 hI :) (CInv_G45 hI :) (CInv_G60 hI :) (CInv_G83 hI :) hg67 hg68 hg69 hg70 (CInv_G102 hI :) (CInv_G125 hI :) (CInv_G126 hI :) (CInv_G127 hI :) (CInv_G141 hI :) (CInv_G160 hI :) (CInv_G161 hI :) (CInv_G162 hI :) (CInv_G165 hI :) (CInv_G166 hI :) (CInv_G183 hI :) (CInv_G200 hI :) (CInv_G203 hI :) (CInv_G222 hI :) (CInv_G231 hI :) (CInv_G233 hI :) (CInv_P0 hI :) (CInv_P1 hI :) (CInv_P2 hI :) (CInv_P3 hI :) (CInv_P4 hI :) (CInv_P5 hI :) (CInv_P20 hI :) (CInv_P21 hI :) (CInv_P22 hI :) (CInv_P23 hI :) (CInv_P40 hI :) (CInv_P41 hI :) (CInv_P42 hI :) (CInv_P61 hI :) (CInv_P62 hI :) (CInv_P63 hI :) (CInv_P64 hI :) (CInv_P65 hI :) (CInv_P66 hI :) (CInv_P82 hI :) (CInv_P101 hI :) (CInv_P103 hI :) (CInv_P104 hI :) (CInv_P105 hI :) (CInv_P106 hI :) (CInv_P108 hI :) (CInv_P109 hI :) (CInv_P110 hI :) (CInv_P120 hI :) (CInv_P121 hI :) (CInv_P122 hI :) (CInv_P123 hI :) (CInv_P140 hI :) (CInv_P164 hI :) (CInv_P180 hI :) (CInv_P181 hI :) (CInv_P182 hI :) (CInv_P185 hI :) (CInv_P186 hI :) (CInv_P187 hI :) (CInv_P201 hI :) (CInv_P202 hI :) (CInv_P220 hI :) (CInv_P221 hI :) (CInv_P224 hI :) (CInv_P225 hI :) (CInv_P226 hI :) (CInv_P227 hI :) (CInv_P228 hI :) (CInv_P229 hI :) (CInv_P230 hI :) (CInv_P232 hI :) (CInv_P234 hI :) (CInv_P235 hI :) (CInv_P236 hI :) (CInv_V1 hI :) (CInv_V2 hI :) (CInv_V3 hI :) (CInv_V9 hI :) (CInv_O0 hI :) (CInv_O1 hI :) (CInv_O2 hI :) (CInv_RA hI :) (CInv_RB hI :) (CInv_RI hI :) (CInv_RM103 hI :) (CInv_RM104 hI :) (CInv_RM108 hI :) (CInv_LN hI :) (CInv_FL hI :) (CInv_W0 hI :) (CInv_KC hI :) (CInv_WK hI :)) hk_this hpr111_0 hpr111_1) hc111
              obtain ⟨κ111_81, hCI111, hxx111, hcc83, hex111, hk84, f85, f86, f87, f88⟩ : ∃ κ1 : Nat → Nat, (CInv κ1 wd c111_G c111_P c111_V c111_O c111_ln c111_cnt) ∧ (∀ a, κ a ≠ 0 → κ1 a = κ a) ∧ (cnt ≤ c111_cnt) ∧ (EX cnt cnt κ κ1 (va_up (va_up (va_up (va_up (va_up (va_up (va_up (va_up (va_up G 80 c95_G80) 81 c95_G81) 80 c103_G80) 81 c103_G81) 84 c103_G84) 85 c103_G85) 86 c103_G86) 87 c103_G87) 88 c103_G88) c111_G P c111_P V c111_V O c111_O ln c111_ln) ∧ (κ1 r111 = 100) ∧ (c111_ln r111 ≤ 16) ∧ (cnt ≤ r111) ∧ (v1_111 ≤ 1) ∧ (v2_111 ≤ 16) := hq111
              have kx89 : ∀ a, κ a ≠ 0 → κ111_81 a = κ a := hxx111
              have hk90 : κ111_81 this = 5 := kxk hxx111 hk_this (by decide)
              have hk91 : κ111_81 p0 = 2 := kxk hxx111 hk_p0 (by decide)
              have hq111 := pwq (fr_X4_letters la (va_up (va_up (va_up (va_up (va_up (va_up (va_up (va_up (va_up G 80 c95_G80) 81 c95_G81) 80 c103_G80) 81 c103_G81) 84 c103_G84) 85 c103_G85) 86 c103_G86) 87 c103_G87) 88 c103_G88) P U V X O kd ln cnt this (la p0) hB hlt_this (show (la p0) < 100000 + 10 * cnt + 6 from by have q9 := hB.2 p0 hlt_p0; omega)) hc111
              obtain ⟨la111_f, agf111, hBf111, ccf111, fG111, fP111, fU111, fV111, fX111, fO111, fl111, po111_0⟩ : ∃ la9 : Nat → Nat, (∀ z, z < cnt → la9 z = la z) ∧ LB la9 c111_cnt c111_P ∧ cnt ≤ c111_cnt ∧ FRM cnt [] (fun z => True) (va_up (va_up (va_up (va_up (va_up (va_up (va_up (va_up (va_up G 80 c95_G80) 81 c95_G81) 80 c103_G80) 81 c103_G81) 84 c103_G84) 85 c103_G85) 86 c103_G86) 87 c103_G87) 88 c103_G88) c111_G ∧ FRM cnt [] (fun z => True) P c111_P ∧ FRM cnt [] (fun z => True) U c111_U ∧ FRM cnt [0] (fun z => True) V c111_V ∧ FRM cnt [] (fun z => True) X c111_X ∧ FRM cnt [] (fun z => True) O c111_O ∧ (∀ z, z < cnt → c111_ln z = ln z) ∧ (cnt ≤ r111 ∧ r111 < c111_cnt ∧ la9 r111 = (la p0)) := hq111
              have h8111_htx : (P 82) this = some tx := by first | assumption | omega
              have hx111 := pwq (fn_X4_letters κ wd la (va_up (va_up (va_up (va_up (va_up (va_up (va_up (va_up (va_up G 80 c95_G80) 81 c95_G81) 80 c103_G80) 81 c103_G81) 84 c103_G84) 85 c103_G85) 86 c103_G86) 87 c103_G87) 88 c103_G88) P U V X O kd ln cnt this (la p0) (tx) (CInv_i (CInv_G43 hI :) (CInv_G44 hI :) (CInv_G45 hI :) (CInv_G60 hI :) (CInv_G83 hI :) hg67 hg68 hg69 hg70 (CInv_G102 hI :) (CInv_G125 hI :) (CInv_G126 hI :) (CInv_G127 hI :) (CInv_G141 hI :) (CInv_G160 hI :) (CInv_G161 hI :) (CInv_G162 hI :) (CInv_G165 hI :) (CInv_G166 hI :) (CInv_G183 hI :) (CInv_G200 hI :) (CInv_G203 hI :) (CInv_G222 hI :) (CInv_G231 hI :) (CInv_G233 hI :) (CInv_P0 hI :) (CInv_P1 hI :) (CInv_P2 hI :) (CInv_P3 hI :) (CInv_P4 hI :) (CInv_P5 hI :) (CInv_P20 hI :) (CInv_P21 hI :) (CInv_P22 hI :) (CInv_P23 hI :) (CInv_P40 hI :) (CInv_P41 hI :) (CInv_P42 hI :) (CInv_P61 hI :) (CInv_P62 hI :) (CInv_P63 hI :) (CInv_P64 hI :) (CInv_P65 hI :) (CInv_P66 hI :) (CInv_P82 hI :) (CInv_P101 hI :) (CInv_P103 hI :) (CInv_P104 hI :) (CInv_P105 hI :) (CInv_P106 hI :) (CInv_P108 hI :) (CInv_P109 hI :) (CInv_P110 hI :) (CInv_P120 hI :) (CInv_P121 hI :) (CInv_P122 hI :) (CInv_P123 hI :) (CInv_P140 hI :) (CInv_P164 hI :) (CInv_P180 hI :) (CInv_P181 hI :) (CInv_P182 hI :) (CInv_P185 hI :) (CInv_P186 hI :) (CInv_P187 hI :) (CInv_P201 hI :) (CInv_P202 hI :) (CInv_P220 hI :) (CInv_P221 hI :) (CInv_P224 hI :) (CInv_P225 hI :) (CInv_P226 hI :) (CInv_P227 hI :) (CInv_P228 hI :) (CInv_P229 hI :) (CInv_P230 hI :) (CInv_P232 hI :) (CInv_P234 hI :) (CInv_P235 hI :) (CInv_P236 hI :) (CInv_V1 hI :) (CInv_V2 hI :) (CInv_V3 hI :) (CInv_V9 hI :) (CInv_O0 hI :) (CInv_O1 hI :) (CInv_O2 hI :) (CInv_RA hI :) (CInv_RB hI :) (CInv_RI hI :) (CInv_RM103 hI :) (CInv_RM104 hI :) (CInv_RM108 hI :) (CInv_LN hI :) (CInv_FL hI :) (CInv_W0 hI :) (CInv_KC hI :) (CInv_WK hI :)) hk_this hpr111_0 hpr111_1 hB hlt_this (show (la p0) < 100000 + 10 * cnt + 6 from by have q9 := hB.2 p0 hlt_p0; omega) h8111_htx) hc111
              obtain ⟨la111, ag111, hB111, p111_0, p111_1⟩ : ∃ la9 : Nat → Nat, (∀ z, z < cnt → la9 z = la z) ∧ LB la9 c111_cnt c111_P ∧ (wdl ((c111_V 0) r111) 0 (c111_ln r111) = wdl ((V 0) tx) (Int32.toNatClampNeg (c103_G87 this)) (Int32.toNatClampNeg (c103_G88 this))) ∧ ((cnt ≤ r111 ∧ r111 < c111_cnt ∧ la9 r111 = (la p0))) := hx111
              have g92 : la111 this = la this := ag111 this hlt_this
              have lt93 : this < c111_cnt := Nat.lt_of_lt_of_le hlt_this ccf111
              have g94 : la111 p0 = la p0 := ag111 p0 hlt_p0
              have lt95 : p0 < c111_cnt := Nat.lt_of_lt_of_le hlt_p0 ccf111
              have g96 : la111 tx = la tx := ag111 tx lt_tx2
              have lt97 : tx < c111_cnt := Nat.lt_of_lt_of_le lt_tx2 ccf111
              have g98 : la111 a83 = la a83 := ag111 a83 lt_a8363
              have lt99 : a83 < c111_cnt := Nat.lt_of_lt_of_le lt_a8363 ccf111
              have hag111 : ∀ z, z < cnt → la111 z = la z := fun z hz => (ag111 z (Nat.lt_of_lt_of_le hz (Nat.le_refl _))).trans (rfl)
              have hle111 : cnt ≤ cnt := (Nat.le_refl _)
              have hF111_G : FRM cnt [24, 25, 80, 81, 84, 85, 86, 87, 88] (fun z => (la z < la this ∨ la this < la z) ∧ (la z < la p0 ∨ la p0 < la z)) G c111_G := FRM_trans (FRM_set (FRM_set (FRM_set (FRM_set (FRM_set (FRM_set (FRM_set (FRM_set (FRM_set FRM_refl (by decide) (fun z h1 h2 => hfr65 z ⟨h1, h2⟩)) (by decide) (fun z h1 h2 => hfr66 z ⟨h1, h2⟩)) (by decide) (fun z h1 h2 => hfr75 z ⟨h1, h2⟩)) (by decide) (fun z h1 h2 => hfr76 z ⟨h1, h2⟩)) (by decide) (fun z h1 h2 => hfr77 z ⟨h1, h2⟩)) (by decide) (fun z h1 h2 => hfr78 z ⟨h1, h2⟩)) (by decide) (fun z h1 h2 => hfr79 z ⟨h1, h2⟩)) (by decide) (fun z h1 h2 => hfr80 z ⟨h1, h2⟩)) (by decide) (fun z h1 h2 => hfr81 z ⟨h1, h2⟩)) fG111 hle111 (by decide) (fun _ _ _ => trivial)
              have hF111_P : FRM cnt [22, 23] (fun z => (la z < la this ∨ la this < la z) ∧ (la z < la p0 ∨ la p0 < la z)) P c111_P := FRM_trans FRM_refl fP111 hle111 (by decide) (fun _ _ _ => trivial)
              have hF111_U : FRM cnt [] (fun z => (la z < la this ∨ la this < la z) ∧ (la z < la p0 ∨ la p0 < la z)) U c111_U := FRM_trans FRM_refl fU111 hle111 (by decide) (fun _ _ _ => trivial)
              have hF111_V : FRM cnt [0] (fun z => (la z < la this ∨ la this < la z) ∧ (la z < la p0 ∨ la p0 < la z)) V c111_V := FRM_trans FRM_refl fV111 hle111 (by decide) (fun _ _ _ => trivial)
              have hF111_X : FRM cnt [] (fun z => (la z < la this ∨ la this < la z) ∧ (la z < la p0 ∨ la p0 < la z)) X c111_X := FRM_trans FRM_refl fX111 hle111 (by decide) (fun _ _ _ => trivial)
              have hF111_O : FRM cnt [] (fun z => (la z < la this ∨ la this < la z) ∧ (la z < la p0 ∨ la p0 < la z)) O c111_O := FRM_trans FRM_refl fO111 hle111 (by decide) (fun _ _ _ => trivial)
              have hlnn111 : ∀ z, z < cnt → c111_ln z = ln z := fun z hz => (fl111 z (Nat.lt_of_lt_of_le hz hle111)).trans (rfl)
              have lt100 : r111 < c111_cnt := (p111_1).2.1
              have hn101 : (c111_P 82) this = some tx := ((hex111 this hlt_this (by omega)).2.2.1 82).trans hn1
              have lt_tx102 := ((hB111.1 82 fl_82) this tx hn101).2.1
              have hk_tx := (((CInv_P82 hCI111 :) this).2 tx hn101).1
              have hl1_tx := (((CInv_P82 hCI111 :) this).2 tx hn101).2.1
              have hl2_tx := (((CInv_P82 hCI111 :) this).2 tx hn101).2.2.1
              have hw_tx := (((CInv_P82 hCI111 :) this).2 tx hn101).2.2.2
              have hn103 : (c111_P 22) p0 = some a83 := ((hex111 p0 hlt_p0 (by omega)).2.2.1 22).trans hn_a83
              have lt_a83104 := ((hB111.1 22 fl_22) p0 a83 hn103).2.1
              have lb_a83104 : la111 a83 = la111 p0 + 0 := lk_22.mp ((hB111.1 22 fl_22) p0 a83 hn103).2.2
              have hk_a83 := (((CInv_P22 hCI111 :) p0).2 a83 hn103).1
              have hl1_a83 := (((CInv_P22 hCI111 :) p0).2 a83 hn103).2.1
              have hl2_a83 := (((CInv_P22 hCI111 :) p0).2 a83 hn103).2.2.1
              have hw_a83 := (((CInv_P22 hCI111 :) p0).2 a83 hn103).2.2.2
              refine pw_vl (fun m114 em114 => ?_)
              have hfr105 : ∀ z, (z < cnt ∧ (la z < la this ∨ la this < la z) ∧ (la z < la p0 ∨ la p0 < la z)) → m114 z = (P 22) z := fr_up (e0 := (P 22)) (fun (z : Nat) (hz : (z < cnt ∧ (la z < la this ∨ la this < la z) ∧ (la z < la p0 ∨ la p0 < la z))) => hF111_P 22 z hz.1 (fun _ => hz.2)) em114 (show ¬ (p0 < cnt ∧ (la p0 < la this ∨ la this < la p0) ∧ (la p0 < la p0 ∨ la p0 < la p0)) from fun hz => by have q1 := hag111 p0 hz.1; omega)
              have hl106 : LC 22 la111 c111_cnt m114 := LC_up (hB111.1 22 fl_22) em114 (by omega) (by omega) (lk_22.mpr (by omega))
              have hp107 : PB κ111_81 c111_ln wd 2 100 0 16 0 m114 := by rw [em114]; exact PB_up (CInv_P22 hCI111 :) hk84 (by omega) (by omega) (fun h9 => absurd h9 (by decide))
              have sm114 : m114 p0 = some r111 := by rw [em114]; exact va_up_self _ _ _
              refine pw_j9 ej174 (fun z174_0 ez174_0 z174_1 ez174_1 z174_2 ez174_2 z174_3 ez174_3 z174_4 ez174_4 z174_5 ez174_5 z174_6 ez174_6 z174_7 ez174_7 z174_8 ez174_8 => ?_)
              subst ez174_0 ez174_1 ez174_2 ez174_3 ez174_4 ez174_5 ez174_6 ez174_7 ez174_8
              have qq0 : OUTL f n e l ((c111_G 80) this) ((c111_G 81) this) ((c111_G 84) this) (fun l1 => lawC (c111_P 20) (c111_P 21) m114 (c111_P 23) (c111_G 24) (c111_G 25) (c111_V 0) c111_ln (some p0) = l1) := by obtain ⟨g1, g2, g3, g4, g5, g6, g7⟩ := p103_0 (by omega); have hw9 : wdl (c111_V 0 r111) 0 (c111_ln r111) = tW f n (tE f n e) := (by rw [p111_0, hf, show Int32.toNatClampNeg (c103_G87 this) = tP f n (tE f n e) + 1 by have c8 := clampI (x := c103_G87 this) (by omega); omega, show Int32.toNatClampNeg (c103_G88 this) = tL f n (tE f n e) by have c8 := clampI (x := c103_G88 this) (by omega); omega]; rfl); exact Or.inr ⟨_, _, Or.inr (Or.inr (Or.inl ⟨hK, Or.inr ⟨by rw [← hl]; show oar (V 0) ln ((P 22) p0) = []; rw [hn_a83, oar_some, wdl_nil]; omega, Or.inr ⟨g1, rfl⟩⟩⟩)), by rw [fG111 80 this hlt_this (fun q => absurd q (by decide))]; show (c103_G80 this).toInt = 0; omega, by rw [fG111 81 this hlt_this (fun q => absurd q (by decide))]; show (c103_G81 this).toInt = -1; omega, by rw [fG111 84 this hlt_this (fun q => absurd q (by decide))]; exact g7, lawC_a hl (fP111 20 p0 hlt_p0 (fun q => absurd q (by decide))) (fP111 21 p0 hlt_p0 (fun q => absurd q (by decide))) sm114 (fP111 23 p0 hlt_p0 (fun q => absurd q (by decide))) (fG111 24 p0 hlt_p0 (fun q => absurd q (by decide))) (fG111 25 p0 hlt_p0 (fun q => absurd q (by decide))) hw9 (fun x hx => by have hx1 : x < cnt := (by rcases hx with hx | hx | hx <;> exact (law_fld hB (by omega) hx).1); exact ⟨fV111 0 x hx1 (fun _ => trivial), fl111 x hx1⟩)⟩
              have qq1 : (∀ z, z < cnt → (c111_V 0) z = (V 0) z) := by exact fun z hz => fV111 0 z hz (fun _ => trivial)
              have qq2 : (∀ z, z < cnt → z ≠ p0 → m114 z = (P 22) z ∧ (c111_P 23) z = (P 23) z ∧ (c111_G 24) z = (G 24) z ∧ (c111_G 25) z = (G 25) z) := by exact fun z hz hne => ⟨by rw [em114, va_up_ne _ _ hne]; exact fP111 22 z hz (fun q => absurd q (by decide)), fP111 23 z hz (fun q => absurd q (by decide)), fG111 24 z hz (fun q => absurd q (by decide)), fG111 25 z hz (fun q => absurd q (by decide))⟩
              exact pw_some ⟨la111, hag111, (LB_set hB111 hl106), qq0, qq1, qq2⟩
        · have c87 := z_ne c87
          refine pw_j1 ej95 (fun t95_0 et95_0 => ?_)
          have et95_0 := et95_0.symm
          have f_t95_0 : t95_0.toInt = 0 := by rw [et95_0]; decide +kernel
          refine pw_b3 (fun r95 c95_G80 c95_G81 hc95 => ?_)
          have hq95 := wp_at (ok_X4_isNew κ wd G P U V X O kd ln cnt this t95_0 (CInv_LN hI :) hk_this) hc95
          have f108 : (0 ≤ r95.toInt ∧ r95.toInt ≤ 1) := hq95
          clear hq95
          have hq95 := pwq (fr_X4_isNew la G P U V X O kd ln cnt this t95_0 hB) hc95
          obtain ⟨q95_G80, q95_G81⟩ : (∀ z, (la z < la this ∨ la this < la z) → c95_G80 z = (G 80) z) ∧ (∀ z, (la z < la this ∨ la this < la z) → c95_G81 z = (G 81) z) := hq95
          have tz95 : ∀ z, (z < cnt ∧ (la z < la this ∨ la this < la z) ∧ (la z < la p0 ∨ la p0 < la z)) → ((la z < la this ∨ la this < la z)) := fun z hz => by omega
          have hfr109 : ∀ z, (z < cnt ∧ (la z < la this ∨ la this < la z) ∧ (la z < la p0 ∨ la p0 < la z)) → c95_G80 z = (G 80) z := fun z hz => (q95_G80 z (tz95 z hz)).trans ((fun _ _ => rfl) z hz)
          have hfr110 : ∀ z, (z < cnt ∧ (la z < la this ∨ la this < la z) ∧ (la z < la p0 ∨ la p0 < la z)) → c95_G81 z = (G 81) z := fun z hz => (q95_G81 z (tz95 z hz)).trans ((fun _ _ => rfl) z hz)
          have hx95 := pwq (fn_X4_isNew κ wd la G P U V X O kd ln cnt this t95_0 (CInv_LN hI :) hk_this hB hlt_this) hc95
          obtain ⟨p95_0, p95_1⟩ : ((r95.toInt ≠ 0 → t95_0.toInt ≠ 0 ∧ (c95_G80 this).toInt = ((G 80) this).toInt ∧ (c95_G81 this).toInt = ((G 81) this).toInt)) ∧ ((r95.toInt = 0 → t95_0.toInt = 0 ∧ (c95_G80 this).toInt = 3 ∧ (c95_G81 this).toInt = ((G 86) this).toInt)) := hx95
          refine pw_ite (fun c98 => ?_) (fun c98 => ?_)
          · have c98 := congrArg Int32.toInt c98
            refine pw_j9 ej174 (fun z174_0 ez174_0 z174_1 ez174_1 z174_2 ez174_2 z174_3 ez174_3 z174_4 ez174_4 z174_5 ez174_5 z174_6 ez174_6 z174_7 ez174_7 z174_8 ez174_8 => ?_)
            subst ez174_0 ez174_1 ez174_2 ez174_3 ez174_4 ez174_5 ez174_6 ez174_7 ez174_8
            have qq0 : OUTL f n e l (c95_G80 this) (c95_G81 this) ((G 84) this) (fun l1 => lawC (P 20) (P 21) (P 22) (P 23) (G 24) (G 25) (V 0) ln (some p0) = l1) := by exact Or.inl ⟨_, Or.inr (Or.inr (Or.inl ⟨hK, Or.inl ⟨by rw [← hl]; show oar (V 0) ln ((P 22) p0) ≠ []; rw [hn_a83, oar_some, ne_eq, wdl_nil]; omega, rfl⟩⟩)), (err_of (o := some (3, tP f n e)) rfl (by omega) (by omega) (by omega))⟩
            have qq1 : (∀ z, z < cnt → (V 0) z = (V 0) z) := by exact fun _ _ => rfl
            have qq2 : (∀ z, z < cnt → z ≠ p0 → (P 22) z = (P 22) z ∧ (P 23) z = (P 23) z ∧ (G 24) z = (G 24) z ∧ (G 25) z = (G 25) z) := by exact fun _ _ _ => ⟨rfl, rfl, rfl, rfl⟩
            exact pw_some ⟨la, (fun _ _ => rfl), hB, qq0, qq1, qq2⟩
          · have c98 := z_ne c98
            exfalso; omega
    · have c42 := z_ne c42
      have hK := p39_0 (by omega)
      have hK1 := (fKey_k hK).1
      obtain ⟨v1, v2, v3⟩ := t4 (by omega)
      refine pw_jE (fun j58 ej58 => ?_)
      refine pw_ite (fun c50 => ?_) (fun c50 => ?_)
      · have c50 := congrArg Int32.toInt c50
        refine pw_j1 ej58 (fun t58_0 et58_0 => ?_)
        have et58_0 := et58_0.symm
        have f_t58_0 : t58_0.toInt = 1 := by rw [et58_0]; decide +kernel
        refine pw_b3 (fun r58 c58_G80 c58_G81 hc58 => ?_)
        have hq58 := wp_at (ok_X4_isNew κ wd G P U V X O kd ln cnt this t58_0 (CInv_LN hI :) hk_this) hc58
        have f111 : (0 ≤ r58.toInt ∧ r58.toInt ≤ 1) := hq58
        clear hq58
        have hq58 := pwq (fr_X4_isNew la G P U V X O kd ln cnt this t58_0 hB) hc58
        obtain ⟨q58_G80, q58_G81⟩ : (∀ z, (la z < la this ∨ la this < la z) → c58_G80 z = (G 80) z) ∧ (∀ z, (la z < la this ∨ la this < la z) → c58_G81 z = (G 81) z) := hq58
        have tz58 : ∀ z, (z < cnt ∧ (la z < la this ∨ la this < la z) ∧ (la z < la p0 ∨ la p0 < la z)) → ((la z < la this ∨ la this < la z)) := fun z hz => by omega
        have hfr112 : ∀ z, (z < cnt ∧ (la z < la this ∨ la this < la z) ∧ (la z < la p0 ∨ la p0 < la z)) → c58_G80 z = (G 80) z := fun z hz => (q58_G80 z (tz58 z hz)).trans ((fun _ _ => rfl) z hz)
        have hfr113 : ∀ z, (z < cnt ∧ (la z < la this ∨ la this < la z) ∧ (la z < la p0 ∨ la p0 < la z)) → c58_G81 z = (G 81) z := fun z hz => (q58_G81 z (tz58 z hz)).trans ((fun _ _ => rfl) z hz)
        have hx58 := pwq (fn_X4_isNew κ wd la G P U V X O kd ln cnt this t58_0 (CInv_LN hI :) hk_this hB hlt_this) hc58
        obtain ⟨p58_0, p58_1⟩ : ((r58.toInt ≠ 0 → t58_0.toInt ≠ 0 ∧ (c58_G80 this).toInt = ((G 80) this).toInt ∧ (c58_G81 this).toInt = ((G 81) this).toInt)) ∧ ((r58.toInt = 0 → t58_0.toInt = 0 ∧ (c58_G80 this).toInt = 3 ∧ (c58_G81 this).toInt = ((G 86) this).toInt)) := hx58
        refine pw_ite (fun c61 => ?_) (fun c61 => ?_)
        · have c61 := congrArg Int32.toInt c61
          exfalso; omega
        · have c61 := z_ne c61
          refine pw_vl (fun m66 em66 => ?_)
          have hfr114 : ∀ z, (z < cnt ∧ (la z < la this ∨ la this < la z) ∧ (la z < la p0 ∨ la p0 < la z)) → m66 z = (G 25) z := fr_up (e0 := (G 25)) (fun _ _ => rfl) em66 (show ¬ (p0 < cnt ∧ (la p0 < la this ∨ la this < la p0) ∧ (la p0 < la p0 ∨ la p0 < la p0)) from fun hz => by omega)
          have sm66 : (m66 p0).toInt = 1 := by rw [em66, va_up_self]; decide +kernel
          refine pw_j9 ej174 (fun z174_0 ez174_0 z174_1 ez174_1 z174_2 ez174_2 z174_3 ez174_3 z174_4 ez174_4 z174_5 ez174_5 z174_6 ez174_6 z174_7 ez174_7 z174_8 ez174_8 => ?_)
          subst ez174_0 ez174_1 ez174_2 ez174_3 ez174_4 ez174_5 ez174_6 ez174_7 ez174_8
          have qq0 : OUTL f n e l (c58_G80 this) (c58_G81 this) ((G 84) this) (fun l1 => lawC (P 20) (P 21) (P 22) (P 23) (G 24) m66 (V 0) ln (some p0) = l1) := by exact Or.inr ⟨_, _, Or.inr (Or.inl ⟨hK, Or.inr ⟨by rw [← hl]; show (G 25) p0 = 0; exact z_e (by omega), rfl⟩⟩), by omega, by omega, (by have c9 := clampI (x := (G 84) this) (by omega); omega), by rw [← hl]; show (_, _, _, _, _, m66 p0) = (_, _, _, _, _, _); rw [em66, va_up_self]; rfl⟩
          have qq1 : (∀ z, z < cnt → (V 0) z = (V 0) z) := by exact fun _ _ => rfl
          have qq2 : (∀ z, z < cnt → z ≠ p0 → (P 22) z = (P 22) z ∧ (P 23) z = (P 23) z ∧ (G 24) z = (G 24) z ∧ m66 z = (G 25) z) := by exact fun z hz hne => ⟨rfl, rfl, rfl, by rw [em66]; exact va_up_ne _ _ hne⟩
          exact pw_some ⟨la, (fun _ _ => rfl), hB, qq0, qq1, qq2⟩
      · have c50 := z_ne c50
        refine pw_j1 ej58 (fun t58_0 et58_0 => ?_)
        have et58_0 := et58_0.symm
        have f_t58_0 : t58_0.toInt = 0 := by rw [et58_0]; decide +kernel
        refine pw_b3 (fun r58 c58_G80 c58_G81 hc58 => ?_)
        have hq58 := wp_at (ok_X4_isNew κ wd G P U V X O kd ln cnt this t58_0 (CInv_LN hI :) hk_this) hc58
        have f115 : (0 ≤ r58.toInt ∧ r58.toInt ≤ 1) := hq58
        clear hq58
        have hq58 := pwq (fr_X4_isNew la G P U V X O kd ln cnt this t58_0 hB) hc58
        obtain ⟨q58_G80, q58_G81⟩ : (∀ z, (la z < la this ∨ la this < la z) → c58_G80 z = (G 80) z) ∧ (∀ z, (la z < la this ∨ la this < la z) → c58_G81 z = (G 81) z) := hq58
        have tz58 : ∀ z, (z < cnt ∧ (la z < la this ∨ la this < la z) ∧ (la z < la p0 ∨ la p0 < la z)) → ((la z < la this ∨ la this < la z)) := fun z hz => by omega
        have hfr116 : ∀ z, (z < cnt ∧ (la z < la this ∨ la this < la z) ∧ (la z < la p0 ∨ la p0 < la z)) → c58_G80 z = (G 80) z := fun z hz => (q58_G80 z (tz58 z hz)).trans ((fun _ _ => rfl) z hz)
        have hfr117 : ∀ z, (z < cnt ∧ (la z < la this ∨ la this < la z) ∧ (la z < la p0 ∨ la p0 < la z)) → c58_G81 z = (G 81) z := fun z hz => (q58_G81 z (tz58 z hz)).trans ((fun _ _ => rfl) z hz)
        have hx58 := pwq (fn_X4_isNew κ wd la G P U V X O kd ln cnt this t58_0 (CInv_LN hI :) hk_this hB hlt_this) hc58
        obtain ⟨p58_0, p58_1⟩ : ((r58.toInt ≠ 0 → t58_0.toInt ≠ 0 ∧ (c58_G80 this).toInt = ((G 80) this).toInt ∧ (c58_G81 this).toInt = ((G 81) this).toInt)) ∧ ((r58.toInt = 0 → t58_0.toInt = 0 ∧ (c58_G80 this).toInt = 3 ∧ (c58_G81 this).toInt = ((G 86) this).toInt)) := hx58
        refine pw_ite (fun c61 => ?_) (fun c61 => ?_)
        · have c61 := congrArg Int32.toInt c61
          refine pw_j9 ej174 (fun z174_0 ez174_0 z174_1 ez174_1 z174_2 ez174_2 z174_3 ez174_3 z174_4 ez174_4 z174_5 ez174_5 z174_6 ez174_6 z174_7 ez174_7 z174_8 ez174_8 => ?_)
          subst ez174_0 ez174_1 ez174_2 ez174_3 ez174_4 ez174_5 ez174_6 ez174_7 ez174_8
          have qq0 : OUTL f n e l (c58_G80 this) (c58_G81 this) ((G 84) this) (fun l1 => lawC (P 20) (P 21) (P 22) (P 23) (G 24) (G 25) (V 0) ln (some p0) = l1) := by exact Or.inl ⟨_, Or.inr (Or.inl ⟨hK, Or.inl ⟨by rw [← hl]; intro h9; have h8 := congrArg Int32.toInt h9; exact absurd h8 (by show ¬ ((G 25) p0).toInt = _; omega), rfl⟩⟩), (err_of (o := some (3, tP f n e)) rfl (by omega) (by omega) (by omega))⟩
          have qq1 : (∀ z, z < cnt → (V 0) z = (V 0) z) := by exact fun _ _ => rfl
          have qq2 : (∀ z, z < cnt → z ≠ p0 → (P 22) z = (P 22) z ∧ (P 23) z = (P 23) z ∧ (G 24) z = (G 24) z ∧ (G 25) z = (G 25) z) := by exact fun _ _ _ => ⟨rfl, rfl, rfl, rfl⟩
          exact pw_some ⟨la, (fun _ _ => rfl), hB, qq0, qq1, qq2⟩
        · have c61 := z_ne c61
          exfalso; omega
  · have c6 := z_ne c6
    have hK := p3_0 (by omega)
    have hK1 := (fKey_k hK).1
    obtain ⟨v1, v2, v3⟩ := t4 (by omega)
    refine pw_jE (fun j22 ej22 => ?_)
    refine pw_ite (fun c14 => ?_) (fun c14 => ?_)
    · have c14 := congrArg Int32.toInt c14
      refine pw_j1 ej22 (fun t22_0 et22_0 => ?_)
      have et22_0 := et22_0.symm
      have f_t22_0 : t22_0.toInt = 1 := by rw [et22_0]; decide +kernel
      refine pw_b3 (fun r22 c22_G80 c22_G81 hc22 => ?_)
      have hq22 := wp_at (ok_X4_isNew κ wd G P U V X O kd ln cnt this t22_0 (CInv_LN hI :) hk_this) hc22
      have f118 : (0 ≤ r22.toInt ∧ r22.toInt ≤ 1) := hq22
      clear hq22
      have hq22 := pwq (fr_X4_isNew la G P U V X O kd ln cnt this t22_0 hB) hc22
      obtain ⟨q22_G80, q22_G81⟩ : (∀ z, (la z < la this ∨ la this < la z) → c22_G80 z = (G 80) z) ∧ (∀ z, (la z < la this ∨ la this < la z) → c22_G81 z = (G 81) z) := hq22
      have tz22 : ∀ z, (z < cnt ∧ (la z < la this ∨ la this < la z) ∧ (la z < la p0 ∨ la p0 < la z)) → ((la z < la this ∨ la this < la z)) := fun z hz => by omega
      have hfr119 : ∀ z, (z < cnt ∧ (la z < la this ∨ la this < la z) ∧ (la z < la p0 ∨ la p0 < la z)) → c22_G80 z = (G 80) z := fun z hz => (q22_G80 z (tz22 z hz)).trans ((fun _ _ => rfl) z hz)
      have hfr120 : ∀ z, (z < cnt ∧ (la z < la this ∨ la this < la z) ∧ (la z < la p0 ∨ la p0 < la z)) → c22_G81 z = (G 81) z := fun z hz => (q22_G81 z (tz22 z hz)).trans ((fun _ _ => rfl) z hz)
      have hx22 := pwq (fn_X4_isNew κ wd la G P U V X O kd ln cnt this t22_0 (CInv_LN hI :) hk_this hB hlt_this) hc22
      obtain ⟨p22_0, p22_1⟩ : ((r22.toInt ≠ 0 → t22_0.toInt ≠ 0 ∧ (c22_G80 this).toInt = ((G 80) this).toInt ∧ (c22_G81 this).toInt = ((G 81) this).toInt)) ∧ ((r22.toInt = 0 → t22_0.toInt = 0 ∧ (c22_G80 this).toInt = 3 ∧ (c22_G81 this).toInt = ((G 86) this).toInt)) := hx22
      refine pw_ite (fun c25 => ?_) (fun c25 => ?_)
      · have c25 := congrArg Int32.toInt c25
        exfalso; omega
      · have c25 := z_ne c25
        refine pw_vl (fun m30 em30 => ?_)
        have hfr121 : ∀ z, (z < cnt ∧ (la z < la this ∨ la this < la z) ∧ (la z < la p0 ∨ la p0 < la z)) → m30 z = (G 24) z := fr_up (e0 := (G 24)) (fun _ _ => rfl) em30 (show ¬ (p0 < cnt ∧ (la p0 < la this ∨ la this < la p0) ∧ (la p0 < la p0 ∨ la p0 < la p0)) from fun hz => by omega)
        have sm30 : (m30 p0).toInt = 1 := by rw [em30, va_up_self]; decide +kernel
        refine pw_j9 ej174 (fun z174_0 ez174_0 z174_1 ez174_1 z174_2 ez174_2 z174_3 ez174_3 z174_4 ez174_4 z174_5 ez174_5 z174_6 ez174_6 z174_7 ez174_7 z174_8 ez174_8 => ?_)
        subst ez174_0 ez174_1 ez174_2 ez174_3 ez174_4 ez174_5 ez174_6 ez174_7 ez174_8
        have qq0 : OUTL f n e l (c22_G80 this) (c22_G81 this) ((G 84) this) (fun l1 => lawC (P 20) (P 21) (P 22) (P 23) m30 (G 25) (V 0) ln (some p0) = l1) := by exact Or.inr ⟨_, _, Or.inl ⟨hK, Or.inr ⟨by rw [← hl]; show (G 24) p0 = 0; exact z_e (by omega), rfl⟩⟩, by omega, by omega, (by have c9 := clampI (x := (G 84) this) (by omega); omega), by rw [← hl]; show (_, _, _, _, m30 p0, _) = (_, _, _, _, _, _); rw [em30, va_up_self]; rfl⟩
        have qq1 : (∀ z, z < cnt → (V 0) z = (V 0) z) := by exact fun _ _ => rfl
        have qq2 : (∀ z, z < cnt → z ≠ p0 → (P 22) z = (P 22) z ∧ (P 23) z = (P 23) z ∧ m30 z = (G 24) z ∧ (G 25) z = (G 25) z) := by exact fun z hz hne => ⟨rfl, rfl, by rw [em30]; exact va_up_ne _ _ hne, rfl⟩
        exact pw_some ⟨la, (fun _ _ => rfl), hB, qq0, qq1, qq2⟩
    · have c14 := z_ne c14
      refine pw_j1 ej22 (fun t22_0 et22_0 => ?_)
      have et22_0 := et22_0.symm
      have f_t22_0 : t22_0.toInt = 0 := by rw [et22_0]; decide +kernel
      refine pw_b3 (fun r22 c22_G80 c22_G81 hc22 => ?_)
      have hq22 := wp_at (ok_X4_isNew κ wd G P U V X O kd ln cnt this t22_0 (CInv_LN hI :) hk_this) hc22
      have f122 : (0 ≤ r22.toInt ∧ r22.toInt ≤ 1) := hq22
      clear hq22
      have hq22 := pwq (fr_X4_isNew la G P U V X O kd ln cnt this t22_0 hB) hc22
      obtain ⟨q22_G80, q22_G81⟩ : (∀ z, (la z < la this ∨ la this < la z) → c22_G80 z = (G 80) z) ∧ (∀ z, (la z < la this ∨ la this < la z) → c22_G81 z = (G 81) z) := hq22
      have tz22 : ∀ z, (z < cnt ∧ (la z < la this ∨ la this < la z) ∧ (la z < la p0 ∨ la p0 < la z)) → ((la z < la this ∨ la this < la z)) := fun z hz => by omega
      have hfr123 : ∀ z, (z < cnt ∧ (la z < la this ∨ la this < la z) ∧ (la z < la p0 ∨ la p0 < la z)) → c22_G80 z = (G 80) z := fun z hz => (q22_G80 z (tz22 z hz)).trans ((fun _ _ => rfl) z hz)
      have hfr124 : ∀ z, (z < cnt ∧ (la z < la this ∨ la this < la z) ∧ (la z < la p0 ∨ la p0 < la z)) → c22_G81 z = (G 81) z := fun z hz => (q22_G81 z (tz22 z hz)).trans ((fun _ _ => rfl) z hz)
      have hx22 := pwq (fn_X4_isNew κ wd la G P U V X O kd ln cnt this t22_0 (CInv_LN hI :) hk_this hB hlt_this) hc22
      obtain ⟨p22_0, p22_1⟩ : ((r22.toInt ≠ 0 → t22_0.toInt ≠ 0 ∧ (c22_G80 this).toInt = ((G 80) this).toInt ∧ (c22_G81 this).toInt = ((G 81) this).toInt)) ∧ ((r22.toInt = 0 → t22_0.toInt = 0 ∧ (c22_G80 this).toInt = 3 ∧ (c22_G81 this).toInt = ((G 86) this).toInt)) := hx22
      refine pw_ite (fun c25 => ?_) (fun c25 => ?_)
      · have c25 := congrArg Int32.toInt c25
        refine pw_j9 ej174 (fun z174_0 ez174_0 z174_1 ez174_1 z174_2 ez174_2 z174_3 ez174_3 z174_4 ez174_4 z174_5 ez174_5 z174_6 ez174_6 z174_7 ez174_7 z174_8 ez174_8 => ?_)
        subst ez174_0 ez174_1 ez174_2 ez174_3 ez174_4 ez174_5 ez174_6 ez174_7 ez174_8
        have qq0 : OUTL f n e l (c22_G80 this) (c22_G81 this) ((G 84) this) (fun l1 => lawC (P 20) (P 21) (P 22) (P 23) (G 24) (G 25) (V 0) ln (some p0) = l1) := by exact Or.inl ⟨_, Or.inl ⟨hK, Or.inl ⟨by rw [← hl]; intro h9; have h8 := congrArg Int32.toInt h9; exact absurd h8 (by show ¬ ((G 24) p0).toInt = _; omega), rfl⟩⟩, (err_of (o := some (3, tP f n e)) rfl (by omega) (by omega) (by omega))⟩
        have qq1 : (∀ z, z < cnt → (V 0) z = (V 0) z) := by exact fun _ _ => rfl
        have qq2 : (∀ z, z < cnt → z ≠ p0 → (P 22) z = (P 22) z ∧ (P 23) z = (P 23) z ∧ (G 24) z = (G 24) z ∧ (G 25) z = (G 25) z) := by exact fun _ _ _ => ⟨rfl, rfl, rfl, rfl⟩
        exact pw_some ⟨la, (fun _ _ => rfl), hB, qq0, qq1, qq2⟩
      · have c25 := z_ne c25
        exfalso; omega
abbrev QF_X5_addLaw (κ : Nat → Nat) (wd : Nat) (la : Nat → Nat) (G : Nat → Nat → Int32) (P : Nat → Nat → Option Nat) (U : Nat → Nat → Int64) (V : Nat → Nat → Nat → Int32) (X : Nat → Nat → Nat → Int64) (O : Nat → Nat → Nat → Option Nat) (kd : Nat → Nat) (ln : Nat → Nat) (cnt : Nat) (this : Nat) (p0 : Nat) (lr : Nat) : ((Nat → Int32) × (Nat → Nat → Option Nat)) → Prop := (fun t => (((t.1) this).toInt = ((G 102) this).toInt + 1) ∧ ((t.2) lr = va_up ((O 0) lr) (Int32.toNatClampNeg ((G 102) this)) (some p0)))
set_option maxHeartbeats 4000000 in
set_option maxRecDepth 100000 in
theorem fn_X5_addLaw (κ : Nat → Nat) (wd : Nat) (la : Nat → Nat) (G : Nat → Nat → Int32) (P : Nat → Nat → Option Nat) (U : Nat → Nat → Int64) (V : Nat → Nat → Nat → Int32) (X : Nat → Nat → Nat → Int64) (O : Nat → Nat → Nat → Option Nat) (kd : Nat → Nat) (ln : Nat → Nat) (cnt : Nat) (this : Nat) (p0 : Nat) (lr : Nat) (hzG102 : rng (0) 40 (G 102)) (hzP101 : PB κ ln wd 6 300 40 40 0 (P 101)) (hzO0 : OB κ 2 (O 0)) (hzLN : LN κ ln) (hk_this : κ this = 6) (hk_p0 : κ p0 = 2) (hB : LB la cnt P) (hlt_this : this < cnt) (hlt_p0 : p0 < cnt) (hlr : (P 101) this = some lr) (hrm : ((G 102) this).toInt < 40) : pw (f_X5_addLaw G P U V X O kd ln cnt this p0) (QF_X5_addLaw κ wd la G P U V X O kd ln cnt this p0 lr) := by
  unfold f_X5_addLaw
  have zk1 : (1 : Int32).toInt = 1 := by decide +kernel
  have zk40 : (40 : Int32).toInt = 40 := by decide +kernel
  have hn1 : (P 101) this = some lr := hlr
  have lt_lr2 := ((hB.1 101 fl_101) this lr hn1).2.1
  have lb_lr2 : la lr = la this + 0 := lk_101.mp ((hB.1 101 fl_101) this lr hn1).2.2
  have hk_lr := ((hzP101 this).2 lr hn1).1
  have hl1_lr := ((hzP101 this).2 lr hn1).2.1
  have hl2_lr := ((hzP101 this).2 lr hn1).2.2.1
  have hw_lr := ((hzP101 this).2 lr hn1).2.2.2
  have hz_lr : (Int32.ofNat (ln lr)).toInt = ((ln lr : Nat) : Int) := ofN_eq (by first | exact Nat.le_trans hl2_lr (by decide) | omega)
  have b3 := hzG102 this
  refine pw_jE (fun j29 ej29 => ?_)
  refine pw_ite (fun c6 => ?_) (fun c6 => ?_)
  · have c6 := (z_le _ _).mp c6
    exfalso; omega
  · have c6 := z_nle c6
    refine pw_nne hn1 ?_
    refine pw_if (fun hb18 => ?_)
    obtain ⟨hbl18, hbr18⟩ := hb18
    refine pw_vl (fun m18 em18 => ?_)
    have hfr5 : ∀ z, ((la z < la this ∨ la this + 3 < la z) ∧ (la z < la this + 5 ∨ la this + 5 < la z)) → m18 z = (O 0) z := fr_up (e0 := (O 0)) (fun _ _ => rfl) em18 (show ¬ ((la lr < la this ∨ la this + 3 < la lr) ∧ (la lr < la this + 5 ∨ la this + 5 < la lr)) from by omega)
    have ho6 : OB κ 2 m18 := by rw [em18]; exact OB_up hzO0 hk_p0
    have f8 : (((G 102) this) + 1).toInt = ((G 102) this).toInt + 1 := z_addc (by decide +kernel) (by omega) (by omega)
    refine pw_vl (fun x26 ex26 => ?_)
    have f9 : x26.toInt = (((G 102) this) + 1).toInt := congrArg Int32.toInt ex26
    refine pw_vl (fun m26 em26 => ?_)
    have hfr10 : ∀ z, ((la z < la this ∨ la this + 3 < la z) ∧ (la z < la this + 5 ∨ la this + 5 < la z)) → m26 z = (G 102) z := fr_up (e0 := (G 102)) (fun _ _ => rfl) em26 (show ¬ ((la this < la this ∨ la this + 3 < la this) ∧ (la this < la this + 5 ∨ la this + 5 < la this)) from by omega)
    have hg11 : rng (0) 40 m26 := by rw [em26]; exact rng_vup hzG102 (by omega) (by omega)
    have sm26 : (m26 this).toInt = x26.toInt := by rw [em26, va_up_self]
    have b12 := hg11 this
    refine pw_j2 ej29 (fun z29_0 ez29_0 z29_1 ez29_1 => ?_)
    subst ez29_0 ez29_1
    have qq0 : (m26 this).toInt = ((G 102) this).toInt + 1 := by omega
    have qq1 : m18 lr = va_up ((O 0) lr) (Int32.toNatClampNeg ((G 102) this)) (some p0) := by rw [em18, va_up_self]
    exact pw_some ⟨qq0, qq1⟩
