abbrev QF_X4_readLaw (κ : Nat → Nat) (wd : Nat) (la : Nat → Nat) (G : Nat → Nat → Int32) (P : Nat → Nat → Option Nat) (U : Nat → Nat → Int64) (V : Nat → Nat → Nat → Int32) (X : Nat → Nat → Nat → Int64) (O : Nat → Nat → Nat → Option Nat) (kd : Nat → Nat) (ln : Nat → Nat) (cnt : Nat) (this : Nat) (p0 : Nat) (tx : Nat) (f : Nat → Int32) (n : Nat) (e : Nat) (pl : Nat) (d : Dr) (er : Nat) (br : Nat) (pr : Nat) (kp : Nat) (lr : Nat) (le : Nat) (lb : Nat) (lp : Nat) (se : Nat) (sb : Nat) (sp : Nat) : ((Nat → Nat → Int32) × (Nat → Nat → Option Nat) × (Nat → Nat → Int64) × (Nat → Nat → Nat → Int32) × (Nat → Nat → Nat → Int64) × (Nat → Nat → Nat → Option Nat) × (Nat → Nat) × (Nat → Nat) × Nat) → Prop := (fun t => ∃ la1 : Nat → Nat, (∀ z, z < cnt → la1 z = la z) ∧ LB la1 (t.2.2.2.2.2.2.2.2) (t.2.1) ∧ (OUTC (lawF f n pl e d) (((t.1) 80) this) (((t.1) 81) this) (((t.1) 84) this) (fun d1 => (entV (((t.1) 203) er) (((t.2.2.2.1) 0) le) (((t.2.2.2.1) 1) se) (((t.2.2.2.1) 0) lb) (((t.2.2.2.1) 1) sb) (((t.2.2.2.1) 10) kp), rwW (((t.1) 203) pr) (((t.2.2.2.1) 0) lp) (((t.2.2.2.1) 1) sp) 16, lwsV (((t.1) 102) p0) (((t.2.2.2.2.2.1) 0) lr) ((t.2.1) 20) ((t.2.1) 21) ((t.2.1) 22) ((t.2.1) 23) ((t.1) 24) ((t.1) 25) ((t.2.2.2.1) 0) (t.2.2.2.2.2.2.2.1)) = d1 ∧ (((t.1) 203) br).toInt = (((t.1) 203) er).toInt ∧ (((t.1) 107) p0).toInt = ((kct d1.1 : Nat) : Int))) ∧ (((t.2.2.2.1) 0) tx = f) ∧ (LWL (((t.1) 102) p0) (((t.2.2.2.2.2.1) 0) lr) la1 (t.2.2.2.2.2.2.2.2) (la p0 + 5)))
set_option maxHeartbeats 40000000 in
set_option maxRecDepth 100000 in
theorem fn_X4_readLaw (κ : Nat → Nat) (wd : Nat) (la : Nat → Nat) (G : Nat → Nat → Int32) (P : Nat → Nat → Option Nat) (U : Nat → Nat → Int64) (V : Nat → Nat → Nat → Int32) (X : Nat → Nat → Nat → Int64) (O : Nat → Nat → Nat → Option Nat) (kd : Nat → Nat) (ln : Nat → Nat) (cnt : Nat) (this : Nat) (p0 : Nat) (tx : Nat) (f : Nat → Int32) (n : Nat) (e : Nat) (pl : Nat) (d : Dr) (er : Nat) (br : Nat) (pr : Nat) (kp : Nat) (lr : Nat) (le : Nat) (lb : Nat) (lp : Nat) (se : Nat) (sb : Nat) (sp : Nat) (hI : CInv κ wd G P V O ln cnt) (hk_this : κ this = 5) (hk_p0 : κ p0 = 6) (hp0 : (∀ tx, (P 82) this = some tx → ((G 83) this).toInt ≤ ((ln tx : Nat) : Int))) (hp1 : ((G 84) this).toInt ≤ ((G 83) this).toInt + 1) (hB : LB la cnt P) (hlt_this : this < cnt) (hlt_p0 : p0 < cnt) (htx : (P 82) this = some tx) (hf : (V 0) tx = f) (hn : Int32.toNatClampNeg ((G 83) this) = n) (he : Int32.toNatClampNeg ((G 84) this) = e) (hpt : PTS P (G 200) ln p0 er br pr kp lr le lb lp se sb sp) (hd : (entV ((G 203) er) ((V 0) le) ((V 1) se) ((V 0) lb) ((V 1) sb) ((V 10) kp), rwW ((G 203) pr) ((V 0) lp) ((V 1) sp) 16, lwsV ((G 102) p0) ((O 0) lr) (P 20) (P 21) (P 22) (P 23) (G 24) (G 25) (V 0) ln) = d) (hcb : ((G 203) br).toInt = ((G 203) er).toInt) (hkc : ((G 107) p0).toInt = ((kct d.1 : Nat) : Int)) (hpl : ((G 86) this).toInt = (pl : Int)) (hk0 : ((G 80) this).toInt = 0) (hk1 : ((G 81) this).toInt = -1) (hlw : LWL ((G 102) p0) ((O 0) lr) la cnt (la p0 + 5)) (hlx : la tx = 11) (hld : 100000 ≤ la p0) (hlh : la this = 300) : pw (f_X4_readLaw G P U V X O kd ln cnt this p0) (sp1 (QF_X4_readLaw κ wd la G P U V X O kd ln cnt this p0 tx f n e pl d er br pr kp lr le lb lp se sb sp)) := by
  unfold f_X4_readLaw
  have zk0 : (0 : Int32).toInt = 0 := by decide +kernel
  have zk1 : (1 : Int32).toInt = 1 := by decide +kernel
  have zk3 : (3 : Int32).toInt = 3 := by decide +kernel
  have zk5 : (5 : Int32).toInt = 5 := by decide +kernel
  have zk40 : (40 : Int32).toInt = 40 := by decide +kernel
  have hn1 : (P 82) this = some tx := htx
  have lt_tx2 := ((hB.1 82 fl_82) this tx hn1).2.1
  have hk_tx := (((CInv_P82 hI :) this).2 tx hn1).1
  have hl1_tx := (((CInv_P82 hI :) this).2 tx hn1).2.1
  have hl2_tx := (((CInv_P82 hI :) this).2 tx hn1).2.2.1
  have hw_tx := (((CInv_P82 hI :) this).2 tx hn1).2.2.2
  have hz_tx : (Int32.ofNat (ln tx)).toInt = ((ln tx : Nat) : Int) := ofN_eq (by first | exact Nat.le_trans hl2_tx (by decide) | omega)
  clear hw_tx
  have hn3 : (P 101) p0 = some lr := hpt.1.2.2.2.2
  have lt_lr4 := ((hB.1 101 fl_101) p0 lr hn3).2.1
  have lb_lr4 : la lr = la p0 + 0 := lk_101.mp ((hB.1 101 fl_101) p0 lr hn3).2.2
  have hk_lr := (((CInv_P101 hI :) p0).2 lr hn3).1
  have hl1_lr := (((CInv_P101 hI :) p0).2 lr hn3).2.1
  have hl2_lr := (((CInv_P101 hI :) p0).2 lr hn3).2.2.1
  have hw_lr := (((CInv_P101 hI :) p0).2 lr hn3).2.2.2
  have hz_lr : (Int32.ofNat (ln lr)).toInt = ((ln lr : Nat) : Int) := ofN_eq (by first | exact Nat.le_trans hl2_lr (by decide) | omega)
  clear hw_lr
  have hd1 : d.1 = entV ((G 203) er) ((V 0) le) ((V 1) se) ((V 0) lb) ((V 1) sb) ((V 10) kp) := by rw [← hd]
  have hd2 : d.2.1 = rwW ((G 203) pr) ((V 0) lp) ((V 1) sp) 16 := by rw [← hd]
  have hd3 : d.2.2 = lwsV ((G 102) p0) ((O 0) lr) (P 20) (P 21) (P 22) (P 23) (G 24) (G 25) (V 0) ln := by rw [← hd]
  have hde : d.1.length = Int32.toNatClampNeg ((G 203) er) := by rw [hd1]; exact ent_len
  have hdp : d.2.1.length = Int32.toNatClampNeg ((G 203) pr) := by rw [hd2]; exact rw_len
  have hbe := (CInv_G203 hI :) er
  have hbp := (CInv_G203 hI :) pr
  have hce := clampI (x := (G 203) er) (by omega)
  have hcp := clampI (x := (G 203) pr) (by omega)
  have hkl := kct_le (es := d.1)
  have hl40e := hpt.2.2.2.2.1
  have hl40p := hpt.2.2.2.2.2.2
  have hdl : d.2.2.length = Int32.toNatClampNeg ((G 102) p0) := by rw [hd3]; exact tab_len
  have hb102 := (CInv_G102 hI :) p0
  have hc102 := clampI (x := (G 102) p0) (by omega)
  have hsz := hp0 _ htx
  have hb83 := (CInv_G83 hI :) this
  have ec83 := clampI (x := (G 83) this) (by omega)
  have b5 := (CInv_G102 hI :) p0
  refine pw_jE (fun j15 ej15 => ?_)
  refine pw_ite (fun c7 => ?_) (fun c7 => ?_)
  · have c7 := (z_le _ _).mp c7
    refine pw_j1 ej15 (fun t15_0 et15_0 => ?_)
    have et15_0 := et15_0.symm
    have f_t15_0 : t15_0.toInt = 0 := by rw [et15_0]; decide +kernel
    refine pw_b3 (fun r15 c15_G80 c15_G81 hc15 => ?_)
    have hq15 := wp_at (ok_X4_hasRoom κ wd G P U V X O kd ln cnt this t15_0 (CInv_LN hI :) hk_this) hc15
    have f6 : (0 ≤ r15.toInt ∧ r15.toInt ≤ 1) := hq15
    clear hq15
    have hq15 := pwq (fr_X4_hasRoom la G P U V X O kd ln cnt this t15_0 hB) hc15
    obtain ⟨q15_G80, q15_G81⟩ : (∀ z, (la z < la this ∨ la this < la z) → c15_G80 z = (G 80) z) ∧ (∀ z, (la z < la this ∨ la this < la z) → c15_G81 z = (G 81) z) := hq15
    have tz15 : ∀ z, (z < cnt ∧ (la z < la this ∨ la this < la z) ∧ (la z < la p0 ∨ la p0 + 3 < la z) ∧ (la z < la p0 + 5 ∨ la p0 + 5 < la z)) → ((la z < la this ∨ la this < la z)) := fun z hz => by omega
    have hfr7 : ∀ z, (z < cnt ∧ (la z < la this ∨ la this < la z) ∧ (la z < la p0 ∨ la p0 + 3 < la z) ∧ (la z < la p0 + 5 ∨ la p0 + 5 < la z)) → c15_G80 z = (G 80) z := fun z hz => (q15_G80 z (tz15 z hz)).trans ((fun _ _ => rfl) z hz)
    have hfr8 : ∀ z, (z < cnt ∧ (la z < la this ∨ la this < la z) ∧ (la z < la p0 ∨ la p0 + 3 < la z) ∧ (la z < la p0 + 5 ∨ la p0 + 5 < la z)) → c15_G81 z = (G 81) z := fun z hz => (q15_G81 z (tz15 z hz)).trans ((fun _ _ => rfl) z hz)
    have hx15 := pwq (fn_X4_hasRoom κ wd la G P U V X O kd ln cnt this t15_0 (CInv_LN hI :) hk_this hB hlt_this) hc15
    obtain ⟨p15_0, p15_1⟩ : (id ((r15.toInt ≠ 0 → t15_0.toInt ≠ 0 ∧ (c15_G80 this).toInt = ((G 80) this).toInt ∧ (c15_G81 this).toInt = ((G 81) this).toInt))) ∧ (id ((r15.toInt = 0 → t15_0.toInt = 0 ∧ (c15_G80 this).toInt = 4 ∧ (c15_G81 this).toInt = ((G 86) this).toInt))) := hx15
    refine pw_jE (fun j29 ej29 => ?_)
    refine pw_ite (fun c18 => ?_) (fun c18 => ?_)
    · have c18 := congrArg Int32.toInt c18
      refine pw_j7 ej29 (fun z29_0 ez29_0 z29_1 ez29_1 z29_2 ez29_2 z29_3 ez29_3 z29_4 ez29_4 z29_5 ez29_5 z29_6 ez29_6 => ?_)
      subst ez29_0 ez29_1 ez29_2 ez29_3 ez29_4 ez29_5 ez29_6
      have qq0 : OUTC (lawF f n pl e d) (c15_G80 this) (c15_G81 this) ((G 84) this) (fun d1 => (entV ((G 203) er) ((V 0) le) ((V 1) se) ((V 0) lb) ((V 1) sb) ((V 10) kp), rwW ((G 203) pr) ((V 0) lp) ((V 1) sp) 16, lwsV ((G 102) p0) ((O 0) lr) (P 20) (P 21) (P 22) (P 23) (G 24) (G 25) (V 0) ln) = d1 ∧ ((G 203) br).toInt = ((G 203) er).toInt ∧ ((G 107) p0).toInt = ((kct d1.1 : Nat) : Int)) := by obtain ⟨z7, z8, z9⟩ := p15_1 (by omega); exact outc_bad (z := some (4, pl)) (err_of rfl (by omega) (by omega) (by omega)) (fun q hq => by cases hq; exact lawF_full (by omega))
      have qq1 : (V 0) tx = f := by exact hf
      have qq2 : LWL ((G 102) p0) ((O 0) lr) la cnt (la p0 + 5) := by exact hlw
      exact pw_some ⟨la, (fun _ _ => rfl), hB, qq0, qq1, qq2⟩
    · have c18 : r15.toInt = 1 := by have z9 := z_ne c18; omega
      obtain ⟨z15a, z15b, z15c⟩ := p15_0 (by omega)
      exfalso; have z9 := p15_0 (by omega); omega
  · have c7 := z_nle c7
    refine pw_j1 ej15 (fun t15_0 et15_0 => ?_)
    have et15_0 := et15_0.symm
    have f_t15_0 : t15_0.toInt = 1 := by rw [et15_0]; decide +kernel
    refine pw_b3 (fun r15 c15_G80 c15_G81 hc15 => ?_)
    have hq15 := wp_at (ok_X4_hasRoom κ wd G P U V X O kd ln cnt this t15_0 (CInv_LN hI :) hk_this) hc15
    have f9 : (0 ≤ r15.toInt ∧ r15.toInt ≤ 1) := hq15
    clear hq15
    have hq15 := pwq (fr_X4_hasRoom la G P U V X O kd ln cnt this t15_0 hB) hc15
    obtain ⟨q15_G80, q15_G81⟩ : (∀ z, (la z < la this ∨ la this < la z) → c15_G80 z = (G 80) z) ∧ (∀ z, (la z < la this ∨ la this < la z) → c15_G81 z = (G 81) z) := hq15
    have tz15 : ∀ z, (z < cnt ∧ (la z < la this ∨ la this < la z) ∧ (la z < la p0 ∨ la p0 + 3 < la z) ∧ (la z < la p0 + 5 ∨ la p0 + 5 < la z)) → ((la z < la this ∨ la this < la z)) := fun z hz => by omega
    have hfr10 : ∀ z, (z < cnt ∧ (la z < la this ∨ la this < la z) ∧ (la z < la p0 ∨ la p0 + 3 < la z) ∧ (la z < la p0 + 5 ∨ la p0 + 5 < la z)) → c15_G80 z = (G 80) z := fun z hz => (q15_G80 z (tz15 z hz)).trans ((fun _ _ => rfl) z hz)
    have hfr11 : ∀ z, (z < cnt ∧ (la z < la this ∨ la this < la z) ∧ (la z < la p0 ∨ la p0 + 3 < la z) ∧ (la z < la p0 + 5 ∨ la p0 + 5 < la z)) → c15_G81 z = (G 81) z := fun z hz => (q15_G81 z (tz15 z hz)).trans ((fun _ _ => rfl) z hz)
    have hx15 := pwq (fn_X4_hasRoom κ wd la G P U V X O kd ln cnt this t15_0 (CInv_LN hI :) hk_this hB hlt_this) hc15
    obtain ⟨p15_0, p15_1⟩ : (id ((r15.toInt ≠ 0 → t15_0.toInt ≠ 0 ∧ (c15_G80 this).toInt = ((G 80) this).toInt ∧ (c15_G81 this).toInt = ((G 81) this).toInt))) ∧ (id ((r15.toInt = 0 → t15_0.toInt = 0 ∧ (c15_G80 this).toInt = 4 ∧ (c15_G81 this).toInt = ((G 86) this).toInt))) := hx15
    refine pw_jE (fun j29 ej29 => ?_)
    refine pw_ite (fun c18 => ?_) (fun c18 => ?_)
    · have c18 := congrArg Int32.toInt c18
      exfalso; have z9 := p15_1 (by omega); omega
    · have c18 : r15.toInt = 1 := by have z9 := z_ne c18; omega
      obtain ⟨z15a, z15b, z15c⟩ := p15_0 (by omega)
      have hpr23_0 : id ((∀ tx, (P 82) this = some tx → ((G 83) this).toInt ≤ ((ln tx : Nat) : Int))) := show (∀ tx, (P 82) this = some tx → ((G 83) this).toInt ≤ ((ln tx : Nat) : Int)) from by assumption
      have hpr23_1 : ((G 84) this).toInt ≤ ((G 83) this).toInt + 1 := by first | assumption | omega
      refine pw_b8 (fun r23 c23_G80 c23_G81 c23_G84 c23_G85 c23_G86 c23_G87 c23_G88 hc23 => ?_)
      have hq23 := wp_at (ok_X4_takeLetters κ wd (va_up (va_up G 80 c15_G80) 81 c15_G81) P U V X O kd ln cnt this (0 : Int32) (CInv_G83 hI :) (CInv_G84 hI :) (CInv_G85 hI :) (CInv_G87 hI :) (CInv_G88 hI :) (CInv_P82 hI :) (CInv_LN hI :) hk_this hpr23_0 hpr23_1) hc23
      obtain ⟨hg12, hg13, hg14, hg15, f16, f17, f18, f19⟩ : (rng (0) 2001 c23_G84) ∧ (rng (0) 4 c23_G85) ∧ (rng (0) 2001 c23_G87) ∧ (rng (0) 2000 c23_G88) ∧ ((0 ≤ r23.toInt ∧ r23.toInt ≤ 1)) ∧ (((G 84) this).toInt ≤ (c23_G84 this).toInt) ∧ ((c23_G84 this).toInt ≤ ((G 83) this).toInt + 1) ∧ (id ((r23.toInt = 1 → 1 ≤ (c23_G87 this).toInt ∧ (c23_G87 this).toInt + (c23_G88 this).toInt ≤ ((G 83) this).toInt ∧ (c23_G88 this).toInt ≤ 16))) := hq23
      have hq23 := pwq (fr_X4_takeLetters la (va_up (va_up G 80 c15_G80) 81 c15_G81) P U V X O kd ln cnt this (0 : Int32) hB) hc23
      obtain ⟨q23_G80, q23_G81, q23_G84, q23_G85, q23_G86, q23_G87, q23_G88⟩ : (∀ z, (la z < la this ∨ la this < la z) → c23_G80 z = c15_G80 z) ∧ (∀ z, (la z < la this ∨ la this < la z) → c23_G81 z = c15_G81 z) ∧ (∀ z, (la z < la this ∨ la this < la z) → c23_G84 z = (G 84) z) ∧ (∀ z, (la z < la this ∨ la this < la z) → c23_G85 z = (G 85) z) ∧ (∀ z, (la z < la this ∨ la this < la z) → c23_G86 z = (G 86) z) ∧ (∀ z, (la z < la this ∨ la this < la z) → c23_G87 z = (G 87) z) ∧ (∀ z, (la z < la this ∨ la this < la z) → c23_G88 z = (G 88) z) := hq23
      have tz23 : ∀ z, (z < cnt ∧ (la z < la this ∨ la this < la z) ∧ (la z < la p0 ∨ la p0 + 3 < la z) ∧ (la z < la p0 + 5 ∨ la p0 + 5 < la z)) → ((la z < la this ∨ la this < la z)) := fun z hz => by omega
      have hfr20 : ∀ z, (z < cnt ∧ (la z < la this ∨ la this < la z) ∧ (la z < la p0 ∨ la p0 + 3 < la z) ∧ (la z < la p0 + 5 ∨ la p0 + 5 < la z)) → c23_G80 z = (G 80) z := fun z hz => (q23_G80 z (tz23 z hz)).trans (hfr10 z hz)
      have hfr21 : ∀ z, (z < cnt ∧ (la z < la this ∨ la this < la z) ∧ (la z < la p0 ∨ la p0 + 3 < la z) ∧ (la z < la p0 + 5 ∨ la p0 + 5 < la z)) → c23_G81 z = (G 81) z := fun z hz => (q23_G81 z (tz23 z hz)).trans (hfr11 z hz)
      have hfr22 : ∀ z, (z < cnt ∧ (la z < la this ∨ la this < la z) ∧ (la z < la p0 ∨ la p0 + 3 < la z) ∧ (la z < la p0 + 5 ∨ la p0 + 5 < la z)) → c23_G84 z = (G 84) z := fun z hz => (q23_G84 z (tz23 z hz)).trans ((fun _ _ => rfl) z hz)
      have hfr23 : ∀ z, (z < cnt ∧ (la z < la this ∨ la this < la z) ∧ (la z < la p0 ∨ la p0 + 3 < la z) ∧ (la z < la p0 + 5 ∨ la p0 + 5 < la z)) → c23_G85 z = (G 85) z := fun z hz => (q23_G85 z (tz23 z hz)).trans ((fun _ _ => rfl) z hz)
      have hfr24 : ∀ z, (z < cnt ∧ (la z < la this ∨ la this < la z) ∧ (la z < la p0 ∨ la p0 + 3 < la z) ∧ (la z < la p0 + 5 ∨ la p0 + 5 < la z)) → c23_G86 z = (G 86) z := fun z hz => (q23_G86 z (tz23 z hz)).trans ((fun _ _ => rfl) z hz)
      have hfr25 : ∀ z, (z < cnt ∧ (la z < la this ∨ la this < la z) ∧ (la z < la p0 ∨ la p0 + 3 < la z) ∧ (la z < la p0 + 5 ∨ la p0 + 5 < la z)) → c23_G87 z = (G 87) z := fun z hz => (q23_G87 z (tz23 z hz)).trans ((fun _ _ => rfl) z hz)
      have hfr26 : ∀ z, (z < cnt ∧ (la z < la this ∨ la this < la z) ∧ (la z < la p0 ∨ la p0 + 3 < la z) ∧ (la z < la p0 + 5 ∨ la p0 + 5 < la z)) → c23_G88 z = (G 88) z := fun z hz => (q23_G88 z (tz23 z hz)).trans ((fun _ _ => rfl) z hz)
      have h823_htx : (P 82) this = some tx := by first | assumption | omega
      have h823_hf : (V 0) tx = f := by first | assumption | omega
      have h823_hn : Int32.toNatClampNeg ((G 83) this) = n := by first | assumption | omega
      have h823_he : Int32.toNatClampNeg ((G 84) this) = e := by first | assumption | omega
      have h823_hsm : (true) = decide ((0 : Int32).toInt = 0) := by decide
      have hx23 := pwq (fn_X4_takeLetters κ wd la (va_up (va_up G 80 c15_G80) 81 c15_G81) P U V X O kd ln cnt this (0 : Int32) (tx) (f) (n) (e) (true) (CInv_G83 hI :) (CInv_G84 hI :) (CInv_G85 hI :) (CInv_G87 hI :) (CInv_G88 hI :) (CInv_P82 hI :) (CInv_LN hI :) hk_this hpr23_0 hpr23_1 hB hlt_this h823_htx h823_hf h823_hn h823_he h823_hsm) hc23
      obtain ⟨p23_0, p23_1⟩ : (id ((r23.toInt ≠ 0 → fLet f n e (true) = none ∧ (c23_G80 this).toInt = (c15_G80 this).toInt ∧ (c23_G81 this).toInt = (c15_G81 this).toInt ∧ (c23_G86 this).toInt = ((tP f n e : Nat) : Int) ∧ (c23_G87 this).toInt = ((tP f n e : Nat) : Int) + 1 ∧ (c23_G88 this).toInt = ((tL f n e : Nat) : Int) ∧ Int32.toNatClampNeg (c23_G84 this) = tE f n e))) ∧ (id ((r23.toInt = 0 → ERR (fLet f n e (true)) (c23_G80 this) (c23_G81 this)))) := hx23
      have hlo23 := f17
      have hup23 := f18
      refine pw_ite (fun c26 => ?_) (fun c26 => ?_)
      · have c26 := congrArg Int32.toInt c26
        refine pw_j7 ej29 (fun z29_0 ez29_0 z29_1 ez29_1 z29_2 ez29_2 z29_3 ez29_3 z29_4 ez29_4 z29_5 ez29_5 z29_6 ez29_6 => ?_)
        subst ez29_0 ez29_1 ez29_2 ez29_3 ez29_4 ez29_5 ez29_6
        have qq0 : OUTC (lawF f n pl e d) (c23_G80 this) (c23_G81 this) (c23_G84 this) (fun d1 => (entV ((G 203) er) ((V 0) le) ((V 1) se) ((V 0) lb) ((V 1) sb) ((V 10) kp), rwW ((G 203) pr) ((V 0) lp) ((V 1) sp) 16, lwsV ((G 102) p0) ((O 0) lr) (P 20) (P 21) (P 22) (P 23) (G 24) (G 25) (V 0) ln) = d1 ∧ ((G 203) br).toInt = ((G 203) er).toInt ∧ ((G 107) p0).toInt = ((kct d1.1 : Nat) : Int)) := by exact outc_bad (p23_1 (by omega)) (fun q hq => lawF_1 (by omega) hq)
        have qq1 : (V 0) tx = f := by exact hf
        have qq2 : LWL ((G 102) p0) ((O 0) lr) la cnt (la p0 + 5) := by exact hlw
        exact pw_some ⟨la, (fun _ _ => rfl), hB, qq0, qq1, qq2⟩
      · have c26 : r23.toInt = 1 := by have z9 := z_ne c26; omega
        obtain ⟨g1, g2, g3, g4, g5, g6, g7⟩ := p23_0 (by omega)
        have gk := fLet_k g1
        have gl := tL_2 gk.1
        have ea := clampI (x := c23_G87 this) (by omega)
        have eb := clampI (x := c23_G88 this) (by omega)
        have hwd : wdl ((V 0) tx) (Int32.toNatClampNeg (c23_G87 this)) (Int32.toNatClampNeg (c23_G88 this)) = tW f n e := by rw [hf, show Int32.toNatClampNeg (c23_G87 this) = tP f n e + 1 by omega, show Int32.toNatClampNeg (c23_G88 this) = tL f n e by omega]; rfl
        have hpr31_0 : id ((∀ tx, (P 82) this = some tx → ((G 83) this).toInt ≤ ((ln tx : Nat) : Int))) := show (∀ tx, (P 82) this = some tx → ((G 83) this).toInt ≤ ((ln tx : Nat) : Int)) from by assumption
        have hpr31_1 : (1 ≤ (c23_G87 this).toInt ∧ (c23_G87 this).toInt + (c23_G88 this).toInt ≤ ((G 83) this).toInt ∧ (c23_G88 this).toInt ≤ 16) := by first | assumption | omega
        refine pw_bA10 (fun r31 c31_G c31_P c31_U c31_V c31_X c31_O c31_kd c31_ln c31_cnt v1_31 v2_31 hc31 => ?_)
        have hq31 := wp_at (ok_X4_letters κ wd (va_up (va_up (va_up (va_up (va_up (va_up (va_up (va_up (va_up G 80 c15_G80) 81 c15_G81) 80 c23_G80) 81 c23_G81) 84 c23_G84) 85 c23_G85) 86 c23_G86) 87 c23_G87) 88 c23_G88) P U V X O kd ln cnt this (CInv_i (CInv_G43 hI :) (CInv_G44 hI :) (CInv_G45 hI :) (CInv_G60 hI :) (CInv_G83 hI :) hg12 hg13 hg14 hg15 (CInv_G102 hI :) (CInv_G125 hI :) (CInv_G126 hI :) (CInv_G127 hI :) (CInv_G141 hI :) (CInv_G160 hI :) (CInv_G161 hI :) (CInv_G162 hI :) (CInv_G165 hI :) (CInv_G166 hI :) (CInv_G183 hI :) (CInv_G200 hI :) (CInv_G203 hI :) (CInv_G222 hI :) (CInv_G231 hI :) (CInv_G233 hI :) (CInv_P0 hI :) (CInv_P1 hI :) (CInv_P2 hI :) (CInv_P3 hI :) (CInv_P4 hI :) (CInv_P5 hI :) (CInv_P20 hI :) (CInv_P21 hI :) (CInv_P22 hI :) (CInv_P23 hI :) (CInv_P40 hI :) (CInv_P41 hI :) (CInv_P42 hI :) (CInv_P61 hI :) (CInv_P62 hI :) (CInv_P63 hI :) (CInv_P64 hI :) (CInv_P65 hI :) (CInv_P66 hI :) (CInv_P82 hI :) (CInv_P101 hI :) (CInv_P103 hI :) (CInv_P104 hI :) (CInv_P105 hI :) (CInv_P106 hI :) (CInv_P108 hI :) (CInv_P109 hI :) (CInv_P110 hI :) (CInv_P120 hI :) (CInv_P121 hI :) (CInv_P122 hI :) (CInv_P123 hI :) (CInv_P140 hI :) (CInv_P164 hI :) (CInv_P180 hI :) (CInv_P181 hI :) (CInv_P182 hI :) (CInv_P185 hI :) (CInv_P186 hI :) (CInv_P187 hI :) (CInv_P201 hI :) (CInv_P202 hI :) (CInv_P220 hI :) (CInv_P221 hI :) (CInv_P224 hI :) (CInv_P225 hI :) (CInv_P226 hI :) (CInv_P227 hI :) (CInv_P228 hI :) (CInv_P229 hI :) (CInv_P230 hI :) (CInv_P232 hI :) (CInv_P234 hI :) (CInv_P235 hI :) (CInv_P236 hI :) (CInv_V1 hI :) (CInv_V2 hI :) (CInv_V3 hI :) (CInv_V9 hI :) (CInv_O0 hI :) (CInv_O1 hI :) (CInv_O2 hI :) (CInv_RA hI :) (CInv_RB hI :) (CInv_RI hI :) (CInv_RM103 hI :) (CInv_RM104 hI :) (CInv_RM108 hI :) (CInv_LN hI :) (CInv_FL hI :) (CInv_W0 hI :) (CInv_KC hI :) (CInv_WK hI :)) hk_this hpr31_0 hpr31_1) hc31
        obtain ⟨κ31_26, hCI31, hxx31, hcc28, hex31, hk29, f30, f31, f32, f33⟩ : ∃ κ1 : Nat → Nat, (CInv κ1 wd c31_G c31_P c31_V c31_O c31_ln c31_cnt) ∧ (∀ a, κ a ≠ 0 → κ1 a = κ a) ∧ (cnt ≤ c31_cnt) ∧ (EX cnt cnt κ κ1 (va_up (va_up (va_up (va_up (va_up (va_up (va_up (va_up (va_up G 80 c15_G80) 81 c15_G81) 80 c23_G80) 81 c23_G81) 84 c23_G84) 85 c23_G85) 86 c23_G86) 87 c23_G87) 88 c23_G88) c31_G P c31_P V c31_V O c31_O ln c31_ln) ∧ (κ1 r31 = 100) ∧ (c31_ln r31 ≤ 16) ∧ (cnt ≤ r31) ∧ (v1_31 ≤ 1) ∧ (v2_31 ≤ 16) := hq31
        have kx34 : ∀ a, κ a ≠ 0 → κ31_26 a = κ a := hxx31
        have hk35 : κ31_26 this = 5 := kxk hxx31 hk_this (by decide)
        have hk36 : κ31_26 p0 = 6 := kxk hxx31 hk_p0 (by decide)
        have hq31 := pwq (fr_X4_letters la (va_up (va_up (va_up (va_up (va_up (va_up (va_up (va_up (va_up G 80 c15_G80) 81 c15_G81) 80 c23_G80) 81 c23_G81) 84 c23_G84) 85 c23_G85) 86 c23_G86) 87 c23_G87) 88 c23_G88) P U V X O kd ln cnt this (la p0 + 5) hB hlt_this (show (la p0 + 5) < 100000 + 10 * cnt + 6 from by have q9 := hB.2 p0 hlt_p0; omega)) hc31
        obtain ⟨la31_f, agf31, hBf31, ccf31, fG31, fP31, fU31, fV31, fX31, fO31, fl31, po31_0⟩ : ∃ la9 : Nat → Nat, (∀ z, z < cnt → la9 z = la z) ∧ LB la9 c31_cnt c31_P ∧ cnt ≤ c31_cnt ∧ FRM cnt [] (fun z => True) (va_up (va_up (va_up (va_up (va_up (va_up (va_up (va_up (va_up G 80 c15_G80) 81 c15_G81) 80 c23_G80) 81 c23_G81) 84 c23_G84) 85 c23_G85) 86 c23_G86) 87 c23_G87) 88 c23_G88) c31_G ∧ FRM cnt [] (fun z => True) P c31_P ∧ FRM cnt [] (fun z => True) U c31_U ∧ FRM cnt [0] (fun z => True) V c31_V ∧ FRM cnt [] (fun z => True) X c31_X ∧ FRM cnt [] (fun z => True) O c31_O ∧ (∀ z, z < cnt → c31_ln z = ln z) ∧ (cnt ≤ r31 ∧ r31 < c31_cnt ∧ la9 r31 = (la p0 + 5)) := hq31
        have h831_htx : (P 82) this = some tx := by first | assumption | omega
        have hx31 := pwq (fn_X4_letters κ wd la (va_up (va_up (va_up (va_up (va_up (va_up (va_up (va_up (va_up G 80 c15_G80) 81 c15_G81) 80 c23_G80) 81 c23_G81) 84 c23_G84) 85 c23_G85) 86 c23_G86) 87 c23_G87) 88 c23_G88) P U V X O kd ln cnt this (la p0 + 5) (tx) (CInv_i (CInv_G43 hI :) (CInv_G44 hI :) (CInv_G45 hI :) (CInv_G60 hI :) (CInv_G83 hI :) hg12 hg13 hg14 hg15 (CInv_G102 hI :) (CInv_G125 hI :) (CInv_G126 hI :) (CInv_G127 hI :) (CInv_G141 hI :) (CInv_G160 hI :) (CInv_G161 hI :) (CInv_G162 hI :) (CInv_G165 hI :) (CInv_G166 hI :) (CInv_G183 hI :) (CInv_G200 hI :) (CInv_G203 hI :) (CInv_G222 hI :) (CInv_G231 hI :) (CInv_G233 hI :) (CInv_P0 hI :) (CInv_P1 hI :) (CInv_P2 hI :) (CInv_P3 hI :) (CInv_P4 hI :) (CInv_P5 hI :) (CInv_P20 hI :) (CInv_P21 hI :) (CInv_P22 hI :) (CInv_P23 hI :) (CInv_P40 hI :) (CInv_P41 hI :) (CInv_P42 hI :) (CInv_P61 hI :) (CInv_P62 hI :) (CInv_P63 hI :) (CInv_P64 hI :) (CInv_P65 hI :) (CInv_P66 hI :) (CInv_P82 hI :) (CInv_P101 hI :) (CInv_P103 hI :) (CInv_P104 hI :) (CInv_P105 hI :) (CInv_P106 hI :) (CInv_P108 hI :) (CInv_P109 hI :) (CInv_P110 hI :) (CInv_P120 hI :) (CInv_P121 hI :) (CInv_P122 hI :) (CInv_P123 hI :) (CInv_P140 hI :) (CInv_P164 hI :) (CInv_P180 hI :) (CInv_P181 hI :) (CInv_P182 hI :) (CInv_P185 hI :) (CInv_P186 hI :) (CInv_P187 hI :) (CInv_P201 hI :) (CInv_P202 hI :) (CInv_P220 hI :) (CInv_P221 hI :) (CInv_P224 hI :) (CInv_P225 hI :) (CInv_P226 hI :) (CInv_P227 hI :) (CInv_P228 hI :) (CInv_P229 hI :) (CInv_P230 hI :) (CInv_P232 hI :) (CInv_P234 hI :) (CInv_P235 hI :) (CInv_P236 hI :) (CInv_V1 hI :) (CInv_V2 hI :) (CInv_V3 hI :) (CInv_V9 hI :) (CInv_O0 hI :) (CInv_O1 hI :) (CInv_O2 hI :) (CInv_RA hI :) (CInv_RB hI :) (CInv_RI hI :) (CInv_RM103 hI :) (CInv_RM104 hI :) (CInv_RM108 hI :) (CInv_LN hI :) (CInv_FL hI :) (CInv_W0 hI :) (CInv_KC hI :) (CInv_WK hI :)) hk_this hpr31_0 hpr31_1 hB hlt_this (show (la p0 + 5) < 100000 + 10 * cnt + 6 from by have q9 := hB.2 p0 hlt_p0; omega) h831_htx) hc31
        obtain ⟨la31, ag31, hB31, p31_0, p31_1⟩ : ∃ la9 : Nat → Nat, (∀ z, z < cnt → la9 z = la z) ∧ LB la9 c31_cnt c31_P ∧ (wdl ((c31_V 0) r31) 0 (c31_ln r31) = wdl ((V 0) tx) (Int32.toNatClampNeg (c23_G87 this)) (Int32.toNatClampNeg (c23_G88 this))) ∧ ((cnt ≤ r31 ∧ r31 < c31_cnt ∧ la9 r31 = (la p0 + 5))) := hx31
        clear h831_htx agf31 hBf31 po31_0 hxx31 f32 f33 hc31 hpr31_1 hpr31_0 p23_0 p23_1 h823_hsm h823_he h823_hn h823_hf h823_htx tz23 q23_G80 q23_G81 q23_G84 q23_G85 q23_G86 q23_G87 q23_G88 hg12 hg13 hg14 hg15 f16 f17 f18 f19 hc23 hpr23_1 hpr23_0 z15a p15_0 p15_1 tz15 q15_G80 q15_G81 f9 hc15 f_t15_0 et15_0
        have g37 : la31 this = la this := ag31 this hlt_this
        have lt38 : this < c31_cnt := Nat.lt_of_lt_of_le hlt_this ccf31
        have g39 : la31 p0 = la p0 := ag31 p0 hlt_p0
        have lt40 : p0 < c31_cnt := Nat.lt_of_lt_of_le hlt_p0 ccf31
        have g41 : la31 tx = la tx := ag31 tx lt_tx2
        have lt42 : tx < c31_cnt := Nat.lt_of_lt_of_le lt_tx2 ccf31
        have g43 : la31 lr = la lr := ag31 lr lt_lr4
        have lt44 : lr < c31_cnt := Nat.lt_of_lt_of_le lt_lr4 ccf31
        have hag31 : ∀ z, z < cnt → la31 z = la z := fun z hz => (ag31 z (Nat.lt_of_lt_of_le hz (Nat.le_refl _))).trans (rfl)
        have hle31 : cnt ≤ cnt := (Nat.le_refl _)
        have hF31_G : FRM cnt [24, 25, 80, 81, 84, 85, 86, 87, 88, 102] (fun z => (la z < la this ∨ la this < la z) ∧ (la z < la p0 ∨ la p0 + 3 < la z) ∧ (la z < la p0 + 5 ∨ la p0 + 5 < la z)) G c31_G := FRM_trans (FRM_set (FRM_set (FRM_set (FRM_set (FRM_set (FRM_set (FRM_set (FRM_set (FRM_set FRM_refl (by decide) (fun z h1 h2 => hfr10 z ⟨h1, h2⟩)) (by decide) (fun z h1 h2 => hfr11 z ⟨h1, h2⟩)) (by decide) (fun z h1 h2 => hfr20 z ⟨h1, h2⟩)) (by decide) (fun z h1 h2 => hfr21 z ⟨h1, h2⟩)) (by decide) (fun z h1 h2 => hfr22 z ⟨h1, h2⟩)) (by decide) (fun z h1 h2 => hfr23 z ⟨h1, h2⟩)) (by decide) (fun z h1 h2 => hfr24 z ⟨h1, h2⟩)) (by decide) (fun z h1 h2 => hfr25 z ⟨h1, h2⟩)) (by decide) (fun z h1 h2 => hfr26 z ⟨h1, h2⟩)) fG31 hle31 (by decide) (fun _ _ _ => trivial)
        have hF31_P : FRM cnt [22, 23] (fun z => (la z < la this ∨ la this < la z) ∧ (la z < la p0 ∨ la p0 + 3 < la z) ∧ (la z < la p0 + 5 ∨ la p0 + 5 < la z)) P c31_P := FRM_trans FRM_refl fP31 hle31 (by decide) (fun _ _ _ => trivial)
        have hF31_U : FRM cnt [] (fun z => (la z < la this ∨ la this < la z) ∧ (la z < la p0 ∨ la p0 + 3 < la z) ∧ (la z < la p0 + 5 ∨ la p0 + 5 < la z)) U c31_U := FRM_trans FRM_refl fU31 hle31 (by decide) (fun _ _ _ => trivial)
        have hF31_V : FRM cnt [0] (fun z => (la z < la this ∨ la this < la z) ∧ (la z < la p0 ∨ la p0 + 3 < la z) ∧ (la z < la p0 + 5 ∨ la p0 + 5 < la z)) V c31_V := FRM_trans FRM_refl fV31 hle31 (by decide) (fun _ _ _ => trivial)
        have hF31_X : FRM cnt [] (fun z => (la z < la this ∨ la this < la z) ∧ (la z < la p0 ∨ la p0 + 3 < la z) ∧ (la z < la p0 + 5 ∨ la p0 + 5 < la z)) X c31_X := FRM_trans FRM_refl fX31 hle31 (by decide) (fun _ _ _ => trivial)
        have hF31_O : FRM cnt [0] (fun z => (la z < la this ∨ la this < la z) ∧ (la z < la p0 ∨ la p0 + 3 < la z) ∧ (la z < la p0 + 5 ∨ la p0 + 5 < la z)) O c31_O := FRM_trans FRM_refl fO31 hle31 (by decide) (fun _ _ _ => trivial)
        have hlnn31 : ∀ z, z < cnt → c31_ln z = ln z := fun z hz => (fl31 z (Nat.lt_of_lt_of_le hz hle31)).trans (rfl)
        clear fU31 fX31 hfr26 hfr25 hfr24 hfr23 hfr22 hfr21 hfr20 hfr11 hfr10
        have lt45 : r31 < c31_cnt := (p31_1).2.1
        have hn46 : (c31_P 82) this = some tx := ((hex31 this hlt_this (by omega)).2.2.1 82).trans hn1
        have lt_tx47 := ((hB31.1 82 fl_82) this tx hn46).2.1
        have hk_tx := (((CInv_P82 hCI31 :) this).2 tx hn46).1
        have hl1_tx := (((CInv_P82 hCI31 :) this).2 tx hn46).2.1
        have hl2_tx := (((CInv_P82 hCI31 :) this).2 tx hn46).2.2.1
        have hw_tx := (((CInv_P82 hCI31 :) this).2 tx hn46).2.2.2
        clear hw_tx
        have hn48 : (c31_P 101) p0 = some lr := ((hex31 p0 hlt_p0 (by omega)).2.2.1 101).trans hn3
        have lt_lr49 := ((hB31.1 101 fl_101) p0 lr hn48).2.1
        have lb_lr49 : la31 lr = la31 p0 + 0 := lk_101.mp ((hB31.1 101 fl_101) p0 lr hn48).2.2
        have hk_lr := (((CInv_P101 hCI31 :) p0).2 lr hn48).1
        have hl1_lr := (((CInv_P101 hCI31 :) p0).2 lr hn48).2.1
        have hl2_lr := (((CInv_P101 hCI31 :) p0).2 lr hn48).2.2.1
        have hw_lr := (((CInv_P101 hCI31 :) p0).2 lr hn48).2.2.2
        clear hw_lr
        have hln31 := f30
        have hlc31 := f31
        have ht31_80 : (c31_G 80) this = c23_G80 this := fG31 80 this hlt_this (fun q => absurd q (by decide))
        have ht31_81 : (c31_G 81) this = c23_G81 this := fG31 81 this hlt_this (fun q => absurd q (by decide))
        have ht31_83 : (c31_G 83) this = (G 83) this := fG31 83 this hlt_this (fun q => absurd q (by decide))
        have ht31_84 : (c31_G 84) this = c23_G84 this := fG31 84 this hlt_this (fun q => absurd q (by decide))
        have ht31_86 : (c31_G 86) this = c23_G86 this := fG31 86 this hlt_this (fun q => absurd q (by decide))
        have ht31_87 : (c31_G 87) this = c23_G87 this := fG31 87 this hlt_this (fun q => absurd q (by decide))
        have ht31_88 : (c31_G 88) this = c23_G88 this := fG31 88 this hlt_this (fun q => absurd q (by decide))
        have hti31_80 := congrArg Int32.toInt ht31_80
        have hti31_81 := congrArg Int32.toInt ht31_81
        have hti31_83 := congrArg Int32.toInt ht31_83
        have hti31_84 := congrArg Int32.toInt ht31_84
        have hti31_86 := congrArg Int32.toInt ht31_86
        have hti31_87 := congrArg Int32.toInt ht31_87
        have hti31_88 := congrArg Int32.toInt ht31_88
        have hv31 : (c31_V 0) tx = f := (fV31 0 tx (by omega) (fun _ => trivial)).trans hf
        have hsz31 : ((c31_G 83) this).toInt ≤ ((c31_ln tx : Nat) : Int) := by rw [fl31 tx (by omega)]; omega
        have hR31 : ∀ t9, (c31_P 82) this = some t9 → ((c31_G 83) this).toInt ≤ ((c31_ln t9 : Nat) : Int) := fun t9 ht9 => by obtain rfl : tx = t9 := Option.some.inj (hn46.symm.trans ht9); exact hsz31
        have hpr36_0 : id ((∀ tx, (c31_P 82) this = some tx → ((c31_G 83) this).toInt ≤ ((c31_ln tx : Nat) : Int))) := show (∀ tx, (c31_P 82) this = some tx → ((c31_G 83) this).toInt ≤ ((c31_ln tx : Nat) : Int)) from by assumption
        have hpr36_1 : ((c31_G 84) this).toInt ≤ ((c31_G 83) this).toInt + 1 := by first | assumption | omega
        refine pw_b8 (fun r36 c36_G80 c36_G81 c36_G84 c36_G85 c36_G86 c36_G87 c36_G88 hc36 => ?_)
        have hq36 := wp_at (ok_X4_takeTo κ31_26 wd c31_G c31_P c31_U c31_V c31_X c31_O c31_kd c31_ln c31_cnt this (CInv_G83 hCI31 :) (CInv_G84 hCI31 :) (CInv_G85 hCI31 :) (CInv_G87 hCI31 :) (CInv_G88 hCI31 :) (CInv_P82 hCI31 :) (CInv_LN hCI31 :) hk35 hpr36_0 hpr36_1) hc36
        obtain ⟨hg50, hg51, hg52, hg53, f54, f55, f56⟩ : (rng (0) 2001 c36_G84) ∧ (rng (0) 4 c36_G85) ∧ (rng (0) 2001 c36_G87) ∧ (rng (0) 2000 c36_G88) ∧ ((0 ≤ r36.toInt ∧ r36.toInt ≤ 1)) ∧ (((c31_G 84) this).toInt ≤ (c36_G84 this).toInt) ∧ ((c36_G84 this).toInt ≤ ((c31_G 83) this).toInt + 1) := hq36
        have hq36 := pwq (fr_X4_takeTo la31 c31_G c31_P c31_U c31_V c31_X c31_O c31_kd c31_ln c31_cnt this hB31) hc36
        obtain ⟨q36_G80, q36_G81, q36_G84, q36_G85, q36_G86, q36_G87, q36_G88⟩ : (∀ z, (la31 z < la31 this ∨ la31 this < la31 z) → c36_G80 z = (c31_G 80) z) ∧ (∀ z, (la31 z < la31 this ∨ la31 this < la31 z) → c36_G81 z = (c31_G 81) z) ∧ (∀ z, (la31 z < la31 this ∨ la31 this < la31 z) → c36_G84 z = (c31_G 84) z) ∧ (∀ z, (la31 z < la31 this ∨ la31 this < la31 z) → c36_G85 z = (c31_G 85) z) ∧ (∀ z, (la31 z < la31 this ∨ la31 this < la31 z) → c36_G86 z = (c31_G 86) z) ∧ (∀ z, (la31 z < la31 this ∨ la31 this < la31 z) → c36_G87 z = (c31_G 87) z) ∧ (∀ z, (la31 z < la31 this ∨ la31 this < la31 z) → c36_G88 z = (c31_G 88) z) := hq36
        have tz36 : ∀ z, (z < cnt ∧ (la z < la this ∨ la this < la z) ∧ (la z < la p0 ∨ la p0 + 3 < la z) ∧ (la z < la p0 + 5 ∨ la p0 + 5 < la z)) → ((la31 z < la31 this ∨ la31 this < la31 z)) := fun z hz => by have q1 := hag31 z hz.1; have q2 := hB.2 z hz.1; omega
        have hfr57 : ∀ z, (z < cnt ∧ (la z < la this ∨ la this < la z) ∧ (la z < la p0 ∨ la p0 + 3 < la z) ∧ (la z < la p0 + 5 ∨ la p0 + 5 < la z)) → c36_G80 z = (G 80) z := fun z hz => (q36_G80 z (tz36 z hz)).trans ((fun (z : Nat) (hz : (z < cnt ∧ (la z < la this ∨ la this < la z) ∧ (la z < la p0 ∨ la p0 + 3 < la z) ∧ (la z < la p0 + 5 ∨ la p0 + 5 < la z))) => hF31_G 80 z hz.1 (fun _ => hz.2)) z hz)
        have hfr58 : ∀ z, (z < cnt ∧ (la z < la this ∨ la this < la z) ∧ (la z < la p0 ∨ la p0 + 3 < la z) ∧ (la z < la p0 + 5 ∨ la p0 + 5 < la z)) → c36_G81 z = (G 81) z := fun z hz => (q36_G81 z (tz36 z hz)).trans ((fun (z : Nat) (hz : (z < cnt ∧ (la z < la this ∨ la this < la z) ∧ (la z < la p0 ∨ la p0 + 3 < la z) ∧ (la z < la p0 + 5 ∨ la p0 + 5 < la z))) => hF31_G 81 z hz.1 (fun _ => hz.2)) z hz)
        have hfr59 : ∀ z, (z < cnt ∧ (la z < la this ∨ la this < la z) ∧ (la z < la p0 ∨ la p0 + 3 < la z) ∧ (la z < la p0 + 5 ∨ la p0 + 5 < la z)) → c36_G84 z = (G 84) z := fun z hz => (q36_G84 z (tz36 z hz)).trans ((fun (z : Nat) (hz : (z < cnt ∧ (la z < la this ∨ la this < la z) ∧ (la z < la p0 ∨ la p0 + 3 < la z) ∧ (la z < la p0 + 5 ∨ la p0 + 5 < la z))) => hF31_G 84 z hz.1 (fun _ => hz.2)) z hz)
        have hfr60 : ∀ z, (z < cnt ∧ (la z < la this ∨ la this < la z) ∧ (la z < la p0 ∨ la p0 + 3 < la z) ∧ (la z < la p0 + 5 ∨ la p0 + 5 < la z)) → c36_G85 z = (G 85) z := fun z hz => (q36_G85 z (tz36 z hz)).trans ((fun (z : Nat) (hz : (z < cnt ∧ (la z < la this ∨ la this < la z) ∧ (la z < la p0 ∨ la p0 + 3 < la z) ∧ (la z < la p0 + 5 ∨ la p0 + 5 < la z))) => hF31_G 85 z hz.1 (fun _ => hz.2)) z hz)
        have hfr61 : ∀ z, (z < cnt ∧ (la z < la this ∨ la this < la z) ∧ (la z < la p0 ∨ la p0 + 3 < la z) ∧ (la z < la p0 + 5 ∨ la p0 + 5 < la z)) → c36_G86 z = (G 86) z := fun z hz => (q36_G86 z (tz36 z hz)).trans ((fun (z : Nat) (hz : (z < cnt ∧ (la z < la this ∨ la this < la z) ∧ (la z < la p0 ∨ la p0 + 3 < la z) ∧ (la z < la p0 + 5 ∨ la p0 + 5 < la z))) => hF31_G 86 z hz.1 (fun _ => hz.2)) z hz)
        have hfr62 : ∀ z, (z < cnt ∧ (la z < la this ∨ la this < la z) ∧ (la z < la p0 ∨ la p0 + 3 < la z) ∧ (la z < la p0 + 5 ∨ la p0 + 5 < la z)) → c36_G87 z = (G 87) z := fun z hz => (q36_G87 z (tz36 z hz)).trans ((fun (z : Nat) (hz : (z < cnt ∧ (la z < la this ∨ la this < la z) ∧ (la z < la p0 ∨ la p0 + 3 < la z) ∧ (la z < la p0 + 5 ∨ la p0 + 5 < la z))) => hF31_G 87 z hz.1 (fun _ => hz.2)) z hz)
        have hfr63 : ∀ z, (z < cnt ∧ (la z < la this ∨ la this < la z) ∧ (la z < la p0 ∨ la p0 + 3 < la z) ∧ (la z < la p0 + 5 ∨ la p0 + 5 < la z)) → c36_G88 z = (G 88) z := fun z hz => (q36_G88 z (tz36 z hz)).trans ((fun (z : Nat) (hz : (z < cnt ∧ (la z < la this ∨ la this < la z) ∧ (la z < la p0 ∨ la p0 + 3 < la z) ∧ (la z < la p0 + 5 ∨ la p0 + 5 < la z))) => hF31_G 88 z hz.1 (fun _ => hz.2)) z hz)
        have h836_htx : (c31_P 82) this = some tx := by exact hn46
        have h836_hf : (c31_V 0) tx = f := by exact hv31
        have h836_hn : Int32.toNatClampNeg ((c31_G 83) this) = n := by rw [ht31_83]; exact hn
        have h836_he : Int32.toNatClampNeg ((c31_G 84) this) = (tE f n e) := by rw [ht31_84]; exact g7
        have hx36 := pwq (fn_X4_takeTo κ31_26 wd la31 c31_G c31_P c31_U c31_V c31_X c31_O c31_kd c31_ln c31_cnt this (tx) (f) (n) (tE f n e) (CInv_G83 hCI31 :) (CInv_G84 hCI31 :) (CInv_G85 hCI31 :) (CInv_G87 hCI31 :) (CInv_G88 hCI31 :) (CInv_P82 hCI31 :) (CInv_LN hCI31 :) hk35 hpr36_0 hpr36_1 hB31 lt38 h836_htx h836_hf h836_hn h836_he) hc36
        obtain ⟨p36_0, p36_1⟩ : (id ((r36.toInt ≠ 0 → fTo f n (tE f n e) = none ∧ (c36_G80 this).toInt = ((c31_G 80) this).toInt ∧ (c36_G81 this).toInt = ((c31_G 81) this).toInt ∧ Int32.toNatClampNeg (c36_G84 this) = tE f n (tE f n e)))) ∧ (id ((r36.toInt = 0 → ERR (fTo f n (tE f n e)) (c36_G80 this) (c36_G81 this)))) := hx36
        have hlo36 := f55
        have hup36 := f56
        refine pw_jE (fun j50 ej50 => ?_)
        refine pw_ite (fun c39 => ?_) (fun c39 => ?_)
        · have c39 := congrArg Int32.toInt c39
          refine pw_j7 ej50 (fun z50_0 ez50_0 z50_1 ez50_1 z50_2 ez50_2 z50_3 ez50_3 z50_4 ez50_4 z50_5 ez50_5 z50_6 ez50_6 => ?_)
          subst ez50_0 ez50_1 ez50_2 ez50_3 ez50_4 ez50_5 ez50_6
          have qq0 : OUTC (lawF f n pl e d) (c36_G80 this) (c36_G81 this) (c36_G84 this) (fun d1 => (entV ((c31_G 203) er) ((c31_V 0) le) ((c31_V 1) se) ((c31_V 0) lb) ((c31_V 1) sb) ((c31_V 10) kp), rwW ((c31_G 203) pr) ((c31_V 0) lp) ((c31_V 1) sp) 16, lwsV ((c31_G 102) p0) ((c31_O 0) lr) (c31_P 20) (c31_P 21) (c31_P 22) (c31_P 23) (c31_G 24) (c31_G 25) (c31_V 0) c31_ln) = d1 ∧ ((c31_G 203) br).toInt = ((c31_G 203) er).toInt ∧ ((c31_G 107) p0).toInt = ((kct d1.1 : Nat) : Int)) := by exact outc_bad (p36_1 (by omega)) (fun q hq => lawF_2 (by omega) g1 hq)
          have qq1 : (c31_V 0) tx = f := by exact hv31
          have qq2 : LWL ((c31_G 102) p0) ((c31_O 0) lr) la31 c31_cnt (la p0 + 5) := by exact LWL_fr hlw (fG31 102 p0 hlt_p0 (fun q => absurd q (by decide))) (fun i hi => congrFun (fO31 0 lr (by omega) (fun q => absurd q (by decide))) i) ccf31 ag31
          exact pw_some ⟨la31, hag31, hB31, qq0, qq1, qq2⟩
        · have c39 : r36.toInt = 1 := by have z9 := z_ne c39; omega
          obtain ⟨u1, u2, u3, u4⟩ := p36_0 (by omega)
          have hpr44_0 : id ((∀ tx, (c31_P 82) this = some tx → ((c31_G 83) this).toInt ≤ ((c31_ln tx : Nat) : Int))) := show (∀ tx, (c31_P 82) this = some tx → ((c31_G 83) this).toInt ≤ ((c31_ln tx : Nat) : Int)) from by assumption
          have hpr44_1 : (c36_G84 this).toInt ≤ ((c31_G 83) this).toInt + 1 := by first | assumption | omega
          refine pw_b8 (fun r44 c44_G80 c44_G81 c44_G84 c44_G85 c44_G86 c44_G87 c44_G88 hc44 => ?_)
          have hq44 := wp_at (ok_X4_takeLetters κ31_26 wd (va_up (va_up (va_up (va_up (va_up (va_up (va_up c31_G 80 c36_G80) 81 c36_G81) 84 c36_G84) 85 c36_G85) 86 c36_G86) 87 c36_G87) 88 c36_G88) c31_P c31_U c31_V c31_X c31_O c31_kd c31_ln c31_cnt this (1 : Int32) (CInv_G83 hCI31 :) hg50 hg51 hg52 hg53 (CInv_P82 hCI31 :) (CInv_LN hCI31 :) hk35 hpr44_0 hpr44_1) hc44
          obtain ⟨hg64, hg65, hg66, hg67, f68, f69, f70, f71⟩ : (rng (0) 2001 c44_G84) ∧ (rng (0) 4 c44_G85) ∧ (rng (0) 2001 c44_G87) ∧ (rng (0) 2000 c44_G88) ∧ ((0 ≤ r44.toInt ∧ r44.toInt ≤ 1)) ∧ ((c36_G84 this).toInt ≤ (c44_G84 this).toInt) ∧ ((c44_G84 this).toInt ≤ ((c31_G 83) this).toInt + 1) ∧ (id ((r44.toInt = 1 → 1 ≤ (c44_G87 this).toInt ∧ (c44_G87 this).toInt + (c44_G88 this).toInt ≤ ((c31_G 83) this).toInt ∧ (c44_G88 this).toInt ≤ 16))) := hq44
          have hq44 := pwq (fr_X4_takeLetters la31 (va_up (va_up (va_up (va_up (va_up (va_up (va_up c31_G 80 c36_G80) 81 c36_G81) 84 c36_G84) 85 c36_G85) 86 c36_G86) 87 c36_G87) 88 c36_G88) c31_P c31_U c31_V c31_X c31_O c31_kd c31_ln c31_cnt this (1 : Int32) hB31) hc44
          obtain ⟨q44_G80, q44_G81, q44_G84, q44_G85, q44_G86, q44_G87, q44_G88⟩ : (∀ z, (la31 z < la31 this ∨ la31 this < la31 z) → c44_G80 z = c36_G80 z) ∧ (∀ z, (la31 z < la31 this ∨ la31 this < la31 z) → c44_G81 z = c36_G81 z) ∧ (∀ z, (la31 z < la31 this ∨ la31 this < la31 z) → c44_G84 z = c36_G84 z) ∧ (∀ z, (la31 z < la31 this ∨ la31 this < la31 z) → c44_G85 z = c36_G85 z) ∧ (∀ z, (la31 z < la31 this ∨ la31 this < la31 z) → c44_G86 z = c36_G86 z) ∧ (∀ z, (la31 z < la31 this ∨ la31 this < la31 z) → c44_G87 z = c36_G87 z) ∧ (∀ z, (la31 z < la31 this ∨ la31 this < la31 z) → c44_G88 z = c36_G88 z) := hq44
          have tz44 : ∀ z, (z < cnt ∧ (la z < la this ∨ la this < la z) ∧ (la z < la p0 ∨ la p0 + 3 < la z) ∧ (la z < la p0 + 5 ∨ la p0 + 5 < la z)) → ((la31 z < la31 this ∨ la31 this < la31 z)) := fun z hz => by have q1 := hag31 z hz.1; have q2 := hB.2 z hz.1; omega
          have hfr72 : ∀ z, (z < cnt ∧ (la z < la this ∨ la this < la z) ∧ (la z < la p0 ∨ la p0 + 3 < la z) ∧ (la z < la p0 + 5 ∨ la p0 + 5 < la z)) → c44_G80 z = (G 80) z := fun z hz => (q44_G80 z (tz44 z hz)).trans (hfr57 z hz)
          have hfr73 : ∀ z, (z < cnt ∧ (la z < la this ∨ la this < la z) ∧ (la z < la p0 ∨ la p0 + 3 < la z) ∧ (la z < la p0 + 5 ∨ la p0 + 5 < la z)) → c44_G81 z = (G 81) z := fun z hz => (q44_G81 z (tz44 z hz)).trans (hfr58 z hz)
          have hfr74 : ∀ z, (z < cnt ∧ (la z < la this ∨ la this < la z) ∧ (la z < la p0 ∨ la p0 + 3 < la z) ∧ (la z < la p0 + 5 ∨ la p0 + 5 < la z)) → c44_G84 z = (G 84) z := fun z hz => (q44_G84 z (tz44 z hz)).trans (hfr59 z hz)
          have hfr75 : ∀ z, (z < cnt ∧ (la z < la this ∨ la this < la z) ∧ (la z < la p0 ∨ la p0 + 3 < la z) ∧ (la z < la p0 + 5 ∨ la p0 + 5 < la z)) → c44_G85 z = (G 85) z := fun z hz => (q44_G85 z (tz44 z hz)).trans (hfr60 z hz)
          have hfr76 : ∀ z, (z < cnt ∧ (la z < la this ∨ la this < la z) ∧ (la z < la p0 ∨ la p0 + 3 < la z) ∧ (la z < la p0 + 5 ∨ la p0 + 5 < la z)) → c44_G86 z = (G 86) z := fun z hz => (q44_G86 z (tz44 z hz)).trans (hfr61 z hz)
          have hfr77 : ∀ z, (z < cnt ∧ (la z < la this ∨ la this < la z) ∧ (la z < la p0 ∨ la p0 + 3 < la z) ∧ (la z < la p0 + 5 ∨ la p0 + 5 < la z)) → c44_G87 z = (G 87) z := fun z hz => (q44_G87 z (tz44 z hz)).trans (hfr62 z hz)
          have hfr78 : ∀ z, (z < cnt ∧ (la z < la this ∨ la this < la z) ∧ (la z < la p0 ∨ la p0 + 3 < la z) ∧ (la z < la p0 + 5 ∨ la p0 + 5 < la z)) → c44_G88 z = (G 88) z := fun z hz => (q44_G88 z (tz44 z hz)).trans (hfr63 z hz)
          have h844_htx : (c31_P 82) this = some tx := by exact hn46
          have h844_hf : (c31_V 0) tx = f := by exact hv31
          have h844_hn : Int32.toNatClampNeg ((c31_G 83) this) = n := by rw [ht31_83]; exact hn
          have h844_he : Int32.toNatClampNeg (c36_G84 this) = (tE f n (tE f n e)) := by exact u4
          have h844_hsm : (false) = decide ((1 : Int32).toInt = 0) := by decide
          have hx44 := pwq (fn_X4_takeLetters κ31_26 wd la31 (va_up (va_up (va_up (va_up (va_up (va_up (va_up c31_G 80 c36_G80) 81 c36_G81) 84 c36_G84) 85 c36_G85) 86 c36_G86) 87 c36_G87) 88 c36_G88) c31_P c31_U c31_V c31_X c31_O c31_kd c31_ln c31_cnt this (1 : Int32) (tx) (f) (n) (tE f n (tE f n e)) (false) (CInv_G83 hCI31 :) hg50 hg51 hg52 hg53 (CInv_P82 hCI31 :) (CInv_LN hCI31 :) hk35 hpr44_0 hpr44_1 hB31 lt38 h844_htx h844_hf h844_hn h844_he h844_hsm) hc44
          obtain ⟨p44_0, p44_1⟩ : (id ((r44.toInt ≠ 0 → fLet f n (tE f n (tE f n e)) (false) = none ∧ (c44_G80 this).toInt = (c36_G80 this).toInt ∧ (c44_G81 this).toInt = (c36_G81 this).toInt ∧ (c44_G86 this).toInt = ((tP f n (tE f n (tE f n e)) : Nat) : Int) ∧ (c44_G87 this).toInt = ((tP f n (tE f n (tE f n e)) : Nat) : Int) + 1 ∧ (c44_G88 this).toInt = ((tL f n (tE f n (tE f n e)) : Nat) : Int) ∧ Int32.toNatClampNeg (c44_G84 this) = tE f n (tE f n (tE f n e))))) ∧ (id ((r44.toInt = 0 → ERR (fLet f n (tE f n (tE f n e)) (false)) (c44_G80 this) (c44_G81 this)))) := hx44
          have hlo44 := f69
          have hup44 := f70
          refine pw_ite (fun c47 => ?_) (fun c47 => ?_)
          · have c47 := congrArg Int32.toInt c47
            refine pw_j7 ej50 (fun z50_0 ez50_0 z50_1 ez50_1 z50_2 ez50_2 z50_3 ez50_3 z50_4 ez50_4 z50_5 ez50_5 z50_6 ez50_6 => ?_)
            subst ez50_0 ez50_1 ez50_2 ez50_3 ez50_4 ez50_5 ez50_6
            have qq0 : OUTC (lawF f n pl e d) (c44_G80 this) (c44_G81 this) (c44_G84 this) (fun d1 => (entV ((c31_G 203) er) ((c31_V 0) le) ((c31_V 1) se) ((c31_V 0) lb) ((c31_V 1) sb) ((c31_V 10) kp), rwW ((c31_G 203) pr) ((c31_V 0) lp) ((c31_V 1) sp) 16, lwsV ((c31_G 102) p0) ((c31_O 0) lr) (c31_P 20) (c31_P 21) (c31_P 22) (c31_P 23) (c31_G 24) (c31_G 25) (c31_V 0) c31_ln) = d1 ∧ ((c31_G 203) br).toInt = ((c31_G 203) er).toInt ∧ ((c31_G 107) p0).toInt = ((kct d1.1 : Nat) : Int)) := by exact outc_bad (p44_1 (by omega)) (fun q hq => lawF_3 (by omega) g1 u1 hq)
            have qq1 : (c31_V 0) tx = f := by exact hv31
            have qq2 : LWL ((c31_G 102) p0) ((c31_O 0) lr) la31 c31_cnt (la p0 + 5) := by exact LWL_fr hlw (fG31 102 p0 hlt_p0 (fun q => absurd q (by decide))) (fun i hi => congrFun (fO31 0 lr (by omega) (fun q => absurd q (by decide))) i) ccf31 ag31
            exact pw_some ⟨la31, hag31, hB31, qq0, qq1, qq2⟩
          · have c47 : r44.toInt = 1 := by have z9 := z_ne c47; omega
            obtain ⟨k1, k2, k3, k4, k5, k6, k7⟩ := p44_0 (by omega)
            have kk := fLet_k k1
            have kl := tL_2 kk.1
            refine pw_tk ?_
            refine pw_newd (κ := κ31_26) (la := la31) (wd := wd) (Ke := 0) (L := la31 p0 + 5) (CInv_i (CInv_G43 hCI31 :) (CInv_G44 hCI31 :) (CInv_G45 hCI31 :) (CInv_G60 hCI31 :) (CInv_G83 hCI31 :) hg64 hg65 hg66 hg67 (CInv_G102 hCI31 :) (CInv_G125 hCI31 :) (CInv_G126 hCI31 :) (CInv_G127 hCI31 :) (CInv_G141 hCI31 :) (CInv_G160 hCI31 :) (CInv_G161 hCI31 :) (CInv_G162 hCI31 :) (CInv_G165 hCI31 :) (CInv_G166 hCI31 :) (CInv_G183 hCI31 :) (CInv_G200 hCI31 :) (CInv_G203 hCI31 :) (CInv_G222 hCI31 :) (CInv_G231 hCI31 :) (CInv_G233 hCI31 :) (CInv_P0 hCI31 :) (CInv_P1 hCI31 :) (CInv_P2 hCI31 :) (CInv_P3 hCI31 :) (CInv_P4 hCI31 :) (CInv_P5 hCI31 :) (CInv_P20 hCI31 :) (CInv_P21 hCI31 :) (CInv_P22 hCI31 :) (CInv_P23 hCI31 :) (CInv_P40 hCI31 :) (CInv_P41 hCI31 :) (CInv_P42 hCI31 :) (CInv_P61 hCI31 :) (CInv_P62 hCI31 :) (CInv_P63 hCI31 :) (CInv_P64 hCI31 :) (CInv_P65 hCI31 :) (CInv_P66 hCI31 :) (CInv_P82 hCI31 :) (CInv_P101 hCI31 :) (CInv_P103 hCI31 :) (CInv_P104 hCI31 :) (CInv_P105 hCI31 :) (CInv_P106 hCI31 :) (CInv_P108 hCI31 :) (CInv_P109 hCI31 :) (CInv_P110 hCI31 :) (CInv_P120 hCI31 :) (CInv_P121 hCI31 :) (CInv_P122 hCI31 :) (CInv_P123 hCI31 :) (CInv_P140 hCI31 :) (CInv_P164 hCI31 :) (CInv_P180 hCI31 :) (CInv_P181 hCI31 :) (CInv_P182 hCI31 :) (CInv_P185 hCI31 :) (CInv_P186 hCI31 :) (CInv_P187 hCI31 :) (CInv_P201 hCI31 :) (CInv_P202 hCI31 :) (CInv_P220 hCI31 :) (CInv_P221 hCI31 :) (CInv_P224 hCI31 :) (CInv_P225 hCI31 :) (CInv_P226 hCI31 :) (CInv_P227 hCI31 :) (CInv_P228 hCI31 :) (CInv_P229 hCI31 :) (CInv_P230 hCI31 :) (CInv_P232 hCI31 :) (CInv_P234 hCI31 :) (CInv_P235 hCI31 :) (CInv_P236 hCI31 :) (CInv_V1 hCI31 :) (CInv_V2 hCI31 :) (CInv_V3 hCI31 :) (CInv_V9 hCI31 :) (CInv_O0 hCI31 :) (CInv_O1 hCI31 :) (CInv_O2 hCI31 :) (CInv_RA hCI31 :) (CInv_RB hCI31 :) (CInv_RI hCI31 :) (CInv_RM103 hCI31 :) (CInv_RM104 hCI31 :) (CInv_RM108 hCI31 :) (CInv_LN hCI31 :) (CInv_FL hCI31 :) (CInv_W0 hCI31 :) (CInv_KC hCI31 :) (CInv_WK hCI31 :)) (by decide) (by omega) hB31 (by have q79 := hB31.2 this lt38; have q80 := hB31.2 p0 lt40; omega) (fun κ51 la51 G51 P51 U51 V51 X51 O51 kd51 ln51 cnt51 hCI51 hcn51 hkn51 hln51 hex51 hvz51 hfs51 hB51 hL51 ag51 fU51 fX51 => ?_)
            have hx81 : ∀ a, κ31_26 a ≠ 0 → κ51 a = κ31_26 a := fun a ha => (hex51 a (kclt (CInv_KC hCI31 :) ha) (Nat.ne_of_lt (kclt (CInv_KC hCI31 :) ha))).1
            have ccf51 : c31_cnt ≤ cnt51 := by rw [hcn51]; exact Nat.le_succ _
            clear hvz51 hfs51 p44_0 p44_1 h844_hsm h844_he h844_hn h844_hf h844_htx tz44 q44_G80 q44_G81 q44_G84 q44_G85 q44_G86 q44_G87 q44_G88 hg64 hg65 hg66 hg67 f68 f69 f70 f71 hc44 hpr44_1 hpr44_0 p36_0 p36_1 h836_he h836_hn h836_hf h836_htx tz36 q36_G80 q36_G81 q36_G84 q36_G85 q36_G86 q36_G87 q36_G88 hg50 hg51 hg52 hg53 f54 f55 f56 hc36 hpr36_1 hpr36_0 hR31 hti31_88 hti31_87 hti31_86 ht31_88 ht31_87 ht31_86 ht31_84 ht31_83 ht31_81 ht31_80 lb_lr49 hle31 lt44 lt42 ag31 hB31 fl31 hex31 f30 f31
            have kx82 : ∀ a, κ a ≠ 0 → κ51 a = κ a := kxt kx34 hx81
            have hk83 : κ51 this = 5 := kxk hx81 hk35 (by decide)
            have hk84 : κ51 p0 = 6 := kxk hx81 hk36 (by decide)
            have hl85 := (hex51 r31 (kcl0 (CInv_KC hCI31 :) hk29 (by decide)) (Nat.ne_of_lt (kcl0 (CInv_KC hCI31 :) hk29 (by decide)))).2.2.2.2.2
            have hk86 : κ51 r31 = 100 := kxk hx81 hk29 (by decide)
            have g87 : la51 this = la this := (ag51 this lt38).trans g37
            have lt88 : this < cnt51 := Nat.lt_of_lt_of_le lt38 ccf51
            have g89 : la51 p0 = la p0 := (ag51 p0 lt40).trans g39
            have lt90 : p0 < cnt51 := Nat.lt_of_lt_of_le lt40 ccf51
            have g91 : la51 tx = la tx := (ag51 tx lt_tx47).trans g41
            have lt92 : tx < cnt51 := Nat.lt_of_lt_of_le lt_tx47 ccf51
            have g93 : la51 lr = la lr := (ag51 lr lt_lr49).trans g43
            have lt94 : lr < cnt51 := Nat.lt_of_lt_of_le lt_lr49 ccf51
            have g95 : la51 r31 = la31 r31 := ag51 r31 lt45
            have lt96 : r31 < cnt51 := Nat.lt_of_lt_of_le lt45 ccf51
            have hag51 : ∀ z, z < cnt → la51 z = la z := fun z hz => (ag51 z (Nat.lt_of_lt_of_le hz (Nat.le_trans (Nat.le_refl _) ccf31))).trans (hag31 z hz)
            have fG51 : FRM c31_cnt [] (fun _ => True) (va_up (va_up (va_up (va_up (va_up (va_up (va_up (va_up (va_up (va_up (va_up (va_up (va_up (va_up c31_G 80 c36_G80) 81 c36_G81) 84 c36_G84) 85 c36_G85) 86 c36_G86) 87 c36_G87) 88 c36_G88) 80 c44_G80) 81 c44_G81) 84 c44_G84) 85 c44_G85) 86 c44_G86) 87 c44_G87) 88 c44_G88) G51 := fun g z hz _ => (hex51 z hz (Nat.ne_of_lt hz)).2.1 g
            have fP51 : FRM c31_cnt [] (fun _ => True) c31_P P51 := fun g z hz _ => (hex51 z hz (Nat.ne_of_lt hz)).2.2.1 g
            have fV51 : FRM c31_cnt [] (fun _ => True) c31_V V51 := fun g z hz _ => (hex51 z hz (Nat.ne_of_lt hz)).2.2.2.1 g
            have fO51 : FRM c31_cnt [] (fun _ => True) c31_O O51 := fun g z hz _ => (hex51 z hz (Nat.ne_of_lt hz)).2.2.2.2.1 g
            have fl51 : ∀ z, z < c31_cnt → ln51 z = c31_ln z := fun z hz => (hex51 z hz (Nat.ne_of_lt hz)).2.2.2.2.2
            have hle51 : cnt ≤ c31_cnt := (Nat.le_trans (Nat.le_refl _) ccf31)
            have hF51_G : FRM cnt [24, 25, 80, 81, 84, 85, 86, 87, 88, 102] (fun z => (la z < la this ∨ la this < la z) ∧ (la z < la p0 ∨ la p0 + 3 < la z) ∧ (la z < la p0 + 5 ∨ la p0 + 5 < la z)) G G51 := FRM_trans (FRM_set (FRM_set (FRM_set (FRM_set (FRM_set (FRM_set (FRM_set (FRM_set (FRM_set (FRM_set (FRM_set (FRM_set (FRM_set (FRM_set hF31_G (by decide) (fun z h1 h2 => hfr57 z ⟨h1, h2⟩)) (by decide) (fun z h1 h2 => hfr58 z ⟨h1, h2⟩)) (by decide) (fun z h1 h2 => hfr59 z ⟨h1, h2⟩)) (by decide) (fun z h1 h2 => hfr60 z ⟨h1, h2⟩)) (by decide) (fun z h1 h2 => hfr61 z ⟨h1, h2⟩)) (by decide) (fun z h1 h2 => hfr62 z ⟨h1, h2⟩)) (by decide) (fun z h1 h2 => hfr63 z ⟨h1, h2⟩)) (by decide) (fun z h1 h2 => hfr72 z ⟨h1, h2⟩)) (by decide) (fun z h1 h2 => hfr73 z ⟨h1, h2⟩)) (by decide) (fun z h1 h2 => hfr74 z ⟨h1, h2⟩)) (by decide) (fun z h1 h2 => hfr75 z ⟨h1, h2⟩)) (by decide) (fun z h1 h2 => hfr76 z ⟨h1, h2⟩)) (by decide) (fun z h1 h2 => hfr77 z ⟨h1, h2⟩)) (by decide) (fun z h1 h2 => hfr78 z ⟨h1, h2⟩)) fG51 hle51 (by decide) (fun _ _ _ => trivial)
            have hF51_P : FRM cnt [22, 23] (fun z => (la z < la this ∨ la this < la z) ∧ (la z < la p0 ∨ la p0 + 3 < la z) ∧ (la z < la p0 + 5 ∨ la p0 + 5 < la z)) P P51 := FRM_trans hF31_P fP51 hle51 (by decide) (fun _ _ _ => trivial)
            have hF51_U : FRM cnt [] (fun z => (la z < la this ∨ la this < la z) ∧ (la z < la p0 ∨ la p0 + 3 < la z) ∧ (la z < la p0 + 5 ∨ la p0 + 5 < la z)) U U51 := FRM_trans hF31_U fU51 hle51 (by decide) (fun _ _ _ => trivial)
            have hF51_V : FRM cnt [0] (fun z => (la z < la this ∨ la this < la z) ∧ (la z < la p0 ∨ la p0 + 3 < la z) ∧ (la z < la p0 + 5 ∨ la p0 + 5 < la z)) V V51 := FRM_trans hF31_V fV51 hle51 (by decide) (fun _ _ _ => trivial)
            have hF51_X : FRM cnt [] (fun z => (la z < la this ∨ la this < la z) ∧ (la z < la p0 ∨ la p0 + 3 < la z) ∧ (la z < la p0 + 5 ∨ la p0 + 5 < la z)) X X51 := FRM_trans hF31_X fX51 hle51 (by decide) (fun _ _ _ => trivial)
            have hF51_O : FRM cnt [0] (fun z => (la z < la this ∨ la this < la z) ∧ (la z < la p0 ∨ la p0 + 3 < la z) ∧ (la z < la p0 + 5 ∨ la p0 + 5 < la z)) O O51 := FRM_trans hF31_O fO51 hle51 (by decide) (fun _ _ _ => trivial)
            have hlnn51 : ∀ z, z < cnt → ln51 z = ln z := fun z hz => (fl51 z (Nat.lt_of_lt_of_le hz hle51)).trans (hlnn31 z hz)
            clear ag51 fU51 fX51 hfr78 hfr77 hfr76 hfr75 hfr74 hfr73 hfr72 hfr63 hfr62 hfr61 hfr60 hfr59 hfr58 hfr57 hlnn31 hF31_O hF31_X hF31_V hF31_U hF31_P hF31_G hag31 hk36 hk35 kx34 hk29
            have lt97 : c31_cnt < cnt51 := by rw [hcn51]; exact Nat.lt_succ_self _
            have hn98 : (P51 82) this = some tx := ((hex51 this lt38 (Nat.ne_of_lt lt38)).2.2.1 82).trans hn46
            have lt_tx99 := ((hB51.1 82 fl_82) this tx hn98).2.1
            have hk_tx := (((CInv_P82 hCI51 :) this).2 tx hn98).1
            have hl1_tx := (((CInv_P82 hCI51 :) this).2 tx hn98).2.1
            have hl2_tx := (((CInv_P82 hCI51 :) this).2 tx hn98).2.2.1
            have hw_tx := (((CInv_P82 hCI51 :) this).2 tx hn98).2.2.2
            clear hw_tx
            have hn100 : (P51 101) p0 = some lr := ((hex51 p0 lt40 (Nat.ne_of_lt lt40)).2.2.1 101).trans hn48
            have lt_lr101 := ((hB51.1 101 fl_101) p0 lr hn100).2.1
            have lb_lr101 : la51 lr = la51 p0 + 0 := lk_101.mp ((hB51.1 101 fl_101) p0 lr hn100).2.2
            have hk_lr := (((CInv_P101 hCI51 :) p0).2 lr hn100).1
            have hl1_lr := (((CInv_P101 hCI51 :) p0).2 lr hn100).2.1
            have hl2_lr := (((CInv_P101 hCI51 :) p0).2 lr hn100).2.2.1
            have hw_lr := (((CInv_P101 hCI51 :) p0).2 lr hn100).2.2.2
            clear hw_lr
            have hL51a : la51 c31_cnt = la p0 + 5 := by omega
            have ht51_80 : (G51 80) this = c44_G80 this := fG51 80 this (by omega) (fun q => absurd q (by decide))
            have ht51_81 : (G51 81) this = c44_G81 this := fG51 81 this (by omega) (fun q => absurd q (by decide))
            have ht51_83 : (G51 83) this = (c31_G 83) this := fG51 83 this (by omega) (fun q => absurd q (by decide))
            have ht51_84 : (G51 84) this = c44_G84 this := fG51 84 this (by omega) (fun q => absurd q (by decide))
            have ht51_86 : (G51 86) this = c44_G86 this := fG51 86 this (by omega) (fun q => absurd q (by decide))
            have ht51_87 : (G51 87) this = c44_G87 this := fG51 87 this (by omega) (fun q => absurd q (by decide))
            have ht51_88 : (G51 88) this = c44_G88 this := fG51 88 this (by omega) (fun q => absurd q (by decide))
            have hti51_80 := congrArg Int32.toInt ht51_80
            have hti51_81 := congrArg Int32.toInt ht51_81
            have hti51_83 := congrArg Int32.toInt ht51_83
            have hti51_84 := congrArg Int32.toInt ht51_84
            have hti51_86 := congrArg Int32.toInt ht51_86
            have hti51_87 := congrArg Int32.toInt ht51_87
            have hti51_88 := congrArg Int32.toInt ht51_88
            have hv51 : (V51 0) tx = f := (fV51 0 tx (by omega) (fun q => absurd q (by decide))).trans hv31
            have hsz51 : ((G51 83) this).toInt ≤ ((ln51 tx : Nat) : Int) := by rw [fl51 tx (by omega)]; omega
            have hR51 : ∀ t9, (P51 82) this = some t9 → ((G51 83) this).toInt ≤ ((ln51 t9 : Nat) : Int) := fun t9 ht9 => by obtain rfl : tx = t9 := Option.some.inj (hn98.symm.trans ht9); exact hsz51
            have hpr57_0 : id ((∀ tx, (P51 82) this = some tx → ((G51 83) this).toInt ≤ ((ln51 tx : Nat) : Int))) := show (∀ tx, (P51 82) this = some tx → ((G51 83) this).toInt ≤ ((ln51 tx : Nat) : Int)) from by assumption
            have hpr57_1 : (1 ≤ ((G51 87) this).toInt ∧ ((G51 87) this).toInt + ((G51 88) this).toInt ≤ ((G51 83) this).toInt ∧ ((G51 88) this).toInt ≤ 16) := by first | assumption | omega
            refine pw_bA10 (fun r57 c57_G c57_P c57_U c57_V c57_X c57_O c57_kd c57_ln c57_cnt v1_57 v2_57 hc57 => ?_)
            have hq57 := wp_at (ok_X4_letters κ51 wd G51 P51 U51 V51 X51 O51 kd51 ln51 cnt51 this (CInv_i (CInv_G43 hCI51 :) (CInv_G44 hCI51 :) (CInv_G45 hCI51 :) (CInv_G60 hCI51 :) (CInv_G83 hCI51 :) (CInv_G84 hCI51 :) (CInv_G85 hCI51 :) (CInv_G87 hCI51 :) (CInv_G88 hCI51 :) (CInv_G102 hCI51 :) (CInv_G125 hCI51 :) (CInv_G126 hCI51 :) (CInv_G127 hCI51 :) (CInv_G141 hCI51 :) (CInv_G160 hCI51 :) (CInv_G161 hCI51 :) (CInv_G162 hCI51 :) (CInv_G165 hCI51 :) (CInv_G166 hCI51 :) (CInv_G183 hCI51 :) (CInv_G200 hCI51 :) (CInv_G203 hCI51 :) (CInv_G222 hCI51 :) (CInv_G231 hCI51 :) (CInv_G233 hCI51 :) (CInv_P0 hCI51 :) (CInv_P1 hCI51 :) (CInv_P2 hCI51 :) (CInv_P3 hCI51 :) (CInv_P4 hCI51 :) (CInv_P5 hCI51 :) (CInv_P20 hCI51 :) (CInv_P21 hCI51 :) (CInv_P22 hCI51 :) (CInv_P23 hCI51 :) (CInv_P40 hCI51 :) (CInv_P41 hCI51 :) (CInv_P42 hCI51 :) (CInv_P61 hCI51 :) (CInv_P62 hCI51 :) (CInv_P63 hCI51 :) (CInv_P64 hCI51 :) (CInv_P65 hCI51 :) (CInv_P66 hCI51 :) (CInv_P82 hCI51 :) (CInv_P101 hCI51 :) (CInv_P103 hCI51 :) (CInv_P104 hCI51 :) (CInv_P105 hCI51 :) (CInv_P106 hCI51 :) (CInv_P108 hCI51 :) (CInv_P109 hCI51 :) (CInv_P110 hCI51 :) (CInv_P120 hCI51 :) (CInv_P121 hCI51 :) (CInv_P122 hCI51 :) (CInv_P123 hCI51 :) (CInv_P140 hCI51 :) (CInv_P164 hCI51 :) (CInv_P180 hCI51 :) (CInv_P181 hCI51 :) (CInv_P182 hCI51 :) (CInv_P185 hCI51 :) (CInv_P186 hCI51 :) (CInv_P187 hCI51 :) (CInv_P201 hCI51 :) (CInv_P202 hCI51 :) (CInv_P220 hCI51 :) (CInv_P221 hCI51 :) (CInv_P224 hCI51 :) (CInv_P225 hCI51 :) (CInv_P226 hCI51 :) (CInv_P227 hCI51 :) (CInv_P228 hCI51 :) (CInv_P229 hCI51 :) (CInv_P230 hCI51 :) (CInv_P232 hCI51 :) (CInv_P234 hCI51 :) (CInv_P235 hCI51 :) (CInv_P236 hCI51 :) (CInv_V1 hCI51 :) (CInv_V2 hCI51 :) (CInv_V3 hCI51 :) (CInv_V9 hCI51 :) (CInv_O0 hCI51 :) (CInv_O1 hCI51 :) (CInv_O2 hCI51 :) (CInv_RA hCI51 :) (CInv_RB hCI51 :) (CInv_RI hCI51 :) (CInv_RM103 hCI51 :) (CInv_RM104 hCI51 :) (CInv_RM108 hCI51 :) (CInv_LN hCI51 :) (CInv_FL hCI51 :) (CInv_W0 hCI51 :) (CInv_KC hCI51 :) (CInv_WK hCI51 :)) hk83 hpr57_0 hpr57_1) hc57
            obtain ⟨κ57_101, hCI57, hxx57, hcc103, hex57, hk104, f105, f106, f107, f108⟩ : ∃ κ1 : Nat → Nat, (CInv κ1 wd c57_G c57_P c57_V c57_O c57_ln c57_cnt) ∧ (∀ a, κ51 a ≠ 0 → κ1 a = κ51 a) ∧ (cnt51 ≤ c57_cnt) ∧ (EX cnt51 cnt51 κ51 κ1 G51 c57_G P51 c57_P V51 c57_V O51 c57_O ln51 c57_ln) ∧ (κ1 r57 = 100) ∧ (c57_ln r57 ≤ 16) ∧ (cnt51 ≤ r57) ∧ (v1_57 ≤ 1) ∧ (v2_57 ≤ 16) := hq57
            have kx109 : ∀ a, κ a ≠ 0 → κ57_101 a = κ a := kxt kx82 hxx57
            have hk110 : κ57_101 this = 5 := kxk hxx57 hk83 (by decide)
            have hk111 : κ57_101 p0 = 6 := kxk hxx57 hk84 (by decide)
            have hl112 := (hex57 r31 (kcl0 (CInv_KC hCI51 :) hk86 (by decide)) (Nat.ne_of_lt (kcl0 (CInv_KC hCI51 :) hk86 (by decide)))).2.2.2.2.2
            have hk113 : κ57_101 r31 = 100 := kxk hxx57 hk86 (by decide)
            have hk114 : κ57_101 c31_cnt = 0 := (hex57 c31_cnt (by omega) (by omega)).1.trans hkn51
            have hl115 := (hex57 c31_cnt (by omega) (by omega)).2.2.2.2.2
            have hq57 := pwq (fr_X4_letters la51 G51 P51 U51 V51 X51 O51 kd51 ln51 cnt51 this (la51 p0 + 5) hB51 lt88 (show (la51 p0 + 5) < 100000 + 10 * cnt51 + 6 from by have q9 := hB51.2 p0 (by omega); omega)) hc57
            obtain ⟨la57_f, agf57, hBf57, ccf57, fG57, fP57, fU57, fV57, fX57, fO57, fl57, po57_0⟩ : ∃ la9 : Nat → Nat, (∀ z, z < cnt51 → la9 z = la51 z) ∧ LB la9 c57_cnt c57_P ∧ cnt51 ≤ c57_cnt ∧ FRM cnt51 [] (fun z => True) G51 c57_G ∧ FRM cnt51 [] (fun z => True) P51 c57_P ∧ FRM cnt51 [] (fun z => True) U51 c57_U ∧ FRM cnt51 [0] (fun z => True) V51 c57_V ∧ FRM cnt51 [] (fun z => True) X51 c57_X ∧ FRM cnt51 [] (fun z => True) O51 c57_O ∧ (∀ z, z < cnt51 → c57_ln z = ln51 z) ∧ (cnt51 ≤ r57 ∧ r57 < c57_cnt ∧ la9 r57 = (la51 p0 + 5)) := hq57
            have h857_htx : (P51 82) this = some tx := by exact hn98
            have hx57 := pwq (fn_X4_letters κ51 wd la51 G51 P51 U51 V51 X51 O51 kd51 ln51 cnt51 this (la51 p0 + 5) (tx) (CInv_i (CInv_G43 hCI51 :) (CInv_G44 hCI51 :) (CInv_G45 hCI51 :) (CInv_G60 hCI51 :) (CInv_G83 hCI51 :) (CInv_G84 hCI51 :) (CInv_G85 hCI51 :) (CInv_G87 hCI51 :) (CInv_G88 hCI51 :) (CInv_G102 hCI51 :) (CInv_G125 hCI51 :) (CInv_G126 hCI51 :) (CInv_G127 hCI51 :) (CInv_G141 hCI51 :) (CInv_G160 hCI51 :) (CInv_G161 hCI51 :) (CInv_G162 hCI51 :) (CInv_G165 hCI51 :) (CInv_G166 hCI51 :) (CInv_G183 hCI51 :) (CInv_G200 hCI51 :) (CInv_G203 hCI51 :) (CInv_G222 hCI51 :) (CInv_G231 hCI51 :) (CInv_G233 hCI51 :) (CInv_P0 hCI51 :) (CInv_P1 hCI51 :) (CInv_P2 hCI51 :) (CInv_P3 hCI51 :) (CInv_P4 hCI51 :) (CInv_P5 hCI51 :) (CInv_P20 hCI51 :) (CInv_P21 hCI51 :) (CInv_P22 hCI51 :) (CInv_P23 hCI51 :) (CInv_P40 hCI51 :) (CInv_P41 hCI51 :) (CInv_P42 hCI51 :) (CInv_P61 hCI51 :) (CInv_P62 hCI51 :) (CInv_P63 hCI51 :) (CInv_P64 hCI51 :) (CInv_P65 hCI51 :) (CInv_P66 hCI51 :) (CInv_P82 hCI51 :) (CInv_P101 hCI51 :) (CInv_P103 hCI51 :) (CInv_P104 hCI51 :) (CInv_P105 hCI51 :) (CInv_P106 hCI51 :) (CInv_P108 hCI51 :) (CInv_P109 hCI51 :) (CInv_P110 hCI51 :) (CInv_P120 hCI51 :) (CInv_P121 hCI51 :) (CInv_P122 hCI51 :) (CInv_P123 hCI51 :) (CInv_P140 hCI51 :) (CInv_P164 hCI51 :) (CInv_P180 hCI51 :) (CInv_P181 hCI51 :) (CInv_P182 hCI51 :) (CInv_P185 hCI51 :) (CInv_P186 hCI51 :) (CInv_P187 hCI51 :) (CInv_P201 hCI51 :) (CInv_P202 hCI51 :) (CInv_P220 hCI51 :) (CInv_P221 hCI51 :) (CInv_P224 hCI51 :) (CInv_P225 hCI51 :) (CInv_P226 hCI51 :) (CInv_P227 hCI51 :) (CInv_P228 hCI51 :) (CInv_P229 hCI51 :) (CInv_P230 hCI51 :) (CInv_P232 hCI51 :) (CInv_P234 hCI51 :) (CInv_P235 hCI51 :) (CInv_P236 hCI51 :) (CInv_V1 hCI51 :) (CInv_V2 hCI51 :) (CInv_V3 hCI51 :) (CInv_V9 hCI51 :) (CInv_O0 hCI51 :) (CInv_O1 hCI51 :) (CInv_O2 hCI51 :) (CInv_RA hCI51 :) (CInv_RB hCI51 :) (CInv_RI hCI51 :) (CInv_RM103 hCI51 :) (CInv_RM104 hCI51 :) (CInv_RM108 hCI51 :) (CInv_LN hCI51 :) (CInv_FL hCI51 :) (CInv_W0 hCI51 :) (CInv_KC hCI51 :) (CInv_WK hCI51 :)) hk83 hpr57_0 hpr57_1 hB51 lt88 (show (la51 p0 + 5) < 100000 + 10 * cnt51 + 6 from by have q9 := hB51.2 p0 (by omega); omega) h857_htx) hc57
            obtain ⟨la57, ag57, hB57, p57_0, p57_1⟩ : ∃ la9 : Nat → Nat, (∀ z, z < cnt51 → la9 z = la51 z) ∧ LB la9 c57_cnt c57_P ∧ (wdl ((c57_V 0) r57) 0 (c57_ln r57) = wdl ((V51 0) tx) (Int32.toNatClampNeg ((G51 87) this)) (Int32.toNatClampNeg ((G51 88) this))) ∧ ((cnt51 ≤ r57 ∧ r57 < c57_cnt ∧ la9 r57 = (la51 p0 + 5))) := hx57
            clear h857_htx agf57 hBf57 po57_0 hxx57 f107 f108 hc57 hpr57_1 hpr57_0 hR51 hti51_86 ht51_88 ht51_87 ht51_86 ht51_83 ht51_81 ht51_80 lb_lr101 hle51 lt94 lt92 hk86 hk84 hk83 kx82 hkn51 hex51 hB51 hv31 lt_lr49 hn48 lt_tx47 hn46 lt45 g43 g41 lt40 g39 lt38 g37
            have g116 : la57 this = la this := (ag57 this lt88).trans g87
            have lt117 : this < c57_cnt := Nat.lt_of_lt_of_le lt88 ccf57
            have g118 : la57 p0 = la p0 := (ag57 p0 lt90).trans g89
            have lt119 : p0 < c57_cnt := Nat.lt_of_lt_of_le lt90 ccf57
            have g120 : la57 tx = la tx := (ag57 tx lt_tx99).trans g91
            have lt121 : tx < c57_cnt := Nat.lt_of_lt_of_le lt_tx99 ccf57
            have g122 : la57 lr = la lr := (ag57 lr lt_lr101).trans g93
            have lt123 : lr < c57_cnt := Nat.lt_of_lt_of_le lt_lr101 ccf57
            have g124 : la57 r31 = la31 r31 := (ag57 r31 lt96).trans g95
            have lt125 : r31 < c57_cnt := Nat.lt_of_lt_of_le lt96 ccf57
            have g126 : la57 c31_cnt = la51 c31_cnt := ag57 c31_cnt lt97
            have lt127 : c31_cnt < c57_cnt := Nat.lt_of_lt_of_le lt97 ccf57
            have hag57 : ∀ z, z < cnt → la57 z = la z := fun z hz => (ag57 z (Nat.lt_of_lt_of_le hz (Nat.le_trans (Nat.le_trans (Nat.le_refl _) ccf31) ccf51))).trans (hag51 z hz)
            have hle57 : cnt ≤ cnt51 := (Nat.le_trans (Nat.le_trans (Nat.le_refl _) ccf31) ccf51)
            have hF57_G : FRM cnt [24, 25, 80, 81, 84, 85, 86, 87, 88, 102] (fun z => (la z < la this ∨ la this < la z) ∧ (la z < la p0 ∨ la p0 + 3 < la z) ∧ (la z < la p0 + 5 ∨ la p0 + 5 < la z)) G c57_G := FRM_trans hF51_G fG57 hle57 (by decide) (fun _ _ _ => trivial)
            have hF57_P : FRM cnt [22, 23] (fun z => (la z < la this ∨ la this < la z) ∧ (la z < la p0 ∨ la p0 + 3 < la z) ∧ (la z < la p0 + 5 ∨ la p0 + 5 < la z)) P c57_P := FRM_trans hF51_P fP57 hle57 (by decide) (fun _ _ _ => trivial)
            have hF57_U : FRM cnt [] (fun z => (la z < la this ∨ la this < la z) ∧ (la z < la p0 ∨ la p0 + 3 < la z) ∧ (la z < la p0 + 5 ∨ la p0 + 5 < la z)) U c57_U := FRM_trans hF51_U fU57 hle57 (by decide) (fun _ _ _ => trivial)
            have hF57_V : FRM cnt [0] (fun z => (la z < la this ∨ la this < la z) ∧ (la z < la p0 ∨ la p0 + 3 < la z) ∧ (la z < la p0 + 5 ∨ la p0 + 5 < la z)) V c57_V := FRM_trans hF51_V fV57 hle57 (by decide) (fun _ _ _ => trivial)
            have hF57_X : FRM cnt [] (fun z => (la z < la this ∨ la this < la z) ∧ (la z < la p0 ∨ la p0 + 3 < la z) ∧ (la z < la p0 + 5 ∨ la p0 + 5 < la z)) X c57_X := FRM_trans hF51_X fX57 hle57 (by decide) (fun _ _ _ => trivial)
            have hF57_O : FRM cnt [0] (fun z => (la z < la this ∨ la this < la z) ∧ (la z < la p0 ∨ la p0 + 3 < la z) ∧ (la z < la p0 + 5 ∨ la p0 + 5 < la z)) O c57_O := FRM_trans hF51_O fO57 hle57 (by decide) (fun _ _ _ => trivial)
            have hlnn57 : ∀ z, z < cnt → c57_ln z = ln z := fun z hz => (fl57 z (Nat.lt_of_lt_of_le hz hle57)).trans (hlnn51 z hz)
            clear ag57 fU57 fX57 hlnn51 hF51_O hF51_X hF51_V hF51_U hF51_P hF51_G hag51
            have lt128 : r57 < c57_cnt := (p57_1).2.1
            have hn129 : (c57_P 82) this = some tx := ((hex57 this lt88 (by omega)).2.2.1 82).trans hn98
            have lt_tx130 := ((hB57.1 82 fl_82) this tx hn129).2.1
            have hk_tx := (((CInv_P82 hCI57 :) this).2 tx hn129).1
            have hl1_tx := (((CInv_P82 hCI57 :) this).2 tx hn129).2.1
            have hl2_tx := (((CInv_P82 hCI57 :) this).2 tx hn129).2.2.1
            have hw_tx := (((CInv_P82 hCI57 :) this).2 tx hn129).2.2.2
            clear hw_tx
            have hn131 : (c57_P 101) p0 = some lr := ((hex57 p0 lt90 (by omega)).2.2.1 101).trans hn100
            have lt_lr132 := ((hB57.1 101 fl_101) p0 lr hn131).2.1
            have lb_lr132 : la57 lr = la57 p0 + 0 := lk_101.mp ((hB57.1 101 fl_101) p0 lr hn131).2.2
            have hk_lr := (((CInv_P101 hCI57 :) p0).2 lr hn131).1
            have hl1_lr := (((CInv_P101 hCI57 :) p0).2 lr hn131).2.1
            have hl2_lr := (((CInv_P101 hCI57 :) p0).2 lr hn131).2.2.1
            have hw_lr := (((CInv_P101 hCI57 :) p0).2 lr hn131).2.2.2
            clear hw_lr
            have hln57 := f105
            have hlc57 := f106
            have hL57a : la57 r57 = la p0 + 5 := by omega
            have hL31a : la57 r31 = la p0 + 5 := by omega
            have hlr57 : c57_ln r31 ≤ 16 := by rw [fl57 r31 (by omega), fl51 r31 (by omega)]; exact hln31
            have ht57_80 : (c57_G 80) this = (G51 80) this := fG57 80 this (by omega) (fun q => absurd q (by decide))
            have ht57_81 : (c57_G 81) this = (G51 81) this := fG57 81 this (by omega) (fun q => absurd q (by decide))
            have ht57_83 : (c57_G 83) this = (G51 83) this := fG57 83 this (by omega) (fun q => absurd q (by decide))
            have ht57_84 : (c57_G 84) this = (G51 84) this := fG57 84 this (by omega) (fun q => absurd q (by decide))
            have ht57_86 : (c57_G 86) this = (G51 86) this := fG57 86 this (by omega) (fun q => absurd q (by decide))
            have hti57_80 := congrArg Int32.toInt ht57_80
            have hti57_81 := congrArg Int32.toInt ht57_81
            have hti57_83 := congrArg Int32.toInt ht57_83
            have hti57_84 := congrArg Int32.toInt ht57_84
            have hti57_86 := congrArg Int32.toInt ht57_86
            have hv57 : (c57_V 0) tx = f := (fV57 0 tx (by omega) (fun _ => trivial)).trans hv51
            have hsz57 : ((c57_G 83) this).toInt ≤ ((c57_ln tx : Nat) : Int) := by rw [fl57 tx (by omega)]; omega
            have hR57 : ∀ t9, (c57_P 82) this = some t9 → ((c57_G 83) this).toInt ≤ ((c57_ln t9 : Nat) : Int) := fun t9 ht9 => by obtain rfl : tx = t9 := Option.some.inj (hn129.symm.trans ht9); exact hsz57
            have ea2 := clampI (x := G51 87 this) (by omega)
            have eb2 := clampI (x := G51 88 this) (by omega)
            have hw57 : wdl ((c57_V 0) r57) 0 (c57_ln r57) = tW f n (tE f n (tE f n e)) := by rw [p57_0, hv51, show Int32.toNatClampNeg (G51 87 this) = tP f n (tE f n (tE f n e)) + 1 by omega, show Int32.toNatClampNeg (G51 88 this) = tL f n (tE f n (tE f n e)) by omega]; rfl
            have hw31 : wdl ((c57_V 0) r31) 0 (c57_ln r31) = tW f n e := by rw [fV57 0 r31 (by omega) (fun _ => trivial), fl57 r31 (by omega), fV51 0 r31 (by omega) (fun q => absurd q (by decide)), fl51 r31 (by omega)]; exact p31_0.trans hwd
            have hpr60_0 : c57_ln r31 ≤ 16 := by first | assumption | omega
            have hpr60_1 : c57_ln r57 ≤ 16 := by first | assumption | omega
            refine pw_bA9 (fun c60_G c60_P c60_U c60_V c60_X c60_O c60_kd c60_ln c60_cnt v1_60 v2_60 hc60 => ?_)
            have hq60 := wp_at (ok_X1_init κ57_101 wd c57_G c57_P c57_U c57_V c57_X c57_O c57_kd c57_ln c57_cnt c31_cnt r31 r57 (CInv_i (CInv_G43 hCI57 :) (CInv_G44 hCI57 :) (CInv_G45 hCI57 :) (CInv_G60 hCI57 :) (CInv_G83 hCI57 :) (CInv_G84 hCI57 :) (CInv_G85 hCI57 :) (CInv_G87 hCI57 :) (CInv_G88 hCI57 :) (CInv_G102 hCI57 :) (CInv_G125 hCI57 :) (CInv_G126 hCI57 :) (CInv_G127 hCI57 :) (CInv_G141 hCI57 :) (CInv_G160 hCI57 :) (CInv_G161 hCI57 :) (CInv_G162 hCI57 :) (CInv_G165 hCI57 :) (CInv_G166 hCI57 :) (CInv_G183 hCI57 :) (CInv_G200 hCI57 :) (CInv_G203 hCI57 :) (CInv_G222 hCI57 :) (CInv_G231 hCI57 :) (CInv_G233 hCI57 :) (CInv_P0 hCI57 :) (CInv_P1 hCI57 :) (CInv_P2 hCI57 :) (CInv_P3 hCI57 :) (CInv_P4 hCI57 :) (CInv_P5 hCI57 :) (CInv_P20 hCI57 :) (CInv_P21 hCI57 :) (CInv_P22 hCI57 :) (CInv_P23 hCI57 :) (CInv_P40 hCI57 :) (CInv_P41 hCI57 :) (CInv_P42 hCI57 :) (CInv_P61 hCI57 :) (CInv_P62 hCI57 :) (CInv_P63 hCI57 :) (CInv_P64 hCI57 :) (CInv_P65 hCI57 :) (CInv_P66 hCI57 :) (CInv_P82 hCI57 :) (CInv_P101 hCI57 :) (CInv_P103 hCI57 :) (CInv_P104 hCI57 :) (CInv_P105 hCI57 :) (CInv_P106 hCI57 :) (CInv_P108 hCI57 :) (CInv_P109 hCI57 :) (CInv_P110 hCI57 :) (CInv_P120 hCI57 :) (CInv_P121 hCI57 :) (CInv_P122 hCI57 :) (CInv_P123 hCI57 :) (CInv_P140 hCI57 :) (CInv_P164 hCI57 :) (CInv_P180 hCI57 :) (CInv_P181 hCI57 :) (CInv_P182 hCI57 :) (CInv_P185 hCI57 :) (CInv_P186 hCI57 :) (CInv_P187 hCI57 :) (CInv_P201 hCI57 :) (CInv_P202 hCI57 :) (CInv_P220 hCI57 :) (CInv_P221 hCI57 :) (CInv_P224 hCI57 :) (CInv_P225 hCI57 :) (CInv_P226 hCI57 :) (CInv_P227 hCI57 :) (CInv_P228 hCI57 :) (CInv_P229 hCI57 :) (CInv_P230 hCI57 :) (CInv_P232 hCI57 :) (CInv_P234 hCI57 :) (CInv_P235 hCI57 :) (CInv_P236 hCI57 :) (CInv_V1 hCI57 :) (CInv_V2 hCI57 :) (CInv_V3 hCI57 :) (CInv_V9 hCI57 :) (CInv_O0 hCI57 :) (CInv_O1 hCI57 :) (CInv_O2 hCI57 :) (CInv_RA hCI57 :) (CInv_RB hCI57 :) (CInv_RI hCI57 :) (CInv_RM103 hCI57 :) (CInv_RM104 hCI57 :) (CInv_RM108 hCI57 :) (CInv_LN hCI57 :) (CInv_FL hCI57 :) (CInv_W0 hCI57 :) (CInv_KC hCI57 :) (CInv_WK hCI57 :)) hk114 (by omega) (by omega) hk113 hk104 hpr60_0 hpr60_1) hc60
            obtain ⟨κ60_132, hCI60, hxx60, hcc134, hk135, hex60, f136, f137⟩ : ∃ κ1 : Nat → Nat, (CInv κ1 wd c60_G c60_P c60_V c60_O c60_ln c60_cnt) ∧ (∀ a, κ57_101 a ≠ 0 → κ1 a = κ57_101 a) ∧ (c57_cnt ≤ c60_cnt) ∧ (κ1 c31_cnt = 2) ∧ (EX c31_cnt c57_cnt κ57_101 κ1 c57_G c60_G c57_P c60_P c57_V c60_V c57_O c60_O c57_ln c60_ln) ∧ (v1_60 ≤ 2) ∧ (v2_60 ≤ 0) := hq60
            have kx138 : ∀ a, κ a ≠ 0 → κ60_132 a = κ a := kxt kx109 hxx60
            have hk139 : κ60_132 this = 5 := kxk hxx60 hk110 (by decide)
            have hk140 : κ60_132 p0 = 6 := kxk hxx60 hk111 (by decide)
            have hl141 := (hex60 r31 (kcl0 (CInv_KC hCI57 :) hk113 (by decide)) (by intro q; rw [q] at hk113; exact absurd (hk113.symm.trans hk114) (by decide))).2.2.2.2.2
            have hk142 : κ60_132 r31 = 100 := kxk hxx60 hk113 (by decide)
            have hlo_c31_cnt := (CInv_LN hCI60 :) c31_cnt (by rw [hk135]; decide)
            have hq60 := pwq (fr_X1_init la57 c57_G c57_P c57_U c57_V c57_X c57_O c57_kd c57_ln c57_cnt c31_cnt r31 r57 hB57 lt127 lt125 lt128 (show la57 r31 = la57 c31_cnt from by refine Nat.le_antisymm ?_ ?_ <;> omega) (show la57 r57 = la57 c31_cnt from by refine Nat.le_antisymm ?_ ?_ <;> omega)) hc60
            obtain ⟨la60_f, agf60, hBf60, ccf60, fG60, fP60, fU60, fV60, fX60, fO60, fl60⟩ : ∃ la9 : Nat → Nat, (∀ z, z < c57_cnt → la9 z = la57 z) ∧ LB la9 c60_cnt c60_P ∧ c57_cnt ≤ c60_cnt ∧ FRM c57_cnt [24, 25] (fun z => z ≠ c31_cnt) c57_G c60_G ∧ FRM c57_cnt [20, 21, 22, 23] (fun z => z ≠ c31_cnt) c57_P c60_P ∧ FRM c57_cnt [] (fun z => z ≠ c31_cnt) c57_U c60_U ∧ FRM c57_cnt [] (fun z => z ≠ c31_cnt) c57_V c60_V ∧ FRM c57_cnt [] (fun z => z ≠ c31_cnt) c57_X c60_X ∧ FRM c57_cnt [] (fun z => z ≠ c31_cnt) c57_O c60_O ∧ (∀ z, z < c57_cnt → c60_ln z = c57_ln z) := hq60
            have hx60 := pwq (fn_X1_init κ57_101 wd la57 c57_G c57_P c57_U c57_V c57_X c57_O c57_kd c57_ln c57_cnt c31_cnt r31 r57 (CInv_i (CInv_G43 hCI57 :) (CInv_G44 hCI57 :) (CInv_G45 hCI57 :) (CInv_G60 hCI57 :) (CInv_G83 hCI57 :) (CInv_G84 hCI57 :) (CInv_G85 hCI57 :) (CInv_G87 hCI57 :) (CInv_G88 hCI57 :) (CInv_G102 hCI57 :) (CInv_G125 hCI57 :) (CInv_G126 hCI57 :) (CInv_G127 hCI57 :) (CInv_G141 hCI57 :) (CInv_G160 hCI57 :) (CInv_G161 hCI57 :) (CInv_G162 hCI57 :) (CInv_G165 hCI57 :) (CInv_G166 hCI57 :) (CInv_G183 hCI57 :) (CInv_G200 hCI57 :) (CInv_G203 hCI57 :) (CInv_G222 hCI57 :) (CInv_G231 hCI57 :) (CInv_G233 hCI57 :) (CInv_P0 hCI57 :) (CInv_P1 hCI57 :) (CInv_P2 hCI57 :) (CInv_P3 hCI57 :) (CInv_P4 hCI57 :) (CInv_P5 hCI57 :) (CInv_P20 hCI57 :) (CInv_P21 hCI57 :) (CInv_P22 hCI57 :) (CInv_P23 hCI57 :) (CInv_P40 hCI57 :) (CInv_P41 hCI57 :) (CInv_P42 hCI57 :) (CInv_P61 hCI57 :) (CInv_P62 hCI57 :) (CInv_P63 hCI57 :) (CInv_P64 hCI57 :) (CInv_P65 hCI57 :) (CInv_P66 hCI57 :) (CInv_P82 hCI57 :) (CInv_P101 hCI57 :) (CInv_P103 hCI57 :) (CInv_P104 hCI57 :) (CInv_P105 hCI57 :) (CInv_P106 hCI57 :) (CInv_P108 hCI57 :) (CInv_P109 hCI57 :) (CInv_P110 hCI57 :) (CInv_P120 hCI57 :) (CInv_P121 hCI57 :) (CInv_P122 hCI57 :) (CInv_P123 hCI57 :) (CInv_P140 hCI57 :) (CInv_P164 hCI57 :) (CInv_P180 hCI57 :) (CInv_P181 hCI57 :) (CInv_P182 hCI57 :) (CInv_P185 hCI57 :) (CInv_P186 hCI57 :) (CInv_P187 hCI57 :) (CInv_P201 hCI57 :) (CInv_P202 hCI57 :) (CInv_P220 hCI57 :) (CInv_P221 hCI57 :) (CInv_P224 hCI57 :) (CInv_P225 hCI57 :) (CInv_P226 hCI57 :) (CInv_P227 hCI57 :) (CInv_P228 hCI57 :) (CInv_P229 hCI57 :) (CInv_P230 hCI57 :) (CInv_P232 hCI57 :) (CInv_P234 hCI57 :) (CInv_P235 hCI57 :) (CInv_P236 hCI57 :) (CInv_V1 hCI57 :) (CInv_V2 hCI57 :) (CInv_V3 hCI57 :) (CInv_V9 hCI57 :) (CInv_O0 hCI57 :) (CInv_O1 hCI57 :) (CInv_O2 hCI57 :) (CInv_RA hCI57 :) (CInv_RB hCI57 :) (CInv_RI hCI57 :) (CInv_RM103 hCI57 :) (CInv_RM104 hCI57 :) (CInv_RM108 hCI57 :) (CInv_LN hCI57 :) (CInv_FL hCI57 :) (CInv_W0 hCI57 :) (CInv_KC hCI57 :) (CInv_WK hCI57 :)) hk114 (by omega) (by omega) hk113 hk104 hpr60_0 hpr60_1 hB57 lt125 lt128 (show la57 r31 = la57 c31_cnt from by refine Nat.le_antisymm ?_ ?_ <;> omega) (show la57 r57 = la57 c31_cnt from by refine Nat.le_antisymm ?_ ?_ <;> omega)) hc60
            obtain ⟨la60, ag60, hB60, p60_0, p60_1, p60_2⟩ : ∃ la9 : Nat → Nat, (∀ z, z < c57_cnt → la9 z = la57 z) ∧ LB la9 c60_cnt c60_P ∧ ((c60_P 20) c31_cnt = some r31 ∧ (c60_P 21) c31_cnt = some r57) ∧ ((∃ a, (c60_P 22) c31_cnt = some a ∧ c60_ln a = 0) ∧ (∃ a, (c60_P 23) c31_cnt = some a ∧ c60_ln a = 0)) ∧ ((c60_G 24) c31_cnt = 0 ∧ (c60_G 25) c31_cnt = 0) := hx60
            clear agf60 hBf60 hlo_c31_cnt hk142 hxx60 f136 f137 hc60 hpr60_1 hpr60_0 hR57 hti57_86 ht57_86 ht57_83 ht57_81 ht57_80 lb_lr132 hle57 lt123 lt121 hB57 p57_0 fl57 hk114 hk113 hk111 hk110 kx109 hex57 hk104 f105 f106 hv51 lt_lr101 hn100 lt_tx99 hn98 lt97 fl51 lt96 g95 g93 g91 lt90 g89 lt88 g87 p31_0
            have g143 : la60 this = la this := (ag60 this lt117).trans g116
            have lt144 : this < c60_cnt := Nat.lt_of_lt_of_le lt117 ccf60
            have g145 : la60 p0 = la p0 := (ag60 p0 lt119).trans g118
            have lt146 : p0 < c60_cnt := Nat.lt_of_lt_of_le lt119 ccf60
            have g147 : la60 tx = la tx := (ag60 tx lt_tx130).trans g120
            have lt148 : tx < c60_cnt := Nat.lt_of_lt_of_le lt_tx130 ccf60
            have g149 : la60 lr = la lr := (ag60 lr lt_lr132).trans g122
            have lt150 : lr < c60_cnt := Nat.lt_of_lt_of_le lt_lr132 ccf60
            have g151 : la60 r31 = la31 r31 := (ag60 r31 lt125).trans g124
            have lt152 : r31 < c60_cnt := Nat.lt_of_lt_of_le lt125 ccf60
            have g153 : la60 c31_cnt = la51 c31_cnt := (ag60 c31_cnt lt127).trans g126
            have lt154 : c31_cnt < c60_cnt := Nat.lt_of_lt_of_le lt127 ccf60
            have g155 : la60 r57 = la57 r57 := ag60 r57 lt128
            have lt156 : r57 < c60_cnt := Nat.lt_of_lt_of_le lt128 ccf60
            have hag60 : ∀ z, z < cnt → la60 z = la z := fun z hz => (ag60 z (Nat.lt_of_lt_of_le hz (Nat.le_trans (Nat.le_trans (Nat.le_trans (Nat.le_refl _) ccf31) ccf51) ccf57))).trans (hag57 z hz)
            have hle60 : cnt ≤ c57_cnt := (Nat.le_trans (Nat.le_trans (Nat.le_trans (Nat.le_refl _) ccf31) ccf51) ccf57)
            have hfs60z : cnt ≤ c31_cnt := by omega
            have hF60_G : FRM cnt [24, 25, 80, 81, 84, 85, 86, 87, 88, 102] (fun z => (la z < la this ∨ la this < la z) ∧ (la z < la p0 ∨ la p0 + 3 < la z) ∧ (la z < la p0 + 5 ∨ la p0 + 5 < la z)) G c60_G := FRM_tri hF57_G fG60 hle60 hfs60z
            have hF60_P : FRM cnt [22, 23] (fun z => (la z < la this ∨ la this < la z) ∧ (la z < la p0 ∨ la p0 + 3 < la z) ∧ (la z < la p0 + 5 ∨ la p0 + 5 < la z)) P c60_P := FRM_tri hF57_P fP60 hle60 hfs60z
            have hF60_U : FRM cnt [] (fun z => (la z < la this ∨ la this < la z) ∧ (la z < la p0 ∨ la p0 + 3 < la z) ∧ (la z < la p0 + 5 ∨ la p0 + 5 < la z)) U c60_U := FRM_tri hF57_U fU60 hle60 hfs60z
            have hF60_V : FRM cnt [0] (fun z => (la z < la this ∨ la this < la z) ∧ (la z < la p0 ∨ la p0 + 3 < la z) ∧ (la z < la p0 + 5 ∨ la p0 + 5 < la z)) V c60_V := FRM_tri hF57_V fV60 hle60 hfs60z
            have hF60_X : FRM cnt [] (fun z => (la z < la this ∨ la this < la z) ∧ (la z < la p0 ∨ la p0 + 3 < la z) ∧ (la z < la p0 + 5 ∨ la p0 + 5 < la z)) X c60_X := FRM_tri hF57_X fX60 hle60 hfs60z
            have hF60_O : FRM cnt [0] (fun z => (la z < la this ∨ la this < la z) ∧ (la z < la p0 ∨ la p0 + 3 < la z) ∧ (la z < la p0 + 5 ∨ la p0 + 5 < la z)) O c60_O := FRM_tri hF57_O fO60 hle60 hfs60z
            have hlnn60 : ∀ z, z < cnt → c60_ln z = ln z := fun z hz => (fl60 z (Nat.lt_of_lt_of_le hz hle60)).trans (hlnn57 z hz)
            clear ag60 fU60 fX60 hlnn57 hF57_O hF57_X hF57_V hF57_U hF57_P hF57_G hag57
            have hn157 : (c60_P 82) this = some tx := ((hex60 this lt117 (by omega)).2.2.1 82).trans hn129
            have lt_tx158 := ((hB60.1 82 fl_82) this tx hn157).2.1
            have hk_tx := (((CInv_P82 hCI60 :) this).2 tx hn157).1
            have hl1_tx := (((CInv_P82 hCI60 :) this).2 tx hn157).2.1
            have hl2_tx := (((CInv_P82 hCI60 :) this).2 tx hn157).2.2.1
            have hw_tx := (((CInv_P82 hCI60 :) this).2 tx hn157).2.2.2
            clear hw_tx
            have hn159 : (c60_P 101) p0 = some lr := ((hex60 p0 lt119 (by omega)).2.2.1 101).trans hn131
            have lt_lr160 := ((hB60.1 101 fl_101) p0 lr hn159).2.1
            have lb_lr160 : la60 lr = la60 p0 + 0 := lk_101.mp ((hB60.1 101 fl_101) p0 lr hn159).2.2
            have hk_lr := (((CInv_P101 hCI60 :) p0).2 lr hn159).1
            have hl1_lr := (((CInv_P101 hCI60 :) p0).2 lr hn159).2.1
            have hl2_lr := (((CInv_P101 hCI60 :) p0).2 lr hn159).2.2.1
            have hw_lr := (((CInv_P101 hCI60 :) p0).2 lr hn159).2.2.2
            clear hw_lr
            have ht60_80 : (c60_G 80) this = (c57_G 80) this := fG60 80 this (by omega) (fun q => (by show _ ≠ _; omega))
            have ht60_81 : (c60_G 81) this = (c57_G 81) this := fG60 81 this (by omega) (fun q => (by show _ ≠ _; omega))
            have ht60_83 : (c60_G 83) this = (c57_G 83) this := fG60 83 this (by omega) (fun q => (by show _ ≠ _; omega))
            have ht60_84 : (c60_G 84) this = (c57_G 84) this := fG60 84 this (by omega) (fun q => (by show _ ≠ _; omega))
            have ht60_86 : (c60_G 86) this = (c57_G 86) this := fG60 86 this (by omega) (fun q => (by show _ ≠ _; omega))
            have hti60_80 := congrArg Int32.toInt ht60_80
            have hti60_81 := congrArg Int32.toInt ht60_81
            have hti60_83 := congrArg Int32.toInt ht60_83
            have hti60_84 := congrArg Int32.toInt ht60_84
            have hti60_86 := congrArg Int32.toInt ht60_86
            have hv60 : (c60_V 0) tx = f := (fV60 0 tx (by omega) (fun q => (by show _ ≠ _; omega))).trans hv57
            have hsz60 : ((c60_G 83) this).toInt ≤ ((c60_ln tx : Nat) : Int) := by rw [fl60 tx (by omega)]; omega
            have hR60 : ∀ t9, (c60_P 82) this = some t9 → ((c60_G 83) this).toInt ≤ ((c60_ln t9 : Nat) : Int) := fun t9 ht9 => by obtain rfl : tx = t9 := Option.some.inj (hn157.symm.trans ht9); exact hsz60
            obtain ⟨⟨y20, y21⟩, ⟨⟨b22, y22, y22l⟩, ⟨b23, y23, y23l⟩⟩, ⟨y24, y25⟩⟩ : (_ ∧ _) ∧ (_ ∧ _) ∧ (_ ∧ _) := ⟨p60_0, p60_1, p60_2⟩
            have hlaw0 : lawC (c60_P 20) (c60_P 21) (c60_P 22) (c60_P 23) (c60_G 24) (c60_G 25) (c60_V 0) c60_ln (some c31_cnt) = (tW f n e, tW f n (tE f n (tE f n e)), [], [], 0, 0) := by show (oar _ _ (c60_P 20 c31_cnt), oar _ _ (c60_P 21 c31_cnt), oar _ _ (c60_P 22 c31_cnt), oar _ _ (c60_P 23 c31_cnt), c60_G 24 c31_cnt, c60_G 25 c31_cnt) = _; rw [y20, y21, y22, y23, y24, y25, oar_some, oar_some, oar_some, oar_some, y22l, y23l, fV60 0 r31 (by omega) (fun q => (by show _ ≠ _; omega)), fl60 r31 (by omega), hw31, fV60 0 r57 (by omega) (fun q => (by show _ ≠ _; omega)), fl60 r57 (by omega), hw57]; rfl
            have hold60 : ∀ z, z < cnt → (c60_V 0) z = (V 0) z ∧ (c60_P 20) z = (P 20) z ∧ (c60_P 21) z = (P 21) z ∧ (c60_P 22) z = (P 22) z ∧ (c60_P 23) z = (P 23) z ∧ (c60_G 24) z = (G 24) z ∧ (c60_G 25) z = (G 25) z := fun z hz => ⟨(fV60 0 z (by omega) (fun q => (by show _ ≠ _; omega))).trans ((fV57 0 z (by omega) (fun _ => trivial)).trans ((fV51 0 z (by omega) (fun q => absurd q (by decide))).trans (fV31 0 z hz (fun _ => trivial)))), (fP60 20 z (by omega) (fun q => (by show _ ≠ _; omega))).trans ((fP57 20 z (by omega) (fun q => absurd q (by decide))).trans ((fP51 20 z (by omega) (fun q => absurd q (by decide))).trans (fP31 20 z hz (fun q => absurd q (by decide))))), (fP60 21 z (by omega) (fun q => (by show _ ≠ _; omega))).trans ((fP57 21 z (by omega) (fun q => absurd q (by decide))).trans ((fP51 21 z (by omega) (fun q => absurd q (by decide))).trans (fP31 21 z hz (fun q => absurd q (by decide))))), (fP60 22 z (by omega) (fun q => (by show _ ≠ _; omega))).trans ((fP57 22 z (by omega) (fun q => absurd q (by decide))).trans ((fP51 22 z (by omega) (fun q => absurd q (by decide))).trans (fP31 22 z hz (fun q => absurd q (by decide))))), (fP60 23 z (by omega) (fun q => (by show _ ≠ _; omega))).trans ((fP57 23 z (by omega) (fun q => absurd q (by decide))).trans ((fP51 23 z (by omega) (fun q => absurd q (by decide))).trans (fP31 23 z hz (fun q => absurd q (by decide))))), (fG60 24 z (by omega) (fun q => (by show _ ≠ _; omega))).trans ((fG57 24 z (by omega) (fun q => absurd q (by decide))).trans ((fG51 24 z (by omega) (fun q => absurd q (by decide))).trans (fG31 24 z hz (fun q => absurd q (by decide))))), (fG60 25 z (by omega) (fun q => (by show _ ≠ _; omega))).trans ((fG57 25 z (by omega) (fun q => absurd q (by decide))).trans ((fG51 25 z (by omega) (fun q => absurd q (by decide))).trans (fG31 25 z hz (fun q => absurd q (by decide)))))⟩
            have hg60 : (c60_G 102) p0 = (G 102) p0 := (fG60 102 p0 (by omega) (fun q => (by show _ ≠ _; omega))).trans ((fG57 102 p0 (by omega) (fun q => absurd q (by decide))).trans ((fG51 102 p0 (by omega) (fun q => absurd q (by decide))).trans (fG31 102 p0 (by omega) (fun q => absurd q (by decide)))))
            have ho60 : (c60_O 0) lr = (O 0) lr := (fO60 0 lr (by omega) (fun q => (by show _ ≠ _; omega))).trans ((fO57 0 lr (by omega) (fun q => absurd q (by decide))).trans ((fO51 0 lr (by omega) (fun q => absurd q (by decide))).trans (fO31 0 lr (by omega) (fun q => absurd q (by decide)))))
            refine pw_jE (fun k109 ek109 => ?_)
            have lp67 : ∀ (n67 : Nat) (y67_4 : Int32) (d67_G : Nat → Nat → Int32) (d67_P : Nat → Nat → Option Nat) (d67_U : Nat → Nat → Int64) (d67_V : Nat → Nat → Nat → Int32) (d67_X : Nat → Nat → Nat → Int64) (d67_O : Nat → Nat → Nat → Option Nat) (d67_kd : Nat → Nat) (d67_ln : Nat → Nat) (d67_cnt : Nat) (κ67 : Nat → Nat) (la67 : Nat → Nat), CInv κ67 wd d67_G d67_P d67_V d67_O d67_ln d67_cnt → (∀ a, κ a ≠ 0 → κ67 a = κ a) → cnt ≤ d67_cnt → κ67 this = 5 → κ67 p0 = 6 → κ67 c31_cnt = 2 → FRM cnt [24, 25, 80, 81, 84, 85, 86, 87, 88, 102] (fun z => (la z < la this ∨ la this < la z) ∧ (la z < la p0 ∨ la p0 + 3 < la z) ∧ (la z < la p0 + 5 ∨ la p0 + 5 < la z)) G d67_G → FRM cnt [22, 23] (fun z => (la z < la this ∨ la this < la z) ∧ (la z < la p0 ∨ la p0 + 3 < la z) ∧ (la z < la p0 + 5 ∨ la p0 + 5 < la z)) P d67_P → FRM cnt [] (fun z => (la z < la this ∨ la this < la z) ∧ (la z < la p0 ∨ la p0 + 3 < la z) ∧ (la z < la p0 + 5 ∨ la p0 + 5 < la z)) U d67_U → FRM cnt [0] (fun z => (la z < la this ∨ la this < la z) ∧ (la z < la p0 ∨ la p0 + 3 < la z) ∧ (la z < la p0 + 5 ∨ la p0 + 5 < la z)) V d67_V → FRM cnt [] (fun z => (la z < la this ∨ la this < la z) ∧ (la z < la p0 ∨ la p0 + 3 < la z) ∧ (la z < la p0 + 5 ∨ la p0 + 5 < la z)) X d67_X → FRM cnt [0] (fun z => (la z < la this ∨ la this < la z) ∧ (la z < la p0 ∨ la p0 + 3 < la z) ∧ (la z < la p0 + 5 ∨ la p0 + 5 < la z)) O d67_O → (∀ z, z < cnt → d67_ln z = ln z) → (∀ z, z < cnt → la67 z = la z) → LB la67 d67_cnt d67_P → c31_cnt < d67_cnt → lr < d67_cnt → p0 < d67_cnt → this < d67_cnt → tx < d67_cnt → (0 ≤ y67_4.toInt ∧ y67_4.toInt ≤ 5) → ((G 84) this).toInt ≤ ((d67_G 84) this).toInt → ((d67_G 84) this).toInt ≤ ((d67_G 83) this).toInt + 1 → cnt ≤ c31_cnt → la67 c31_cnt = la p0 + 5 → ((((d67_G 80) this).toInt = 0 ∧ ((d67_G 81) this).toInt = -1 ∧ (∃ (e1 k : Nat) (l : Lw), Int32.toNatClampNeg ((d67_G 84) this) = e1 ∧ k + Int32.toNatClampNeg y67_4 = 5 ∧ fl4 l = Int32.toNatClampNeg y67_4 ∧ lawF f n pl e d = sidF f n d k e1 l ∧ lawC (d67_P 20) (d67_P 21) (d67_P 22) (d67_P 23) (d67_G 24) (d67_G 25) (d67_V 0) d67_ln (some c31_cnt) = l)) ∨ (∃ x, lawF f n pl e d = .error x ∧ ERR (some x) ((d67_G 80) this) ((d67_G 81) this))) → (∀ z, z < cnt → (d67_V 0) z = (V 0) z ∧ (d67_P 20) z = (P 20) z ∧ (d67_P 21) z = (P 21) z ∧ (d67_P 22) z = (P 22) z ∧ (d67_P 23) z = (P 23) z ∧ (d67_G 24) z = (G 24) z ∧ (d67_G 25) z = (G 25) z) → ((d67_G 102) p0 = (G 102) p0) → ((d67_O 0) lr = (O 0) lr) → (∀ t9, (d67_P 82) this = some t9 → ((d67_G 83) this).toInt ≤ ((d67_ln t9 : Nat) : Int)) → pw (L_X4_readLaw_67 this p0 c31_cnt k109 n67 y67_4 d67_G d67_P d67_U d67_V d67_X d67_O d67_kd d67_ln d67_cnt) (sp1 (QF_X4_readLaw κ wd la G P U V X O kd ln cnt this p0 tx f n e pl d er br pr kp lr le lb lp se sb sp)) := by
              intro n67
              clear ho60 hg60 hold60 hlaw0 y20 y21 b22 y22 y22l b23 y23 y23l y24 y25 hR60 hsz60 hv60 hti60_86 hti60_84 hti60_83 hti60_81 hti60_80 ht60_86 ht60_84 ht60_83 ht60_81 ht60_80 lb_lr160 lt_lr160 hn159 lt_tx158 hn157 hlnn60 hF60_O hF60_X hF60_V hF60_U hF60_P hF60_G hfs60z hle60 hag60 lt156 g155 lt154 g153 lt152 g151 lt150 g149 lt148 g147 lt146 g145 lt144 g143 hB60 p60_0 p60_1 p60_2 ccf60 fG60 fP60 fV60 fO60 fl60 hl141 hk140 hk139 kx138 hcc134 hk135 hex60 hw31 hw57 eb2 ea2 hsz57 hv57 hti57_84 hti57_83 hti57_81 hti57_80 ht57_84 hlr57 hL31a hL57a hlc57 hln57 lt_lr132 hn131 lt_tx130 hn129 lt128 lt127 g126 lt125 g124 g122 g120 lt119 g118 lt117 g116 p57_1 ccf57 fG57 fP57 fV57 fO57 hl115 hl112 hcc103 hsz51 hti51_88 hti51_87 hti51_84 hti51_83 hti51_81 hti51_80 ht51_84 hL51a fO51 fV51 fP51 fG51 hl85 ccf51 hcn51 hln51 hL51 kl kk k1 k2 k3 k4 k5 k6 k7 c47 hup44 hlo44 u1 u2 u3 u4 c39 hup36 hlo36 hsz31 hti31_84 hti31_83 hti31_81 hti31_80 hlc31 hln31 p31_1 ccf31 fG31 fP31 fV31 fO31 hcc28 hwd eb ea gl gk g1 g2 g3 g4 g5 g6 g7 c26 hup23 hlo23 z15b z15c c18
              induction n67 with
              | zero => intros; exact pw_none
              | succ n67 ih67 =>
                intro y67_4 d67_G d67_P d67_U d67_V d67_X d67_O d67_kd d67_ln d67_cnt κ67 la67 hCI67 hx67 hcc161 hk162 hk163 hk164 hF67_G hF67_P hF67_U hF67_V hF67_X hF67_O hlnn67 hag67 hB67 lt165 lt166 lt167 lt168 lt169 f170 f171 f172 f173 f174 lw67 ol67 gc67 oc67 rs67
                show pw (B_X4_readLaw_67 this p0 c31_cnt k109 (L_X4_readLaw_67 this p0 c31_cnt k109 n67) y67_4 d67_G d67_P d67_U d67_V d67_X d67_O d67_kd d67_ln d67_cnt) _
                unfold B_X4_readLaw_67
                have hn175 : (d67_P 82) this = some tx := (hF67_P 82 this hlt_this (fun q => absurd q (by decide))).trans htx
                have lt_tx176 := ((hB67.1 82 fl_82) this tx hn175).2.1
                have hk_tx := (((CInv_P82 hCI67 :) this).2 tx hn175).1
                have hl1_tx := (((CInv_P82 hCI67 :) this).2 tx hn175).2.1
                have hl2_tx := (((CInv_P82 hCI67 :) this).2 tx hn175).2.2.1
                have hw_tx := (((CInv_P82 hCI67 :) this).2 tx hn175).2.2.2
                clear hw_tx
                have hn177 : (d67_P 101) p0 = some lr := (hF67_P 101 p0 hlt_p0 (fun q => absurd q (by decide))).trans hpt.1.2.2.2.2
                have lt_lr178 := ((hB67.1 101 fl_101) p0 lr hn177).2.1
                have lb_lr178 : la67 lr = la67 p0 + 0 := lk_101.mp ((hB67.1 101 fl_101) p0 lr hn177).2.2
                have hk_lr := (((CInv_P101 hCI67 :) p0).2 lr hn177).1
                have hl1_lr := (((CInv_P101 hCI67 :) p0).2 lr hn177).2.1
                have hl2_lr := (((CInv_P101 hCI67 :) p0).2 lr hn177).2.2.1
                have hw_lr := (((CInv_P101 hCI67 :) p0).2 lr hn177).2.2.2
                clear hw_lr
                have hagt := hag67 this hlt_this
                have hagp := hag67 p0 hlt_p0
                have hagx := hag67 tx (by omega)
                have hp67 := hn175
                have hb67 := (CInv_G84 hCI67 :) this
                have hv67 : (d67_V 0) tx = f := ((ol67 tx (by omega)).1).trans hf
                have h83 : (d67_G 83) this = (G 83) this := hF67_G 83 this hlt_this (fun q => absurd q (by decide))
                have h83i := congrArg Int32.toInt h83
                have c4 := clampI (x := y67_4) (by omega)
                refine pw_ite (fun c70 => ?_) (fun c70 => ?_)
                · have c70 := (z_le _ _).mp c70
                  refine pw_j9 ek109 (fun z109_0 ez109_0 z109_1 ez109_1 z109_2 ez109_2 z109_3 ez109_3 z109_4 ez109_4 z109_5 ez109_5 z109_6 ez109_6 z109_7 ez109_7 z109_8 ez109_8 => ?_)
                  subst ez109_0 ez109_1 ez109_2 ez109_3 ez109_4 ez109_5 ez109_6 ez109_7 ez109_8
                  have qq0 : OUTC (lawF f n pl e d) ((d67_G 80) this) ((d67_G 81) this) ((d67_G 84) this) (fun d1 => (entV ((d67_G 203) er) ((d67_V 0) le) ((d67_V 1) se) ((d67_V 0) lb) ((d67_V 1) sb) ((d67_V 10) kp), rwW ((d67_G 203) pr) ((d67_V 0) lp) ((d67_V 1) sp) 16, lwsV ((d67_G 102) p0) ((d67_O 0) lr) (d67_P 20) (d67_P 21) (d67_P 22) (d67_P 23) (d67_G 24) (d67_G 25) (d67_V 0) d67_ln) = d1 ∧ ((d67_G 203) br).toInt = ((d67_G 203) er).toInt ∧ ((d67_G 107) p0).toInt = ((kct d1.1 : Nat) : Int)) := by have hq : ∃ x, lawF f n pl e d = .error x ∧ ERR (some x) ((d67_G 80) this) ((d67_G 81) this) := (by rcases lw67 with ⟨z1, z2, e1, k, l, w1, w2, w3, w4, w5⟩ | h; (exfalso; have h9 := fl4_le l; omega); (exact h)); obtain ⟨x, y1, y2⟩ := hq; exact outc_bad y2 (fun q hq => by cases hq; exact y1)
                  have qq1 : (d67_V 0) tx = f := by exact hv67
                  have qq2 : LWL ((d67_G 102) p0) ((d67_O 0) lr) la67 d67_cnt (la p0 + 5) := by exact LWL_fr hlw gc67 (fun i hi => congrFun oc67 i) (by omega) hag67
                  exact pw_some ⟨la67, hag67, hB67, qq0, qq1, qq2⟩
                · have c70 := z_nle c70
                  refine pw_ite (fun c77 => ?_) (fun c77 => ?_)
                  · have c77 := congrArg Int32.toInt c77
                    obtain ⟨z1, z2, e1, k, l, w1, w2, w3, w4, w5⟩ := lw67.resolve_right (fun hq9 => by obtain ⟨x, y1, y2⟩ := hq9; have := y2.2.1; omega)
                    have hpr81_0 : id ((∀ tx, (d67_P 82) this = some tx → ((d67_G 83) this).toInt ≤ ((d67_ln tx : Nat) : Int))) := show (∀ tx, (d67_P 82) this = some tx → ((d67_G 83) this).toInt ≤ ((d67_ln tx : Nat) : Int)) from by assumption
                    have hpr81_1 : ((d67_G 84) this).toInt ≤ ((d67_G 83) this).toInt + 1 := by first | assumption | omega
                    refine pw_b5 (fun c81_G84 c81_G85 c81_G86 c81_G87 c81_G88 hc81 => ?_)
                    have hq81 := wp_at (ok_X4_nextToken κ67 wd d67_G d67_P d67_U d67_V d67_X d67_O d67_kd d67_ln d67_cnt this (CInv_G83 hCI67 :) (CInv_G84 hCI67 :) (CInv_G85 hCI67 :) (CInv_G87 hCI67 :) (CInv_G88 hCI67 :) (CInv_P82 hCI67 :) (CInv_LN hCI67 :) hk162 hpr81_0 hpr81_1) hc81
                    obtain ⟨hg179, hg180, hg181, hg182, f183, f184, f185, f186, f187⟩ : (rng (0) 2001 c81_G84) ∧ (rng (0) 4 c81_G85) ∧ (rng (0) 2001 c81_G87) ∧ (rng (0) 2000 c81_G88) ∧ (id ((c81_G85 this).toInt = 1 ∨ (c81_G85 this).toInt = 2 → (c81_G87 this).toInt + (c81_G88 this).toInt ≤ ((d67_G 83) this).toInt)) ∧ (id ((c81_G85 this).toInt = 2 → 1 ≤ (c81_G87 this).toInt ∧ (c81_G88 this).toInt ≤ 16)) ∧ (id ((c81_G85 this).toInt = 1 → ((d67_G 84) this).toInt + 1 ≤ (c81_G84 this).toInt)) ∧ (((d67_G 84) this).toInt ≤ (c81_G84 this).toInt) ∧ ((c81_G84 this).toInt ≤ ((d67_G 83) this).toInt + 1) := hq81
                    have hq81 := pwq (fr_X4_nextToken la67 d67_G d67_P d67_U d67_V d67_X d67_O d67_kd d67_ln d67_cnt this hB67) hc81
                    obtain ⟨q81_G84, q81_G85, q81_G86, q81_G87, q81_G88⟩ : (∀ z, (la67 z < la67 this ∨ la67 this < la67 z) → c81_G84 z = (d67_G 84) z) ∧ (∀ z, (la67 z < la67 this ∨ la67 this < la67 z) → c81_G85 z = (d67_G 85) z) ∧ (∀ z, (la67 z < la67 this ∨ la67 this < la67 z) → c81_G86 z = (d67_G 86) z) ∧ (∀ z, (la67 z < la67 this ∨ la67 this < la67 z) → c81_G87 z = (d67_G 87) z) ∧ (∀ z, (la67 z < la67 this ∨ la67 this < la67 z) → c81_G88 z = (d67_G 88) z) := hq81
                    have tz81 : ∀ z, (z < cnt ∧ (la z < la this ∨ la this < la z) ∧ (la z < la p0 ∨ la p0 + 3 < la z) ∧ (la z < la p0 + 5 ∨ la p0 + 5 < la z)) → ((la67 z < la67 this ∨ la67 this < la67 z)) := fun z hz => by have q1 := hag67 z hz.1; have q2 := hB.2 z hz.1; omega
                    have hfr188 : ∀ z, (z < cnt ∧ (la z < la this ∨ la this < la z) ∧ (la z < la p0 ∨ la p0 + 3 < la z) ∧ (la z < la p0 + 5 ∨ la p0 + 5 < la z)) → c81_G84 z = (G 84) z := fun z hz => (q81_G84 z (tz81 z hz)).trans ((fun (z : Nat) (hz : (z < cnt ∧ (la z < la this ∨ la this < la z) ∧ (la z < la p0 ∨ la p0 + 3 < la z) ∧ (la z < la p0 + 5 ∨ la p0 + 5 < la z))) => hF67_G 84 z hz.1 (fun _ => hz.2)) z hz)
                    have hfr189 : ∀ z, (z < cnt ∧ (la z < la this ∨ la this < la z) ∧ (la z < la p0 ∨ la p0 + 3 < la z) ∧ (la z < la p0 + 5 ∨ la p0 + 5 < la z)) → c81_G85 z = (G 85) z := fun z hz => (q81_G85 z (tz81 z hz)).trans ((fun (z : Nat) (hz : (z < cnt ∧ (la z < la this ∨ la this < la z) ∧ (la z < la p0 ∨ la p0 + 3 < la z) ∧ (la z < la p0 + 5 ∨ la p0 + 5 < la z))) => hF67_G 85 z hz.1 (fun _ => hz.2)) z hz)
                    have hfr190 : ∀ z, (z < cnt ∧ (la z < la this ∨ la this < la z) ∧ (la z < la p0 ∨ la p0 + 3 < la z) ∧ (la z < la p0 + 5 ∨ la p0 + 5 < la z)) → c81_G86 z = (G 86) z := fun z hz => (q81_G86 z (tz81 z hz)).trans ((fun (z : Nat) (hz : (z < cnt ∧ (la z < la this ∨ la this < la z) ∧ (la z < la p0 ∨ la p0 + 3 < la z) ∧ (la z < la p0 + 5 ∨ la p0 + 5 < la z))) => hF67_G 86 z hz.1 (fun _ => hz.2)) z hz)
                    have hfr191 : ∀ z, (z < cnt ∧ (la z < la this ∨ la this < la z) ∧ (la z < la p0 ∨ la p0 + 3 < la z) ∧ (la z < la p0 + 5 ∨ la p0 + 5 < la z)) → c81_G87 z = (G 87) z := fun z hz => (q81_G87 z (tz81 z hz)).trans ((fun (z : Nat) (hz : (z < cnt ∧ (la z < la this ∨ la this < la z) ∧ (la z < la p0 ∨ la p0 + 3 < la z) ∧ (la z < la p0 + 5 ∨ la p0 + 5 < la z))) => hF67_G 87 z hz.1 (fun _ => hz.2)) z hz)
                    have hfr192 : ∀ z, (z < cnt ∧ (la z < la this ∨ la this < la z) ∧ (la z < la p0 ∨ la p0 + 3 < la z) ∧ (la z < la p0 + 5 ∨ la p0 + 5 < la z)) → c81_G88 z = (G 88) z := fun z hz => (q81_G88 z (tz81 z hz)).trans ((fun (z : Nat) (hz : (z < cnt ∧ (la z < la this ∨ la this < la z) ∧ (la z < la p0 ∨ la p0 + 3 < la z) ∧ (la z < la p0 + 5 ∨ la p0 + 5 < la z))) => hF67_G 88 z hz.1 (fun _ => hz.2)) z hz)
                    have h881_htx : (d67_P 82) this = some tx := by exact hp67
                    have h881_hf : (d67_V 0) tx = f := by exact hv67
                    have h881_hn : Int32.toNatClampNeg ((d67_G 83) this) = n := by rw [h83]; exact hn
                    have h881_he : Int32.toNatClampNeg ((d67_G 84) this) = (e1) := by exact w1
                    have hx81 := pwq (fn_X4_nextToken κ67 wd la67 d67_G d67_P d67_U d67_V d67_X d67_O d67_kd d67_ln d67_cnt this (tx) (f) (n) (e1) (CInv_G83 hCI67 :) (CInv_G84 hCI67 :) (CInv_G85 hCI67 :) (CInv_G87 hCI67 :) (CInv_G88 hCI67 :) (CInv_P82 hCI67 :) (CInv_LN hCI67 :) hk162 hpr81_0 hpr81_1 hB67 lt168 h881_htx h881_hf h881_hn h881_he) hc81
                    have p81_0 : TKC f n (e1) (c81_G85 this).toInt (c81_G86 this).toInt (c81_G87 this).toInt (c81_G88 this).toInt (c81_G84 this).toInt := hx81
                    clear hx81
                    have hq81x := f183
                    have hq81a := f186
                    have hq81b := f187
                    have htk : id (TKC f n e1 (c81_G85 this).toInt (c81_G86 this).toInt (c81_G87 this).toInt (c81_G88 this).toInt (c81_G84 this).toInt) := p81_0
                    clear p81_0
                    have b193 := hg180 this
                    refine pw_ite (fun c89 => ?_) (fun c89 => ?_)
                    · have c89 := congrArg Int32.toInt c89
                      refine pw_b2 (fun c94_G102 c94_O0 hc94 => ?_)
                      have hq94 := wp_at (ok_X5_addLaw κ67 wd (va_up (va_up (va_up (va_up (va_up d67_G 84 c81_G84) 85 c81_G85) 86 c81_G86) 87 c81_G87) 88 c81_G88) d67_P d67_U d67_V d67_X d67_O d67_kd d67_ln d67_cnt p0 c31_cnt (CInv_G102 hCI67 :) (CInv_P101 hCI67 :) (CInv_O0 hCI67 :) (CInv_LN hCI67 :) hk163 hk164) hc94
                      obtain ⟨hg194, hg195, f196, f197⟩ : (rng (0) 40 c94_G102) ∧ (OB κ67 2 c94_O0) ∧ (id ((((d67_G 102) p0).toInt < 40 → (c94_G102 p0).toInt = ((d67_G 102) p0).toInt + 1))) ∧ (id ((40 ≤ ((d67_G 102) p0).toInt → (c94_G102 p0).toInt = ((d67_G 102) p0).toInt))) := hq94
                      have hq94 := pwq (fr_X5_addLaw la67 (va_up (va_up (va_up (va_up (va_up d67_G 84 c81_G84) 85 c81_G85) 86 c81_G86) 87 c81_G87) 88 c81_G88) d67_P d67_U d67_V d67_X d67_O d67_kd d67_ln d67_cnt p0 c31_cnt hB67) hc94
                      obtain ⟨q94_G102, q94_O0⟩ : (∀ z, (la67 z < la67 p0 ∨ la67 p0 + 3 < la67 z) ∧ (la67 z < la67 p0 + 5 ∨ la67 p0 + 5 < la67 z) → c94_G102 z = (d67_G 102) z) ∧ (∀ z, (la67 z < la67 p0 ∨ la67 p0 + 3 < la67 z) ∧ (la67 z < la67 p0 + 5 ∨ la67 p0 + 5 < la67 z) → c94_O0 z = (d67_O 0) z) := hq94
                      have tz94 : ∀ z, (z < cnt ∧ (la z < la this ∨ la this < la z) ∧ (la z < la p0 ∨ la p0 + 3 < la z) ∧ (la z < la p0 + 5 ∨ la p0 + 5 < la z)) → ((la67 z < la67 p0 ∨ la67 p0 + 3 < la67 z) ∧ (la67 z < la67 p0 + 5 ∨ la67 p0 + 5 < la67 z)) := fun z hz => by have q1 := hag67 z hz.1; have q2 := hB.2 z hz.1; omega
                      have hfr198 : ∀ z, (z < cnt ∧ (la z < la this ∨ la this < la z) ∧ (la z < la p0 ∨ la p0 + 3 < la z) ∧ (la z < la p0 + 5 ∨ la p0 + 5 < la z)) → c94_G102 z = (G 102) z := fun z hz => (q94_G102 z (tz94 z hz)).trans ((fun (z : Nat) (hz : (z < cnt ∧ (la z < la this ∨ la this < la z) ∧ (la z < la p0 ∨ la p0 + 3 < la z) ∧ (la z < la p0 + 5 ∨ la p0 + 5 < la z))) => hF67_G 102 z hz.1 (fun _ => hz.2)) z hz)
                      have hfr199 : ∀ z, (z < cnt ∧ (la z < la this ∨ la this < la z) ∧ (la z < la p0 ∨ la p0 + 3 < la z) ∧ (la z < la p0 + 5 ∨ la p0 + 5 < la z)) → c94_O0 z = (O 0) z := fun z hz => (q94_O0 z (tz94 z hz)).trans ((fun (z : Nat) (hz : (z < cnt ∧ (la z < la this ∨ la this < la z) ∧ (la z < la p0 ∨ la p0 + 3 < la z) ∧ (la z < la p0 + 5 ∨ la p0 + 5 < la z))) => hF67_O 0 z hz.1 (fun _ => hz.2)) z hz)
                      have h894_hlr : (d67_P 101) p0 = some lr := by exact hn177
                      have h894_hrm : ((d67_G 102) p0).toInt < 40 := by have h := congrArg Int32.toInt gc67; omega
                      have hx94 := pwq (fn_X5_addLaw κ67 wd la67 (va_up (va_up (va_up (va_up (va_up d67_G 84 c81_G84) 85 c81_G85) 86 c81_G86) 87 c81_G87) 88 c81_G88) d67_P d67_U d67_V d67_X d67_O d67_kd d67_ln d67_cnt p0 c31_cnt (lr) (CInv_G102 hCI67 :) (CInv_P101 hCI67 :) (CInv_O0 hCI67 :) (CInv_LN hCI67 :) hk163 hk164 hB67 lt167 lt165 h894_hlr h894_hrm) hc94
                      obtain ⟨p94_0, p94_1⟩ : ((c94_G102 p0).toInt = ((d67_G 102) p0).toInt + 1) ∧ (c94_O0 lr = va_up ((d67_O 0) lr) (Int32.toNatClampNeg ((d67_G 102) p0)) (some c31_cnt)) := hx94
                      have qq0 : OUTC (lawF f n pl e d) ((d67_G 80) this) ((d67_G 81) this) (c81_G84 this) (fun d1 => (entV ((d67_G 203) er) ((d67_V 0) le) ((d67_V 1) se) ((d67_V 0) lb) ((d67_V 1) sb) ((d67_V 10) kp), rwW ((d67_G 203) pr) ((d67_V 0) lp) ((d67_V 1) sp) 16, lwsV (c94_G102 p0) (c94_O0 lr) (d67_P 20) (d67_P 21) (d67_P 22) (d67_P 23) (d67_G 24) (d67_G 25) (d67_V 0) d67_ln) = d1 ∧ ((d67_G 203) br).toInt = ((d67_G 203) er).toInt ∧ ((d67_G 107) p0).toInt = ((kct d1.1 : Nat) : Int)) := by obtain ⟨⟨c_er, l_er⟩, ⟨c_br, l_br⟩, ⟨c_pr, l_pr⟩, ⟨c_kp, l_kp⟩, ⟨c_lr, l_lr⟩, ⟨c_le, l_le⟩, ⟨c_lb, l_lb⟩, ⟨c_lp, l_lp⟩, ⟨c_se, l_se⟩, ⟨c_sb, l_sb⟩, ⟨c_sp, l_sp⟩⟩ := pts_lab hpt hB; obtain ⟨k0, rfl⟩ : ∃ k0, k = k0 + 1 := ⟨k - 1, by omega⟩; have ez := clampI (x := c81_G84 this) (by omega); have t2 := (show TKC f n e1 (c81_G85 this).toInt (c81_G86 this).toInt (c81_G87 this).toInt (c81_G88 this).toInt (c81_G84 this).toInt from htk).2.1; have t6 := (show TKC f n e1 (c81_G85 this).toInt (c81_G86 this).toInt (c81_G87 this).toInt (c81_G88 this).toInt (c81_G84 this).toInt from htk).2.2.2.2.2; have v3 := t6 (by omega); clear t6; refine outc_ok (w4.trans (sid_c (by omega))) (by omega) (by omega) (by omega) ⟨Prod.ext ?_ (Prod.ext ?_ ?_), ?_, ?_⟩; (show entV _ _ _ _ _ _ = d.1; rw [hd1]; exact ent_congr (hF67_G 203 er (by omega) (fun q => absurd q (by decide))) (ol67 le (by omega)).1 (hF67_V 1 se (by omega) (fun q => absurd q (by decide))) (ol67 lb (by omega)).1 (hF67_V 1 sb (by omega) (fun q => absurd q (by decide))) (hF67_V 10 kp (by omega) (fun q => absurd q (by decide)))); (show rwW _ _ _ _ = d.2.1; rw [hd2, (hF67_G 203 pr (by omega) (fun q => absurd q (by decide))), (hF67_V 1 sp (by omega) (fun q => absurd q (by decide))), (ol67 lp (by omega)).1]); (show lwsV _ _ _ _ _ _ _ _ _ _ = d.2.2 ++ _; rw [hd3]; unfold lwsV; refine tab_add (by have h9 := congrArg Int32.toInt gc67; have c8 := clampI (x := c94_G102 p0) (by omega); omega) (fun j hj => ?_) ?_; (rw [p94_1, show Int32.toNatClampNeg (d67_G 102 p0) = Int32.toNatClampNeg ((G 102) p0) from by rw [gc67], va_up_ne _ _ (by omega), oc67]; obtain ⟨lo, j1, j2, j3⟩ := hlw j hj; rw [j1]; obtain ⟨o1, o2, o3, o4, o5, o6, o7⟩ := ol67 lo j2; exact lawC_eq o2 o3 o4 o5 o6 o7 (fun x hx => by have hx1 : x < cnt := (by rcases hx with hx | hx | hx | hx <;> exact (law_fld hB (by omega) hx).1); exact ⟨(ol67 x hx1).1, hlnn67 x hx1⟩)); (rw [p94_1, show Int32.toNatClampNeg (d67_G 102 p0) = Int32.toNatClampNeg ((G 102) p0) from by rw [gc67], va_up_self]; exact w5)); (rw [(hF67_G 203 br (by omega) (fun q => absurd q (by decide))), (hF67_G 203 er (by omega) (fun q => absurd q (by decide)))]; exact hcb); (rw [(hF67_G 107 p0 (by omega) (fun q => absurd q (by decide)))]; exact hkc)
                      have qq1 : (d67_V 0) tx = f := by exact hv67
                      have qq2 : LWL (c94_G102 p0) (c94_O0 lr) la67 d67_cnt (la p0 + 5) := by intro i hi; by_cases q9 : i = Int32.toNatClampNeg ((G 102) p0); (refine ⟨_, by rw [p94_1, show Int32.toNatClampNeg (d67_G 102 p0) = Int32.toNatClampNeg ((G 102) p0) from by rw [gc67], q9, va_up_self], by omega, by omega⟩); (obtain ⟨lo, j1, j2, j3⟩ := hlw i (by have h9 := congrArg Int32.toInt gc67; have c8 := clampI (x := c94_G102 p0) (by omega); omega); refine ⟨lo, by rw [p94_1, show Int32.toNatClampNeg (d67_G 102 p0) = Int32.toNatClampNeg ((G 102) p0) from by rw [gc67], va_up_ne _ _ q9, oc67]; exact j1, by omega, (hag67 lo j2).trans j3⟩)
                      exact pw_some ⟨la67, hag67, hB67, qq0, qq1, qq2⟩
                    · have c89 := z_ne c89
                      have hpr100_0 : id ((∀ tx, (d67_P 82) this = some tx → ((d67_G 83) this).toInt ≤ ((d67_ln tx : Nat) : Int))) := show (∀ tx, (d67_P 82) this = some tx → ((d67_G 83) this).toInt ≤ ((d67_ln tx : Nat) : Int)) from by assumption
                      have hpr100_1 : id (((c81_G85 this).toInt = 1 → (c81_G87 this).toInt + (c81_G88 this).toInt ≤ ((d67_G 83) this).toInt)) := show ((c81_G85 this).toInt = 1 → (c81_G87 this).toInt + (c81_G88 this).toInt ≤ ((d67_G 83) this).toInt) from by intro h9; exact hq81x (Or.inl h9)
                      have hpr100_2 : (c81_G84 this).toInt ≤ ((d67_G 83) this).toInt + 1 := by first | assumption | omega
                      refine pw_bA9 (fun c100_G c100_P c100_U c100_V c100_X c100_O c100_kd c100_ln c100_cnt v1_100 v2_100 hc100 => ?_)
                      have hq100 := wp_at (ok_X4_readSide κ67 wd (va_up (va_up (va_up (va_up (va_up d67_G 84 c81_G84) 85 c81_G85) 86 c81_G86) 87 c81_G87) 88 c81_G88) d67_P d67_U d67_V d67_X d67_O d67_kd d67_ln d67_cnt this c31_cnt (CInv_i (CInv_G43 hCI67 :) (CInv_G44 hCI67 :) (CInv_G45 hCI67 :) (CInv_G60 hCI67 :) (CInv_G83 hCI67 :) hg179 hg180 hg181 hg182 (CInv_G102 hCI67 :) (CInv_G125 hCI67 :) (CInv_G126 hCI67 :) (CInv_G127 hCI67 :) (CInv_G141 hCI67 :) (CInv_G160 hCI67 :) (CInv_G161 hCI67 :) (CInv_G162 hCI67 :) (CInv_G165 hCI67 :) (CInv_G166 hCI67 :) (CInv_G183 hCI67 :) (CInv_G200 hCI67 :) (CInv_G203 hCI67 :) (CInv_G222 hCI67 :) (CInv_G231 hCI67 :) (CInv_G233 hCI67 :) (CInv_P0 hCI67 :) (CInv_P1 hCI67 :) (CInv_P2 hCI67 :) (CInv_P3 hCI67 :) (CInv_P4 hCI67 :) (CInv_P5 hCI67 :) (CInv_P20 hCI67 :) (CInv_P21 hCI67 :) (CInv_P22 hCI67 :) (CInv_P23 hCI67 :) (CInv_P40 hCI67 :) (CInv_P41 hCI67 :) (CInv_P42 hCI67 :) (CInv_P61 hCI67 :) (CInv_P62 hCI67 :) (CInv_P63 hCI67 :) (CInv_P64 hCI67 :) (CInv_P65 hCI67 :) (CInv_P66 hCI67 :) (CInv_P82 hCI67 :) (CInv_P101 hCI67 :) (CInv_P103 hCI67 :) (CInv_P104 hCI67 :) (CInv_P105 hCI67 :) (CInv_P106 hCI67 :) (CInv_P108 hCI67 :) (CInv_P109 hCI67 :) (CInv_P110 hCI67 :) (CInv_P120 hCI67 :) (CInv_P121 hCI67 :) (CInv_P122 hCI67 :) (CInv_P123 hCI67 :) (CInv_P140 hCI67 :) (CInv_P164 hCI67 :) (CInv_P180 hCI67 :) (CInv_P181 hCI67 :) (CInv_P182 hCI67 :) (CInv_P185 hCI67 :) (CInv_P186 hCI67 :) (CInv_P187 hCI67 :) (CInv_P201 hCI67 :) (CInv_P202 hCI67 :) (CInv_P220 hCI67 :) (CInv_P221 hCI67 :) (CInv_P224 hCI67 :) (CInv_P225 hCI67 :) (CInv_P226 hCI67 :) (CInv_P227 hCI67 :) (CInv_P228 hCI67 :) (CInv_P229 hCI67 :) (CInv_P230 hCI67 :) (CInv_P232 hCI67 :) (CInv_P234 hCI67 :) (CInv_P235 hCI67 :) (CInv_P236 hCI67 :) (CInv_V1 hCI67 :) (CInv_V2 hCI67 :) (CInv_V3 hCI67 :) (CInv_V9 hCI67 :) (CInv_O0 hCI67 :) (CInv_O1 hCI67 :) (CInv_O2 hCI67 :) (CInv_RA hCI67 :) (CInv_RB hCI67 :) (CInv_RI hCI67 :) (CInv_RM103 hCI67 :) (CInv_RM104 hCI67 :) (CInv_RM108 hCI67 :) (CInv_LN hCI67 :) (CInv_FL hCI67 :) (CInv_W0 hCI67 :) (CInv_KC hCI67 :) (CInv_WK hCI67 :)) hk162 hk164 hpr100_0 hpr100_1 hpr100_2) hc100
                      obtain ⟨κ100_199, hCI100, hxx100, hcc201, hfr202, hfr203, hfr204, hfr205, hfr206, hfr207, hfr208, hfr209, hfr210, hfr211, hfr212, f213, f214, f215, f216⟩ : ∃ κ1 : Nat → Nat, (CInv κ1 wd c100_G c100_P c100_V c100_O c100_ln c100_cnt) ∧ (∀ a, κ67 a ≠ 0 → κ1 a = κ67 a) ∧ (d67_cnt ≤ c100_cnt) ∧ ((∀ a, κ67 a ≠ 0 → (c100_P 220) a = (d67_P 220) a)) ∧ ((∀ a, κ67 a ≠ 0 → (c100_P 229) a = (d67_P 229) a)) ∧ ((∀ a, κ67 a ≠ 0 → (c100_P 3) a = (d67_P 3) a)) ∧ ((∀ a, κ67 a ≠ 0 → (c100_G 141) a = (d67_G 141) a)) ∧ ((∀ a, κ67 a ≠ 0 → (c100_G 83) a = (d67_G 83) a)) ∧ ((∀ a, κ67 a ≠ 0 → (c100_P 82) a = (d67_P 82) a)) ∧ ((∀ a, κ67 a ≠ 0 → (c100_P 0) a = (d67_P 0) a)) ∧ ((∀ a, κ67 a ≠ 0 → (c100_G 203) a = (d67_G 203) a)) ∧ ((∀ a, κ67 a ≠ 0 → (c100_V 3) a = (d67_V 3) a)) ∧ ((∀ a, κ67 a ≠ 0 → (c100_G 160) a = (d67_G 160) a)) ∧ ((∀ a, κ67 a ≠ 0 → c100_ln a = d67_ln a)) ∧ ((c81_G84 this).toInt ≤ ((c100_G 84) this).toInt) ∧ (v1_100 ≤ 1) ∧ (v2_100 ≤ 16) ∧ (((c100_G 84) this).toInt ≤ ((c100_G 83) this).toInt + 1) := hq100
                      have kx217 : ∀ a, κ a ≠ 0 → κ100_199 a = κ a := kxt hx67 hxx100
                      have hk218 : κ100_199 this = 5 := kxk hxx100 hk162 (by decide)
                      have hk219 : κ100_199 p0 = 6 := kxk hxx100 hk163 (by decide)
                      have hk220 : κ100_199 c31_cnt = 2 := kxk hxx100 hk164 (by decide)
                      have hq100 := pwq (fr_X4_readSide la67 (va_up (va_up (va_up (va_up (va_up d67_G 84 c81_G84) 85 c81_G85) 86 c81_G86) 87 c81_G87) 88 c81_G88) d67_P d67_U d67_V d67_X d67_O d67_kd d67_ln d67_cnt this c31_cnt hB67 lt168 lt165) hc100
                      obtain ⟨la100_f, agf100, hBf100, ccf100, fG100, fP100, fU100, fV100, fX100, fO100, fl100⟩ : ∃ la9 : Nat → Nat, (∀ z, z < d67_cnt → la9 z = la67 z) ∧ LB la9 c100_cnt c100_P ∧ d67_cnt ≤ c100_cnt ∧ FRM d67_cnt [24, 25, 80, 81, 84, 85, 86, 87, 88] (fun z => (la67 z < la67 this ∨ la67 this < la67 z) ∧ (la67 z < la67 c31_cnt ∨ la67 c31_cnt < la67 z)) (va_up (va_up (va_up (va_up (va_up d67_G 84 c81_G84) 85 c81_G85) 86 c81_G86) 87 c81_G87) 88 c81_G88) c100_G ∧ FRM d67_cnt [22, 23] (fun z => (la67 z < la67 this ∨ la67 this < la67 z) ∧ (la67 z < la67 c31_cnt ∨ la67 c31_cnt < la67 z)) d67_P c100_P ∧ FRM d67_cnt [] (fun z => (la67 z < la67 this ∨ la67 this < la67 z) ∧ (la67 z < la67 c31_cnt ∨ la67 c31_cnt < la67 z)) d67_U c100_U ∧ FRM d67_cnt [0] (fun z => (la67 z < la67 this ∨ la67 this < la67 z) ∧ (la67 z < la67 c31_cnt ∨ la67 c31_cnt < la67 z)) d67_V c100_V ∧ FRM d67_cnt [] (fun z => (la67 z < la67 this ∨ la67 this < la67 z) ∧ (la67 z < la67 c31_cnt ∨ la67 c31_cnt < la67 z)) d67_X c100_X ∧ FRM d67_cnt [] (fun z => (la67 z < la67 this ∨ la67 this < la67 z) ∧ (la67 z < la67 c31_cnt ∨ la67 c31_cnt < la67 z)) d67_O c100_O ∧ (∀ z, z < d67_cnt → c100_ln z = d67_ln z) := hq100
                      have h8100_htx : (d67_P 82) this = some tx := by exact hp67
                      have h8100_hf : (d67_V 0) tx = f := by exact hv67
                      have h8100_hn : Int32.toNatClampNeg ((d67_G 83) this) = n := by rw [h83]; exact hn
                      have h8100_htk : TKC f n (e1) (c81_G85 this).toInt (c81_G86 this).toInt (c81_G87 this).toInt (c81_G88 this).toInt (c81_G84 this).toInt := by exact htk
                      have h8100_hl : lawC (d67_P 20) (d67_P 21) (d67_P 22) (d67_P 23) (d67_G 24) (d67_G 25) (d67_V 0) d67_ln (some c31_cnt) = l := by exact w5
                      have h8100_hk0 : ((d67_G 80) this).toInt = 0 := by omega
                      have h8100_hk1 : ((d67_G 81) this).toInt = -1 := by omega
                      have h8100_hlx : la67 tx = 11 := by first | assumption | omega
                      have h8100_hlh : la67 this = 300 := by first | assumption | omega
                      have h8100_hld : 100000 ≤ la67 c31_cnt := by first | assumption | omega
                      have hx100 := pwq (fn_X4_readSide κ67 wd la67 (va_up (va_up (va_up (va_up (va_up d67_G 84 c81_G84) 85 c81_G85) 86 c81_G86) 87 c81_G87) 88 c81_G88) d67_P d67_U d67_V d67_X d67_O d67_kd d67_ln d67_cnt this c31_cnt (tx) (f) (n) (e1) (l) (CInv_i (CInv_G43 hCI67 :) (CInv_G44 hCI67 :) (CInv_G45 hCI67 :) (CInv_G60 hCI67 :) (CInv_G83 hCI67 :) hg179 hg180 hg181 hg182 (CInv_G102 hCI67 :) (CInv_G125 hCI67 :) (CInv_G126 hCI67 :) (CInv_G127 hCI67 :) (CInv_G141 hCI67 :) (CInv_G160 hCI67 :) (CInv_G161 hCI67 :) (CInv_G162 hCI67 :) (CInv_G165 hCI67 :) (CInv_G166 hCI67 :) (CInv_G183 hCI67 :) (CInv_G200 hCI67 :) (CInv_G203 hCI67 :) (CInv_G222 hCI67 :) (CInv_G231 hCI67 :) (CInv_G233 hCI67 :) (CInv_P0 hCI67 :) (CInv_P1 hCI67 :) (CInv_P2 hCI67 :) (CInv_P3 hCI67 :) (CInv_P4 hCI67 :) (CInv_P5 hCI67 :) (CInv_P20 hCI67 :) (CInv_P21 hCI67 :) (CInv_P22 hCI67 :) (CInv_P23 hCI67 :) (CInv_P40 hCI67 :) (CInv_P41 hCI67 :) (CInv_P42 hCI67 :) (CInv_P61 hCI67 :) (CInv_P62 hCI67 :) (CInv_P63 hCI67 :) (CInv_P64 hCI67 :) (CInv_P65 hCI67 :) (CInv_P66 hCI67 :) (CInv_P82 hCI67 :) (CInv_P101 hCI67 :) (CInv_P103 hCI67 :) (CInv_P104 hCI67 :) (CInv_P105 hCI67 :) (CInv_P106 hCI67 :) (CInv_P108 hCI67 :) (CInv_P109 hCI67 :) (CInv_P110 hCI67 :) (CInv_P120 hCI67 :) (CInv_P121 hCI67 :) (CInv_P122 hCI67 :) (CInv_P123 hCI67 :) (CInv_P140 hCI67 :) (CInv_P164 hCI67 :) (CInv_P180 hCI67 :) (CInv_P181 hCI67 :) (CInv_P182 hCI67 :) (CInv_P185 hCI67 :) (CInv_P186 hCI67 :) (CInv_P187 hCI67 :) (CInv_P201 hCI67 :) (CInv_P202 hCI67 :) (CInv_P220 hCI67 :) (CInv_P221 hCI67 :) (CInv_P224 hCI67 :) (CInv_P225 hCI67 :) (CInv_P226 hCI67 :) (CInv_P227 hCI67 :) (CInv_P228 hCI67 :) (CInv_P229 hCI67 :) (CInv_P230 hCI67 :) (CInv_P232 hCI67 :) (CInv_P234 hCI67 :) (CInv_P235 hCI67 :) (CInv_P236 hCI67 :) (CInv_V1 hCI67 :) (CInv_V2 hCI67 :) (CInv_V3 hCI67 :) (CInv_V9 hCI67 :) (CInv_O0 hCI67 :) (CInv_O1 hCI67 :) (CInv_O2 hCI67 :) (CInv_RA hCI67 :) (CInv_RB hCI67 :) (CInv_RI hCI67 :) (CInv_RM103 hCI67 :) (CInv_RM104 hCI67 :) (CInv_RM108 hCI67 :) (CInv_LN hCI67 :) (CInv_FL hCI67 :) (CInv_W0 hCI67 :) (CInv_KC hCI67 :) (CInv_WK hCI67 :)) hk162 hk164 hpr100_0 hpr100_1 hpr100_2 hB67 lt168 lt165 h8100_htx h8100_hf h8100_hn h8100_htk h8100_hl h8100_hk0 h8100_hk1 h8100_hlx h8100_hlh h8100_hld) hc100
                      obtain ⟨la100, ag100, hB100, p100_0, p100_1, p100_2⟩ : ∃ la9 : Nat → Nat, (∀ z, z < d67_cnt → la9 z = la67 z) ∧ LB la9 c100_cnt c100_P ∧ (OUTL f n (e1) l ((c100_G 80) this) ((c100_G 81) this) ((c100_G 84) this) (fun l1 => lawC (c100_P 20) (c100_P 21) (c100_P 22) (c100_P 23) (c100_G 24) (c100_G 25) (c100_V 0) c100_ln (some c31_cnt) = l1)) ∧ (id ((∀ z, z < d67_cnt → (c100_V 0) z = (d67_V 0) z))) ∧ (id ((∀ z, z < d67_cnt → z ≠ c31_cnt → (c100_P 22) z = (d67_P 22) z ∧ (c100_P 23) z = (d67_P 23) z ∧ (c100_G 24) z = (d67_G 24) z ∧ (c100_G 25) z = (d67_G 25) z))) := hx100
                      clear h8100_hld h8100_hlh h8100_hlx h8100_hk1 h8100_hk0 h8100_hl h8100_htk h8100_hn h8100_hf h8100_htx agf100 hBf100 hxx100 hfr202 hfr203 hfr204 hfr205 hfr206 hfr207 hfr208 hfr209 hfr210 hfr211 hfr212 f214 f215 hc100 hpr100_2 hpr100_1 hpr100_0 b193 hq81x h881_he h881_hn h881_hf h881_htx tz81 q81_G84 q81_G85 q81_G86 q81_G87 q81_G88 hg179 hg180 hg181 hg182 f183 f184 f185 f186 f187 hc81 hpr81_1 hpr81_0 h83 hv67 lb_lr178
                      have g221 : la100 c31_cnt = la67 c31_cnt := ag100 c31_cnt lt165
                      have lt222 : c31_cnt < c100_cnt := Nat.lt_of_lt_of_le lt165 ccf100
                      have g223 : la100 lr = la67 lr := ag100 lr lt_lr178
                      have lt224 : lr < c100_cnt := Nat.lt_of_lt_of_le lt_lr178 ccf100
                      have g225 : la100 p0 = la67 p0 := ag100 p0 lt167
                      have lt226 : p0 < c100_cnt := Nat.lt_of_lt_of_le lt167 ccf100
                      have g227 : la100 this = la67 this := ag100 this lt168
                      have lt228 : this < c100_cnt := Nat.lt_of_lt_of_le lt168 ccf100
                      have g229 : la100 tx = la67 tx := ag100 tx lt_tx176
                      have lt230 : tx < c100_cnt := Nat.lt_of_lt_of_le lt_tx176 ccf100
                      have hag100 : ∀ z, z < cnt → la100 z = la z := fun z hz => (ag100 z (Nat.lt_of_lt_of_le hz hcc161)).trans (hag67 z hz)
                      have hle100 : cnt ≤ d67_cnt := hcc161
                      have ctf100 : ∀ z, z < cnt → ((la z < la this ∨ la this < la z) ∧ (la z < la p0 ∨ la p0 + 3 < la z) ∧ (la z < la p0 + 5 ∨ la p0 + 5 < la z)) → ((la67 z < la67 this ∨ la67 this < la67 z) ∧ (la67 z < la67 c31_cnt ∨ la67 c31_cnt < la67 z)) := fun z h0 hz => by have q1 := hag67 z h0; have q2 := hB.2 z h0; omega
                      have hF100_G : FRM cnt [24, 25, 80, 81, 84, 85, 86, 87, 88, 102] (fun z => (la z < la this ∨ la this < la z) ∧ (la z < la p0 ∨ la p0 + 3 < la z) ∧ (la z < la p0 + 5 ∨ la p0 + 5 < la z)) G c100_G := FRM_trans (FRM_set (FRM_set (FRM_set (FRM_set (FRM_set hF67_G (by decide) (fun z h1 h2 => hfr188 z ⟨h1, h2⟩)) (by decide) (fun z h1 h2 => hfr189 z ⟨h1, h2⟩)) (by decide) (fun z h1 h2 => hfr190 z ⟨h1, h2⟩)) (by decide) (fun z h1 h2 => hfr191 z ⟨h1, h2⟩)) (by decide) (fun z h1 h2 => hfr192 z ⟨h1, h2⟩)) fG100 hle100 (by decide) (ctf100)
                      have hF100_P : FRM cnt [22, 23] (fun z => (la z < la this ∨ la this < la z) ∧ (la z < la p0 ∨ la p0 + 3 < la z) ∧ (la z < la p0 + 5 ∨ la p0 + 5 < la z)) P c100_P := FRM_trans hF67_P fP100 hle100 (by decide) (ctf100)
                      have hF100_U : FRM cnt [] (fun z => (la z < la this ∨ la this < la z) ∧ (la z < la p0 ∨ la p0 + 3 < la z) ∧ (la z < la p0 + 5 ∨ la p0 + 5 < la z)) U c100_U := FRM_trans hF67_U fU100 hle100 (by decide) (ctf100)
                      have hF100_V : FRM cnt [0] (fun z => (la z < la this ∨ la this < la z) ∧ (la z < la p0 ∨ la p0 + 3 < la z) ∧ (la z < la p0 + 5 ∨ la p0 + 5 < la z)) V c100_V := FRM_trans hF67_V fV100 hle100 (by decide) (ctf100)
                      have hF100_X : FRM cnt [] (fun z => (la z < la this ∨ la this < la z) ∧ (la z < la p0 ∨ la p0 + 3 < la z) ∧ (la z < la p0 + 5 ∨ la p0 + 5 < la z)) X c100_X := FRM_trans hF67_X fX100 hle100 (by decide) (ctf100)
                      have hF100_O : FRM cnt [0] (fun z => (la z < la this ∨ la this < la z) ∧ (la z < la p0 ∨ la p0 + 3 < la z) ∧ (la z < la p0 + 5 ∨ la p0 + 5 < la z)) O c100_O := FRM_trans hF67_O fO100 hle100 (by decide) (ctf100)
                      have hlnn100 : ∀ z, z < cnt → c100_ln z = ln z := fun z hz => (fl100 z (Nat.lt_of_lt_of_le hz hle100)).trans (hlnn67 z hz)
                      clear ag100 fU100 fV100 fX100 hfr192 hfr191 hfr190 hfr189 hfr188
                      have hn231 : (c100_P 82) this = some tx := (fP100 82 this lt168 (fun q => absurd q (by decide))).trans hn175
                      have lt_tx232 := ((hB100.1 82 fl_82) this tx hn231).2.1
                      have hk_tx := (((CInv_P82 hCI100 :) this).2 tx hn231).1
                      have hl1_tx := (((CInv_P82 hCI100 :) this).2 tx hn231).2.1
                      have hl2_tx := (((CInv_P82 hCI100 :) this).2 tx hn231).2.2.1
                      have hw_tx := (((CInv_P82 hCI100 :) this).2 tx hn231).2.2.2
                      clear hw_tx
                      have hn233 : (c100_P 101) p0 = some lr := (fP100 101 p0 lt167 (fun q => absurd q (by decide))).trans hn177
                      have lt_lr234 := ((hB100.1 101 fl_101) p0 lr hn233).2.1
                      have lb_lr234 : la100 lr = la100 p0 + 0 := lk_101.mp ((hB100.1 101 fl_101) p0 lr hn233).2.2
                      have hk_lr := (((CInv_P101 hCI100 :) p0).2 lr hn233).1
                      have hl1_lr := (((CInv_P101 hCI100 :) p0).2 lr hn233).2.1
                      have hl2_lr := (((CInv_P101 hCI100 :) p0).2 lr hn233).2.2.1
                      have hw_lr := (((CInv_P101 hCI100 :) p0).2 lr hn233).2.2.2
                      clear hw_lr
                      have hq100a := f213
                      have hq100b := f216
                      have f235 : (y67_4 + 1).toInt = y67_4.toInt + (1) := z_addc (by decide +kernel) (by omega) (by omega)
                      have iv67_0 : (0 ≤ (y67_4 + 1).toInt ∧ (y67_4 + 1).toInt ≤ 5) := by first | omega | assumption
                      have iv67_1 : ((G 84) this).toInt ≤ ((c100_G 84) this).toInt := by first | omega | assumption
                      have iv67_2 : ((c100_G 84) this).toInt ≤ ((c100_G 83) this).toInt + 1 := by first | omega | assumption
                      have iv67_3 : cnt ≤ c31_cnt := by first | omega | assumption
                      have iv67_4 : la100 c31_cnt = la p0 + 5 := by first | omega | assumption
                      have iv67_5 : ((((c100_G 80) this).toInt = 0 ∧ ((c100_G 81) this).toInt = -1 ∧ (∃ (e1 k : Nat) (l : Lw), Int32.toNatClampNeg ((c100_G 84) this) = e1 ∧ k + Int32.toNatClampNeg (y67_4 + 1) = 5 ∧ fl4 l = Int32.toNatClampNeg (y67_4 + 1) ∧ lawF f n pl e d = sidF f n d k e1 l ∧ lawC (c100_P 20) (c100_P 21) (c100_P 22) (c100_P 23) (c100_G 24) (c100_G 25) (c100_V 0) c100_ln (some c31_cnt) = l)) ∨ (∃ x, lawF f n pl e d = .error x ∧ ERR (some x) ((c100_G 80) this) ((c100_G 81) this))) := by have t2 := (show TKC f n e1 (c81_G85 this).toInt (c81_G86 this).toInt (c81_G87 this).toInt (c81_G88 this).toInt (c81_G84 this).toInt from htk).2.1; rcases p100_0 with ⟨x, x1, x2⟩ | ⟨e2, l2, x1, x2, x3, x4, x5⟩; (refine Or.inr ⟨x, ?_, x2⟩; obtain ⟨k0, rfl⟩ : ∃ k0, k = k0 + 1 := ⟨k - 1, by omega⟩; rw [w4]; exact sid1_err (by omega) x1); (obtain ⟨k0, rfl⟩ : ∃ k0, k = k0 + 1 := ⟨k - 1, by omega⟩; obtain ⟨a1, a2⟩ := sid1_ok (d := d) (k := k0) x1; have c5 := clampI (x := y67_4 + 1) (by omega); exact Or.inl ⟨x2, x3, e2, k0, l2, x4, by omega, by omega, w4.trans a1, x5⟩)
                      have iv67_6 : (∀ z, z < cnt → (c100_V 0) z = (V 0) z ∧ (c100_P 20) z = (P 20) z ∧ (c100_P 21) z = (P 21) z ∧ (c100_P 22) z = (P 22) z ∧ (c100_P 23) z = (P 23) z ∧ (c100_G 24) z = (G 24) z ∧ (c100_G 25) z = (G 25) z) := by exact fun z hz => by obtain ⟨o1, o2, o3, o4, o5, o6, o7⟩ := ol67 z hz; obtain ⟨s1, s2, s3, s4⟩ := p100_2 z (by omega) (by omega); exact ⟨(p100_1 z (by omega)).trans o1, (fP100 20 z (by omega) (fun q => absurd q (by decide))).trans o2, (fP100 21 z (by omega) (fun q => absurd q (by decide))).trans o3, s1.trans o4, s2.trans o5, s3.trans o6, s4.trans o7⟩
                      have iv67_7 : ((c100_G 102) p0 = (G 102) p0) := by exact (fG100 102 p0 (by omega) (fun q => absurd q (by decide))).trans gc67
                      have iv67_8 : ((c100_O 0) lr = (O 0) lr) := by exact (fO100 0 lr (by omega) (fun q => absurd q (by decide))).trans oc67
                      have iv67_9 : (∀ t9, (c100_P 82) this = some t9 → ((c100_G 83) this).toInt ≤ ((c100_ln t9 : Nat) : Int)) := by exact fun t9 ht9 => by obtain rfl : tx = t9 := Option.some.inj (hn231.symm.trans ht9); rw [fl100 tx (by omega), fG100 83 this (by omega) (fun q => absurd q (by decide))]; exact rs67 _ hp67
                      exact ih67 (y67_4 + 1) c100_G c100_P c100_U c100_V c100_X c100_O c100_kd c100_ln c100_cnt κ100_199 la100 (CInv_i (CInv_G43 hCI100 :) (CInv_G44 hCI100 :) (CInv_G45 hCI100 :) (CInv_G60 hCI100 :) (CInv_G83 hCI100 :) (CInv_G84 hCI100 :) (CInv_G85 hCI100 :) (CInv_G87 hCI100 :) (CInv_G88 hCI100 :) (CInv_G102 hCI100 :) (CInv_G125 hCI100 :) (CInv_G126 hCI100 :) (CInv_G127 hCI100 :) (CInv_G141 hCI100 :) (CInv_G160 hCI100 :) (CInv_G161 hCI100 :) (CInv_G162 hCI100 :) (CInv_G165 hCI100 :) (CInv_G166 hCI100 :) (CInv_G183 hCI100 :) (CInv_G200 hCI100 :) (CInv_G203 hCI100 :) (CInv_G222 hCI100 :) (CInv_G231 hCI100 :) (CInv_G233 hCI100 :) (CInv_P0 hCI100 :) (CInv_P1 hCI100 :) (CInv_P2 hCI100 :) (CInv_P3 hCI100 :) (CInv_P4 hCI100 :) (CInv_P5 hCI100 :) (CInv_P20 hCI100 :) (CInv_P21 hCI100 :) (CInv_P22 hCI100 :) (CInv_P23 hCI100 :) (CInv_P40 hCI100 :) (CInv_P41 hCI100 :) (CInv_P42 hCI100 :) (CInv_P61 hCI100 :) (CInv_P62 hCI100 :) (CInv_P63 hCI100 :) (CInv_P64 hCI100 :) (CInv_P65 hCI100 :) (CInv_P66 hCI100 :) (CInv_P82 hCI100 :) (CInv_P101 hCI100 :) (CInv_P103 hCI100 :) (CInv_P104 hCI100 :) (CInv_P105 hCI100 :) (CInv_P106 hCI100 :) (CInv_P108 hCI100 :) (CInv_P109 hCI100 :) (CInv_P110 hCI100 :) (CInv_P120 hCI100 :) (CInv_P121 hCI100 :) (CInv_P122 hCI100 :) (CInv_P123 hCI100 :) (CInv_P140 hCI100 :) (CInv_P164 hCI100 :) (CInv_P180 hCI100 :) (CInv_P181 hCI100 :) (CInv_P182 hCI100 :) (CInv_P185 hCI100 :) (CInv_P186 hCI100 :) (CInv_P187 hCI100 :) (CInv_P201 hCI100 :) (CInv_P202 hCI100 :) (CInv_P220 hCI100 :) (CInv_P221 hCI100 :) (CInv_P224 hCI100 :) (CInv_P225 hCI100 :) (CInv_P226 hCI100 :) (CInv_P227 hCI100 :) (CInv_P228 hCI100 :) (CInv_P229 hCI100 :) (CInv_P230 hCI100 :) (CInv_P232 hCI100 :) (CInv_P234 hCI100 :) (CInv_P235 hCI100 :) (CInv_P236 hCI100 :) (CInv_V1 hCI100 :) (CInv_V2 hCI100 :) (CInv_V3 hCI100 :) (CInv_V9 hCI100 :) (CInv_O0 hCI100 :) (CInv_O1 hCI100 :) (CInv_O2 hCI100 :) (CInv_RA hCI100 :) (CInv_RB hCI100 :) (CInv_RI hCI100 :) (CInv_RM103 hCI100 :) (CInv_RM104 hCI100 :) (CInv_RM108 hCI100 :) (CInv_LN hCI100 :) (CInv_FL hCI100 :) (CInv_W0 hCI100 :) (CInv_KC hCI100 :) (CInv_WK hCI100 :)) kx217 (Nat.le_trans hcc161 ccf100) hk218 hk219 hk220 hF100_G hF100_P hF100_U hF100_V hF100_X hF100_O hlnn100 hag100 hB100 lt222 lt_lr234 lt226 lt228 lt_tx232 iv67_0 iv67_1 iv67_2 iv67_3 iv67_4 iv67_5 iv67_6 iv67_7 iv67_8 iv67_9
                  · have c77 := z_ne c77
                    refine pw_j9 ek109 (fun z109_0 ez109_0 z109_1 ez109_1 z109_2 ez109_2 z109_3 ez109_3 z109_4 ez109_4 z109_5 ez109_5 z109_6 ez109_6 z109_7 ez109_7 z109_8 ez109_8 => ?_)
                    subst ez109_0 ez109_1 ez109_2 ez109_3 ez109_4 ez109_5 ez109_6 ez109_7 ez109_8
                    have qq0 : OUTC (lawF f n pl e d) ((d67_G 80) this) ((d67_G 81) this) ((d67_G 84) this) (fun d1 => (entV ((d67_G 203) er) ((d67_V 0) le) ((d67_V 1) se) ((d67_V 0) lb) ((d67_V 1) sb) ((d67_V 10) kp), rwW ((d67_G 203) pr) ((d67_V 0) lp) ((d67_V 1) sp) 16, lwsV ((d67_G 102) p0) ((d67_O 0) lr) (d67_P 20) (d67_P 21) (d67_P 22) (d67_P 23) (d67_G 24) (d67_G 25) (d67_V 0) d67_ln) = d1 ∧ ((d67_G 203) br).toInt = ((d67_G 203) er).toInt ∧ ((d67_G 107) p0).toInt = ((kct d1.1 : Nat) : Int)) := by have hq : ∃ x, lawF f n pl e d = .error x ∧ ERR (some x) ((d67_G 80) this) ((d67_G 81) this) := (by rcases lw67 with ⟨z1, z2, e1, k, l, w1, w2, w3, w4, w5⟩ | h; (exfalso; have h9 := fl4_le l; omega); (exact h)); obtain ⟨x, y1, y2⟩ := hq; exact outc_bad y2 (fun q hq => by cases hq; exact y1)
                    have qq1 : (d67_V 0) tx = f := by exact hv67
                    have qq2 : LWL ((d67_G 102) p0) ((d67_O 0) lr) la67 d67_cnt (la p0 + 5) := by exact LWL_fr hlw gc67 (fun i hi => congrFun oc67 i) (by omega) hag67
                    exact pw_some ⟨la67, hag67, hB67, qq0, qq1, qq2⟩
            exact lp67 NN (0 : Int32) c60_G c60_P c60_U c60_V c60_X c60_O c60_kd c60_ln c60_cnt κ60_132 la60 (CInv_i (CInv_G43 hCI60 :) (CInv_G44 hCI60 :) (CInv_G45 hCI60 :) (CInv_G60 hCI60 :) (CInv_G83 hCI60 :) (CInv_G84 hCI60 :) (CInv_G85 hCI60 :) (CInv_G87 hCI60 :) (CInv_G88 hCI60 :) (CInv_G102 hCI60 :) (CInv_G125 hCI60 :) (CInv_G126 hCI60 :) (CInv_G127 hCI60 :) (CInv_G141 hCI60 :) (CInv_G160 hCI60 :) (CInv_G161 hCI60 :) (CInv_G162 hCI60 :) (CInv_G165 hCI60 :) (CInv_G166 hCI60 :) (CInv_G183 hCI60 :) (CInv_G200 hCI60 :) (CInv_G203 hCI60 :) (CInv_G222 hCI60 :) (CInv_G231 hCI60 :) (CInv_G233 hCI60 :) (CInv_P0 hCI60 :) (CInv_P1 hCI60 :) (CInv_P2 hCI60 :) (CInv_P3 hCI60 :) (CInv_P4 hCI60 :) (CInv_P5 hCI60 :) (CInv_P20 hCI60 :) (CInv_P21 hCI60 :) (CInv_P22 hCI60 :) (CInv_P23 hCI60 :) (CInv_P40 hCI60 :) (CInv_P41 hCI60 :) (CInv_P42 hCI60 :) (CInv_P61 hCI60 :) (CInv_P62 hCI60 :) (CInv_P63 hCI60 :) (CInv_P64 hCI60 :) (CInv_P65 hCI60 :) (CInv_P66 hCI60 :) (CInv_P82 hCI60 :) (CInv_P101 hCI60 :) (CInv_P103 hCI60 :) (CInv_P104 hCI60 :) (CInv_P105 hCI60 :) (CInv_P106 hCI60 :) (CInv_P108 hCI60 :) (CInv_P109 hCI60 :) (CInv_P110 hCI60 :) (CInv_P120 hCI60 :) (CInv_P121 hCI60 :) (CInv_P122 hCI60 :) (CInv_P123 hCI60 :) (CInv_P140 hCI60 :) (CInv_P164 hCI60 :) (CInv_P180 hCI60 :) (CInv_P181 hCI60 :) (CInv_P182 hCI60 :) (CInv_P185 hCI60 :) (CInv_P186 hCI60 :) (CInv_P187 hCI60 :) (CInv_P201 hCI60 :) (CInv_P202 hCI60 :) (CInv_P220 hCI60 :) (CInv_P221 hCI60 :) (CInv_P224 hCI60 :) (CInv_P225 hCI60 :) (CInv_P226 hCI60 :) (CInv_P227 hCI60 :) (CInv_P228 hCI60 :) (CInv_P229 hCI60 :) (CInv_P230 hCI60 :) (CInv_P232 hCI60 :) (CInv_P234 hCI60 :) (CInv_P235 hCI60 :) (CInv_P236 hCI60 :) (CInv_V1 hCI60 :) (CInv_V2 hCI60 :) (CInv_V3 hCI60 :) (CInv_V9 hCI60 :) (CInv_O0 hCI60 :) (CInv_O1 hCI60 :) (CInv_O2 hCI60 :) (CInv_RA hCI60 :) (CInv_RB hCI60 :) (CInv_RI hCI60 :) (CInv_RM103 hCI60 :) (CInv_RM104 hCI60 :) (CInv_RM108 hCI60 :) (CInv_LN hCI60 :) (CInv_FL hCI60 :) (CInv_W0 hCI60 :) (CInv_KC hCI60 :) (CInv_WK hCI60 :)) kx138 (Nat.le_trans (Nat.le_trans (Nat.le_trans (Nat.le_trans (Nat.le_refl _) ccf31) ccf51) ccf57) ccf60) hk139 hk140 hk135 hF60_G hF60_P hF60_U hF60_V hF60_X hF60_O hlnn60 hag60 hB60 lt154 lt_lr160 lt146 lt144 lt_tx158 (show (0 ≤ (0 : Int32).toInt ∧ (0 : Int32).toInt ≤ 5) from by first | omega | assumption) (show ((G 84) this).toInt ≤ ((c60_G 84) this).toInt from by first | omega | assumption) (show ((c60_G 84) this).toInt ≤ ((c60_G 83) this).toInt + 1 from by first | omega | assumption) (show cnt ≤ c31_cnt from by first | omega | assumption) (show la60 c31_cnt = la p0 + 5 from by first | omega | assumption) (show ((((c60_G 80) this).toInt = 0 ∧ ((c60_G 81) this).toInt = -1 ∧ (∃ (e1 k : Nat) (l : Lw), Int32.toNatClampNeg ((c60_G 84) this) = e1 ∧ k + Int32.toNatClampNeg (0 : Int32) = 5 ∧ fl4 l = Int32.toNatClampNeg (0 : Int32) ∧ lawF f n pl e d = sidF f n d k e1 l ∧ lawC (c60_P 20) (c60_P 21) (c60_P 22) (c60_P 23) (c60_G 24) (c60_G 25) (c60_V 0) c60_ln (some c31_cnt) = l)) ∨ (∃ x, lawF f n pl e d = .error x ∧ ERR (some x) ((c60_G 80) this) ((c60_G 81) this))) from by exact Or.inl ⟨by omega, by omega, _, 5, _, rfl, by decide, rfl, by rw [lawF_s (by omega) g1 u1 k1, ht60_84, ht57_84, ht51_84, k7], hlaw0⟩) (show (∀ z, z < cnt → (c60_V 0) z = (V 0) z ∧ (c60_P 20) z = (P 20) z ∧ (c60_P 21) z = (P 21) z ∧ (c60_P 22) z = (P 22) z ∧ (c60_P 23) z = (P 23) z ∧ (c60_G 24) z = (G 24) z ∧ (c60_G 25) z = (G 25) z) from by exact hold60) (show ((c60_G 102) p0 = (G 102) p0) from by exact hg60) (show ((c60_O 0) lr = (O 0) lr) from by exact ho60) (show (∀ t9, (c60_P 82) this = some t9 → ((c60_G 83) this).toInt ≤ ((c60_ln t9 : Nat) : Int)) from by exact hR60)
