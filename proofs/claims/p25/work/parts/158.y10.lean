abbrev QF_X9_apply (κ : Nat → Nat) (wd : Nat) (la : Nat → Nat) (G : Nat → Nat → Int32) (P : Nat → Nat → Option Nat) (U : Nat → Nat → Int64) (V : Nat → Nat → Nat → Int32) (X : Nat → Nat → Nat → Int64) (O : Nat → Nat → Nat → Option Nat) (kd : Nat → Nat) (ln : Nat → Nat) (cnt : Nat) (this : Nat) (p0 : Nat) (nw : Nat) (nx : Nat) (W : Wd) (f0 : Nat) (s0 : Nat) (a0 : Nat) (b0 : Nat) (L : Lw) : (Int32 × (Nat → Int32) × (Nat → Option Nat) × (Nat → Option Nat) × (Nat → Nat → Int32)) → Prop := (fun t => (((t.1).toInt ≠ 0 → (lawT L W).2 = true) ∧ ((t.1).toInt = 0 → (lawT L W).2 = false)) ∧ ((∃ nwa nxa, (t.2.2.1) this = some nwa ∧ (t.2.2.2.1) this = some nxa ∧ nwa ≠ nxa ∧ ((nwa = nw ∧ nxa = nx) ∨ (nwa = nx ∧ nxa = nw)) ∧ ((lawT L W).1.length ≤ 24 → wdl ((t.2.2.2.2) nwa) 0 (Int32.toNatClampNeg ((t.2.1) this)) = (lawT L W).1) ∧ (24 < (lawT L W).1.length → 24 < ((t.2.1) this).toInt))) ∧ ((∀ z, z ≠ nw → z ≠ nx → (t.2.2.2.2) z = (V 0) z)))
set_option maxHeartbeats 4000000 in
set_option maxRecDepth 100000 in
theorem fn_X9_apply (κ : Nat → Nat) (wd : Nat) (la : Nat → Nat) (G : Nat → Nat → Int32) (P : Nat → Nat → Option Nat) (U : Nat → Nat → Int64) (V : Nat → Nat → Nat → Int32) (X : Nat → Nat → Nat → Int64) (O : Nat → Nat → Nat → Option Nat) (kd : Nat → Nat) (ln : Nat → Nat) (cnt : Nat) (this : Nat) (p0 : Nat) (nw : Nat) (nx : Nat) (W : Wd) (f0 : Nat) (s0 : Nat) (a0 : Nat) (b0 : Nat) (L : Lw) (hzG183 : rng (0) 40 (G 183)) (hzP20 : PB κ ln wd 2 100 0 16 0 (P 20)) (hzP21 : PB κ ln wd 2 100 0 16 0 (P 21)) (hzP22 : PB κ ln wd 2 100 0 16 0 (P 22)) (hzP23 : PB κ ln wd 2 100 0 16 0 (P 23)) (hzP181 : PB κ ln wd 10 100 40 40 0 (P 181)) (hzP182 : PB κ ln wd 10 100 40 40 0 (P 182)) (hzLN : LN κ ln) (hk_this : κ this = 10) (hk_p0 : κ p0 = 2) (hB : LB la cnt P) (hlt_this : this < cnt) (hlt_p0 : p0 < cnt) (h181 : (P 181) this = some nw) (h182 : (P 182) this = some nx) (hne : nw ≠ nx) (hW : wdl ((V 0) nw) 0 (Int32.toNatClampNeg ((G 183) this)) = W) (hW24 : ((G 183) this).toInt ≤ 24) (hla : 100000 ≤ la p0) (hlt9 : la this = 90) (hl1 : 1 ≤ L.1.length) (hbw : BW W) (h20 : (P 20) p0 = some f0) (h21 : (P 21) p0 = some s0) (h22 : (P 22) p0 = some a0) (h23 : (P 23) p0 = some b0) (hL : (wdl ((V 0) f0) 0 (ln f0), wdl ((V 0) s0) 0 (ln s0), wdl ((V 0) a0) 0 (ln a0), wdl ((V 0) b0) 0 (ln b0), (G 24) p0, (G 25) p0) = L) : pw (f_X9_apply G P U V X O kd ln cnt this p0) (QF_X9_apply κ wd la G P U V X O kd ln cnt this p0 nw nx W f0 s0 a0 b0 L) := by
  unfold f_X9_apply
  have zk0 : (0 : Int32).toInt = 0 := by decide +kernel
  have zk1 : (1 : Int32).toInt = 1 := by decide +kernel
  have zk24 : (24 : Int32).toInt = 24 := by decide +kernel
  have hn1 : (P 181) this = some nw := h181
  have lt_nw2 := ((hB.1 181 fl_181) this nw hn1).2.1
  have lb_nw2 : (la nw = la this + 1 ∨ la nw = la this + 2) := lk_181.mp ((hB.1 181 fl_181) this nw hn1).2.2
  have hk_nw := ((hzP181 this).2 nw hn1).1
  have hl1_nw := ((hzP181 this).2 nw hn1).2.1
  have hl2_nw := ((hzP181 this).2 nw hn1).2.2.1
  have hw_nw := ((hzP181 this).2 nw hn1).2.2.2
  have hz_nw : (Int32.ofNat (ln nw)).toInt = ((ln nw : Nat) : Int) := ofN_eq (by first | exact Nat.le_trans hl2_nw (by decide) | omega)
  have hn3 : (P 182) this = some nx := h182
  have lt_nx4 := ((hB.1 182 fl_182) this nx hn3).2.1
  have lb_nx4 : (la nx = la this + 1 ∨ la nx = la this + 2) := lk_182.mp ((hB.1 182 fl_182) this nx hn3).2.2
  have hk_nx := ((hzP182 this).2 nx hn3).1
  have hl1_nx := ((hzP182 this).2 nx hn3).2.1
  have hl2_nx := ((hzP182 this).2 nx hn3).2.2.1
  have hw_nx := ((hzP182 this).2 nx hn3).2.2.2
  have hz_nx : (Int32.ofNat (ln nx)).toInt = ((ln nx : Nat) : Int) := ofN_eq (by first | exact Nat.le_trans hl2_nx (by decide) | omega)
  have hn5 : (P 20) p0 = some f0 := h20
  have lt_f06 := ((hB.1 20 fl_20) p0 f0 hn5).2.1
  have lb_f06 : la f0 = la p0 + 0 := lk_20.mp ((hB.1 20 fl_20) p0 f0 hn5).2.2
  have hk_f0 := ((hzP20 p0).2 f0 hn5).1
  have hl1_f0 := ((hzP20 p0).2 f0 hn5).2.1
  have hl2_f0 := ((hzP20 p0).2 f0 hn5).2.2.1
  have hw_f0 := ((hzP20 p0).2 f0 hn5).2.2.2
  have hz_f0 : (Int32.ofNat (ln f0)).toInt = ((ln f0 : Nat) : Int) := ofN_eq (by first | exact Nat.le_trans hl2_f0 (by decide) | omega)
  have hn7 : (P 21) p0 = some s0 := h21
  have lt_s08 := ((hB.1 21 fl_21) p0 s0 hn7).2.1
  have lb_s08 : la s0 = la p0 + 0 := lk_21.mp ((hB.1 21 fl_21) p0 s0 hn7).2.2
  have hk_s0 := ((hzP21 p0).2 s0 hn7).1
  have hl1_s0 := ((hzP21 p0).2 s0 hn7).2.1
  have hl2_s0 := ((hzP21 p0).2 s0 hn7).2.2.1
  have hw_s0 := ((hzP21 p0).2 s0 hn7).2.2.2
  have hz_s0 : (Int32.ofNat (ln s0)).toInt = ((ln s0 : Nat) : Int) := ofN_eq (by first | exact Nat.le_trans hl2_s0 (by decide) | omega)
  have hn9 : (P 22) p0 = some a0 := h22
  have lt_a010 := ((hB.1 22 fl_22) p0 a0 hn9).2.1
  have lb_a010 : la a0 = la p0 + 0 := lk_22.mp ((hB.1 22 fl_22) p0 a0 hn9).2.2
  have hk_a0 := ((hzP22 p0).2 a0 hn9).1
  have hl1_a0 := ((hzP22 p0).2 a0 hn9).2.1
  have hl2_a0 := ((hzP22 p0).2 a0 hn9).2.2.1
  have hw_a0 := ((hzP22 p0).2 a0 hn9).2.2.2
  have hz_a0 : (Int32.ofNat (ln a0)).toInt = ((ln a0 : Nat) : Int) := ofN_eq (by first | exact Nat.le_trans hl2_a0 (by decide) | omega)
  have hn11 : (P 23) p0 = some b0 := h23
  have lt_b012 := ((hB.1 23 fl_23) p0 b0 hn11).2.1
  have lb_b012 : la b0 = la p0 + 0 := lk_23.mp ((hB.1 23 fl_23) p0 b0 hn11).2.2
  have hk_b0 := ((hzP23 p0).2 b0 hn11).1
  have hl1_b0 := ((hzP23 p0).2 b0 hn11).2.1
  have hl2_b0 := ((hzP23 p0).2 b0 hn11).2.2.1
  have hw_b0 := ((hzP23 p0).2 b0 hn11).2.2.2
  have hz_b0 : (Int32.ofNat (ln b0)).toInt = ((ln b0 : Nat) : Int) := ofN_eq (by first | exact Nat.le_trans hl2_b0 (by decide) | omega)
  have hwl : W.length = Int32.toNatClampNeg ((G 183) this) := by rw [← hW, wdl_len]
  have hb183 := hzG183 this
  have cW := clampI (x := (G 183) this) (by omega)
  have e2 : L.2.1 = wdl ((V 0) s0) 0 (ln s0) := by rw [← hL]
  have n2 : L.2.1.length = ln s0 := by rw [e2, wdl_len]
  have e1 : L.1 = wdl ((V 0) f0) 0 (ln f0) := by rw [← hL]
  have n1 : L.1.length = ln f0 := by rw [e1, wdl_len]
  obtain ⟨_, lf0⟩ := law_fld hB (Or.inl rfl) h20
  obtain ⟨_, ls0⟩ := law_fld hB (Or.inr (Or.inl rfl)) h21
  obtain ⟨_, la0_⟩ := law_fld hB (Or.inr (Or.inr (Or.inl rfl))) h22
  obtain ⟨_, lb0⟩ := law_fld hB (Or.inr (Or.inr (Or.inr rfl))) h23
  have dn_ : ∀ z, la z = la p0 → z ≠ nx := fun z hz q => by rw [q] at hz; omega
  refine pw_jE (fun k113 ek113 => ?_)
  have lp7 : ∀ (n7 : Nat) (y7_2 : Int32) (y7_3 : Int32) (y7_4 : Int32) (d7_V0 : Nat → Nat → Int32), (∀ z, ((la z < la this ∨ la this + 8 < la z)) → d7_V0 z = (V 0) z) → (0 ≤ y7_2.toInt ∧ y7_2.toInt ≤ 1) → (0 ≤ y7_3.toInt ∧ y7_3.toInt ≤ 40) → (0 ≤ y7_4.toInt ∧ y7_4.toInt ≤ 40) → (y7_2.toInt ≠ 0 ∨ y7_3.toInt = y7_4.toInt) → (∀ z, z ≠ nx → d7_V0 z = (V 0) z) → (TH L W (Int32.toNatClampNeg y7_4) (wdl (d7_V0 nx) 0 (Int32.toNatClampNeg y7_3)) (decide (y7_2.toInt ≠ 0))) → pw (L_X9_apply_7 G P U V X O kd ln cnt this p0 k113 n7 y7_2 y7_3 y7_4 d7_V0) (QF_X9_apply κ wd la G P U V X O kd ln cnt this p0 nw nx W f0 s0 a0 b0 L) := by
    intro n7
    induction n7 with
    | zero => intros; exact pw_none
    | succ n7 ih7 =>
      intro y7_2 y7_3 y7_4 d7_V0 hfr13 f14 f15 f16 f17 iv7 it7
      show pw (B_X9_apply_7 G P U V X O kd ln cnt this p0 k113 (L_X9_apply_7 G P U V X O kd ln cnt this p0 k113 n7) y7_2 y7_3 y7_4 d7_V0) _
      unfold B_X9_apply_7
      have ky4 := clampI (x := y7_4) (by omega)
      have ky3 := clampI (x := y7_3) (by omega)
      have hWd : wdl (d7_V0 nw) 0 (Int32.toNatClampNeg ((G 183) this)) = W := by rw [iv7 nw hne]; exact hW
      have b18 := hzG183 this
      refine pw_ite (fun c13 => ?_) (fun c13 => ?_)
      · have c13 := (z_le _ _).mp c13
        refine pw_j3 ek113 (fun x113_2 ex113_2 x113_3 ex113_3 z113_2 ez113_2 => ?_)
        subst ez113_2
        have ex113_2 := ex113_2.symm
        have f_x113_2 : x113_2.toInt = y7_2.toInt := by rw [ex113_2]
        have ex113_3 := ex113_3.symm
        have f_x113_3 : x113_3.toInt = y7_3.toInt := by rw [ex113_3]
        refine pw_jE (fun j142 ej142 => ?_)
        refine pw_ite (fun c114 => ?_) (fun c114 => ?_)
        · have c114 := congrArg Int32.toInt c114
          refine pw_j3 ej142 (fun z142_0 ez142_0 z142_1 ez142_1 z142_2 ez142_2 => ?_)
          subst ez142_0 ez142_1 ez142_2
          refine pw_if (fun hb143 => ?_)
          obtain ⟨hbl143, hbr143⟩ := hb143
          have qq0 : id ((x113_2.toInt ≠ 0 → (lawT L W).2 = true) ∧ (x113_2.toInt = 0 → (lawT L W).2 = false)) := show (x113_2.toInt ≠ 0 → (lawT L W).2 = true) ∧ (x113_2.toInt = 0 → (lawT L W).2 = false) from by have hT := TH_end it7 (by omega); rw [hT]; exact ⟨fun h => decide_eq_true (by omega), fun h => decide_eq_false (fun q => q (by omega))⟩
          have qq1 : id ((∃ nwa nxa, (P 181) this = some nwa ∧ (P 182) this = some nxa ∧ nwa ≠ nxa ∧ ((nwa = nw ∧ nxa = nx) ∨ (nwa = nx ∧ nxa = nw)) ∧ ((lawT L W).1.length ≤ 24 → wdl (d7_V0 nwa) 0 (Int32.toNatClampNeg ((G 183) this)) = (lawT L W).1) ∧ (24 < (lawT L W).1.length → 24 < ((G 183) this).toInt))) := show (∃ nwa nxa, (P 181) this = some nwa ∧ (P 182) this = some nxa ∧ nwa ≠ nxa ∧ ((nwa = nw ∧ nxa = nx) ∨ (nwa = nx ∧ nxa = nw)) ∧ ((lawT L W).1.length ≤ 24 → wdl (d7_V0 nwa) 0 (Int32.toNatClampNeg ((G 183) this)) = (lawT L W).1) ∧ (24 < (lawT L W).1.length → 24 < ((G 183) this).toInt)) from by have hT := TH_end it7 (by omega); have h2 : (lawT L W).2 = false := (by rw [hT]; exact decide_eq_false (fun q => q (by omega))); rw [lawT_same h2]; exact ⟨nw, nx, h181, h182, hne, Or.inl ⟨rfl, rfl⟩, fun _ => hWd, fun h => absurd h (by omega)⟩
          have qq2 : id ((∀ z, z ≠ nw → z ≠ nx → d7_V0 z = (V 0) z)) := show (∀ z, z ≠ nw → z ≠ nx → d7_V0 z = (V 0) z) from by intro z h1 h2; exact iv7 z h2
          exact pw_some ⟨qq0, qq1, qq2⟩
        · have c114 := z_ne c114
          refine pw_nne hn1 ?_
          refine pw_nne hn3 ?_
          refine pw_vl (fun m128 em128 => ?_)
          have hfr19 : ∀ z, ((la z < la this ∨ la this + 8 < la z)) → m128 z = (P 181) z := fr_up (e0 := (P 181)) (fun _ _ => rfl) em128 (show ¬ ((la this < la this ∨ la this + 8 < la this)) from by omega)
          have hl20 : LC 181 la cnt m128 := LC_up (hB.1 181 fl_181) em128 (by omega) (by omega) (lk_181.mpr (by omega))
          have hp21 : PB κ ln wd 10 100 40 40 0 m128 := by rw [em128]; exact PB_up hzP181 hk_nx (by omega) (by omega) (fun h9 => absurd h9 (by decide))
          have sm128 : m128 this = some nx := by rw [em128]; exact va_up_self _ _ _
          refine pw_vl (fun m134 em134 => ?_)
          have hfr22 : ∀ z, ((la z < la this ∨ la this + 8 < la z)) → m134 z = (P 182) z := fr_up (e0 := (P 182)) (fun _ _ => rfl) em134 (show ¬ ((la this < la this ∨ la this + 8 < la this)) from by omega)
          have hl23 : LC 182 la cnt m134 := LC_up (hB.1 182 fl_182) em134 (by omega) (by omega) (lk_182.mpr (by omega))
          have hp24 : PB κ ln wd 10 100 40 40 0 m134 := by rw [em134]; exact PB_up hzP182 hk_nw (by omega) (by omega) (fun h9 => absurd h9 (by decide))
          have sm134 : m134 this = some nw := by rw [em134]; exact va_up_self _ _ _
          refine pw_vl (fun m139 em139 => ?_)
          have hfr25 : ∀ z, ((la z < la this ∨ la this + 8 < la z)) → m139 z = (G 183) z := fr_up (e0 := (G 183)) (fun _ _ => rfl) em139 (show ¬ ((la this < la this ∨ la this + 8 < la this)) from by omega)
          have hg26 : rng (0) 40 m139 := by rw [em139]; exact rng_vup hzG183 (by omega) (by omega)
          have sm139 : (m139 this).toInt = x113_3.toInt := by rw [em139, va_up_self]
          have b27 := hg26 this
          refine pw_j3 ej142 (fun z142_0 ez142_0 z142_1 ez142_1 z142_2 ez142_2 => ?_)
          subst ez142_0 ez142_1 ez142_2
          refine pw_if (fun hb143 => ?_)
          obtain ⟨hbl143, hbr143⟩ := hb143
          have qq0 : id ((x113_2.toInt ≠ 0 → (lawT L W).2 = true) ∧ (x113_2.toInt = 0 → (lawT L W).2 = false)) := show (x113_2.toInt ≠ 0 → (lawT L W).2 = true) ∧ (x113_2.toInt = 0 → (lawT L W).2 = false) from by have hT := TH_end it7 (by omega); rw [hT]; exact ⟨fun h => decide_eq_true (by omega), fun h => decide_eq_false (fun q => q (by omega))⟩
          have qq1 : id ((∃ nwa nxa, m128 this = some nwa ∧ m134 this = some nxa ∧ nwa ≠ nxa ∧ ((nwa = nw ∧ nxa = nx) ∨ (nwa = nx ∧ nxa = nw)) ∧ ((lawT L W).1.length ≤ 24 → wdl (d7_V0 nwa) 0 (Int32.toNatClampNeg (m139 this)) = (lawT L W).1) ∧ (24 < (lawT L W).1.length → 24 < (m139 this).toInt))) := show (∃ nwa nxa, m128 this = some nwa ∧ m134 this = some nxa ∧ nwa ≠ nxa ∧ ((nwa = nw ∧ nxa = nx) ∨ (nwa = nx ∧ nxa = nw)) ∧ ((lawT L W).1.length ≤ 24 → wdl (d7_V0 nwa) 0 (Int32.toNatClampNeg (m139 this)) = (lawT L W).1) ∧ (24 < (lawT L W).1.length → 24 < (m139 this).toInt)) from by have hT := TH_end it7 (by omega); rw [hT]; exact ⟨nx, nw, sm128, sm134, fun q => hne q.symm, Or.inr ⟨rfl, rfl⟩, fun _ => by rw [em139, va_up_self, ex113_3], fun h => by rw [wdl_len] at h; rw [em139, va_up_self]; omega⟩
          have qq2 : id ((∀ z, z ≠ nw → z ≠ nx → d7_V0 z = (V 0) z)) := show (∀ z, z ≠ nw → z ≠ nx → d7_V0 z = (V 0) z) from by intro z h1 h2; exact iv7 z h2
          exact pw_some ⟨qq0, qq1, qq2⟩
      · have c13 := z_nle c13
        refine pw_ite (fun c19 => ?_) (fun c19 => ?_)
        · have c19 := (z_lt _ _).mp c19
          refine pw_j3 ek113 (fun x113_2 ex113_2 x113_3 ex113_3 z113_2 ez113_2 => ?_)
          subst ez113_2
          have ex113_2 := ex113_2.symm
          have f_x113_2 : x113_2.toInt = y7_2.toInt := by rw [ex113_2]
          have ex113_3 := ex113_3.symm
          have f_x113_3 : x113_3.toInt = y7_3.toInt := by rw [ex113_3]
          refine pw_jE (fun j142 ej142 => ?_)
          refine pw_ite (fun c114 => ?_) (fun c114 => ?_)
          · have c114 := congrArg Int32.toInt c114
            refine pw_j3 ej142 (fun z142_0 ez142_0 z142_1 ez142_1 z142_2 ez142_2 => ?_)
            subst ez142_0 ez142_1 ez142_2
            refine pw_if (fun hb143 => ?_)
            obtain ⟨hbl143, hbr143⟩ := hb143
            have qq0 : id ((x113_2.toInt ≠ 0 → (lawT L W).2 = true) ∧ (x113_2.toInt = 0 → (lawT L W).2 = false)) := show (x113_2.toInt ≠ 0 → (lawT L W).2 = true) ∧ (x113_2.toInt = 0 → (lawT L W).2 = false) from by exfalso; omega
            have qq1 : id ((∃ nwa nxa, (P 181) this = some nwa ∧ (P 182) this = some nxa ∧ nwa ≠ nxa ∧ ((nwa = nw ∧ nxa = nx) ∨ (nwa = nx ∧ nxa = nw)) ∧ ((lawT L W).1.length ≤ 24 → wdl (d7_V0 nwa) 0 (Int32.toNatClampNeg ((G 183) this)) = (lawT L W).1) ∧ (24 < (lawT L W).1.length → 24 < ((G 183) this).toInt))) := show (∃ nwa nxa, (P 181) this = some nwa ∧ (P 182) this = some nxa ∧ nwa ≠ nxa ∧ ((nwa = nw ∧ nxa = nx) ∨ (nwa = nx ∧ nxa = nw)) ∧ ((lawT L W).1.length ≤ 24 → wdl (d7_V0 nwa) 0 (Int32.toNatClampNeg ((G 183) this)) = (lawT L W).1) ∧ (24 < (lawT L W).1.length → 24 < ((G 183) this).toInt)) from by exfalso; omega
            have qq2 : id ((∀ z, z ≠ nw → z ≠ nx → d7_V0 z = (V 0) z)) := show (∀ z, z ≠ nw → z ≠ nx → d7_V0 z = (V 0) z) from by intro z h1 h2; exact iv7 z h2
            exact pw_some ⟨qq0, qq1, qq2⟩
          · have c114 := z_ne c114
            refine pw_nne hn1 ?_
            refine pw_nne hn3 ?_
            refine pw_vl (fun m128 em128 => ?_)
            have hfr28 : ∀ z, ((la z < la this ∨ la this + 8 < la z)) → m128 z = (P 181) z := fr_up (e0 := (P 181)) (fun _ _ => rfl) em128 (show ¬ ((la this < la this ∨ la this + 8 < la this)) from by omega)
            have hl29 : LC 181 la cnt m128 := LC_up (hB.1 181 fl_181) em128 (by omega) (by omega) (lk_181.mpr (by omega))
            have hp30 : PB κ ln wd 10 100 40 40 0 m128 := by rw [em128]; exact PB_up hzP181 hk_nx (by omega) (by omega) (fun h9 => absurd h9 (by decide))
            have sm128 : m128 this = some nx := by rw [em128]; exact va_up_self _ _ _
            refine pw_vl (fun m134 em134 => ?_)
            have hfr31 : ∀ z, ((la z < la this ∨ la this + 8 < la z)) → m134 z = (P 182) z := fr_up (e0 := (P 182)) (fun _ _ => rfl) em134 (show ¬ ((la this < la this ∨ la this + 8 < la this)) from by omega)
            have hl32 : LC 182 la cnt m134 := LC_up (hB.1 182 fl_182) em134 (by omega) (by omega) (lk_182.mpr (by omega))
            have hp33 : PB κ ln wd 10 100 40 40 0 m134 := by rw [em134]; exact PB_up hzP182 hk_nw (by omega) (by omega) (fun h9 => absurd h9 (by decide))
            have sm134 : m134 this = some nw := by rw [em134]; exact va_up_self _ _ _
            refine pw_vl (fun m139 em139 => ?_)
            have hfr34 : ∀ z, ((la z < la this ∨ la this + 8 < la z)) → m139 z = (G 183) z := fr_up (e0 := (G 183)) (fun _ _ => rfl) em139 (show ¬ ((la this < la this ∨ la this + 8 < la this)) from by omega)
            have hg35 : rng (0) 40 m139 := by rw [em139]; exact rng_vup hzG183 (by omega) (by omega)
            have sm139 : (m139 this).toInt = x113_3.toInt := by rw [em139, va_up_self]
            have b36 := hg35 this
            refine pw_j3 ej142 (fun z142_0 ez142_0 z142_1 ez142_1 z142_2 ez142_2 => ?_)
            subst ez142_0 ez142_1 ez142_2
            refine pw_if (fun hb143 => ?_)
            obtain ⟨hbl143, hbr143⟩ := hb143
            have qq0 : id ((x113_2.toInt ≠ 0 → (lawT L W).2 = true) ∧ (x113_2.toInt = 0 → (lawT L W).2 = false)) := show (x113_2.toInt ≠ 0 → (lawT L W).2 = true) ∧ (x113_2.toInt = 0 → (lawT L W).2 = false) from by have hT := it7; rw [show decide (y7_2.toInt ≠ 0) = true from decide_eq_true (by omega)] at hT; exact ⟨fun _ => TH_tr hT, fun h => absurd h (by omega)⟩
            have qq1 : id ((∃ nwa nxa, m128 this = some nwa ∧ m134 this = some nxa ∧ nwa ≠ nxa ∧ ((nwa = nw ∧ nxa = nx) ∨ (nwa = nx ∧ nxa = nw)) ∧ ((lawT L W).1.length ≤ 24 → wdl (d7_V0 nwa) 0 (Int32.toNatClampNeg (m139 this)) = (lawT L W).1) ∧ (24 < (lawT L W).1.length → 24 < (m139 this).toInt))) := show (∃ nwa nxa, m128 this = some nwa ∧ m134 this = some nxa ∧ nwa ≠ nxa ∧ ((nwa = nw ∧ nxa = nx) ∨ (nwa = nx ∧ nxa = nw)) ∧ ((lawT L W).1.length ≤ 24 → wdl (d7_V0 nwa) 0 (Int32.toNatClampNeg (m139 this)) = (lawT L W).1) ∧ (24 < (lawT L W).1.length → 24 < (m139 this).toInt)) from by have hlT := TH_len it7; rw [wdl_len] at hlT; exact ⟨nx, nw, sm128, sm134, fun q => hne q.symm, Or.inr ⟨rfl, rfl⟩, fun h => absurd h (by omega), fun _ => by rw [em139, va_up_self]; omega⟩
            have qq2 : id ((∀ z, z ≠ nw → z ≠ nx → d7_V0 z = (V 0) z)) := show (∀ z, z ≠ nw → z ≠ nx → d7_V0 z = (V 0) z) from by intro z h1 h2; exact iv7 z h2
            exact pw_some ⟨qq0, qq1, qq2⟩
        · have c19 := z_nlt c19
          refine pw_nne hn1 ?_
          refine pw_nne hn3 ?_
          have hpr38_0 : (0 ≤ y7_4.toInt ∧ y7_4.toInt ≤ 40) := by first | assumption | omega
          have hpr38_1 : (0 ≤ ((G 183) this).toInt ∧ ((G 183) this).toInt ≤ 40) := by first | assumption | omega
          have hpr38_2 : (0 ≤ y7_3.toInt ∧ y7_3.toInt ≤ 40) := by first | assumption | omega
          refine pw_b1 (fun r38 hc38 => ?_)
          have hq38 := wp_at (ok_X1_standsAt κ wd G P U (va_up V 0 d7_V0) X O kd ln cnt p0 nw y7_4 ((G 183) this) nx y7_3 hzP20 hzP22 hzP23 hzLN hk_p0 hk_nw hk_nx hpr38_0 hpr38_1 hpr38_2) hc38
          obtain ⟨f38, f39⟩ : ((0 ≤ r38.toInt ∧ r38.toInt ≤ 1)) ∧ (id ((r38.toInt = 1 → ∀ f, (P 20) p0 = some f → y7_4.toInt + ((ln f : Nat) : Int) ≤ ((G 183) this).toInt))) := hq38
          have h838_h20 : (P 20) p0 = some f0 := by first | assumption | omega
          have h838_h21 : (P 21) p0 = some s0 := by first | assumption | omega
          have h838_h22 : (P 22) p0 = some a0 := by first | assumption | omega
          have h838_h23 : (P 23) p0 = some b0 := by first | assumption | omega
          have h838_hL : (wdl (d7_V0 f0) 0 (ln f0), wdl (d7_V0 s0) 0 (ln s0), wdl (d7_V0 a0) 0 (ln a0), wdl (d7_V0 b0) 0 (ln b0), (G 24) p0, (G 25) p0) = L := by rw [iv7 f0 (dn_ f0 lf0), iv7 s0 (dn_ s0 ls0), iv7 a0 (dn_ a0 la0_), iv7 b0 (dn_ b0 lb0)]; exact hL
          have h838_hp12 : 0 ≤ y7_4.toInt ∧ y7_4.toInt ≤ ((G 183) this).toInt := by omega
          have h838_hp2 : ((G 183) this).toInt ≤ ((ln nw : Nat) : Int) := by omega
          have h838_hp4 : 0 ≤ y7_3.toInt ∧ y7_3.toInt ≤ ((ln nx : Nat) : Int) := by omega
          have hx38 := pwq (fn_X1_standsAt κ wd la G P U (va_up V 0 d7_V0) X O kd ln cnt p0 nw y7_4 ((G 183) this) nx y7_3 (f0) (s0) (a0) (b0) (L) hzP20 hzP22 hzP23 hzLN hk_p0 hk_nw hk_nx hpr38_0 hpr38_1 hpr38_2 hB hlt_p0 lt_nw2 lt_nx4 h838_h20 h838_h21 h838_h22 h838_h23 h838_hL h838_hp12 h838_hp2 h838_hp4) hc38
          obtain ⟨p38_0, p38_1⟩ : (id ((r38.toInt ≠ 0 → lS L (wdl (d7_V0 nw) 0 (Int32.toNatClampNeg ((G 183) this))) (Int32.toNatClampNeg y7_4) (wdl (d7_V0 nx) 0 (Int32.toNatClampNeg y7_3))))) ∧ (id ((r38.toInt = 0 → ¬ lS L (wdl (d7_V0 nw) 0 (Int32.toNatClampNeg ((G 183) this))) (Int32.toNatClampNeg y7_4) (wdl (d7_V0 nx) 0 (Int32.toNatClampNeg y7_3))))) := hx38
          have hst38 := f39
          rw [hWd] at p38_0 p38_1
          refine pw_jE (fun j107 ej107 => ?_)
          refine pw_ite (fun c41 => ?_) (fun c41 => ?_)
          · have c41 := congrArg Int32.toInt c41
            refine pw_nne hn3 ?_
            refine pw_nne hn1 ?_
            refine pw_if (fun hb102 => ?_)
            obtain ⟨hbl102, hbr102⟩ := hb102
            refine pw_if (fun hb103 => ?_)
            obtain ⟨hbl103, hbr103⟩ := hb103
            refine pw_vl (fun m103 em103 => ?_)
            have hfr40 : ∀ z, ((la z < la this ∨ la this + 8 < la z)) → m103 z = (V 0) z := fr_up (e0 := (V 0)) hfr13 em103 (show ¬ ((la nx < la this ∨ la this + 8 < la nx)) from by omega)
            have f41 : (y7_3 + 1).toInt = y7_3.toInt + (1) := z_addc (by decide +kernel) (by omega) (by omega)
            refine pw_j4 ej107 (fun x107_2 ex107_2 x107_3 ex107_3 x107_4 ex107_4 z107_3 ez107_3 => ?_)
            subst ez107_3
            have ex107_2 := ex107_2.symm
            have f_x107_2 : x107_2.toInt = y7_2.toInt := by rw [ex107_2]
            have ex107_3 := ex107_3.symm
            have f_x107_3 : x107_3.toInt = (y7_3 + 1).toInt := by rw [ex107_3]
            have ex107_4 := ex107_4.symm
            have f_x107_4 : x107_4.toInt = y7_4.toInt := by rw [ex107_4]
            have f42 : (x107_4 + 1).toInt = x107_4.toInt + (1) := z_addc (by decide +kernel) (by omega) (by omega)
            have iv7_0 : (0 ≤ x107_2.toInt ∧ x107_2.toInt ≤ 1) := by omega
            have iv7_1 : (0 ≤ x107_3.toInt ∧ x107_3.toInt ≤ 40) := by omega
            have iv7_2 : (0 ≤ (x107_4 + 1).toInt ∧ (x107_4 + 1).toInt ≤ 40) := by omega
            have iv7_3 : (x107_2.toInt ≠ 0 ∨ x107_3.toInt = (x107_4 + 1).toInt) := by omega
            have iv7_4 : (∀ z, z ≠ nx → m103 z = (V 0) z) := by intro z hz; rw [em103, va_up_ne _ _ hz]; exact iv7 z hz
            have iv7_5 : (TH L W (Int32.toNatClampNeg (x107_4 + 1)) (wdl (m103 nx) 0 (Int32.toNatClampNeg x107_3)) (decide (x107_2.toInt ≠ 0))) := by have k1 := clampI (x := x107_4 + 1) (by omega); have k2 := clampI (x := x107_3) (by omega); rw [f_x107_2]; refine TH_no it7 (by omega) (p38_1 (by omega)) (by omega) ?_; rw [em103, va_up_self, show Int32.toNatClampNeg x107_3 = Int32.toNatClampNeg y7_3 + 1 by omega, wdl_up rfl, ← hWd, wdl_1 (by omega), bw_at hbw hWd (by omega)]
            exact ih7 x107_2 x107_3 (x107_4 + 1) m103 hfr40 iv7_0 iv7_1 iv7_2 iv7_3 iv7_4 iv7_5
          · have c41 : r38.toInt = 1 := by have z9 := z_ne c41; omega
            refine pw_nne hn7 ?_
            refine pw_nne hn3 ?_
            refine pw_nne hn7 ?_
            have hzb_s0 := hzLN s0 (by rw [hk_s0]; decide)
            refine pw_if (fun hb59 => ?_)
            obtain ⟨hb59_1, hb59_2, hb59_3, hb59_4, hb59_5⟩ := hb59
            refine pw_vl (fun m59 em59 => ?_)
            have hfr43 : ∀ z, ((la z < la this ∨ la this + 8 < la z)) → m59 z = (V 0) z := fr_up (e0 := (V 0)) hfr13 em59 (show ¬ ((la nx < la this ∨ la this + 8 < la nx)) from by omega)
            refine pw_nne hn7 ?_
            have f44 : (y7_3 + (Int32.ofNat (ln s0))).toInt = y7_3.toInt + (Int32.ofNat (ln s0)).toInt := z_add (by omega) (by omega)
            refine pw_vl (fun x69 ex69 => ?_)
            have f45 : x69.toInt = (y7_3 + (Int32.ofNat (ln s0))).toInt := congrArg Int32.toInt ex69
            refine pw_nne hn5 ?_
            have hst := hst38 (by omega) _ hn5
            have hzb_f0 := hzLN f0 (by rw [hk_f0]; decide)
            have mm46 := z_max (Int32.ofNat (ln f0)) 1
            have f47 : ((if (Int32.ofNat (ln f0)) < 1 then 1 else (Int32.ofNat (ln f0))) - 1).toInt = (if (Int32.ofNat (ln f0)) < 1 then 1 else (Int32.ofNat (ln f0))).toInt - 1 := z_subc (by decide +kernel) (by omega) (by omega)
            have f48 : (y7_4 + ((if (Int32.ofNat (ln f0)) < 1 then 1 else (Int32.ofNat (ln f0))) - 1)).toInt = y7_4.toInt + ((if (Int32.ofNat (ln f0)) < 1 then 1 else (Int32.ofNat (ln f0))) - 1).toInt := z_add (by omega) (by omega)
            refine pw_vl (fun x84 ex84 => ?_)
            have f49 : x84.toInt = (y7_4 + ((if (Int32.ofNat (ln f0)) < 1 then 1 else (Int32.ofNat (ln f0))) - 1)).toInt := congrArg Int32.toInt ex84
            refine pw_j4 ej107 (fun x107_2 ex107_2 x107_3 ex107_3 x107_4 ex107_4 z107_3 ez107_3 => ?_)
            subst ez107_3
            have ex107_2 := ex107_2.symm
            have f_x107_2 : x107_2.toInt = 1 := by rw [ex107_2]; decide +kernel
            have ex107_3 := ex107_3.symm
            have f_x107_3 : x107_3.toInt = x69.toInt := by rw [ex107_3]
            have ex107_4 := ex107_4.symm
            have f_x107_4 : x107_4.toInt = x84.toInt := by rw [ex107_4]
            have f50 : (x107_4 + 1).toInt = x107_4.toInt + (1) := z_addc (by decide +kernel) (by omega) (by omega)
            have iv7_0 : (0 ≤ x107_2.toInt ∧ x107_2.toInt ≤ 1) := by omega
            have iv7_1 : (0 ≤ x107_3.toInt ∧ x107_3.toInt ≤ 40) := by omega
            have iv7_2 : (0 ≤ (x107_4 + 1).toInt ∧ (x107_4 + 1).toInt ≤ 40) := by omega
            have iv7_3 : (x107_2.toInt ≠ 0 ∨ x107_3.toInt = (x107_4 + 1).toInt) := by omega
            have iv7_4 : (∀ z, z ≠ nx → m59 z = (V 0) z) := by intro z hz; rw [em59, va_up_ne _ _ hz]; exact iv7 z hz
            have iv7_5 : (TH L W (Int32.toNatClampNeg (x107_4 + 1)) (wdl (m59 nx) 0 (Int32.toNatClampNeg x107_3)) (decide (x107_2.toInt ≠ 0))) := by have k1 := clampI (x := x107_4 + 1) (by omega); have k2 := clampI (x := x107_3) (by omega); have k3 := clampI (x := Int32.ofNat (ln s0)) (by omega); rw [show decide (x107_2.toInt ≠ 0) = true from decide_eq_true (by omega)]; refine TH_yes it7 (by omega) (p38_0 (by omega)) hl1 (by omega) ?_; rw [em59, va_up_self, show Int32.toNatClampNeg x107_3 = Int32.toNatClampNeg y7_3 + Int32.toNatClampNeg (Int32.ofNat (ln s0)) by omega, wdl_cpy, e2, show Int32.toNatClampNeg (0 : Int32) = 0 from rfl, show Int32.toNatClampNeg (Int32.ofNat (ln s0)) = ln s0 by omega, iv7 s0 (dn_ s0 ls0)]
            exact ih7 x107_2 x107_3 (x107_4 + 1) m59 hfr43 iv7_0 iv7_1 iv7_2 iv7_3 iv7_4 iv7_5
  exact lp7 NN (0 : Int32) (0 : Int32) (0 : Int32) (V 0) (fun _ _ => rfl) (show (0 ≤ (0 : Int32).toInt ∧ (0 : Int32).toInt ≤ 1) from by omega) (show (0 ≤ (0 : Int32).toInt ∧ (0 : Int32).toInt ≤ 40) from by omega) (show (0 ≤ (0 : Int32).toInt ∧ (0 : Int32).toInt ≤ 40) from by omega) (show ((0 : Int32).toInt ≠ 0 ∨ (0 : Int32).toInt = (0 : Int32).toInt) from by omega) (show (∀ z, z ≠ nx → (V 0) z = (V 0) z) from by intro z _; rfl) (show (TH L W (Int32.toNatClampNeg (0 : Int32)) (wdl ((V 0) nx) 0 (Int32.toNatClampNeg (0 : Int32))) (decide ((0 : Int32).toInt ≠ 0))) from by exact TH_0)
