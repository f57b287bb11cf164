abbrev QF_X2_settle (κ : Nat → Nat) (wd : Nat) (la : Nat → Nat) (G : Nat → Nat → Int32) (P : Nat → Nat → Option Nat) (U : Nat → Nat → Int64) (V : Nat → Nat → Nat → Int32) (X : Nat → Nat → Nat → Int64) (O : Nat → Nat → Nat → Option Nat) (kd : Nat → Nat) (ln : Nat → Nat) (cnt : Nat) (this : Nat) (p0 : Int32) (co : Nat) (le : Nat) (to : Nat) (C : Nat → Nat → Int32) : (Int32 × (Nat → Int32) × (Nat → Nat → Int32) × (Nat → Nat → Int32)) → Prop := (fun t => ((t.1) = owF2 (smK C (Int32.toNatClampNeg ((G 45) this) - 1) p0 (Int32.toNatClampNeg ((G 44) this)) (Int32.toNatClampNeg ((G 44) this))) (Int32.toNatClampNeg ((G 45) this) - 1) p0 (-1)) ∧ (((t.2.1) this).toInt = ((G 44) this).toInt) ∧ ((∀ j, j < (Int32.toNatClampNeg ((G 44) this)) → (t.2.2.2) to j = Int32.ofNat (tlF C (Int32.toNatClampNeg ((G 45) this) - 1) p0 (Int32.toNatClampNeg ((G 44) this)) j))))
set_option maxHeartbeats 4000000 in
set_option maxRecDepth 100000 in
theorem fn_X2_settle (κ : Nat → Nat) (wd : Nat) (la : Nat → Nat) (G : Nat → Nat → Int32) (P : Nat → Nat → Option Nat) (U : Nat → Nat → Int64) (V : Nat → Nat → Nat → Int32) (X : Nat → Nat → Nat → Int64) (O : Nat → Nat → Nat → Option Nat) (kd : Nat → Nat) (ln : Nat → Nat) (cnt : Nat) (this : Nat) (p0 : Int32) (co : Nat) (le : Nat) (to : Nat) (C : Nat → Nat → Int32) (hzG43 : rng (0) 40 (G 43)) (hzG44 : rng (0) 40 (G 44)) (hzG45 : rng (0) 7 (G 45)) (hzP40 : PB κ ln wd 3 107 280 280 0 (P 40)) (hzP41 : PB κ ln wd 3 108 280 280 0 (P 41)) (hzP42 : PB κ ln wd 3 109 40 40 0 (P 42)) (hzV9 : rng2 (0) 6 (V 9)) (hzLN : LN κ ln) (hk_this : κ this = 3) (hB : LB la cnt P) (hlt_this : this < cnt) (h40 : (P 40) this = some co) (h41 : (P 41) this = some le) (h42 : (P 42) this = some to) (hL : 1 ≤ ((G 44) this).toInt) (hs1 : 1 ≤ ((G 45) this).toInt) (hC : ∀ l s, l < (Int32.toNatClampNeg ((G 44) this)) → s ≤ (Int32.toNatClampNeg ((G 45) this) - 1) → (V 7) co (7 * l + s) = C l s) : pw (f_X2_settle G P U V X O kd ln cnt this p0) (QF_X2_settle κ wd la G P U V X O kd ln cnt this p0 co le to C) := by
  unfold f_X2_settle
  have zkm1 : (-1 : Int32).toInt = -1 := by decide +kernel
  have zk0 : (0 : Int32).toInt = 0 := by decide +kernel
  have zk1 : (1 : Int32).toInt = 1 := by decide +kernel
  have zk7 : (7 : Int32).toInt = 7 := by decide +kernel
  have r_p0 := i32r p0
  have hn1 : (P 40) this = some co := h40
  have lt_co2 := ((hB.1 40 fl_40) this co hn1).2.1
  have lb_co2 : la co = la this + 0 := lk_40.mp ((hB.1 40 fl_40) this co hn1).2.2
  have hk_co := ((hzP40 this).2 co hn1).1
  have hl1_co := ((hzP40 this).2 co hn1).2.1
  have hl2_co := ((hzP40 this).2 co hn1).2.2.1
  have hw_co := ((hzP40 this).2 co hn1).2.2.2
  have hz_co : (Int32.ofNat (ln co)).toInt = ((ln co : Nat) : Int) := ofN_eq (by first | exact Nat.le_trans hl2_co (by decide) | omega)
  have hn3 : (P 41) this = some le := h41
  have lt_le4 := ((hB.1 41 fl_41) this le hn3).2.1
  have lb_le4 : la le = la this + 0 := lk_41.mp ((hB.1 41 fl_41) this le hn3).2.2
  have hk_le := ((hzP41 this).2 le hn3).1
  have hl1_le := ((hzP41 this).2 le hn3).2.1
  have hl2_le := ((hzP41 this).2 le hn3).2.2.1
  have hw_le := ((hzP41 this).2 le hn3).2.2.2
  have hz_le : (Int32.ofNat (ln le)).toInt = ((ln le : Nat) : Int) := ofN_eq (by first | exact Nat.le_trans hl2_le (by decide) | omega)
  have hn5 : (P 42) this = some to := h42
  have lt_to6 := ((hB.1 42 fl_42) this to hn5).2.1
  have lb_to6 : la to = la this + 0 := lk_42.mp ((hB.1 42 fl_42) this to hn5).2.2
  have hk_to := ((hzP42 this).2 to hn5).1
  have hl1_to := ((hzP42 this).2 to hn5).2.1
  have hl2_to := ((hzP42 this).2 to hn5).2.2.1
  have hw_to := ((hzP42 this).2 to hn5).2.2.2
  have hz_to : (Int32.ofNat (ln to)).toInt = ((ln to : Nat) : Int) := ofN_eq (by first | exact Nat.le_trans hl2_to (by decide) | omega)
  have hb44 := hzG44 this
  have c44 := clampI (x := (G 44) this) (by omega)
  have hb45 := hzG45 this
  have c45 := clampI (x := (G 45) this) (by omega)
  have b7 := hzG44 this
  have f8 : (((G 44) this) - 1).toInt = ((G 44) this).toInt - 1 := z_subc (by decide +kernel) (by omega) (by omega)
  refine pw_vl (fun x6 ex6 => ?_)
  have f9 : x6.toInt = (((G 44) this) - 1).toInt := congrArg Int32.toInt ex6
  refine pw_jE (fun k92 ek92 => ?_)
  have lp7 : ∀ (n7 : Nat) (y7_2 : Int32) (d7_V8 : Nat → Nat → Int32), (∀ z, ((la z < la this ∨ la this < la z)) → d7_V8 z = (V 8) z) → ((-1) ≤ y7_2.toInt ∧ y7_2.toInt < 40) → y7_2.toInt < ((G 44) this).toInt → (SMT (d7_V8 le) C (Int32.toNatClampNeg ((G 45) this) - 1) p0 (Int32.toNatClampNeg ((G 44) this)) ((y7_2.toInt + 1).toNat)) → pw (L_X2_settle_7 G P U V X O kd ln cnt this p0 k92 n7 y7_2 d7_V8) (QF_X2_settle κ wd la G P U V X O kd ln cnt this p0 co le to C) := by
    intro n7
    induction n7 with
    | zero => intros; exact pw_none
    | succ n7 ih7 =>
      intro y7_2 d7_V8 hfr10 f11 f12 is7
      show pw (B_X2_settle_7 G P U V X O kd ln cnt this p0 k92 (L_X2_settle_7 G P U V X O kd ln cnt this p0 k92 n7) y7_2 d7_V8) _
      unfold B_X2_settle_7
      refine pw_ite (fun c8 => ?_) (fun c8 => ?_)
      · have c8 := (z_lt _ _).mp c8
        have hsm : id (∀ i s, i < (Int32.toNatClampNeg ((G 44) this)) → s ≤ (Int32.toNatClampNeg ((G 45) this) - 1) → d7_V8 le (7 * i + s) = smK C (Int32.toNatClampNeg ((G 45) this) - 1) p0 (Int32.toNatClampNeg ((G 44) this)) ((Int32.toNatClampNeg ((G 44) this)) - i) s) := show ∀ i s, i < (Int32.toNatClampNeg ((G 44) this)) → s ≤ (Int32.toNatClampNeg ((G 45) this) - 1) → d7_V8 le (7 * i + s) = smK C (Int32.toNatClampNeg ((G 45) this) - 1) p0 (Int32.toNatClampNeg ((G 44) this)) ((Int32.toNatClampNeg ((G 44) this)) - i) s from fun i s h1 h2 => is7 i s (by omega) h1 h2
        refine pw_j1 ek92 (fun z92_0 ez92_0 => ?_)
        subst ez92_0
        refine pw_jE (fun k125 ek125 => ?_)
        have lp96 : ∀ (n96 : Nat) (y96_2 : Int32) (y96_3 : Int32) (d96_V9 : Nat → Nat → Int32), rng2 (0) 6 d96_V9 → (∀ z, ((la z < la this ∨ la this < la z)) → d96_V9 z = (V 9) z) → (0 ≤ y96_3.toInt ∧ y96_3.toInt ≤ 40) → y96_3.toInt ≤ ((G 44) this).toInt → (∀ j, j < Int32.toNatClampNeg y96_3 → d96_V9 to j = Int32.ofNat (tlF C (Int32.toNatClampNeg ((G 45) this) - 1) p0 (Int32.toNatClampNeg ((G 44) this)) j)) → (y96_2.toInt = tlA C (Int32.toNatClampNeg ((G 45) this) - 1) p0 (Int32.toNatClampNeg ((G 44) this)) (Int32.toNatClampNeg y96_3)) → pw (L_X2_settle_96 G P U V X O kd ln cnt this p0 d7_V8 k125 n96 y96_2 y96_3 d96_V9) (QF_X2_settle κ wd la G P U V X O kd ln cnt this p0 co le to C) := by
          intro n96
          induction n96 with
          | zero => intros; exact pw_none
          | succ n96 ih96 =>
            intro y96_2 y96_3 d96_V9 hg13 hfr14 f15 f16 it96 ia96
            show pw (B_X2_settle_96 G P U V X O kd ln cnt this p0 d7_V8 k125 (L_X2_settle_96 G P U V X O kd ln cnt this p0 d7_V8 k125 n96) y96_2 y96_3 d96_V9) _
            unfold B_X2_settle_96
            refine pw_ite (fun c101 => ?_) (fun c101 => ?_)
            · have c101 := (z_le _ _).mp c101
              have ht0 := it96 0 (by have k3 := clampI (x := y96_3) (by omega); omega)
              have htl := tl_le (C := C) (m := (Int32.toNatClampNeg ((G 45) this) - 1)) (pr := p0) (L := (Int32.toNatClampNeg ((G 44) this))) 0
              have hn0 : Int32.toNatClampNeg (d96_V9 to 0) = tlF C (Int32.toNatClampNeg ((G 45) this) - 1) p0 (Int32.toNatClampNeg ((G 44) this)) 0 := by have z9 : Int32.toNatClampNeg (d96_V9 to 0) = (d96_V9 to 0).toInt.toNat := rfl; rw [z9, ht0, Int32.toInt_ofNat_of_lt (by omega)]; rfl
              refine pw_j1 ek125 (fun z125_0 ez125_0 => ?_)
              subst ez125_0
              refine pw_vl (fun x130 ex130 => ?_)
              have f19 : x130.toInt = ((G 44) this).toInt := congrArg Int32.toInt ex130
              refine pw_vl (fun m130 em130 => ?_)
              have hfr20 : ∀ z, ((la z < la this ∨ la this < la z)) → m130 z = (G 43) z := fr_up (e0 := (G 43)) (fun _ _ => rfl) em130 (show ¬ ((la this < la this ∨ la this < la this)) from by omega)
              have hg21 : rng (0) 40 m130 := by rw [em130]; exact rng_vup hzG43 (by omega) (by omega)
              have sm130 : (m130 this).toInt = x130.toInt := by rw [em130, va_up_self]
              have b22 := hg21 this
              refine pw_nne hn5 ?_
              refine pw_if (fun hb140 => ?_)
              obtain ⟨hbl140, hbr140⟩ := hb140
              have b23 := hg13 to (Int32.toNatClampNeg (0 : Int32))
              have hpr143_0 : (0 ≤ (0 : Int32).toInt ∧ (0 : Int32).toInt < 40) := by first | assumption | omega
              have hpr143_1 : (0 ≤ ((d96_V9 to) (Int32.toNatClampNeg 0)).toInt ∧ ((d96_V9 to) (Int32.toNatClampNeg 0)).toInt ≤ 6) := by first | assumption | omega
              refine pw_b1 (fun r143 hc143 => ?_)
              have h8143_h41 : (P 41) this = some le := by exact h41
              have hx143 := pwq (fn_X2_cost κ wd la (va_up G 43 m130) P U (va_up (va_up V 8 d7_V8) 9 d96_V9) X O kd ln cnt this (0 : Int32) ((d96_V9 to) (Int32.toNatClampNeg 0)) (-1 : Int32) p0 (le) hzP41 hzLN hk_this hpr143_0 hpr143_1 hB hlt_this h8143_h41) hc143
              have p143_0 : r143 = (d7_V8 le) (7 * Int32.toNatClampNeg (0 : Int32) + Int32.toNatClampNeg ((d96_V9 to) (Int32.toNatClampNeg 0))) + prF p0 (-1 : Int32).toInt (Int32.toNatClampNeg ((d96_V9 to) (Int32.toNatClampNeg 0))) := hx143
              clear hx143
              have qq0 : r143 = owF2 (smK C (Int32.toNatClampNeg ((G 45) this) - 1) p0 (Int32.toNatClampNeg ((G 44) this)) (Int32.toNatClampNeg ((G 44) this))) (Int32.toNatClampNeg ((G 45) this) - 1) p0 (-1) := by rw [p143_0]; show d7_V8 le (7 * 0 + Int32.toNatClampNeg (d96_V9 to 0)) + prF p0 (-1) (Int32.toNatClampNeg (d96_V9 to 0)) = _; rw [hn0, tl_un]; show d7_V8 le (7 * 0 + ofF (smK C (Int32.toNatClampNeg ((G 45) this) - 1) p0 (Int32.toNatClampNeg ((G 44) this)) ((Int32.toNatClampNeg ((G 44) this)) - 0)) (Int32.toNatClampNeg ((G 45) this) - 1) p0 (-1)) + prF p0 (-1) (ofF (smK C (Int32.toNatClampNeg ((G 45) this) - 1) p0 (Int32.toNatClampNeg ((G 44) this)) ((Int32.toNatClampNeg ((G 44) this)) - 0)) (Int32.toNatClampNeg ((G 45) this) - 1) p0 (-1)) = _; have h9 := hsm 0 (ofF (smK C (Int32.toNatClampNeg ((G 45) this) - 1) p0 (Int32.toNatClampNeg ((G 44) this)) ((Int32.toNatClampNeg ((G 44) this)) - 0)) (Int32.toNatClampNeg ((G 45) this) - 1) p0 (-1)) (by omega) (fs_le _); rw [h9]; exact of_at
              have qq1 : (m130 this).toInt = ((G 44) this).toInt := by omega
              have qq2 : (∀ j, j < (Int32.toNatClampNeg ((G 44) this)) → d96_V9 to j = Int32.ofNat (tlF C (Int32.toNatClampNeg ((G 45) this) - 1) p0 (Int32.toNatClampNeg ((G 44) this)) j)) := by intro j hj; exact it96 j (by have k3 := clampI (x := y96_3) (by omega); omega)
              exact pw_some ⟨qq0, qq1, qq2⟩
            · have c101 := z_nle c101
              have k3 := clampI (x := y96_3) (by omega)
              have hpr108_0 : (0 ≤ y96_3.toInt ∧ y96_3.toInt < 40) := by first | assumption | omega
              refine pw_b1 (fun r108 hc108 => ?_)
              have hq108 := wp_at (ok_X2_cheapest κ wd G P U (va_up (va_up V 8 d7_V8) 9 d96_V9) X O kd ln cnt this y96_3 y96_2 p0 hzG45 hzP41 hzLN hk_this hpr108_0) hc108
              have f24 : (0 ≤ r108.toInt ∧ r108.toInt ≤ 6) := hq108
              clear hq108
              have h8108_h41 : (P 41) this = some le := by exact h41
              have h8108_hs1 : 1 ≤ ((G 45) this).toInt := by exact hs1
              have hx108 := pwq (fn_X2_cheapest κ wd la G P U (va_up (va_up V 8 d7_V8) 9 d96_V9) X O kd ln cnt this y96_3 y96_2 p0 (le) hzG45 hzP41 hzLN hk_this hpr108_0 hB hlt_this h8108_h41 h8108_hs1) hc108
              have p108_0 : Int32.toNatClampNeg r108 = ofF (fun t => (d7_V8 le) (7 * Int32.toNatClampNeg y96_3 + t)) (Int32.toNatClampNeg ((G 45) this) - 1) p0 y96_2.toInt := hx108
              clear hx108
              have k108 := clampI (x := r108) (by omega)
              have hfs : Int32.toNatClampNeg r108 = tlF C (Int32.toNatClampNeg ((G 45) this) - 1) p0 (Int32.toNatClampNeg ((G 44) this)) (Int32.toNatClampNeg y96_3) := by rw [p108_0, tl_un, ia96]; exact ofF_ext (fun t ht => hsm _ t (by omega) ht)
              refine pw_nne hn5 ?_
              refine pw_if (fun hb118 => ?_)
              obtain ⟨hbl118, hbr118⟩ := hb118
              refine pw_vl (fun m118 em118 => ?_)
              have hfr25 : ∀ z, ((la z < la this ∨ la this < la z)) → m118 z = (V 9) z := fr_up (e0 := (V 9)) hfr14 em118 (show ¬ ((la to < la this ∨ la this < la to)) from by omega)
              have hv26 : rng2 (0) 6 m118 := by rw [em118]; exact rng2_up hg13 (by omega) (by omega)
              have f27 : (y96_3 + 1).toInt = y96_3.toInt + (1) := z_addc (by decide +kernel) (by omega) (by omega)
              have iv96_0 : (0 ≤ (y96_3 + 1).toInt ∧ (y96_3 + 1).toInt ≤ 40) := by omega
              have iv96_1 : (y96_3 + 1).toInt ≤ ((G 44) this).toInt := by omega
              have iv96_2 : (∀ j, j < Int32.toNatClampNeg (y96_3 + 1) → m118 to j = Int32.ofNat (tlF C (Int32.toNatClampNeg ((G 45) this) - 1) p0 (Int32.toNatClampNeg ((G 44) this)) j)) := by have k3 := clampI (x := y96_3) (by omega); have k8 := clampI (x := y96_3 + 1) (by omega); intro j hj; by_cases q9 : j = Int32.toNatClampNeg y96_3; (rw [q9, em118, va_up_self, pk_us, ← hfs]; exact z_e (by rw [Int32.toInt_ofNat_of_lt (by omega)]; omega)); (rw [em118, va_up_self, pk_un q9]; exact it96 j (by omega))
              have iv96_3 : (r108.toInt = tlA C (Int32.toNatClampNeg ((G 45) this) - 1) p0 (Int32.toNatClampNeg ((G 44) this)) (Int32.toNatClampNeg (y96_3 + 1))) := by have k3 := clampI (x := y96_3) (by omega); have k8 := clampI (x := y96_3 + 1) (by omega); rw [show Int32.toNatClampNeg (y96_3 + 1) = Int32.toNatClampNeg y96_3 + 1 by omega]; show _ = ((tlF C (Int32.toNatClampNeg ((G 45) this) - 1) p0 (Int32.toNatClampNeg ((G 44) this)) (Int32.toNatClampNeg y96_3) : Nat) : Int); rw [← hfs]; omega
              exact ih96 r108 (y96_3 + 1) m118 hv26 hfr25 iv96_0 iv96_1 iv96_2 iv96_3
        exact lp96 NN (-1 : Int32) (0 : Int32) (V 9) hzV9 (fun _ _ => rfl) (show (0 ≤ (0 : Int32).toInt ∧ (0 : Int32).toInt ≤ 40) from by omega) (show (0 : Int32).toInt ≤ ((G 44) this).toInt from by omega) (show (∀ j, j < Int32.toNatClampNeg (0 : Int32) → (V 9) to j = Int32.ofNat (tlF C (Int32.toNatClampNeg ((G 45) this) - 1) p0 (Int32.toNatClampNeg ((G 44) this)) j)) from by intro j hj; exact absurd hj (Nat.not_lt_zero _)) (show ((-1 : Int32).toInt = tlA C (Int32.toNatClampNeg ((G 45) this) - 1) p0 (Int32.toNatClampNeg ((G 44) this)) (Int32.toNatClampNeg (0 : Int32))) from by show (-1 : Int32).toInt = -1; decide)
      · have c8 := z_nlt c8
        have k2 := clampI (x := y7_2) (by omega)
        refine pw_jE (fun k86 ek86 => ?_)
        have lp13 : ∀ (n13 : Nat) (y13_3 : Int32) (d13_V8 : Nat → Nat → Int32), (∀ z, ((la z < la this ∨ la this < la z)) → d13_V8 z = (V 8) z) → (0 ≤ y13_3.toInt ∧ y13_3.toInt ≤ 7) → y13_3.toInt ≤ ((G 45) this).toInt → (SMT (d13_V8 le) C (Int32.toNatClampNeg ((G 45) this) - 1) p0 (Int32.toNatClampNeg ((G 44) this)) ((y7_2.toInt + 1).toNat)) → (∀ s, s < Int32.toNatClampNeg y13_3 → d13_V8 le (7 * Int32.toNatClampNeg y7_2 + s) = smK C (Int32.toNatClampNeg ((G 45) this) - 1) p0 (Int32.toNatClampNeg ((G 44) this)) ((Int32.toNatClampNeg ((G 44) this)) - Int32.toNatClampNeg y7_2) s) → pw (L_X2_settle_13 G P U V X O kd ln cnt this p0 y7_2 k86 n13 y13_3 d13_V8) (QF_X2_settle κ wd la G P U V X O kd ln cnt this p0 co le to C) := by
          intro n13
          induction n13 with
          | zero => intros; exact pw_none
          | succ n13 ih13 =>
            intro y13_3 d13_V8 hfr28 f29 f30 ik13 ir13
            show pw (B_X2_settle_13 G P U V X O kd ln cnt this p0 y7_2 k86 (L_X2_settle_13 G P U V X O kd ln cnt this p0 y7_2 k86 n13) y13_3 d13_V8) _
            unfold B_X2_settle_13
            have b31 := hzG45 this
            refine pw_ite (fun c18 => ?_) (fun c18 => ?_)
            · have c18 := (z_le _ _).mp c18
              refine pw_j1 ek86 (fun z86_0 ez86_0 => ?_)
              subst ez86_0
              have f32 : (y7_2 + (-1)).toInt = y7_2.toInt + (-1) := z_addc (by decide +kernel) (by omega) (by omega)
              obtain ⟨z33, ez33⟩ : ∃ z : Int32, z = (y7_2 + (-1)) := ⟨_, rfl⟩
              have fz33 : z33.toInt = y7_2.toInt + (-1) := by rw [ez33]; exact f32
              rw [← ez33]
              clear f32 ez33
              have iv7_0 : ((-1) ≤ z33.toInt ∧ z33.toInt < 40) := by omega
              have iv7_1 : z33.toInt < ((G 44) this).toInt := by omega
              have iv7_2 : (SMT (d13_V8 le) C (Int32.toNatClampNeg ((G 45) this) - 1) p0 (Int32.toNatClampNeg ((G 44) this)) ((z33.toInt + 1).toNat)) := by intro i s h1 h2 h3; by_cases q9 : i = Int32.toNatClampNeg y7_2; (rw [q9]; exact ir13 s (by have k7 := clampI (x := y13_3) (by omega); omega)); (exact ik13 i s (by omega) h2 h3)
              exact ih7 z33 d13_V8 hfr28 iv7_0 iv7_1 iv7_2
            · have c18 := z_nle c18
              have f34 : (y7_2 + 1).toInt = y7_2.toInt + 1 := z_addc (by decide +kernel) (by omega) (by omega)
              refine pw_jE (fun j53 ej53 => ?_)
              refine pw_ite (fun c28 => ?_) (fun c28 => ?_)
              · have c28 := (z_le _ _).mp c28
                refine pw_j1 ej53 (fun t53_0 et53_0 => ?_)
                have et53_0 := et53_0.symm
                have f_t53_0 : t53_0.toInt = 0 := by rw [et53_0]; decide +kernel
                refine pw_nne hn3 ?_
                have f36 : (y7_2 * 7).toInt = y7_2.toInt * 7 := z_mulc (by decide +kernel) (by omega) (by omega)
                have f37 : ((y7_2 * 7) + y13_3).toInt = (y7_2 * 7).toInt + y13_3.toInt := z_add (by omega) (by omega)
                refine pw_nne hn1 ?_
                refine pw_if (fun hb75 => ?_)
                obtain ⟨hbl75, hbr75⟩ := hb75
                refine pw_if (fun hb79 => ?_)
                obtain ⟨hbl79, hbr79⟩ := hb79
                refine pw_vl (fun m79 em79 => ?_)
                have hfr40 : ∀ z, ((la z < la this ∨ la this < la z)) → m79 z = (V 8) z := fr_up (e0 := (V 8)) hfr28 em79 (show ¬ ((la le < la this ∨ la this < la le)) from by omega)
                have f41 : (y13_3 + 1).toInt = y13_3.toInt + (1) := z_addc (by decide +kernel) (by omega) (by omega)
                have iv13_0 : (0 ≤ (y13_3 + 1).toInt ∧ (y13_3 + 1).toInt ≤ 7) := by omega
                have iv13_1 : (y13_3 + 1).toInt ≤ ((G 45) this).toInt := by omega
                have iv13_2 : (SMT (m79 le) C (Int32.toNatClampNeg ((G 45) this) - 1) p0 (Int32.toNatClampNeg ((G 44) this)) ((y7_2.toInt + 1).toNat)) := by have k3 := clampI (x := y13_3) (by omega); have ki := clampI (x := (y7_2 * 7) + y13_3) (by omega); intro i s h1 h2 h3; rw [em79, va_up_self, pk_un (by omega)]; exact ik13 i s h1 h2 h3
                have iv13_3 : (∀ s, s < Int32.toNatClampNeg (y13_3 + 1) → m79 le (7 * Int32.toNatClampNeg y7_2 + s) = smK C (Int32.toNatClampNeg ((G 45) this) - 1) p0 (Int32.toNatClampNeg ((G 44) this)) ((Int32.toNatClampNeg ((G 44) this)) - Int32.toNatClampNeg y7_2) s) := by have k3 := clampI (x := y13_3) (by omega); have k8 := clampI (x := y13_3 + 1) (by omega); have ki := clampI (x := (y7_2 * 7) + y13_3) (by omega); intro s hs; by_cases q9 : s = Int32.toNatClampNeg y13_3; (rw [q9, show 7 * Int32.toNatClampNeg y7_2 + Int32.toNatClampNeg y13_3 = Int32.toNatClampNeg ((y7_2 * 7) + y13_3) by omega, em79, va_up_self, pk_us, sm_un (by omega), if_neg (by omega), et53_0, show Int32.toNatClampNeg ((y7_2 * 7) + y13_3) = 7 * Int32.toNatClampNeg y7_2 + Int32.toNatClampNeg y13_3 by omega, hC _ _ (by omega) (by omega)]); (rw [em79, va_up_self, pk_un (by omega)]; exact ir13 s (by omega))
                exact ih13 (y13_3 + 1) m79 hfr40 iv13_0 iv13_1 iv13_2 iv13_3
              · have c28 := z_nle c28
                have hpr41_0 : (0 ≤ (y7_2 + 1).toInt ∧ (y7_2 + 1).toInt < 40) := by first | assumption | omega
                refine pw_b1 (fun r41 hc41 => ?_)
                have hq41 := wp_at (ok_X2_cheapest κ wd G P U (va_up V 8 d13_V8) X O kd ln cnt this (y7_2 + 1) y13_3 p0 hzG45 hzP41 hzLN hk_this hpr41_0) hc41
                have f44 : (0 ≤ r41.toInt ∧ r41.toInt ≤ 6) := hq41
                clear hq41
                have h841_h41 : (P 41) this = some le := by exact h41
                have h841_hs1 : 1 ≤ ((G 45) this).toInt := by exact hs1
                have hx41 := pwq (fn_X2_cheapest κ wd la G P U (va_up V 8 d13_V8) X O kd ln cnt this (y7_2 + 1) y13_3 p0 (le) hzG45 hzP41 hzLN hk_this hpr41_0 hB hlt_this h841_h41 h841_hs1) hc41
                have p41_0 : Int32.toNatClampNeg r41 = ofF (fun t => (d13_V8 le) (7 * Int32.toNatClampNeg (y7_2 + 1) + t)) (Int32.toNatClampNeg ((G 45) this) - 1) p0 y13_3.toInt := hx41
                clear hx41
                have hpr46_0 : (0 ≤ (y7_2 + 1).toInt ∧ (y7_2 + 1).toInt < 40) := by first | assumption | omega
                have hpr46_1 : (0 ≤ r41.toInt ∧ r41.toInt ≤ 6) := by first | assumption | omega
                refine pw_b1 (fun r46 hc46 => ?_)
                have h846_h41 : (P 41) this = some le := by exact h41
                have hx46 := pwq (fn_X2_cost κ wd la G P U (va_up V 8 d13_V8) X O kd ln cnt this (y7_2 + 1) r41 y13_3 p0 (le) hzP41 hzLN hk_this hpr46_0 hpr46_1 hB hlt_this h846_h41) hc46
                have p46_0 : r46 = (d13_V8 le) (7 * Int32.toNatClampNeg (y7_2 + 1) + Int32.toNatClampNeg r41) + prF p0 y13_3.toInt (Int32.toNatClampNeg r41) := hx46
                clear hx46
                have hrest : r46 = owF2 (smK C (Int32.toNatClampNeg ((G 45) this) - 1) p0 (Int32.toNatClampNeg ((G 44) this)) ((Int32.toNatClampNeg ((G 44) this)) - (Int32.toNatClampNeg y7_2 + 1))) (Int32.toNatClampNeg ((G 45) this) - 1) p0 ((Int32.toNatClampNeg y13_3 : Nat) : Int) := by have k3 := clampI (x := y13_3) (by omega); have kn := clampI (x := y7_2 + 1) (by omega); rw [p46_0, p41_0, show y13_3.toInt = ((Int32.toNatClampNeg y13_3 : Nat) : Int) by omega, of_at (S := fun t => d13_V8 le (7 * Int32.toNatClampNeg (y7_2 + 1) + t))]; exact owF2_ext (fun t ht => by rw [show Int32.toNatClampNeg (y7_2 + 1) = Int32.toNatClampNeg y7_2 + 1 by omega]; exact ik13 (Int32.toNatClampNeg y7_2 + 1) t (by omega) (by omega) ht)
                refine pw_j1 ej53 (fun t53_0 et53_0 => ?_)
                have et53_0 := et53_0.symm
                have f_t53_0 : t53_0.toInt = r46.toInt := by rw [et53_0]
                refine pw_nne hn3 ?_
                have f45 : (y7_2 * 7).toInt = y7_2.toInt * 7 := z_mulc (by decide +kernel) (by omega) (by omega)
                have f46 : ((y7_2 * 7) + y13_3).toInt = (y7_2 * 7).toInt + y13_3.toInt := z_add (by omega) (by omega)
                refine pw_nne hn1 ?_
                refine pw_if (fun hb75 => ?_)
                obtain ⟨hbl75, hbr75⟩ := hb75
                refine pw_if (fun hb79 => ?_)
                obtain ⟨hbl79, hbr79⟩ := hb79
                refine pw_vl (fun m79 em79 => ?_)
                have hfr49 : ∀ z, ((la z < la this ∨ la this < la z)) → m79 z = (V 8) z := fr_up (e0 := (V 8)) hfr28 em79 (show ¬ ((la le < la this ∨ la this < la le)) from by omega)
                have f50 : (y13_3 + 1).toInt = y13_3.toInt + (1) := z_addc (by decide +kernel) (by omega) (by omega)
                have iv13_0 : (0 ≤ (y13_3 + 1).toInt ∧ (y13_3 + 1).toInt ≤ 7) := by omega
                have iv13_1 : (y13_3 + 1).toInt ≤ ((G 45) this).toInt := by omega
                have iv13_2 : (SMT (m79 le) C (Int32.toNatClampNeg ((G 45) this) - 1) p0 (Int32.toNatClampNeg ((G 44) this)) ((y7_2.toInt + 1).toNat)) := by have k3 := clampI (x := y13_3) (by omega); have ki := clampI (x := (y7_2 * 7) + y13_3) (by omega); intro i s h1 h2 h3; rw [em79, va_up_self, pk_un (by omega)]; exact ik13 i s h1 h2 h3
                have iv13_3 : (∀ s, s < Int32.toNatClampNeg (y13_3 + 1) → m79 le (7 * Int32.toNatClampNeg y7_2 + s) = smK C (Int32.toNatClampNeg ((G 45) this) - 1) p0 (Int32.toNatClampNeg ((G 44) this)) ((Int32.toNatClampNeg ((G 44) this)) - Int32.toNatClampNeg y7_2) s) := by have k3 := clampI (x := y13_3) (by omega); have k8 := clampI (x := y13_3 + 1) (by omega); have ki := clampI (x := (y7_2 * 7) + y13_3) (by omega); intro s hs; by_cases q9 : s = Int32.toNatClampNeg y13_3; (rw [q9, show 7 * Int32.toNatClampNeg y7_2 + Int32.toNatClampNeg y13_3 = Int32.toNatClampNeg ((y7_2 * 7) + y13_3) by omega, em79, va_up_self, pk_us, sm_un (by omega), if_pos (by omega), et53_0, hrest, show Int32.toNatClampNeg ((y7_2 * 7) + y13_3) = 7 * Int32.toNatClampNeg y7_2 + Int32.toNatClampNeg y13_3 by omega, hC _ _ (by omega) (by omega)]); (rw [em79, va_up_self, pk_un (by omega)]; exact ir13 s (by omega))
                exact ih13 (y13_3 + 1) m79 hfr49 iv13_0 iv13_1 iv13_2 iv13_3
        exact lp13 NN (0 : Int32) d7_V8 hfr10 (show (0 ≤ (0 : Int32).toInt ∧ (0 : Int32).toInt ≤ 7) from by omega) (show (0 : Int32).toInt ≤ ((G 45) this).toInt from by omega) (show (SMT (d7_V8 le) C (Int32.toNatClampNeg ((G 45) this) - 1) p0 (Int32.toNatClampNeg ((G 44) this)) ((y7_2.toInt + 1).toNat)) from by exact is7) (show (∀ s, s < Int32.toNatClampNeg (0 : Int32) → d7_V8 le (7 * Int32.toNatClampNeg y7_2 + s) = smK C (Int32.toNatClampNeg ((G 45) this) - 1) p0 (Int32.toNatClampNeg ((G 44) this)) ((Int32.toNatClampNeg ((G 44) this)) - Int32.toNatClampNeg y7_2) s) from by intro s hs; exact absurd hs (Nat.not_lt_zero _))
  exact lp7 NN x6 (V 8) (fun _ _ => rfl) (show ((-1) ≤ x6.toInt ∧ x6.toInt < 40) from by omega) (show x6.toInt < ((G 44) this).toInt from by omega) (show (SMT ((V 8) le) C (Int32.toNatClampNeg ((G 45) this) - 1) p0 (Int32.toNatClampNeg ((G 44) this)) ((x6.toInt + 1).toNat)) from by intro i s h1 h2; exfalso; omega)
abbrev QF_X2_stageOf (κ : Nat → Nat) (wd : Nat) (la : Nat → Nat) (G : Nat → Nat → Int32) (P : Nat → Nat → Option Nat) (U : Nat → Nat → Int64) (V : Nat → Nat → Nat → Int32) (X : Nat → Nat → Nat → Int64) (O : Nat → Nat → Nat → Option Nat) (kd : Nat → Nat) (ln : Nat → Nat) (cnt : Nat) (this : Nat) (p0 : Int32) (to : Nat) : (Int32) → Prop := (fun t => (((0 ≤ p0.toInt ∧ p0.toInt < ((G 43) this).toInt) → t = ((V 9) to) (Int32.toNatClampNeg p0))) ∧ ((¬ (0 ≤ p0.toInt ∧ p0.toInt < ((G 43) this).toInt) → t.toInt = -1)))
set_option maxHeartbeats 4000000 in
set_option maxRecDepth 100000 in
theorem fn_X2_stageOf (κ : Nat → Nat) (wd : Nat) (la : Nat → Nat) (G : Nat → Nat → Int32) (P : Nat → Nat → Option Nat) (U : Nat → Nat → Int64) (V : Nat → Nat → Nat → Int32) (X : Nat → Nat → Nat → Int64) (O : Nat → Nat → Nat → Option Nat) (kd : Nat → Nat) (ln : Nat → Nat) (cnt : Nat) (this : Nat) (p0 : Int32) (to : Nat) (hzG43 : rng (0) 40 (G 43)) (hzP42 : PB κ ln wd 3 109 40 40 0 (P 42)) (hzV9 : rng2 (0) 6 (V 9)) (hzLN : LN κ ln) (hk_this : κ this = 3) (hB : LB la cnt P) (hlt_this : this < cnt) (h42 : (P 42) this = some to) : pw (f_X2_stageOf G P U V X O kd ln cnt this p0) (QF_X2_stageOf κ wd la G P U V X O kd ln cnt this p0 to) := by
  unfold f_X2_stageOf
  have zkm1 : (-1 : Int32).toInt = -1 := by decide +kernel
  have zk0 : (0 : Int32).toInt = 0 := by decide +kernel
  have r_p0 := i32r p0
  have hn1 : (P 42) this = some to := h42
  have lt_to2 := ((hB.1 42 fl_42) this to hn1).2.1
  have lb_to2 : la to = la this + 0 := lk_42.mp ((hB.1 42 fl_42) this to hn1).2.2
  have hk_to := ((hzP42 this).2 to hn1).1
  have hl1_to := ((hzP42 this).2 to hn1).2.1
  have hl2_to := ((hzP42 this).2 to hn1).2.2.1
  have hw_to := ((hzP42 this).2 to hn1).2.2.2
  have hz_to : (Int32.ofNat (ln to)).toInt = ((ln to : Nat) : Int) := ofN_eq (by first | exact Nat.le_trans hl2_to (by decide) | omega)
  refine pw_jE (fun j22 ej22 => ?_)
  refine pw_jE (fun j12 ej12 => ?_)
  refine pw_ite (fun c1 => ?_) (fun c1 => ?_)
  · have c1 := (z_lt _ _).mp c1
    refine pw_j0 ej12 ?_
    refine pw_j1 ej22 (fun t22_0 et22_0 => ?_)
    have et22_0 := et22_0.symm
    have f_t22_0 : t22_0.toInt = (-1) := by rw [et22_0]; decide +kernel
    have qq0 : ((0 ≤ p0.toInt ∧ p0.toInt < ((G 43) this).toInt) → t22_0 = ((V 9) to) (Int32.toNatClampNeg p0)) := by intro h; exfalso; omega
    have qq1 : (¬ (0 ≤ p0.toInt ∧ p0.toInt < ((G 43) this).toInt) → t22_0.toInt = -1) := by intro _; omega
    exact pw_some ⟨qq0, qq1⟩
  · have c1 := z_nlt c1
    have b3 := hzG43 this
    refine pw_ite (fun c9 => ?_) (fun c9 => ?_)
    · have c9 := (z_lt _ _).mp c9
      refine pw_nne hn1 ?_
      refine pw_if (fun hb21 => ?_)
      obtain ⟨hbl21, hbr21⟩ := hb21
      have b4 := hzV9 to (Int32.toNatClampNeg p0)
      refine pw_j1 ej22 (fun t22_0 et22_0 => ?_)
      have et22_0 := et22_0.symm
      have f_t22_0 : t22_0.toInt = (((V 9) to) (Int32.toNatClampNeg p0)).toInt := by rw [et22_0]
      have qq0 : ((0 ≤ p0.toInt ∧ p0.toInt < ((G 43) this).toInt) → t22_0 = ((V 9) to) (Int32.toNatClampNeg p0)) := by intro _; first | rfl | assumption
      have qq1 : (¬ (0 ≤ p0.toInt ∧ p0.toInt < ((G 43) this).toInt) → t22_0.toInt = -1) := by intro h; exfalso; omega
      exact pw_some ⟨qq0, qq1⟩
    · have c9 := z_nlt c9
      refine pw_j0 ej12 ?_
      refine pw_j1 ej22 (fun t22_0 et22_0 => ?_)
      have et22_0 := et22_0.symm
      have f_t22_0 : t22_0.toInt = (-1) := by rw [et22_0]; decide +kernel
      have qq0 : ((0 ≤ p0.toInt ∧ p0.toInt < ((G 43) this).toInt) → t22_0 = ((V 9) to) (Int32.toNatClampNeg p0)) := by intro h; exfalso; omega
      have qq1 : (¬ (0 ≤ p0.toInt ∧ p0.toInt < ((G 43) this).toInt) → t22_0.toInt = -1) := by intro _; omega
      exact pw_some ⟨qq0, qq1⟩
abbrev QF_X11_line (κ : Nat → Nat) (wd : Nat) (la : Nat → Nat) (G : Nat → Nat → Int32) (P : Nat → Nat → Option Nat) (U : Nat → Nat → Int64) (V : Nat → Nat → Nat → Int32) (X : Nat → Nat → Nat → Int64) (O : Nat → Nat → Nat → Option Nat) (kd : Nat → Nat) (ln : Nat → Nat) (cnt : Nat) (this : Nat) (p0 : Int32) (mi : Nat) (to : Nat) : (Int32) → Prop := (fun t => (((0 ≤ p0.toInt ∧ p0.toInt < ((G 43) mi).toInt) → t = ((V 9) to) (Int32.toNatClampNeg p0))) ∧ ((¬ (0 ≤ p0.toInt ∧ p0.toInt < ((G 43) mi).toInt) → t.toInt = -1)))
set_option maxHeartbeats 4000000 in
set_option maxRecDepth 100000 in
theorem fn_X11_line (κ : Nat → Nat) (wd : Nat) (la : Nat → Nat) (G : Nat → Nat → Int32) (P : Nat → Nat → Option Nat) (U : Nat → Nat → Int64) (V : Nat → Nat → Nat → Int32) (X : Nat → Nat → Nat → Int64) (O : Nat → Nat → Nat → Option Nat) (kd : Nat → Nat) (ln : Nat → Nat) (cnt : Nat) (this : Nat) (p0 : Int32) (mi : Nat) (to : Nat) (hzG43 : rng (0) 40 (G 43)) (hzP42 : PB κ ln wd 3 109 40 40 0 (P 42)) (hzP236 : PB κ ln wd 12 3 0 2500 0 (P 236)) (hzV9 : rng2 (0) 6 (V 9)) (hzLN : LN κ ln) (hk_this : κ this = 12) (hB : LB la cnt P) (hlt_this : this < cnt) (h236 : (P 236) this = some mi) (h42 : (P 42) mi = some to) : pw (f_X11_line G P U V X O kd ln cnt this p0) (QF_X11_line κ wd la G P U V X O kd ln cnt this p0 mi to) := by
  unfold f_X11_line
  have r_p0 := i32r p0
  have hn1 : (P 236) this = some mi := h236
  have lt_mi2 := ((hB.1 236 fl_236) this mi hn1).2.1
  have lb_mi2 : la mi = 330 := lk_236.mp ((hB.1 236 fl_236) this mi hn1).2.2
  have hk_mi := ((hzP236 this).2 mi hn1).1
  have hl1_mi := ((hzP236 this).2 mi hn1).2.1
  have hl2_mi := ((hzP236 this).2 mi hn1).2.2.1
  have hw_mi := ((hzP236 this).2 mi hn1).2.2.2
  have hn3 : (P 42) mi = some to := h42
  have lt_to4 := ((hB.1 42 fl_42) mi to hn3).2.1
  have lb_to4 : la to = la mi + 0 := lk_42.mp ((hB.1 42 fl_42) mi to hn3).2.2
  have hk_to := ((hzP42 mi).2 to hn3).1
  have hl1_to := ((hzP42 mi).2 to hn3).2.1
  have hl2_to := ((hzP42 mi).2 to hn3).2.2.1
  have hw_to := ((hzP42 mi).2 to hn3).2.2.2
  have hz_to : (Int32.ofNat (ln to)).toInt = ((ln to : Nat) : Int) := ofN_eq (by first | exact Nat.le_trans hl2_to (by decide) | omega)
  refine pw_nne hn1 ?_
  refine pw_b1 (fun r5 hc5 => ?_)
  have h85_h42 : (P 42) mi = some to := by exact h42
  have hx5 := pwq (fn_X2_stageOf κ wd la G P U V X O kd ln cnt mi p0 (to) hzG43 hzP42 hzV9 hzLN hk_mi hB lt_mi2 h85_h42) hc5
  obtain ⟨p5_0, p5_1⟩ : (((0 ≤ p0.toInt ∧ p0.toInt < ((G 43) mi).toInt) → r5 = ((V 9) to) (Int32.toNatClampNeg p0))) ∧ ((¬ (0 ≤ p0.toInt ∧ p0.toInt < ((G 43) mi).toInt) → r5.toInt = -1)) := hx5
  have qq0 : ((0 ≤ p0.toInt ∧ p0.toInt < ((G 43) mi).toInt) → r5 = ((V 9) to) (Int32.toNatClampNeg p0)) := by exact p5_0
  have qq1 : (¬ (0 ≤ p0.toInt ∧ p0.toInt < ((G 43) mi).toInt) → r5.toInt = -1) := by exact p5_1
  exact pw_some ⟨qq0, qq1⟩
