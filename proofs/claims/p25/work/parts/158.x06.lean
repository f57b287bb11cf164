abbrev QF_X3_note (κ : Nat → Nat) (wd : Nat) (la : Nat → Nat) (G : Nat → Nat → Int32) (P : Nat → Nat → Option Nat) (U : Nat → Nat → Int64) (V : Nat → Nat → Nat → Int32) (X : Nat → Nat → Nat → Int64) (O : Nat → Nat → Nat → Option Nat) (kd : Nat → Nat) (ln : Nat → Nat) (cnt : Nat) (this : Nat) (p0 : Int32) (pa : Nat) (pk : Nat) (sz : Nat) (Pd : Wd → Int32 → Prop) (R : List (List Wd)) (L : List Wd) : ((Nat → Int32) × (Nat → Nat → Int32) × (Nat → Nat → Int32)) → Prop := (fun t => (RWS Pd ((t.1) this).toInt ((t.2.2) sz) ((t.2.1) pk) (R ++ [L])) ∧ ((∀ z, z ≠ pk → (t.2.1) z = (V 0) z)))
set_option maxHeartbeats 4000000 in
set_option maxRecDepth 100000 in
theorem fn_X3_note (κ : Nat → Nat) (wd : Nat) (la : Nat → Nat) (G : Nat → Nat → Int32) (P : Nat → Nat → Option Nat) (U : Nat → Nat → Int64) (V : Nat → Nat → Nat → Int32) (X : Nat → Nat → Nat → Int64) (O : Nat → Nat → Nat → Option Nat) (kd : Nat → Nat) (ln : Nat → Nat) (cnt : Nat) (this : Nat) (p0 : Int32) (pa : Nat) (pk : Nat) (sz : Nat) (Pd : Wd → Int32 → Prop) (R : List (List Wd)) (L : List Wd) (hzG60 : rng (0) 30 (G 60)) (hzP61 : PB κ ln wd 4 102 30 30 0 (P 61)) (hzP62 : PB κ ln wd 4 100 720 720 0 (P 62)) (hzP65 : PB κ ln wd 4 100 24 24 0 (P 65)) (hzV2 : rng2 (0) 24 (V 2)) (hzLN : LN κ ln) (hk_this : κ this = 4) (hp0 : (0 ≤ p0.toInt ∧ p0.toInt ≤ 24)) (hp1 : ((G 60) this).toInt < 30) (hB : LB la cnt P) (hlt_this : this < cnt) (hpa : (P 65) this = some pa) (hpk : (P 62) this = some pk) (hsz : (P 61) this = some sz) (hR : RWS Pd ((G 60) this).toInt ((V 2) sz) ((V 0) pk) R) (hL : PTH Pd p0.toInt ((V 0) pa) L) : pw (f_X3_note G P U V X O kd ln cnt this p0) (QF_X3_note κ wd la G P U V X O kd ln cnt this p0 pa pk sz Pd R L) := by
  unfold f_X3_note
  have zk0 : (0 : Int32).toInt = 0 := by decide +kernel
  have zk1 : (1 : Int32).toInt = 1 := by decide +kernel
  have zk24 : (24 : Int32).toInt = 24 := by decide +kernel
  have r_p0 := i32r p0
  have hn1 : (P 65) this = some pa := hpa
  have lt_pa2 := ((hB.1 65 fl_65) this pa hn1).2.1
  have lb_pa2 : la pa = la this + 2 := lk_65.mp ((hB.1 65 fl_65) this pa hn1).2.2
  have hk_pa := ((hzP65 this).2 pa hn1).1
  have hl1_pa := ((hzP65 this).2 pa hn1).2.1
  have hl2_pa := ((hzP65 this).2 pa hn1).2.2.1
  have hw_pa := ((hzP65 this).2 pa hn1).2.2.2
  have hz_pa : (Int32.ofNat (ln pa)).toInt = ((ln pa : Nat) : Int) := ofN_eq (by first | exact Nat.le_trans hl2_pa (by decide) | omega)
  have hn3 : (P 62) this = some pk := hpk
  have lt_pk4 := ((hB.1 62 fl_62) this pk hn3).2.1
  have lb_pk4 : la pk = la this + 0 := lk_62.mp ((hB.1 62 fl_62) this pk hn3).2.2
  have hk_pk := ((hzP62 this).2 pk hn3).1
  have hl1_pk := ((hzP62 this).2 pk hn3).2.1
  have hl2_pk := ((hzP62 this).2 pk hn3).2.2.1
  have hw_pk := ((hzP62 this).2 pk hn3).2.2.2
  have hz_pk : (Int32.ofNat (ln pk)).toInt = ((ln pk : Nat) : Int) := ofN_eq (by first | exact Nat.le_trans hl2_pk (by decide) | omega)
  have hn5 : (P 61) this = some sz := hsz
  have lt_sz6 := ((hB.1 61 fl_61) this sz hn5).2.1
  have lb_sz6 : la sz = la this + 0 := lk_61.mp ((hB.1 61 fl_61) this sz hn5).2.2
  have hk_sz := ((hzP61 this).2 sz hn5).1
  have hl1_sz := ((hzP61 this).2 sz hn5).2.1
  have hl2_sz := ((hzP61 this).2 sz hn5).2.2.1
  have hw_sz := ((hzP61 this).2 sz hn5).2.2.2
  have hz_sz : (Int32.ofNat (ln sz)).toInt = ((ln sz : Nat) : Int) := ofN_eq (by first | exact Nat.le_trans hl2_sz (by decide) | omega)
  obtain ⟨hr1, hr2⟩ := hR.1
  have hp1 := hL.1
  have hb6 := hzG60 this
  have c6 := clampI (x := (G 60) this) (by omega)
  have cp := clampI (x := p0) (by omega)
  refine pw_nne hn1 ?_
  refine pw_nne hn3 ?_
  have b7 := hzG60 this
  have f8 : (((G 60) this) * 24).toInt = ((G 60) this).toInt * 24 := z_mulc (by decide +kernel) (by omega) (by omega)
  refine pw_if (fun hb17 => ?_)
  obtain ⟨hb17_1, hb17_2, hb17_3, hb17_4, hb17_5⟩ := hb17
  refine pw_vl (fun m17 em17 => ?_)
  have hfr9 : ∀ z, ((la z < la this ∨ la this + 2 < la z)) → m17 z = (V 0) z := fr_up (e0 := (V 0)) (fun _ _ => rfl) em17 (show ¬ ((la pk < la this ∨ la this + 2 < la pk)) from by omega)
  refine pw_nne hn5 ?_
  refine pw_if (fun hb29 => ?_)
  obtain ⟨hbl29, hbr29⟩ := hb29
  refine pw_vl (fun m29 em29 => ?_)
  have hfr11 : ∀ z, ((la z < la this ∨ la this + 2 < la z)) → m29 z = (V 2) z := fr_up (e0 := (V 2)) (fun _ _ => rfl) em29 (show ¬ ((la sz < la this ∨ la this + 2 < la sz)) from by omega)
  have hv12 : rng2 (0) 24 m29 := by rw [em29]; exact rng2_up hzV2 (by omega) (by omega)
  have f14 : (((G 60) this) + 1).toInt = ((G 60) this).toInt + 1 := z_addc (by decide +kernel) (by omega) (by omega)
  refine pw_vl (fun x37 ex37 => ?_)
  have f15 : x37.toInt = (((G 60) this) + 1).toInt := congrArg Int32.toInt ex37
  refine pw_vl (fun m37 em37 => ?_)
  have hfr16 : ∀ z, ((la z < la this ∨ la this + 2 < la z)) → m37 z = (G 60) z := fr_up (e0 := (G 60)) (fun _ _ => rfl) em37 (show ¬ ((la this < la this ∨ la this + 2 < la this)) from by omega)
  have hg17 : rng (0) 30 m37 := by rw [em37]; exact rng_vup hzG60 (by omega) (by omega)
  have sm37 : (m37 this).toInt = x37.toInt := by rw [em37, va_up_self]
  have b18 := hg17 this
  have qq0 : RWS Pd (m37 this).toInt (m29 sz) (m17 pk) (R ++ [L]) := by have ci := clampI (x := ((G 60) this) * 24) (by omega); refine RWS_add hR hL (by omega) (by omega) (c := Int32.toNatClampNeg ((G 60) this)) (by omega) rfl (by rw [em29, va_up_self]) ?_ ?_ (by omega); (intro q hq; rw [em17, va_up_self, pk_cpy_out (by omega)]); (intro i hi; rw [em17, va_up_self, pk_cpy_in (by omega) (by omega)]; exact congrArg ((V 0) pa) (by rw [show Int32.toNatClampNeg (0 : Int32) = 0 from rfl]; omega))
  have qq1 : (∀ z, z ≠ pk → m17 z = (V 0) z) := by intro z hz; rw [em17, va_up_ne _ _ hz]
  exact pw_some ⟨qq0, qq1⟩
abbrev QF_X3_walk (κ : Nat → Nat) (wd : Nat) (la : Nat → Nat) (G : Nat → Nat → Int32) (P : Nat → Nat → Option Nat) (U : Nat → Nat → Int64) (V : Nat → Nat → Nat → Int32) (X : Nat → Nat → Nat → Int64) (O : Nat → Nat → Nat → Option Nat) (kd : Nat → Nat) (ln : Nat → Nat) (cnt : Nat) (this : Nat) (p0 : Int32) (p1 : Int32) (p2 : Int32) (fi : Nat) (pa : Nat) (pk : Nat) (sz : Nat) (ps : List Wd) (W : Wd) (R : List (List Wd)) (L : List Wd) : ((Nat → Int32) × (Nat → Nat → Int32) × (Nat → Nat → Int32)) → Prop := (fun t => (RWS (idxP ps) ((t.1) this).toInt ((t.2.2) sz) ((t.2.1) pk) (AP R L (wy ps W (Int32.toNatClampNeg p0)))) ∧ ((∀ i : Nat, (i : Int) < p2.toInt → (t.2.1) pa i = (V 0) pa i)) ∧ (((t.2.1) fi = (V 0) fi)))
set_option maxHeartbeats 4000000 in
set_option maxRecDepth 100000 in
theorem fn_X3_walk (dn : Nat) : ∀ (κ : Nat → Nat) (wd : Nat) (la : Nat → Nat) (G : Nat → Nat → Int32) (P : Nat → Nat → Option Nat) (U : Nat → Nat → Int64) (V : Nat → Nat → Nat → Int32) (X : Nat → Nat → Nat → Int64) (O : Nat → Nat → Nat → Option Nat) (kd : Nat → Nat) (ln : Nat → Nat) (cnt : Nat) (this : Nat) (p0 : Int32) (p1 : Int32) (p2 : Int32) (fi : Nat) (pa : Nat) (pk : Nat) (sz : Nat) (ps : List Wd) (W : Wd) (R : List (List Wd)) (L : List Wd) (hzG60 : rng (0) 30 (G 60)) (hzP61 : PB κ ln wd 4 102 30 30 0 (P 61)) (hzP62 : PB κ ln wd 4 100 720 720 0 (P 62)) (hzP63 : PB κ ln wd 4 100 408 408 0 (P 63)) (hzP65 : PB κ ln wd 4 100 24 24 0 (P 65)) (hzV2 : rng2 (0) 24 (V 2)) (hzLN : LN κ ln) (hk_this : κ this = 4) (hp0 : (p1.toInt - p0.toInt) < dn) (hp1 : (0 ≤ p0.toInt ∧ p0.toInt ≤ p1.toInt ∧ p1.toInt ≤ 24)) (hp2 : (0 ≤ p2.toInt ∧ p2.toInt ≤ 24)) (hB : LB la cnt P) (hlt_this : this < cnt) (hfi : (P 63) this = some fi) (hpa : (P 65) this = some pa) (hpk : (P 62) this = some pk) (hsz : (P 61) this = some sz) (hR : RWS (idxP ps) ((G 60) this).toInt ((V 2) sz) ((V 0) pk) R) (hL : PTH (idxP ps) p2.toInt ((V 0) pa) L) (hft : ∀ a, a < W.length → FIT ps W a ((V 0) fi)) (hWl : p1.toInt = ((W.length : Nat) : Int)) (hdp : p2.toInt ≤ p0.toInt) (h40 : ps.length ≤ 100), pw (f_X3_walk dn G P U V X O kd ln cnt this p0 p1 p2) (QF_X3_walk κ wd la G P U V X O kd ln cnt this p0 p1 p2 fi pa pk sz ps W R L) := by
  induction dn with
  | zero => intros; exact pw_none
  | succ dn ihd =>
  intro κ wd la G P U V X O kd ln cnt this p0 p1 p2 fi pa pk sz ps W R L hzG60 hzP61 hzP62 hzP63 hzP65 hzV2 hzLN hk_this hp0 hp1 hp2 hB hlt_this hfi hpa hpk hsz hR hL hft hWl hdp h40
  show pw (F_X3_walk (f_X3_walk dn) G P U V X O kd ln cnt this p0 p1 p2) _
  unfold F_X3_walk
  have zkm1 : (-1 : Int32).toInt = -1 := by decide +kernel
  have zk1 : (1 : Int32).toInt = 1 := by decide +kernel
  have zk17 : (17 : Int32).toInt = 17 := by decide +kernel
  have zk24 : (24 : Int32).toInt = 24 := by decide +kernel
  have zk30 : (30 : Int32).toInt = 30 := by decide +kernel
  have r_p0 := i32r p0
  have r_p1 := i32r p1
  have r_p2 := i32r p2
  have hn1 : (P 63) this = some fi := hfi
  have lt_fi2 := ((hB.1 63 fl_63) this fi hn1).2.1
  have lb_fi2 : la fi = la this + 1 := lk_63.mp ((hB.1 63 fl_63) this fi hn1).2.2
  have hk_fi := ((hzP63 this).2 fi hn1).1
  have hl1_fi := ((hzP63 this).2 fi hn1).2.1
  have hl2_fi := ((hzP63 this).2 fi hn1).2.2.1
  have hw_fi := ((hzP63 this).2 fi hn1).2.2.2
  have hz_fi : (Int32.ofNat (ln fi)).toInt = ((ln fi : Nat) : Int) := ofN_eq (by first | exact Nat.le_trans hl2_fi (by decide) | omega)
  have hn3 : (P 65) this = some pa := hpa
  have lt_pa4 := ((hB.1 65 fl_65) this pa hn3).2.1
  have lb_pa4 : la pa = la this + 2 := lk_65.mp ((hB.1 65 fl_65) this pa hn3).2.2
  have hk_pa := ((hzP65 this).2 pa hn3).1
  have hl1_pa := ((hzP65 this).2 pa hn3).2.1
  have hl2_pa := ((hzP65 this).2 pa hn3).2.2.1
  have hw_pa := ((hzP65 this).2 pa hn3).2.2.2
  have hz_pa : (Int32.ofNat (ln pa)).toInt = ((ln pa : Nat) : Int) := ofN_eq (by first | exact Nat.le_trans hl2_pa (by decide) | omega)
  have hn5 : (P 62) this = some pk := hpk
  have lt_pk6 := ((hB.1 62 fl_62) this pk hn5).2.1
  have lb_pk6 : la pk = la this + 0 := lk_62.mp ((hB.1 62 fl_62) this pk hn5).2.2
  have hk_pk := ((hzP62 this).2 pk hn5).1
  have hl1_pk := ((hzP62 this).2 pk hn5).2.1
  have hl2_pk := ((hzP62 this).2 pk hn5).2.2.1
  have hw_pk := ((hzP62 this).2 pk hn5).2.2.2
  have hz_pk : (Int32.ofNat (ln pk)).toInt = ((ln pk : Nat) : Int) := ofN_eq (by first | exact Nat.le_trans hl2_pk (by decide) | omega)
  have hn7 : (P 61) this = some sz := hsz
  have lt_sz8 := ((hB.1 61 fl_61) this sz hn7).2.1
  have lb_sz8 : la sz = la this + 0 := lk_61.mp ((hB.1 61 fl_61) this sz hn7).2.2
  have hk_sz := ((hzP61 this).2 sz hn7).1
  have hl1_sz := ((hzP61 this).2 sz hn7).2.1
  have hl2_sz := ((hzP61 this).2 sz hn7).2.2.1
  have hw_sz := ((hzP61 this).2 sz hn7).2.2.2
  have hz_sz : (Int32.ofNat (ln sz)).toInt = ((ln sz : Nat) : Int) := ofN_eq (by first | exact Nat.le_trans hl2_sz (by decide) | omega)
  obtain ⟨hr1, hr2⟩ := hR.1
  have hp1 := hL.1
  have cp0 := clampI (x := p0) (by omega)
  have cp2 := clampI (x := p2) (by omega)
  have n1 : pa ≠ pk := fun q => by have q9 := congrArg la q; omega
  have n2 : fi ≠ pk := fun q => by have q9 := congrArg la q; omega
  have n3 : fi ≠ pa := fun q => by have q9 := congrArg la q; omega
  have n4 : pk ≠ pa := fun q => by have q9 := congrArg la q; omega
  have b9 := hzG60 this
  refine pw_ite (fun c6 => ?_) (fun c6 => ?_)
  · have c6 := (z_lt _ _).mp c6
    refine pw_ite (fun c12 => ?_) (fun c12 => ?_)
    · have c12 := (z_lt _ _).mp c12
      refine pw_jE (fun k91 ek91 => ?_)
      have lp24 : ∀ (n24 : Nat) (y24_4 : Int32) (d24_G60 : Nat → Int32) (d24_V0 : Nat → Nat → Int32) (d24_V2 : Nat → Nat → Int32), rng (0) 30 d24_G60 → rng2 (0) 24 d24_V2 → (∀ z, ((la z < la this ∨ la this + 2 < la z)) → d24_G60 z = (G 60) z) → (∀ z, ((la z < la this ∨ la this + 2 < la z)) → d24_V0 z = (V 0) z) → (∀ z, ((la z < la this ∨ la this + 2 < la z)) → d24_V2 z = (V 2) z) → (1 ≤ y24_4.toInt ∧ y24_4.toInt ≤ 17) → (RWS (idxP ps) (d24_G60 this).toInt (d24_V2 sz) (d24_V0 pk) (AP R L (wpre ps W (Int32.toNatClampNeg p0) (Int32.toNatClampNeg y24_4 - 1)))) → (∀ i : Nat, (i : Int) < p2.toInt → d24_V0 pa i = (V 0) pa i) → (d24_V0 fi = (V 0) fi) → pw (L_X3_walk_24 (f_X3_walk dn) G P U V X O kd ln cnt this p0 p1 p2 k91 n24 y24_4 d24_G60 d24_V0 d24_V2) (QF_X3_walk κ wd la G P U V X O kd ln cnt this p0 p1 p2 fi pa pk sz ps W R L) := by
        intro n24
        induction n24 with
        | zero => intros; exact pw_none
        | succ n24 ih24 =>
          intro y24_4 d24_G60 d24_V0 d24_V2 hg10 hg11 hfr12 hfr13 hfr14 f15 ir24 ip24 if24
          show pw (B_X3_walk_24 (f_X3_walk dn) G P U V X O kd ln cnt this p0 p1 p2 k91 (L_X3_walk_24 (f_X3_walk dn) G P U V X O kd ln cnt this p0 p1 p2 k91 n24) y24_4 d24_G60 d24_V0 d24_V2) _
          unfold B_X3_walk_24
          refine pw_ite (fun c28 => ?_) (fun c28 => ?_)
          · have c28 := (z_le _ _).mp c28
            refine pw_j3 ek91 (fun z91_0 ez91_0 z91_1 ez91_1 z91_2 ez91_2 => ?_)
            subst ez91_0 ez91_1 ez91_2
            have qq0 : RWS (idxP ps) (d24_G60 this).toInt (d24_V2 sz) (d24_V0 pk) (AP R L (wy ps W (Int32.toNatClampNeg p0))) := by have k4 := clampI (x := y24_4) (by omega); have h9 := ir24; rw [show Int32.toNatClampNeg y24_4 - 1 = 16 by omega, wpre_16 (by omega)] at h9; exact h9
            have qq1 : (∀ i : Nat, (i : Int) < p2.toInt → d24_V0 pa i = (V 0) pa i) := by exact ip24
            have qq2 : (d24_V0 fi = (V 0) fi) := by exact if24
            exact pw_some ⟨qq0, qq1, qq2⟩
          · have c28 := z_nle c28
            have f16 : (p0 + y24_4).toInt = p0.toInt + y24_4.toInt := z_add (by omega) (by omega)
            refine pw_ite (fun c36 => ?_) (fun c36 => ?_)
            · have c36 := (z_lt _ _).mp c36
              refine pw_j3 ek91 (fun z91_0 ez91_0 z91_1 ez91_1 z91_2 ez91_2 => ?_)
              subst ez91_0 ez91_1 ez91_2
              have qq0 : RWS (idxP ps) (d24_G60 this).toInt (d24_V2 sz) (d24_V0 pk) (AP R L (wy ps W (Int32.toNatClampNeg p0))) := by have k4 := clampI (x := y24_4) (by omega); have h9 := ir24; rw [wpre_all (by omega) (by omega) (by omega)] at h9; exact h9
              have qq1 : (∀ i : Nat, (i : Int) < p2.toInt → d24_V0 pa i = (V 0) pa i) := by exact ip24
              have qq2 : (d24_V0 fi = (V 0) fi) := by exact if24
              exact pw_some ⟨qq0, qq1, qq2⟩
            · have c36 := z_nlt c36
              refine pw_ite (fun c42 => ?_) (fun c42 => ?_)
              · have c42 := (z_le _ _).mp c42
                exfalso; omega
              · have c42 := z_nle c42
                have k4 := clampI (x := y24_4) (by omega)
                refine pw_nne hn1 ?_
                have f17 : (p0 * 17).toInt = p0.toInt * 17 := z_mulc (by decide +kernel) (by omega) (by omega)
                have f18 : ((p0 * 17) + y24_4).toInt = (p0 * 17).toInt + y24_4.toInt := z_add (by omega) (by omega)
                refine pw_if (fun hb56 => ?_)
                obtain ⟨hbl56, hbr56⟩ := hb56
                have ki := clampI (x := (p0 * 17) + y24_4) (by omega)
                have hfit := hft (Int32.toNatClampNeg p0) (by omega) (Int32.toNatClampNeg y24_4 - 1) (by omega)
                rw [← if24, show 17 * Int32.toNatClampNeg p0 + (Int32.toNatClampNeg y24_4 - 1 + 1) = Int32.toNatClampNeg ((p0 * 17) + y24_4) by omega] at hfit
                refine pw_vl (fun x57 ex57 => ?_)
                have f19 : x57.toInt = ((d24_V0 fi) (Int32.toNatClampNeg ((p0 * 17) + y24_4))).toInt := congrArg Int32.toInt ex57
                refine pw_jE (fun j85 ej85 => ?_)
                refine pw_ite (fun c62 => ?_) (fun c62 => ?_)
                · have c62 := congrArg Int32.toInt c62
                  refine pw_j3 ej85 (fun z85_0 ez85_0 z85_1 ez85_1 z85_2 ez85_2 => ?_)
                  subst ez85_0 ez85_1 ez85_2
                  have f20 : (y24_4 + 1).toInt = y24_4.toInt + (1) := z_addc (by decide +kernel) (by omega) (by omega)
                  have iv24_0 : (1 ≤ (y24_4 + 1).toInt ∧ (y24_4 + 1).toInt ≤ 17) := by omega
                  have iv24_1 : (RWS (idxP ps) (d24_G60 this).toInt (d24_V2 sz) (d24_V0 pk) (AP R L (wpre ps W (Int32.toNatClampNeg p0) (Int32.toNatClampNeg (y24_4 + 1) - 1)))) := by have k6 := clampI (x := y24_4 + 1) (by omega); rw [show Int32.toNatClampNeg (y24_4 + 1) - 1 = (Int32.toNatClampNeg y24_4 - 1) + 1 by omega, wpre_s]; rcases hfit with ⟨w1, w2⟩ | ⟨w1, w2, kk, w3, w4⟩; (rw [w1, List.append_nil]; exact ir24); (exfalso; omega)
                  have iv24_2 : (∀ i : Nat, (i : Int) < p2.toInt → d24_V0 pa i = (V 0) pa i) := by exact ip24
                  have iv24_3 : (d24_V0 fi = (V 0) fi) := by exact if24
                  exact ih24 (y24_4 + 1) d24_G60 d24_V0 d24_V2 hg10 hg11 hfr12 hfr13 hfr14 iv24_0 iv24_1 iv24_2 iv24_3
                · have c62 := z_ne c62
                  obtain ⟨w1, w2, kk, w3, w4⟩ := hfit.resolve_left (fun q => by have q9 := q.2; omega)
                  have hkk := get_lt w4
                  have kc := clampI (x := p0 + y24_4) (by omega)
                  refine pw_nne hn3 ?_
                  refine pw_if (fun hb72 => ?_)
                  obtain ⟨hbl72, hbr72⟩ := hb72
                  refine pw_vl (fun m72 em72 => ?_)
                  have hfr21 : ∀ z, ((la z < la this ∨ la this + 2 < la z)) → m72 z = (V 0) z := fr_up (e0 := (V 0)) hfr13 em72 (show ¬ ((la pa < la this ∨ la this + 2 < la pa)) from by omega)
                  have f23 : (p2 + 1).toInt = p2.toInt + 1 := z_addc (by decide +kernel) (by omega) (by omega)
                  have hpr82_0 : (p1.toInt - (p0 + y24_4).toInt) < dn := by first | assumption | omega
                  have hpr82_1 : (0 ≤ (p0 + y24_4).toInt ∧ (p0 + y24_4).toInt ≤ p1.toInt ∧ p1.toInt ≤ 24) := by first | assumption | omega
                  have hpr82_2 : (0 ≤ (p2 + 1).toInt ∧ (p2 + 1).toInt ≤ 24) := by first | assumption | omega
                  refine pw_b3 (fun c82_G60 c82_V0 c82_V2 hc82 => ?_)
                  have hq82 := wp_at (ok_X3_walk dn κ wd (va_up G 60 d24_G60) P U (va_up (va_up (va_up V 0 d24_V0) 2 d24_V2) 0 m72) X O kd ln cnt this (p0 + y24_4) p1 (p2 + 1) hg10 hzP61 hzP62 hzP63 hzP65 hg11 hzLN hk_this hpr82_0 hpr82_1 hpr82_2) hc82
                  obtain ⟨hg24, hg25⟩ : (rng (0) 30 c82_G60) ∧ (rng2 (0) 24 c82_V2) := hq82
                  have hq82 := pwq (fr_X3_walk dn la (va_up G 60 d24_G60) P U (va_up (va_up (va_up V 0 d24_V0) 2 d24_V2) 0 m72) X O kd ln cnt this (p0 + y24_4) p1 (p2 + 1) hB) hc82
                  obtain ⟨q82_G60, q82_V0, q82_V2⟩ : (∀ z, (la z < la this ∨ la this + 2 < la z) → c82_G60 z = d24_G60 z) ∧ (∀ z, (la z < la this ∨ la this + 2 < la z) → c82_V0 z = m72 z) ∧ (∀ z, (la z < la this ∨ la this + 2 < la z) → c82_V2 z = d24_V2 z) := hq82
                  have tz82 : ∀ z, ((la z < la this ∨ la this + 2 < la z)) → ((la z < la this ∨ la this + 2 < la z)) := fun z hz => by omega
                  have hfr26 : ∀ z, ((la z < la this ∨ la this + 2 < la z)) → c82_G60 z = (G 60) z := fun z hz => (q82_G60 z (tz82 z hz)).trans (hfr12 z hz)
                  have hfr27 : ∀ z, ((la z < la this ∨ la this + 2 < la z)) → c82_V0 z = (V 0) z := fun z hz => (q82_V0 z (tz82 z hz)).trans (hfr21 z hz)
                  have hfr28 : ∀ z, ((la z < la this ∨ la this + 2 < la z)) → c82_V2 z = (V 2) z := fun z hz => (q82_V2 z (tz82 z hz)).trans (hfr14 z hz)
                  have h882_hfi : (P 63) this = some fi := by first | assumption | omega
                  have h882_hpa : (P 65) this = some pa := by first | assumption | omega
                  have h882_hpk : (P 62) this = some pk := by first | assumption | omega
                  have h882_hsz : (P 61) this = some sz := by first | assumption | omega
                  have h882_hR : RWS (idxP ps) (d24_G60 this).toInt (d24_V2 sz) (m72 pk) (AP R L (wpre ps W (Int32.toNatClampNeg p0) (Int32.toNatClampNeg y24_4 - 1))) := by rw [em72, va_up_ne _ _ n4]; exact ir24
                  have h882_hL : PTH (idxP ps) (p2 + 1).toInt (m72 pa) (L ++ [((W.drop (Int32.toNatClampNeg p0)).take (Int32.toNatClampNeg y24_4 - 1 + 1))]) := by rw [em72, va_up_self]; exact PTH_add (PTH_eq hL ip24) (by omega) rfl ⟨kk, by rw [by_id (by omega)]; omega, w4⟩ (by omega)
                  have h882_hft : ∀ a, a < W.length → FIT ps W a (m72 fi) := by rw [em72, va_up_ne _ _ n3, if24]; exact hft
                  have h882_hWl : p1.toInt = ((W.length : Nat) : Int) := by exact hWl
                  have h882_hdp : (p2 + 1).toInt ≤ (p0 + y24_4).toInt := by omega
                  have h882_h40 : ps.length ≤ 100 := by exact h40
                  have hx82 := pwq (ihd κ wd la (va_up G 60 d24_G60) P U (va_up (va_up (va_up V 0 d24_V0) 2 d24_V2) 0 m72) X O kd ln cnt this (p0 + y24_4) p1 (p2 + 1) (fi) (pa) (pk) (sz) (ps) (W) (AP R L (wpre ps W (Int32.toNatClampNeg p0) (Int32.toNatClampNeg y24_4 - 1))) (L ++ [((W.drop (Int32.toNatClampNeg p0)).take (Int32.toNatClampNeg y24_4 - 1 + 1))]) hg10 hzP61 hzP62 hzP63 hzP65 hg11 hzLN hk_this hpr82_0 hpr82_1 hpr82_2 hB hlt_this h882_hfi h882_hpa h882_hpk h882_hsz h882_hR h882_hL h882_hft h882_hWl h882_hdp h882_h40) hc82
                  obtain ⟨p82_0, p82_1, p82_2⟩ : (RWS (idxP ps) (c82_G60 this).toInt (c82_V2 sz) (c82_V0 pk) (AP (AP R L (wpre ps W (Int32.toNatClampNeg p0) (Int32.toNatClampNeg y24_4 - 1))) (L ++ [((W.drop (Int32.toNatClampNeg p0)).take (Int32.toNatClampNeg y24_4 - 1 + 1))]) (wy ps W (Int32.toNatClampNeg (p0 + y24_4))))) ∧ ((∀ i : Nat, (i : Int) < (p2 + 1).toInt → c82_V0 pa i = m72 pa i)) ∧ ((c82_V0 fi = m72 fi)) := hx82
                  refine pw_j3 ej85 (fun z85_0 ez85_0 z85_1 ez85_1 z85_2 ez85_2 => ?_)
                  subst ez85_0 ez85_1 ez85_2
                  have f29 : (y24_4 + 1).toInt = y24_4.toInt + (1) := z_addc (by decide +kernel) (by omega) (by omega)
                  have iv24_0 : (1 ≤ (y24_4 + 1).toInt ∧ (y24_4 + 1).toInt ≤ 17) := by omega
                  have iv24_1 : (RWS (idxP ps) (c82_G60 this).toInt (c82_V2 sz) (c82_V0 pk) (AP R L (wpre ps W (Int32.toNatClampNeg p0) (Int32.toNatClampNeg (y24_4 + 1) - 1)))) := by have k6 := clampI (x := y24_4 + 1) (by omega); rw [show Int32.toNatClampNeg (y24_4 + 1) - 1 = (Int32.toNatClampNeg y24_4 - 1) + 1 by omega, wpre_s]; rw [wst_yes (by omega) w2, ← AP_add, AP_cons]; have h9 := p82_0; rw [show Int32.toNatClampNeg (p0 + y24_4) = Int32.toNatClampNeg p0 + (Int32.toNatClampNeg y24_4 - 1) + 1 by omega] at h9; exact h9
                  have iv24_2 : (∀ i : Nat, (i : Int) < p2.toInt → c82_V0 pa i = (V 0) pa i) := by intro i hi; rw [p82_1 i (by omega), em72, va_up_self, pk_un (by omega)]; exact ip24 i hi
                  have iv24_3 : (c82_V0 fi = (V 0) fi) := by rw [p82_2, em72, va_up_ne _ _ n3]; exact if24
                  exact ih24 (y24_4 + 1) c82_G60 c82_V0 c82_V2 hg24 hg25 hfr26 hfr27 hfr28 iv24_0 iv24_1 iv24_2 iv24_3
      exact lp24 NN (1 : Int32) (G 60) (V 0) (V 2) hzG60 hzV2 (fun _ _ => rfl) (fun _ _ => rfl) (fun _ _ => rfl) (show (1 ≤ (1 : Int32).toInt ∧ (1 : Int32).toInt ≤ 17) from by omega) (show (RWS (idxP ps) ((G 60) this).toInt ((V 2) sz) ((V 0) pk) (AP R L (wpre ps W (Int32.toNatClampNeg p0) (Int32.toNatClampNeg (1 : Int32) - 1)))) from by rw [show Int32.toNatClampNeg (1 : Int32) - 1 = 0 from rfl, wpre_0, AP_nil (by omega)]; exact hR) (show (∀ i : Nat, (i : Int) < p2.toInt → (V 0) pa i = (V 0) pa i) from by exact fun _ _ => rfl) (show ((V 0) fi = (V 0) fi) from by rfl)
    · have c12 := z_nlt c12
      have hpr17_0 : (0 ≤ p2.toInt ∧ p2.toInt ≤ 24) := by first | assumption | omega
      have hpr17_1 : ((G 60) this).toInt < 30 := by first | assumption | omega
      refine pw_b3 (fun c17_G60 c17_V0 c17_V2 hc17 => ?_)
      have hq17 := wp_at (ok_X3_note κ wd G P U V X O kd ln cnt this p2 hzG60 hzP61 hzP62 hzP65 hzV2 hzLN hk_this hpr17_0 hpr17_1) hc17
      obtain ⟨hg30, hg31⟩ : (rng (0) 30 c17_G60) ∧ (rng2 (0) 24 c17_V2) := hq17
      have hq17 := pwq (fr_X3_note la G P U V X O kd ln cnt this p2 hB) hc17
      obtain ⟨q17_G60, q17_V0, q17_V2⟩ : (∀ z, (la z < la this ∨ la this + 2 < la z) → c17_G60 z = (G 60) z) ∧ (∀ z, (la z < la this ∨ la this + 2 < la z) → c17_V0 z = (V 0) z) ∧ (∀ z, (la z < la this ∨ la this + 2 < la z) → c17_V2 z = (V 2) z) := hq17
      have tz17 : ∀ z, ((la z < la this ∨ la this + 2 < la z)) → ((la z < la this ∨ la this + 2 < la z)) := fun z hz => by omega
      have hfr32 : ∀ z, ((la z < la this ∨ la this + 2 < la z)) → c17_G60 z = (G 60) z := fun z hz => (q17_G60 z (tz17 z hz)).trans ((fun _ _ => rfl) z hz)
      have hfr33 : ∀ z, ((la z < la this ∨ la this + 2 < la z)) → c17_V0 z = (V 0) z := fun z hz => (q17_V0 z (tz17 z hz)).trans ((fun _ _ => rfl) z hz)
      have hfr34 : ∀ z, ((la z < la this ∨ la this + 2 < la z)) → c17_V2 z = (V 2) z := fun z hz => (q17_V2 z (tz17 z hz)).trans ((fun _ _ => rfl) z hz)
      have h817_hpa : (P 65) this = some pa := by first | assumption | omega
      have h817_hpk : (P 62) this = some pk := by first | assumption | omega
      have h817_hsz : (P 61) this = some sz := by first | assumption | omega
      have h817_hR : RWS (idxP ps) ((G 60) this).toInt ((V 2) sz) ((V 0) pk) R := by first | assumption | omega
      have h817_hL : PTH (idxP ps) p2.toInt ((V 0) pa) L := by first | assumption | omega
      have hx17 := pwq (fn_X3_note κ wd la G P U V X O kd ln cnt this p2 (pa) (pk) (sz) (idxP ps) (R) (L) hzG60 hzP61 hzP62 hzP65 hzV2 hzLN hk_this hpr17_0 hpr17_1 hB hlt_this h817_hpa h817_hpk h817_hsz h817_hR h817_hL) hc17
      obtain ⟨p17_0, p17_1⟩ : (RWS (idxP ps) (c17_G60 this).toInt (c17_V2 sz) (c17_V0 pk) (R ++ [L])) ∧ ((∀ z, z ≠ pk → c17_V0 z = (V 0) z)) := hx17
      have qq0 : RWS (idxP ps) (c17_G60 this).toInt (c17_V2 sz) (c17_V0 pk) (AP R L (wy ps W (Int32.toNatClampNeg p0))) := by rw [wy_ge (by omega), AP_one (by omega)]; exact p17_0
      have qq1 : (∀ i : Nat, (i : Int) < p2.toInt → c17_V0 pa i = (V 0) pa i) := by intro i _; exact congrFun (p17_1 pa n1) i
      have qq2 : (c17_V0 fi = (V 0) fi) := by exact p17_1 fi n2
      exact pw_some ⟨qq0, qq1, qq2⟩
  · have c6 := z_nlt c6
    have qq0 : RWS (idxP ps) ((G 60) this).toInt ((V 2) sz) ((V 0) pk) (AP R L (wy ps W (Int32.toNatClampNeg p0))) := by rw [AP_full (by omega)]; exact hR
    have qq1 : (∀ i : Nat, (i : Int) < p2.toInt → (V 0) pa i = (V 0) pa i) := by exact fun _ _ => rfl
    have qq2 : ((V 0) fi = (V 0) fi) := by rfl
    exact pw_some ⟨qq0, qq1, qq2⟩
abbrev QF_X3_find (κ : Nat → Nat) (wd : Nat) (la : Nat → Nat) (G : Nat → Nat → Int32) (P : Nat → Nat → Option Nat) (U : Nat → Nat → Int64) (V : Nat → Nat → Nat → Int32) (X : Nat → Nat → Nat → Int64) (O : Nat → Nat → Nat → Option Nat) (kd : Nat → Nat) (ln : Nat → Nat) (cnt : Nat) (this : Nat) (p0 : Nat) (p1 : Nat) (p2 : Int32) (p3 : Int32) (fi : Nat) (pa : Nat) (pk : Nat) (sz : Nat) (cl : Nat) (l : Nat) (s : Nat) (ps : List Wd) (W : Wd) : ((Nat → Int32) × (Nat → Option Nat) × (Nat → Nat → Int32) × (Nat → Nat → Int32) × (Nat → Nat → Int32)) → Prop := (fun t => (RWS (idxP ps) ((t.1) this).toInt ((t.2.2.2.1) sz) ((t.2.2.1) pk) ((wy ps W 0).take 30)) ∧ ((t.2.1) this = some p0))
set_option maxHeartbeats 4000000 in
set_option maxRecDepth 100000 in
theorem fn_X3_find (κ : Nat → Nat) (wd : Nat) (la : Nat → Nat) (G : Nat → Nat → Int32) (P : Nat → Nat → Option Nat) (U : Nat → Nat → Int64) (V : Nat → Nat → Nat → Int32) (X : Nat → Nat → Nat → Int64) (O : Nat → Nat → Nat → Option Nat) (kd : Nat → Nat) (ln : Nat → Nat) (cnt : Nat) (this : Nat) (p0 : Nat) (p1 : Nat) (p2 : Int32) (p3 : Int32) (fi : Nat) (pa : Nat) (pk : Nat) (sz : Nat) (cl : Nat) (l : Nat) (s : Nat) (ps : List Wd) (W : Wd) (hzG60 : rng (0) 30 (G 60)) (hzG200 : rng (0) 24 (G 200)) (hzG203 : rng (0) 100 (G 203)) (hzP61 : PB κ ln wd 4 102 30 30 0 (P 61)) (hzP62 : PB κ ln wd 4 100 720 720 0 (P 62)) (hzP63 : PB κ ln wd 4 100 408 408 0 (P 63)) (hzP64 : PB κ ln wd 4 112 25 25 0 (P 64)) (hzP65 : PB κ ln wd 4 100 24 24 0 (P 65)) (hzP66 : PB κ ln wd 4 11 0 2500 0 (P 66)) (hzP201 : PB κ ln wd 11 100 0 2400 0 (P 201)) (hzP202 : PB κ ln wd 11 101 0 100 0 (P 202)) (hzV1 : rng2 (0) 24 (V 1)) (hzV2 : rng2 (0) 24 (V 2)) (hzRA : RA κ ln (G 200) (P 201) (P 202)) (hzRB : RB κ ln (G 200) (G 203) (P 202) (V 1)) (hzRI : RI (P 202)) (hzLN : LN κ ln) (hk_this : κ this = 4) (hk_p0 : κ p0 = 11) (hk_p1 : κ p1 = 100) (hp0 : (0 ≤ p2.toInt ∧ p2.toInt ≤ 2500)) (hB : LB la cnt P) (hlt_this : this < cnt) (hlt_p0 : p0 < cnt) (hlt_p1 : p1 < cnt) (hfi : (P 63) this = some fi) (hpa : (P 65) this = some pa) (hpk : (P 62) this = some pk) (hsz : (P 61) this = some sz) (hcl : (P 64) this = some cl) (hl : (P 201) p0 = some l) (hs : (P 202) p0 = some s) (hw : ((G 200) p0).toInt = ((16 : Nat) : Int)) (hps : rwW ((G 203) p0) ((V 0) l) ((V 1) s) 16 = ps) (hW : wdl ((V 0) p1) (Int32.toNatClampNeg p2) (Int32.toNatClampNeg p3) = W) (hlx : p2.toInt + p3.toInt ≤ ((ln p1 : Nat) : Int)) (hne : ∀ x, x ∈ ps → x ≠ [] ∧ x.length ≤ 16) (h13 : 1 ≤ p3.toInt ∧ p3.toInt ≤ 24) (hdl : (la l < la this ∨ la this + 2 < la l)) (hdp : (la p1 < la this ∨ la this + 2 < la p1)) : pw (f_X3_find G P U V X O kd ln cnt this p0 p1 p2 p3) (QF_X3_find κ wd la G P U V X O kd ln cnt this p0 p1 p2 p3 fi pa pk sz cl l s ps W) := by
  unfold f_X3_find
  have zk0 : (0 : Int32).toInt = 0 := by decide +kernel
  have zk1 : (1 : Int32).toInt = 1 := by decide +kernel
  have zk24 : (24 : Int32).toInt = 24 := by decide +kernel
  have r_p2 := i32r p2
  have r_p3 := i32r p3
  have hn1 : (P 63) this = some fi := hfi
  have lt_fi2 := ((hB.1 63 fl_63) this fi hn1).2.1
  have lb_fi2 : la fi = la this + 1 := lk_63.mp ((hB.1 63 fl_63) this fi hn1).2.2
  have hk_fi := ((hzP63 this).2 fi hn1).1
  have hl1_fi := ((hzP63 this).2 fi hn1).2.1
  have hl2_fi := ((hzP63 this).2 fi hn1).2.2.1
  have hw_fi := ((hzP63 this).2 fi hn1).2.2.2
  have hz_fi : (Int32.ofNat (ln fi)).toInt = ((ln fi : Nat) : Int) := ofN_eq (by first | exact Nat.le_trans hl2_fi (by decide) | omega)
  have hn3 : (P 65) this = some pa := hpa
  have lt_pa4 := ((hB.1 65 fl_65) this pa hn3).2.1
  have lb_pa4 : la pa = la this + 2 := lk_65.mp ((hB.1 65 fl_65) this pa hn3).2.2
  have hk_pa := ((hzP65 this).2 pa hn3).1
  have hl1_pa := ((hzP65 this).2 pa hn3).2.1
  have hl2_pa := ((hzP65 this).2 pa hn3).2.2.1
  have hw_pa := ((hzP65 this).2 pa hn3).2.2.2
  have hz_pa : (Int32.ofNat (ln pa)).toInt = ((ln pa : Nat) : Int) := ofN_eq (by first | exact Nat.le_trans hl2_pa (by decide) | omega)
  have hn5 : (P 62) this = some pk := hpk
  have lt_pk6 := ((hB.1 62 fl_62) this pk hn5).2.1
  have lb_pk6 : la pk = la this + 0 := lk_62.mp ((hB.1 62 fl_62) this pk hn5).2.2
  have hk_pk := ((hzP62 this).2 pk hn5).1
  have hl1_pk := ((hzP62 this).2 pk hn5).2.1
  have hl2_pk := ((hzP62 this).2 pk hn5).2.2.1
  have hw_pk := ((hzP62 this).2 pk hn5).2.2.2
  have hz_pk : (Int32.ofNat (ln pk)).toInt = ((ln pk : Nat) : Int) := ofN_eq (by first | exact Nat.le_trans hl2_pk (by decide) | omega)
  have hn7 : (P 61) this = some sz := hsz
  have lt_sz8 := ((hB.1 61 fl_61) this sz hn7).2.1
  have lb_sz8 : la sz = la this + 0 := lk_61.mp ((hB.1 61 fl_61) this sz hn7).2.2
  have hk_sz := ((hzP61 this).2 sz hn7).1
  have hl1_sz := ((hzP61 this).2 sz hn7).2.1
  have hl2_sz := ((hzP61 this).2 sz hn7).2.2.1
  have hw_sz := ((hzP61 this).2 sz hn7).2.2.2
  have hz_sz : (Int32.ofNat (ln sz)).toInt = ((ln sz : Nat) : Int) := ofN_eq (by first | exact Nat.le_trans hl2_sz (by decide) | omega)
  have hn9 : (P 64) this = some cl := hcl
  have lt_cl10 := ((hB.1 64 fl_64) this cl hn9).2.1
  have lb_cl10 : la cl = la this + 0 := lk_64.mp ((hB.1 64 fl_64) this cl hn9).2.2
  have hk_cl := ((hzP64 this).2 cl hn9).1
  have hl1_cl := ((hzP64 this).2 cl hn9).2.1
  have hl2_cl := ((hzP64 this).2 cl hn9).2.2.1
  have hw_cl := ((hzP64 this).2 cl hn9).2.2.2
  have hz_cl : (Int32.ofNat (ln cl)).toInt = ((ln cl : Nat) : Int) := ofN_eq (by first | exact Nat.le_trans hl2_cl (by decide) | omega)
  have hn11 : (P 201) p0 = some l := hl
  have lt_l12 := ((hB.1 201 fl_201) p0 l hn11).2.1
  have lb_l12 : la l = la p0 + 0 := lk_201.mp ((hB.1 201 fl_201) p0 l hn11).2.2
  have hk_l := ((hzP201 p0).2 l hn11).1
  have hl1_l := ((hzP201 p0).2 l hn11).2.1
  have hl2_l := ((hzP201 p0).2 l hn11).2.2.1
  have hw_l := ((hzP201 p0).2 l hn11).2.2.2
  have hz_l : (Int32.ofNat (ln l)).toInt = ((ln l : Nat) : Int) := ofN_eq (by first | exact Nat.le_trans hl2_l (by decide) | omega)
  have hn13 : (P 202) p0 = some s := hs
  have lt_s14 := ((hB.1 202 fl_202) p0 s hn13).2.1
  have lb_s14 : la s = la p0 + 0 := lk_202.mp ((hB.1 202 fl_202) p0 s hn13).2.2
  have hk_s := ((hzP202 p0).2 s hn13).1
  have hl1_s := ((hzP202 p0).2 s hn13).2.1
  have hl2_s := ((hzP202 p0).2 s hn13).2.2.1
  have hw_s := ((hzP202 p0).2 s hn13).2.2.2
  have hz_s : (Int32.ofNat (ln s)).toInt = ((ln s : Nat) : Int) := ofN_eq (by first | exact Nat.le_trans hl2_s (by decide) | omega)
  have rb15 := (hzRB p0 s hk_p0 hn13).1
  have ra16 := hzRA p0 l s hk_p0 hn11 hn13
  have bw17 := hzG200 p0
  have hlnp := hzLN p0 (by rw [hk_p0]; decide)
  have a3 := clampI (x := p3) (by omega)
  have hpl : ps.length = Int32.toNatClampNeg ((G 203) p0) := by rw [← hps]; exact rw_len
  have hb3 := hzG203 p0
  have cpt := clampI (x := (G 203) p0) (by omega)
  have hWl : W.length = Int32.toNatClampNeg p3 := by rw [← hW]; exact wdl_len
  refine pw_vl (fun m2 em2 => ?_)
  have hfr18 : ∀ z, ((la z < la this ∨ la this + 2 < la z)) → m2 z = (G 60) z := fr_up (e0 := (G 60)) (fun _ _ => rfl) em2 (show ¬ ((la this < la this ∨ la this + 2 < la this)) from by omega)
  have hg19 : rng (0) 30 m2 := by rw [em2]; exact rng_vup hzG60 (by omega) (by omega)
  have sm2 : (m2 this).toInt = 0 := by rw [em2, va_up_self]; decide +kernel
  have b20 := hg19 this
  refine pw_vl (fun m7 em7 => ?_)
  have hfr21 : ∀ z, ((la z < la this ∨ la this + 2 < la z)) → m7 z = (P 66) z := fr_up (e0 := (P 66)) (fun _ _ => rfl) em7 (show ¬ ((la this < la this ∨ la this + 2 < la this)) from by omega)
  have hl22 : LC 66 la cnt m7 := LC_up (hB.1 66 fl_66) em7 (by omega) (by omega) (lk_66 _ _)
  have hp23 : PB κ ln wd 4 11 0 2500 0 m7 := by rw [em7]; exact PB_up hzP66 hk_p0 (by omega) (by omega) (fun h9 => absurd h9 (by decide))
  have sm7 : m7 this = some p0 := by rw [em7]; exact va_up_self _ _ _
  refine pw_nne sm7 ?_
  have b24 := hzG203 p0
  refine pw_jE (fun j33 ej33 => ?_)
  refine pw_ite (fun c17 => ?_) (fun c17 => ?_)
  · have c17 := congrArg Int32.toInt c17
    refine pw_j0 ej33 ?_
    have qq0 : RWS (idxP ps) (m2 this).toInt ((V 2) sz) ((V 0) pk) ((wy ps W 0).take 30) := by have e9 : ps = [] := List.length_eq_zero_iff.mp (by omega); rw [e9, wy_nops (by omega)]; exact RWS_0 (by omega)
    have qq1 : m7 this = some p0 := by exact sm7
    exact pw_some ⟨qq0, qq1⟩
  · have c17 := z_ne c17
    refine pw_ite (fun c23 => ?_) (fun c23 => ?_)
    · have c23 := (z_lt _ _).mp c23
      exfalso; omega
    · have c23 := z_nlt c23
      refine pw_ite (fun c30 => ?_) (fun c30 => ?_)
      · have c30 := (z_le _ _).mp c30
        refine pw_nne hn9 ?_
        refine pw_if (fun hb41 => ?_)
        obtain ⟨hbl41, hbr41⟩ := hb41
        refine pw_vl (fun m41 em41 => ?_)
        have hfr28 : ∀ z, ((la z < la this ∨ la this + 2 < la z)) → m41 z = (V 12) z := fr_up (e0 := (V 12)) (fun _ _ => rfl) em41 (show ¬ ((la cl < la this ∨ la this + 2 < la cl)) from by omega)
        have f29 : (p3 - 1).toInt = p3.toInt - 1 := z_subc (by decide +kernel) (by omega) (by omega)
        refine pw_vl (fun x46 ex46 => ?_)
        have f30 : x46.toInt = (p3 - 1).toInt := congrArg Int32.toInt ex46
        refine pw_jE (fun k69 ek69 => ?_)
        have lp48 : ∀ (n48 : Nat) (y48_5 : Int32) (d48_V0 : Nat → Nat → Int32) (d48_V12 : Nat → Nat → Int32), (∀ z, ((la z < la this ∨ la this + 2 < la z)) → d48_V0 z = (V 0) z) → (∀ z, ((la z < la this ∨ la this + 2 < la z)) → d48_V12 z = (V 12) z) → ((-1) ≤ y48_5.toInt ∧ y48_5.toInt < p3.toInt) → (CLO ps W (y48_5.toInt + 1).toNat (d48_V12 cl)) → (∀ a, (y48_5.toInt + 1).toNat ≤ a → a < W.length → FIT ps W a (d48_V0 fi)) → (∀ z, (la z < la this ∨ la this + 2 < la z) → d48_V0 z = (V 0) z) → pw (L_X3_find_48 G P U V X O kd ln cnt this p1 p2 p3 m2 m7 k69 n48 y48_5 d48_V0 d48_V12) (QF_X3_find κ wd la G P U V X O kd ln cnt this p0 p1 p2 p3 fi pa pk sz cl l s ps W) := by
          intro n48
          induction n48 with
          | zero => intros; exact pw_none
          | succ n48 ih48 =>
            intro y48_5 d48_V0 d48_V12 hfr31 hfr32 f33 ic48 if48 vz48
            show pw (B_X3_find_48 G P U V X O kd ln cnt this p1 p2 p3 m2 m7 k69 (L_X3_find_48 G P U V X O kd ln cnt this p1 p2 p3 m2 m7 k69 n48) y48_5 d48_V0 d48_V12) _
            unfold B_X3_find_48
            refine pw_ite (fun c50 => ?_) (fun c50 => ?_)
            · have c50 := (z_lt _ _).mp c50
              have hc0 := ic48 0 (by omega) (by omega)
              refine pw_j2 ek69 (fun z69_0 ez69_0 z69_1 ez69_1 => ?_)
              subst ez69_0 ez69_1
              refine pw_nne hn9 ?_
              refine pw_if (fun hb74 => ?_)
              obtain ⟨hbl74, hbr74⟩ := hb74
              refine pw_jE (fun j86 ej86 => ?_)
              refine pw_ite (fun c75 => ?_) (fun c75 => ?_)
              · have c75 := congrArg Int32.toInt c75
                refine pw_j3 ej86 (fun z86_0 ez86_0 z86_1 ez86_1 z86_2 ez86_2 => ?_)
                subst ez86_0 ez86_1 ez86_2
                have qq0 : RWS (idxP ps) (m2 this).toInt ((V 2) sz) (d48_V0 pk) ((wy ps W 0).take 30) := by have e9 : wy ps W 0 = [] := (by by_cases q9 : wy ps W 0 = []; (exact q9); (exfalso; have q8 := hc0.mpr q9; rw [show (0 : Nat) = Int32.toNatClampNeg (0 : Int32) from rfl] at q8; exact q8 (by omega))); rw [e9]; exact RWS_0 (by omega)
                have qq1 : m7 this = some p0 := by exact sm7
                exact pw_some ⟨qq0, qq1⟩
              · have c75 := z_ne c75
                have hpr83_0 : (p3.toInt - (0 : Int32).toInt) < 40 := by first | assumption | omega
                have hpr83_1 : (0 ≤ (0 : Int32).toInt ∧ (0 : Int32).toInt ≤ p3.toInt ∧ p3.toInt ≤ 24) := by first | assumption | omega
                have hpr83_2 : (0 ≤ (0 : Int32).toInt ∧ (0 : Int32).toInt ≤ 24) := by first | assumption | omega
                refine pw_b3 (fun c83_G60 c83_V0 c83_V2 hc83 => ?_)
                have hq83 := wp_at (ok_X3_walk 40 κ wd (va_up G 60 m2) (va_up P 66 m7) U (va_up (va_up V 0 d48_V0) 12 d48_V12) X O kd ln cnt this (0 : Int32) p3 (0 : Int32) hg19 hzP61 hzP62 hzP63 hzP65 hzV2 hzLN hk_this hpr83_0 hpr83_1 hpr83_2) hc83
                obtain ⟨hg34, hg35⟩ : (rng (0) 30 c83_G60) ∧ (rng2 (0) 24 c83_V2) := hq83
                have hq83 := pwq (fr_X3_walk 40 la (va_up G 60 m2) (va_up P 66 m7) U (va_up (va_up V 0 d48_V0) 12 d48_V12) X O kd ln cnt this (0 : Int32) p3 (0 : Int32) (LB_set hB hl22)) hc83
                obtain ⟨q83_G60, q83_V0, q83_V2⟩ : (∀ z, (la z < la this ∨ la this + 2 < la z) → c83_G60 z = m2 z) ∧ (∀ z, (la z < la this ∨ la this + 2 < la z) → c83_V0 z = d48_V0 z) ∧ (∀ z, (la z < la this ∨ la this + 2 < la z) → c83_V2 z = (V 2) z) := hq83
                have tz83 : ∀ z, ((la z < la this ∨ la this + 2 < la z)) → ((la z < la this ∨ la this + 2 < la z)) := fun z hz => by omega
                have hfr36 : ∀ z, ((la z < la this ∨ la this + 2 < la z)) → c83_G60 z = (G 60) z := fun z hz => (q83_G60 z (tz83 z hz)).trans (hfr18 z hz)
                have hfr37 : ∀ z, ((la z < la this ∨ la this + 2 < la z)) → c83_V0 z = (V 0) z := fun z hz => (q83_V0 z (tz83 z hz)).trans (hfr31 z hz)
                have hfr38 : ∀ z, ((la z < la this ∨ la this + 2 < la z)) → c83_V2 z = (V 2) z := fun z hz => (q83_V2 z (tz83 z hz)).trans ((fun _ _ => rfl) z hz)
                have h883_hfi : (P 63) this = some fi := by first | assumption | omega
                have h883_hpa : (P 65) this = some pa := by first | assumption | omega
                have h883_hpk : (P 62) this = some pk := by first | assumption | omega
                have h883_hsz : (P 61) this = some sz := by first | assumption | omega
                have h883_hR : RWS (idxP ps) (m2 this).toInt ((V 2) sz) (d48_V0 pk) ([]) := by exact RWS_0 (by omega)
                have h883_hL : PTH (idxP ps) (0 : Int32).toInt (d48_V0 pa) ([]) := by exact PTH_0 (by decide)
                have h883_hft : ∀ a, a < W.length → FIT ps W a (d48_V0 fi) := by exact fun a ha => if48 a (by omega) ha
                have h883_hWl : p3.toInt = ((W.length : Nat) : Int) := by omega
                have h883_hdp : (0 : Int32).toInt ≤ (0 : Int32).toInt := by omega
                have h883_h40 : ps.length ≤ 100 := by omega
                have hx83 := pwq (fn_X3_walk 40 κ wd la (va_up G 60 m2) (va_up P 66 m7) U (va_up (va_up V 0 d48_V0) 12 d48_V12) X O kd ln cnt this (0 : Int32) p3 (0 : Int32) (fi) (pa) (pk) (sz) (ps) (W) ([]) ([]) hg19 hzP61 hzP62 hzP63 hzP65 hzV2 hzLN hk_this hpr83_0 hpr83_1 hpr83_2 (LB_set hB hl22) hlt_this h883_hfi h883_hpa h883_hpk h883_hsz h883_hR h883_hL h883_hft h883_hWl h883_hdp h883_h40) hc83
                obtain ⟨p83_0, p83_1, p83_2⟩ : (RWS (idxP ps) (c83_G60 this).toInt (c83_V2 sz) (c83_V0 pk) (AP ([]) ([]) (wy ps W (Int32.toNatClampNeg (0 : Int32))))) ∧ ((∀ i : Nat, (i : Int) < (0 : Int32).toInt → c83_V0 pa i = d48_V0 pa i)) ∧ ((c83_V0 fi = d48_V0 fi)) := hx83
                refine pw_j3 ej86 (fun z86_0 ez86_0 z86_1 ez86_1 z86_2 ez86_2 => ?_)
                subst ez86_0 ez86_1 ez86_2
                have qq0 : RWS (idxP ps) (c83_G60 this).toInt (c83_V2 sz) (c83_V0 pk) ((wy ps W 0).take 30) := by rw [← AP_0]; exact p83_0
                have qq1 : m7 this = some p0 := by exact sm7
                exact pw_some ⟨qq0, qq1⟩
            · have c50 := z_nlt c50
              have hpr60_0 : (0 ≤ y48_5.toInt ∧ y48_5.toInt < p3.toInt ∧ p3.toInt ≤ 24) := by first | assumption | omega
              have hpr60_1 : (0 ≤ p2.toInt ∧ p2.toInt ≤ 2500) := by first | assumption | omega
              refine pw_b2 (fun c60_V0 c60_V12 hc60 => ?_)
              have hq60 := pwq (fr_X3_markFitting la (va_up G 60 m2) (va_up P 66 m7) U (va_up (va_up V 0 d48_V0) 12 d48_V12) X O kd ln cnt this p1 p2 y48_5 p3 (LB_set hB hl22)) hc60
              obtain ⟨q60_V0, q60_V12⟩ : (∀ z, (la z < la this ∨ la this + 2 < la z) → c60_V0 z = d48_V0 z) ∧ (∀ z, (la z < la this ∨ la this + 2 < la z) → c60_V12 z = d48_V12 z) := hq60
              have tz60 : ∀ z, ((la z < la this ∨ la this + 2 < la z)) → ((la z < la this ∨ la this + 2 < la z)) := fun z hz => by omega
              have hfr39 : ∀ z, ((la z < la this ∨ la this + 2 < la z)) → c60_V0 z = (V 0) z := fun z hz => (q60_V0 z (tz60 z hz)).trans (hfr31 z hz)
              have hfr40 : ∀ z, ((la z < la this ∨ la this + 2 < la z)) → c60_V12 z = (V 12) z := fun z hz => (q60_V12 z (tz60 z hz)).trans (hfr32 z hz)
              have h860_hcl : (P 64) this = some cl := by first | assumption | omega
              have h860_hfi : (P 63) this = some fi := by first | assumption | omega
              have h860_hpt : m7 this = some (p0) := by exact sm7
              have h860_hl : (P 201) (p0) = some l := by exact hl
              have h860_hs : (P 202) (p0) = some s := by exact hs
              have h860_hw : ((G 200) (p0)).toInt = ((16 : Nat) : Int) := by exact hw
              have h860_hps : rwW ((G 203) (p0)) (d48_V0 l) ((V 1) s) 16 = ps := by rw [vz48 l hdl]; exact hps
              have h860_hW : wdl (d48_V0 p1) (Int32.toNatClampNeg p2) (Int32.toNatClampNeg p3) = W := by rw [vz48 p1 hdp]; exact hW
              have h860_hlx : p2.toInt + p3.toInt ≤ ((ln p1 : Nat) : Int) := by exact hlx
              have h860_hne : ∀ x, x ∈ ps → x ≠ [] ∧ x.length ≤ 16 := by exact hne
              have h860_hdl : (la l < la this ∨ la this + 2 < la l) := by exact hdl
              have h860_hdp : (la p1 < la this ∨ la this + 2 < la p1) := by exact hdp
              have h860_hcv : CLO ps W (Int32.toNatClampNeg y48_5 + 1) (d48_V12 cl) := by rw [show Int32.toNatClampNeg y48_5 + 1 = (y48_5.toInt + 1).toNat by have k5 := clampI (x := y48_5) (by omega); omega]; exact ic48
              have hx60 := pwq (fn_X3_markFitting κ wd la (va_up G 60 m2) (va_up P 66 m7) U (va_up (va_up V 0 d48_V0) 12 d48_V12) X O kd ln cnt this p1 p2 y48_5 p3 (cl) (fi) (p0) (l) (s) (ps) (W) hzG200 hzG203 hzP63 hzP64 hp23 hzP201 hzP202 hzV1 hzRA hzRB hzRI hzLN hk_this hk_p1 hpr60_0 hpr60_1 (LB_set hB hl22) hlt_this hlt_p1 h860_hcl h860_hfi h860_hpt h860_hl h860_hs h860_hw h860_hps h860_hW h860_hlx h860_hne h860_hdl h860_hdp h860_hcv) hc60
              obtain ⟨p60_0, p60_1, p60_2⟩ : (CLO ps W (Int32.toNatClampNeg y48_5) (c60_V12 cl)) ∧ (FIT ps W (Int32.toNatClampNeg y48_5) (c60_V0 fi)) ∧ ((∀ q, (q < 17 * Int32.toNatClampNeg y48_5 ∨ 17 * Int32.toNatClampNeg y48_5 + 17 ≤ q) → c60_V0 fi q = d48_V0 fi q)) := hx60
              have f41 : (y48_5 + (-1)).toInt = y48_5.toInt + (-1) := z_addc (by decide +kernel) (by omega) (by omega)
              obtain ⟨z42, ez42⟩ : ∃ z : Int32, z = (y48_5 + (-1)) := ⟨_, rfl⟩
              have fz42 : z42.toInt = y48_5.toInt + (-1) := by rw [ez42]; exact f41
              rw [← ez42]
              clear f41 ez42
              have iv48_0 : ((-1) ≤ z42.toInt ∧ z42.toInt < p3.toInt) := by omega
              have iv48_1 : (CLO ps W (z42.toInt + 1).toNat (c60_V12 cl)) := by rw [show (z42.toInt + 1).toNat = Int32.toNatClampNeg y48_5 by have k5 := clampI (x := y48_5) (by omega); omega]; exact p60_0
              have iv48_2 : (∀ a, (z42.toInt + 1).toNat ≤ a → a < W.length → FIT ps W a (c60_V0 fi)) := by intro a h1 h2; have k5 := clampI (x := y48_5) (by omega); by_cases q9 : a = Int32.toNatClampNeg y48_5; (rw [q9]; exact p60_1); (exact FIT_keep (if48 a (by omega) h2) (fun i hi => p60_2 _ (by omega)))
              have iv48_3 : (∀ z, (la z < la this ∨ la this + 2 < la z) → c60_V0 z = (V 0) z) := by intro z hz; exact (q60_V0 z hz).trans (vz48 z hz)
              exact ih48 z42 c60_V0 c60_V12 hfr39 hfr40 iv48_0 iv48_1 iv48_2 iv48_3
        exact lp48 NN x46 (V 0) m41 (fun _ _ => rfl) hfr28 (show ((-1) ≤ x46.toInt ∧ x46.toInt < p3.toInt) from by omega) (show (CLO ps W (x46.toInt + 1).toNat (m41 cl)) from by refine CLO_top (by omega) ?_; rw [em41, va_up_self, show (x46.toInt + 1).toNat = Int32.toNatClampNeg p3 by omega, pk_us]; decide +kernel) (show (∀ a, (x46.toInt + 1).toNat ≤ a → a < W.length → FIT ps W a ((V 0) fi)) from by intro a h1 h2; omega) (show (∀ z, (la z < la this ∨ la this + 2 < la z) → (V 0) z = (V 0) z) from by exact fun _ _ => rfl)
      · have c30 := z_nle c30
        exfalso; omega
