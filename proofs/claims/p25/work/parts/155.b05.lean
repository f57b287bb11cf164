abbrev RF_X10_init (la : Nat → Nat) (G : Nat → Nat → Int32) (P : Nat → Nat → Option Nat) (U : Nat → Nat → Int64) (V : Nat → Nat → Nat → Int32) (X : Nat → Nat → Nat → Int64) (O : Nat → Nat → Nat → Option Nat) (kd : Nat → Nat) (ln : Nat → Nat) (cnt : Nat) (this : Nat) (p0 : Int32) (p1 : Int32) : ((Nat → Nat → Int32) × (Nat → Nat → Option Nat) × (Nat → Nat → Int64) × (Nat → Nat → Nat → Int32) × (Nat → Nat → Nat → Int64) × (Nat → Nat → Nat → Option Nat) × (Nat → Nat) × (Nat → Nat) × Nat) → Prop := fun t => ∃ la1 : Nat → Nat, (∀ z, z < cnt → la1 z = la z) ∧ LB la1 (t.2.2.2.2.2.2.2.2) (t.2.1) ∧ cnt ≤ (t.2.2.2.2.2.2.2.2) ∧ FRM cnt [200, 203] (fun z => z ≠ this) G (t.1) ∧ FRM cnt [201, 202] (fun z => z ≠ this) P (t.2.1) ∧ FRM cnt [] (fun z => z ≠ this) U (t.2.2.1) ∧ FRM cnt [] (fun z => z ≠ this) V (t.2.2.2.1) ∧ FRM cnt [] (fun z => z ≠ this) X (t.2.2.2.2.1) ∧ FRM cnt [] (fun z => z ≠ this) O (t.2.2.2.2.2.1) ∧ (∀ z, z < cnt → (t.2.2.2.2.2.2.2.1) z = ln z)
set_option maxHeartbeats 4000000 in
set_option maxRecDepth 100000 in
theorem fr_X10_init (la : Nat → Nat) (G : Nat → Nat → Int32) (P : Nat → Nat → Option Nat) (U : Nat → Nat → Int64) (V : Nat → Nat → Nat → Int32) (X : Nat → Nat → Nat → Int64) (O : Nat → Nat → Nat → Option Nat) (kd : Nat → Nat) (ln : Nat → Nat) (cnt : Nat) (this : Nat) (p0 : Int32) (p1 : Int32) (hB : LB la cnt P) (hlt_this : this < cnt) : pw (f_X10_init G P U V X O kd ln cnt this p0 p1) (sp1 (RF_X10_init la G P U V X O kd ln cnt this p0 p1)) := by
  unfold f_X10_init
  refine pw_vl (fun m6 em6 => ?_)
  have hf1 : ∀ z, (z < cnt ∧ z ≠ this) → m6 z = (G 203) z := fr_up (e0 := (G 203)) (fun _ _ => rfl) em6 (show ¬ (this < cnt ∧ this ≠ this) from fun hz => by omega)
  refine pw_vl (fun m11 em11 => ?_)
  have hf2 : ∀ z, (z < cnt ∧ z ≠ this) → m11 z = (G 200) z := fr_up (e0 := (G 200)) (fun _ _ => rfl) em11 (show ¬ (this < cnt ∧ this ≠ this) from fun hz => by omega)
  refine pw_if (fun _ => ?_)
  refine pw_tk ?_
  refine pw_newc (la := la) (L := la this + 0) hB (by have q3 := hB.2 this hlt_this; omega) (fun la18 G18 P18 U18 V18 X18 O18 kd18 ln18 cnt18 hcn18 hB18 hL18 ag18 qG18 qP18 qU18 qV18 qX18 qO18 ql18 => ?_)
  have hle18 : cnt ≤ cnt := Nat.le_refl _
  have hg18 : ∀ z, z < cnt → la18 z = la z := fun z hz => (ag18 z (Nat.lt_of_lt_of_le hz hle18)).trans (rfl)
  have hF18_G : FRM cnt [200, 203] (fun z => z ≠ this) G G18 := FRM_trans (FRM_set (FRM_set FRM_refl (by decide) (fun z h1 h2 => hf1 z ⟨h1, h2⟩)) (by decide) (fun z h1 h2 => hf2 z ⟨h1, h2⟩)) qG18 hle18 (by decide) (fun _ _ _ => trivial)
  have hF18_P : FRM cnt [201, 202] (fun z => z ≠ this) P P18 := FRM_trans FRM_refl qP18 hle18 (by decide) (fun _ _ _ => trivial)
  have hF18_U : FRM cnt [] (fun z => z ≠ this) U U18 := FRM_trans FRM_refl qU18 hle18 (by decide) (fun _ _ _ => trivial)
  have hF18_V : FRM cnt [] (fun z => z ≠ this) V V18 := FRM_trans FRM_refl qV18 hle18 (by decide) (fun _ _ _ => trivial)
  have hF18_X : FRM cnt [] (fun z => z ≠ this) X X18 := FRM_trans FRM_refl qX18 hle18 (by decide) (fun _ _ _ => trivial)
  have hF18_O : FRM cnt [] (fun z => z ≠ this) O O18 := FRM_trans FRM_refl qO18 hle18 (by decide) (fun _ _ _ => trivial)
  have hln18 : ∀ z, z < cnt → ln18 z = ln z := fun z hz => (ql18 z (Nat.lt_of_lt_of_le hz hle18)).trans (rfl)
  have g4 := ag18 this hlt_this
  have lt5 : this < cnt18 := by omega
  have ltn18 : cnt < cnt18 := by omega
  refine pw_vl (fun m20 em20 => ?_)
  have hl6 : LC 201 la18 cnt18 m20 := LC_up (hB18.1 201 fl_201) em20 (by omega) (by omega) (lk_201.mpr (by omega))
  have hf7 : ∀ z, (z < cnt ∧ z ≠ this) → m20 z = (P 201) z := fr_up (e0 := (P 201)) (fun z hz => hF18_P 201 z hz.1 (fun _ => hz.2)) em20 (show ¬ (this < cnt ∧ this ≠ this) from fun hz => by have q1 := hg18 this hz.1; omega)
  refine pw_if (fun _ => ?_)
  refine pw_tk ?_
  refine pw_newc (la := la18) (L := la18 this + 0) (LB_set hB18 hl6) (by have q8 := hB18.2 this lt5; omega) (fun la25 G25 P25 U25 V25 X25 O25 kd25 ln25 cnt25 hcn25 hB25 hL25 ag25 qG25 qP25 qU25 qV25 qX25 qO25 ql25 => ?_)
  have hle25 : cnt ≤ cnt18 := by omega
  have hg25 : ∀ z, z < cnt → la25 z = la z := fun z hz => (ag25 z (Nat.lt_of_lt_of_le hz hle25)).trans (hg18 z hz)
  have hF25_G : FRM cnt [200, 203] (fun z => z ≠ this) G G25 := FRM_trans hF18_G qG25 hle25 (by decide) (fun _ _ _ => trivial)
  have hF25_P : FRM cnt [201, 202] (fun z => z ≠ this) P P25 := FRM_trans (FRM_set hF18_P (by decide) (fun z h1 h2 => hf7 z ⟨h1, h2⟩)) qP25 hle25 (by decide) (fun _ _ _ => trivial)
  have hF25_U : FRM cnt [] (fun z => z ≠ this) U U25 := FRM_trans hF18_U qU25 hle25 (by decide) (fun _ _ _ => trivial)
  have hF25_V : FRM cnt [] (fun z => z ≠ this) V V25 := FRM_trans hF18_V qV25 hle25 (by decide) (fun _ _ _ => trivial)
  have hF25_X : FRM cnt [] (fun z => z ≠ this) X X25 := FRM_trans hF18_X qX25 hle25 (by decide) (fun _ _ _ => trivial)
  have hF25_O : FRM cnt [] (fun z => z ≠ this) O O25 := FRM_trans hF18_O qO25 hle25 (by decide) (fun _ _ _ => trivial)
  have hln25 : ∀ z, z < cnt → ln25 z = ln z := fun z hz => (ql25 z (Nat.lt_of_lt_of_le hz hle25)).trans (hln18 z hz)
  have g9 := ag25 this lt5
  have lt10 : this < cnt25 := by omega
  have ltn25 : cnt18 < cnt25 := by omega
  refine pw_vl (fun m27 em27 => ?_)
  have hl11 : LC 202 la25 cnt25 m27 := LC_up (hB25.1 202 fl_202) em27 (by omega) (by omega) (lk_202.mpr (by omega))
  have hf12 : ∀ z, (z < cnt ∧ z ≠ this) → m27 z = (P 202) z := fr_up (e0 := (P 202)) (fun z hz => hF25_P 202 z hz.1 (fun _ => hz.2)) em27 (show ¬ (this < cnt ∧ this ≠ this) from fun hz => by have q1 := hg25 this hz.1; omega)
  exact pw_some ⟨la25, hg25, (LB_set hB25 hl11), (show cnt ≤ cnt25 from by omega), hF25_G, (FRM_set hF25_P (by decide) (fun z h1 h2 => hf12 z ⟨h1, h2⟩)), hF25_U, hF25_V, hF25_X, hF25_O, hln25⟩
abbrev RF_X1_init (la : Nat → Nat) (G : Nat → Nat → Int32) (P : Nat → Nat → Option Nat) (U : Nat → Nat → Int64) (V : Nat → Nat → Nat → Int32) (X : Nat → Nat → Nat → Int64) (O : Nat → Nat → Nat → Option Nat) (kd : Nat → Nat) (ln : Nat → Nat) (cnt : Nat) (this : Nat) (p0 : Nat) (p1 : Nat) : ((Nat → Nat → Int32) × (Nat → Nat → Option Nat) × (Nat → Nat → Int64) × (Nat → Nat → Nat → Int32) × (Nat → Nat → Nat → Int64) × (Nat → Nat → Nat → Option Nat) × (Nat → Nat) × (Nat → Nat) × Nat) → Prop := fun t => ∃ la1 : Nat → Nat, (∀ z, z < cnt → la1 z = la z) ∧ LB la1 (t.2.2.2.2.2.2.2.2) (t.2.1) ∧ cnt ≤ (t.2.2.2.2.2.2.2.2) ∧ FRM cnt [24, 25] (fun z => z ≠ this) G (t.1) ∧ FRM cnt [20, 21, 22, 23] (fun z => z ≠ this) P (t.2.1) ∧ FRM cnt [] (fun z => z ≠ this) U (t.2.2.1) ∧ FRM cnt [] (fun z => z ≠ this) V (t.2.2.2.1) ∧ FRM cnt [] (fun z => z ≠ this) X (t.2.2.2.2.1) ∧ FRM cnt [] (fun z => z ≠ this) O (t.2.2.2.2.2.1) ∧ (∀ z, z < cnt → (t.2.2.2.2.2.2.2.1) z = ln z)
set_option maxHeartbeats 4000000 in
set_option maxRecDepth 100000 in
theorem fr_X1_init (la : Nat → Nat) (G : Nat → Nat → Int32) (P : Nat → Nat → Option Nat) (U : Nat → Nat → Int64) (V : Nat → Nat → Nat → Int32) (X : Nat → Nat → Nat → Int64) (O : Nat → Nat → Nat → Option Nat) (kd : Nat → Nat) (ln : Nat → Nat) (cnt : Nat) (this : Nat) (p0 : Nat) (p1 : Nat) (hB : LB la cnt P) (hlt_this : this < cnt) (hlt_p0 : p0 < cnt) (hlt_p1 : p1 < cnt) (hp0 : la p0 = la this) (hp1 : la p1 = la this) : pw (f_X1_init G P U V X O kd ln cnt this p0 p1) (sp1 (RF_X1_init la G P U V X O kd ln cnt this p0 p1)) := by
  unfold f_X1_init
  refine pw_if (fun _ => ?_)
  refine pw_tk ?_
  refine pw_newc (la := la) (L := la this + 0) hB (by have q1 := hB.2 this hlt_this; have q2 := hB.2 p0 hlt_p0; omega) (fun la6 G6 P6 U6 V6 X6 O6 kd6 ln6 cnt6 hcn6 hB6 hL6 ag6 qG6 qP6 qU6 qV6 qX6 qO6 ql6 => ?_)
  have hle6 : cnt ≤ cnt := Nat.le_refl _
  have hg6 : ∀ z, z < cnt → la6 z = la z := fun z hz => (ag6 z (Nat.lt_of_lt_of_le hz hle6)).trans (rfl)
  have hF6_G : FRM cnt [24, 25] (fun z => z ≠ this) G G6 := FRM_trans FRM_refl qG6 hle6 (by decide) (fun _ _ _ => trivial)
  have hF6_P : FRM cnt [20, 21, 22, 23] (fun z => z ≠ this) P P6 := FRM_trans FRM_refl qP6 hle6 (by decide) (fun _ _ _ => trivial)
  have hF6_U : FRM cnt [] (fun z => z ≠ this) U U6 := FRM_trans FRM_refl qU6 hle6 (by decide) (fun _ _ _ => trivial)
  have hF6_V : FRM cnt [] (fun z => z ≠ this) V V6 := FRM_trans FRM_refl qV6 hle6 (by decide) (fun _ _ _ => trivial)
  have hF6_X : FRM cnt [] (fun z => z ≠ this) X X6 := FRM_trans FRM_refl qX6 hle6 (by decide) (fun _ _ _ => trivial)
  have hF6_O : FRM cnt [] (fun z => z ≠ this) O O6 := FRM_trans FRM_refl qO6 hle6 (by decide) (fun _ _ _ => trivial)
  have hln6 : ∀ z, z < cnt → ln6 z = ln z := fun z hz => (ql6 z (Nat.lt_of_lt_of_le hz hle6)).trans (rfl)
  have g3 := ag6 this hlt_this
  have lt4 : this < cnt6 := by omega
  have g5 := ag6 p0 hlt_p0
  have lt6 : p0 < cnt6 := by omega
  have g7 := ag6 p1 hlt_p1
  have lt8 : p1 < cnt6 := by omega
  have ltn6 : cnt < cnt6 := by omega
  refine pw_vl (fun m8 em8 => ?_)
  have hl9 : LC 22 la6 cnt6 m8 := LC_up (hB6.1 22 fl_22) em8 (by omega) (by omega) (lk_22.mpr (by omega))
  have hf10 : ∀ z, (z < cnt ∧ z ≠ this) → m8 z = (P 22) z := fr_up (e0 := (P 22)) (fun z hz => hF6_P 22 z hz.1 (fun _ => hz.2)) em8 (show ¬ (this < cnt ∧ this ≠ this) from fun hz => by have q1 := hg6 this hz.1; omega)
  refine pw_if (fun _ => ?_)
  refine pw_tk ?_
  refine pw_newc (la := la6) (L := la6 this + 0) (LB_set hB6 hl9) (by have q11 := hB6.2 this lt4; have q12 := hB6.2 p0 lt6; omega) (fun la13 G13 P13 U13 V13 X13 O13 kd13 ln13 cnt13 hcn13 hB13 hL13 ag13 qG13 qP13 qU13 qV13 qX13 qO13 ql13 => ?_)
  have hle13 : cnt ≤ cnt6 := by omega
  have hg13 : ∀ z, z < cnt → la13 z = la z := fun z hz => (ag13 z (Nat.lt_of_lt_of_le hz hle13)).trans (hg6 z hz)
  have hF13_G : FRM cnt [24, 25] (fun z => z ≠ this) G G13 := FRM_trans hF6_G qG13 hle13 (by decide) (fun _ _ _ => trivial)
  have hF13_P : FRM cnt [20, 21, 22, 23] (fun z => z ≠ this) P P13 := FRM_trans (FRM_set hF6_P (by decide) (fun z h1 h2 => hf10 z ⟨h1, h2⟩)) qP13 hle13 (by decide) (fun _ _ _ => trivial)
  have hF13_U : FRM cnt [] (fun z => z ≠ this) U U13 := FRM_trans hF6_U qU13 hle13 (by decide) (fun _ _ _ => trivial)
  have hF13_V : FRM cnt [] (fun z => z ≠ this) V V13 := FRM_trans hF6_V qV13 hle13 (by decide) (fun _ _ _ => trivial)
  have hF13_X : FRM cnt [] (fun z => z ≠ this) X X13 := FRM_trans hF6_X qX13 hle13 (by decide) (fun _ _ _ => trivial)
  have hF13_O : FRM cnt [] (fun z => z ≠ this) O O13 := FRM_trans hF6_O qO13 hle13 (by decide) (fun _ _ _ => trivial)
  have hln13 : ∀ z, z < cnt → ln13 z = ln z := fun z hz => (ql13 z (Nat.lt_of_lt_of_le hz hle13)).trans (hln6 z hz)
  have g13 := ag13 this lt4
  have lt14 : this < cnt13 := by omega
  have g15 := ag13 p0 lt6
  have lt16 : p0 < cnt13 := by omega
  have g17 := ag13 p1 lt8
  have lt18 : p1 < cnt13 := by omega
  have ltn13 : cnt6 < cnt13 := by omega
  refine pw_vl (fun m15 em15 => ?_)
  have hl19 : LC 23 la13 cnt13 m15 := LC_up (hB13.1 23 fl_23) em15 (by omega) (by omega) (lk_23.mpr (by omega))
  have hf20 : ∀ z, (z < cnt ∧ z ≠ this) → m15 z = (P 23) z := fr_up (e0 := (P 23)) (fun z hz => hF13_P 23 z hz.1 (fun _ => hz.2)) em15 (show ¬ (this < cnt ∧ this ≠ this) from fun hz => by have q1 := hg13 this hz.1; omega)
  refine pw_vl (fun m20 em20 => ?_)
  have hf21 : ∀ z, (z < cnt ∧ z ≠ this) → m20 z = (G 24) z := fr_up (e0 := (G 24)) (fun z hz => hF13_G 24 z hz.1 (fun _ => hz.2)) em20 (show ¬ (this < cnt ∧ this ≠ this) from fun hz => by have q1 := hg13 this hz.1; omega)
  refine pw_vl (fun m25 em25 => ?_)
  have hf22 : ∀ z, (z < cnt ∧ z ≠ this) → m25 z = (G 25) z := fr_up (e0 := (G 25)) (fun z hz => hF13_G 25 z hz.1 (fun _ => hz.2)) em25 (show ¬ (this < cnt ∧ this ≠ this) from fun hz => by have q1 := hg13 this hz.1; omega)
  refine pw_vl (fun m30 em30 => ?_)
  have hl23 : LC 20 la13 cnt13 m30 := LC_up (hB13.1 20 fl_20) em30 (by omega) (by omega) (lk_20.mpr (by omega))
  have hf24 : ∀ z, (z < cnt ∧ z ≠ this) → m30 z = (P 20) z := fr_up (e0 := (P 20)) (fun z hz => hF13_P 20 z hz.1 (fun _ => hz.2)) em30 (show ¬ (this < cnt ∧ this ≠ this) from fun hz => by have q1 := hg13 this hz.1; omega)
  refine pw_vl (fun m35 em35 => ?_)
  have hl25 : LC 21 la13 cnt13 m35 := LC_up (hB13.1 21 fl_21) em35 (by omega) (by omega) (lk_21.mpr (by omega))
  have hf26 : ∀ z, (z < cnt ∧ z ≠ this) → m35 z = (P 21) z := fr_up (e0 := (P 21)) (fun z hz => hF13_P 21 z hz.1 (fun _ => hz.2)) em35 (show ¬ (this < cnt ∧ this ≠ this) from fun hz => by have q1 := hg13 this hz.1; omega)
  exact pw_some ⟨la13, hg13, (LB_set (LB_set (LB_set hB13 hl19) hl23) hl25), (show cnt ≤ cnt13 from by omega), (FRM_set (FRM_set hF13_G (by decide) (fun z h1 h2 => hf21 z ⟨h1, h2⟩)) (by decide) (fun z h1 h2 => hf22 z ⟨h1, h2⟩)), (FRM_set (FRM_set (FRM_set hF13_P (by decide) (fun z h1 h2 => hf20 z ⟨h1, h2⟩)) (by decide) (fun z h1 h2 => hf24 z ⟨h1, h2⟩)) (by decide) (fun z h1 h2 => hf26 z ⟨h1, h2⟩)), hF13_U, hF13_V, hF13_X, hF13_O, hln13⟩
abbrev RF_X5_init (la : Nat → Nat) (G : Nat → Nat → Int32) (P : Nat → Nat → Option Nat) (U : Nat → Nat → Int64) (V : Nat → Nat → Nat → Int32) (X : Nat → Nat → Nat → Int64) (O : Nat → Nat → Nat → Option Nat) (kd : Nat → Nat) (ln : Nat → Nat) (cnt : Nat) (this : Nat) : ((Nat → Nat → Int32) × (Nat → Nat → Option Nat) × (Nat → Nat → Int64) × (Nat → Nat → Nat → Int32) × (Nat → Nat → Nat → Int64) × (Nat → Nat → Nat → Option Nat) × (Nat → Nat) × (Nat → Nat) × Nat) → Prop := fun t => ∃ la1 : Nat → Nat, (∀ z, z < cnt → la1 z = la z) ∧ LB la1 (t.2.2.2.2.2.2.2.2) (t.2.1) ∧ cnt ≤ (t.2.2.2.2.2.2.2.2) ∧ FRM cnt [100, 102, 107, 200, 203] (fun z => z ≠ this) G (t.1) ∧ FRM cnt [101, 103, 104, 105, 106, 108, 109, 110, 201, 202] (fun z => z ≠ this) P (t.2.1) ∧ FRM cnt [] (fun z => z ≠ this) U (t.2.2.1) ∧ FRM cnt [] (fun z => z ≠ this) V (t.2.2.2.1) ∧ FRM cnt [] (fun z => z ≠ this) X (t.2.2.2.2.1) ∧ FRM cnt [] (fun z => z ≠ this) O (t.2.2.2.2.2.1) ∧ (∀ z, z < cnt → (t.2.2.2.2.2.2.2.1) z = ln z)
set_option maxHeartbeats 4000000 in
set_option maxRecDepth 100000 in
theorem fr_X5_init (la : Nat → Nat) (G : Nat → Nat → Int32) (P : Nat → Nat → Option Nat) (U : Nat → Nat → Int64) (V : Nat → Nat → Nat → Int32) (X : Nat → Nat → Nat → Int64) (O : Nat → Nat → Nat → Option Nat) (kd : Nat → Nat) (ln : Nat → Nat) (cnt : Nat) (this : Nat) (hB : LB la cnt P) (hlt_this : this < cnt) : pw (f_X5_init G P U V X O kd ln cnt this) (sp1 (RF_X5_init la G P U V X O kd ln cnt this)) := by
  unfold f_X5_init
  refine pw_vl (fun m6 em6 => ?_)
  have hf1 : ∀ z, (z < cnt ∧ z ≠ this) → m6 z = (G 100) z := fr_up (e0 := (G 100)) (fun _ _ => rfl) em6 (show ¬ (this < cnt ∧ this ≠ this) from fun hz => by omega)
  refine pw_if (fun _ => ?_)
  refine pw_tk ?_
  refine pw_newc (la := la) (L := la this + 0) hB (by have q2 := hB.2 this hlt_this; omega) (fun la12 G12 P12 U12 V12 X12 O12 kd12 ln12 cnt12 hcn12 hB12 hL12 ag12 qG12 qP12 qU12 qV12 qX12 qO12 ql12 => ?_)
  have hle12 : cnt ≤ cnt := Nat.le_refl _
  have hg12 : ∀ z, z < cnt → la12 z = la z := fun z hz => (ag12 z (Nat.lt_of_lt_of_le hz hle12)).trans (rfl)
  have hF12_G : FRM cnt [100, 102, 107, 200, 203] (fun z => z ≠ this) G G12 := FRM_trans (FRM_set FRM_refl (by decide) (fun z h1 h2 => hf1 z ⟨h1, h2⟩)) qG12 hle12 (by decide) (fun _ _ _ => trivial)
  have hF12_P : FRM cnt [101, 103, 104, 105, 106, 108, 109, 110, 201, 202] (fun z => z ≠ this) P P12 := FRM_trans FRM_refl qP12 hle12 (by decide) (fun _ _ _ => trivial)
  have hF12_U : FRM cnt [] (fun z => z ≠ this) U U12 := FRM_trans FRM_refl qU12 hle12 (by decide) (fun _ _ _ => trivial)
  have hF12_V : FRM cnt [] (fun z => z ≠ this) V V12 := FRM_trans FRM_refl qV12 hle12 (by decide) (fun _ _ _ => trivial)
  have hF12_X : FRM cnt [] (fun z => z ≠ this) X X12 := FRM_trans FRM_refl qX12 hle12 (by decide) (fun _ _ _ => trivial)
  have hF12_O : FRM cnt [] (fun z => z ≠ this) O O12 := FRM_trans FRM_refl qO12 hle12 (by decide) (fun _ _ _ => trivial)
  have hln12 : ∀ z, z < cnt → ln12 z = ln z := fun z hz => (ql12 z (Nat.lt_of_lt_of_le hz hle12)).trans (rfl)
  have g3 := ag12 this hlt_this
  have lt4 : this < cnt12 := by omega
  have ltn12 : cnt < cnt12 := by omega
  refine pw_vl (fun m15 em15 => ?_)
  have hl5 : LC 101 la12 cnt12 m15 := LC_up (hB12.1 101 fl_101) em15 (by omega) (by omega) (lk_101.mpr (by omega))
  have hf6 : ∀ z, (z < cnt ∧ z ≠ this) → m15 z = (P 101) z := fr_up (e0 := (P 101)) (fun z hz => hF12_P 101 z hz.1 (fun _ => hz.2)) em15 (show ¬ (this < cnt ∧ this ≠ this) from fun hz => by have q1 := hg12 this hz.1; omega)
  refine pw_vl (fun m20 em20 => ?_)
  have hf7 : ∀ z, (z < cnt ∧ z ≠ this) → m20 z = (G 102) z := fr_up (e0 := (G 102)) (fun z hz => hF12_G 102 z hz.1 (fun _ => hz.2)) em20 (show ¬ (this < cnt ∧ this ≠ this) from fun hz => by have q1 := hg12 this hz.1; omega)
  refine pw_tk ?_
  refine pw_newc (la := la12) (L := la12 this + 1) (LB_set hB12 hl5) (by have q8 := hB12.2 this lt4; omega) (fun la24 G24 P24 U24 V24 X24 O24 kd24 ln24 cnt24 hcn24 hB24 hL24 ag24 qG24 qP24 qU24 qV24 qX24 qO24 ql24 => ?_)
  have hle24 : cnt ≤ cnt12 := by omega
  have hg24 : ∀ z, z < cnt → la24 z = la z := fun z hz => (ag24 z (Nat.lt_of_lt_of_le hz hle24)).trans (hg12 z hz)
  have hF24_G : FRM cnt [100, 102, 107, 200, 203] (fun z => z ≠ this) G G24 := FRM_trans (FRM_set hF12_G (by decide) (fun z h1 h2 => hf7 z ⟨h1, h2⟩)) qG24 hle24 (by decide) (fun _ _ _ => trivial)
  have hF24_P : FRM cnt [101, 103, 104, 105, 106, 108, 109, 110, 201, 202] (fun z => z ≠ this) P P24 := FRM_trans (FRM_set hF12_P (by decide) (fun z h1 h2 => hf6 z ⟨h1, h2⟩)) qP24 hle24 (by decide) (fun _ _ _ => trivial)
  have hF24_U : FRM cnt [] (fun z => z ≠ this) U U24 := FRM_trans hF12_U qU24 hle24 (by decide) (fun _ _ _ => trivial)
  have hF24_V : FRM cnt [] (fun z => z ≠ this) V V24 := FRM_trans hF12_V qV24 hle24 (by decide) (fun _ _ _ => trivial)
  have hF24_X : FRM cnt [] (fun z => z ≠ this) X X24 := FRM_trans hF12_X qX24 hle24 (by decide) (fun _ _ _ => trivial)
  have hF24_O : FRM cnt [] (fun z => z ≠ this) O O24 := FRM_trans hF12_O qO24 hle24 (by decide) (fun _ _ _ => trivial)
  have hln24 : ∀ z, z < cnt → ln24 z = ln z := fun z hz => (ql24 z (Nat.lt_of_lt_of_le hz hle24)).trans (hln12 z hz)
  have g9 := ag24 this lt4
  have lt10 : this < cnt24 := by omega
  have ltn24 : cnt12 < cnt24 := by omega
  refine pw_bA9 (fun c32_G c32_P c32_U c32_V c32_X c32_O c32_kd c32_ln c32_cnt v1_32 v2_32 hc32 => ?_)
  have hq32 := fr_X10_init la24 G24 P24 U24 V24 X24 O24 kd24 ln24 cnt24 cnt12 (40 : Int32) (16 : Int32) hB24 ltn24 _ hc32
  obtain ⟨la32_11, ag32, hB32, cc32, qG32, qP32, qU32, qV32, qX32, qO32, ql32⟩ : ∃ la9 : Nat → Nat, (∀ z, z < cnt24 → la9 z = la24 z) ∧ LB la9 c32_cnt c32_P ∧ cnt24 ≤ c32_cnt ∧ FRM cnt24 [200, 203] (fun z => z ≠ cnt12) G24 c32_G ∧ FRM cnt24 [201, 202] (fun z => z ≠ cnt12) P24 c32_P ∧ FRM cnt24 [] (fun z => z ≠ cnt12) U24 c32_U ∧ FRM cnt24 [] (fun z => z ≠ cnt12) V24 c32_V ∧ FRM cnt24 [] (fun z => z ≠ cnt12) X24 c32_X ∧ FRM cnt24 [] (fun z => z ≠ cnt12) O24 c32_O ∧ (∀ z, z < cnt24 → c32_ln z = ln24 z) := hq32
  have hle32 : cnt ≤ cnt24 := by omega
  have hg32 : ∀ z, z < cnt → la32_11 z = la z := fun z hz => (ag32 z (Nat.lt_of_lt_of_le hz hle32)).trans (hg24 z hz)
  have hF32_G : FRM cnt [100, 102, 107, 200, 203] (fun z => z ≠ this) G c32_G := FRM_trans hF24_G qG32 hle32 (by decide) (fun z h0 hz => (show z ≠ cnt12 from by have q1 := hg24 z h0; have q2 := hB.2 z h0; omega))
  have hF32_P : FRM cnt [101, 103, 104, 105, 106, 108, 109, 110, 201, 202] (fun z => z ≠ this) P c32_P := FRM_trans hF24_P qP32 hle32 (by decide) (fun z h0 hz => (show z ≠ cnt12 from by have q1 := hg24 z h0; have q2 := hB.2 z h0; omega))
  have hF32_U : FRM cnt [] (fun z => z ≠ this) U c32_U := FRM_trans hF24_U qU32 hle32 (by decide) (fun z h0 hz => (show z ≠ cnt12 from by have q1 := hg24 z h0; have q2 := hB.2 z h0; omega))
  have hF32_V : FRM cnt [] (fun z => z ≠ this) V c32_V := FRM_trans hF24_V qV32 hle32 (by decide) (fun z h0 hz => (show z ≠ cnt12 from by have q1 := hg24 z h0; have q2 := hB.2 z h0; omega))
  have hF32_X : FRM cnt [] (fun z => z ≠ this) X c32_X := FRM_trans hF24_X qX32 hle32 (by decide) (fun z h0 hz => (show z ≠ cnt12 from by have q1 := hg24 z h0; have q2 := hB.2 z h0; omega))
  have hF32_O : FRM cnt [] (fun z => z ≠ this) O c32_O := FRM_trans hF24_O qO32 hle32 (by decide) (fun z h0 hz => (show z ≠ cnt12 from by have q1 := hg24 z h0; have q2 := hB.2 z h0; omega))
  have hln32 : ∀ z, z < cnt → c32_ln z = ln z := fun z hz => (ql32 z (Nat.lt_of_lt_of_le hz hle32)).trans (hln24 z hz)
  have g12 := ag32 this lt10
  have lt13 : this < c32_cnt := by omega
  have g14 := ag32 cnt12 ltn24
  have lt15 : cnt12 < c32_cnt := by omega
  refine pw_vl (fun m35 em35 => ?_)
  have hl16 : LC 103 la32_11 c32_cnt m35 := LC_up (hB32.1 103 fl_103) em35 (by omega) (by omega) (lk_103.mpr (by omega))
  have hf17 : ∀ z, (z < cnt ∧ z ≠ this) → m35 z = (P 103) z := fr_up (e0 := (P 103)) (fun z hz => hF32_P 103 z hz.1 (fun _ => hz.2)) em35 (show ¬ (this < cnt ∧ this ≠ this) from fun hz => by have q1 := hg32 this hz.1; omega)
  refine pw_tk ?_
  refine pw_newc (la := la32_11) (L := la32_11 this + 2) (LB_set hB32 hl16) (by have q18 := hB32.2 this lt13; omega) (fun la39 G39 P39 U39 V39 X39 O39 kd39 ln39 cnt39 hcn39 hB39 hL39 ag39 qG39 qP39 qU39 qV39 qX39 qO39 ql39 => ?_)
  have hle39 : cnt ≤ c32_cnt := by omega
  have hg39 : ∀ z, z < cnt → la39 z = la z := fun z hz => (ag39 z (Nat.lt_of_lt_of_le hz hle39)).trans (hg32 z hz)
  have hF39_G : FRM cnt [100, 102, 107, 200, 203] (fun z => z ≠ this) G G39 := FRM_trans hF32_G qG39 hle39 (by decide) (fun _ _ _ => trivial)
  have hF39_P : FRM cnt [101, 103, 104, 105, 106, 108, 109, 110, 201, 202] (fun z => z ≠ this) P P39 := FRM_trans (FRM_set hF32_P (by decide) (fun z h1 h2 => hf17 z ⟨h1, h2⟩)) qP39 hle39 (by decide) (fun _ _ _ => trivial)
  have hF39_U : FRM cnt [] (fun z => z ≠ this) U U39 := FRM_trans hF32_U qU39 hle39 (by decide) (fun _ _ _ => trivial)
  have hF39_V : FRM cnt [] (fun z => z ≠ this) V V39 := FRM_trans hF32_V qV39 hle39 (by decide) (fun _ _ _ => trivial)
  have hF39_X : FRM cnt [] (fun z => z ≠ this) X X39 := FRM_trans hF32_X qX39 hle39 (by decide) (fun _ _ _ => trivial)
  have hF39_O : FRM cnt [] (fun z => z ≠ this) O O39 := FRM_trans hF32_O qO39 hle39 (by decide) (fun _ _ _ => trivial)
  have hln39 : ∀ z, z < cnt → ln39 z = ln z := fun z hz => (ql39 z (Nat.lt_of_lt_of_le hz hle39)).trans (hln32 z hz)
  have g19 := ag39 this lt13
  have lt20 : this < cnt39 := by omega
  have ltn39 : c32_cnt < cnt39 := by omega
  refine pw_bA9 (fun c47_G c47_P c47_U c47_V c47_X c47_O c47_kd c47_ln c47_cnt v1_47 v2_47 hc47 => ?_)
  have hq47 := fr_X10_init la39 G39 P39 U39 V39 X39 O39 kd39 ln39 cnt39 c32_cnt (40 : Int32) (16 : Int32) hB39 ltn39 _ hc47
  obtain ⟨la47_21, ag47, hB47, cc47, qG47, qP47, qU47, qV47, qX47, qO47, ql47⟩ : ∃ la9 : Nat → Nat, (∀ z, z < cnt39 → la9 z = la39 z) ∧ LB la9 c47_cnt c47_P ∧ cnt39 ≤ c47_cnt ∧ FRM cnt39 [200, 203] (fun z => z ≠ c32_cnt) G39 c47_G ∧ FRM cnt39 [201, 202] (fun z => z ≠ c32_cnt) P39 c47_P ∧ FRM cnt39 [] (fun z => z ≠ c32_cnt) U39 c47_U ∧ FRM cnt39 [] (fun z => z ≠ c32_cnt) V39 c47_V ∧ FRM cnt39 [] (fun z => z ≠ c32_cnt) X39 c47_X ∧ FRM cnt39 [] (fun z => z ≠ c32_cnt) O39 c47_O ∧ (∀ z, z < cnt39 → c47_ln z = ln39 z) := hq47
  have hle47 : cnt ≤ cnt39 := by omega
  have hg47 : ∀ z, z < cnt → la47_21 z = la z := fun z hz => (ag47 z (Nat.lt_of_lt_of_le hz hle47)).trans (hg39 z hz)
  have hF47_G : FRM cnt [100, 102, 107, 200, 203] (fun z => z ≠ this) G c47_G := FRM_trans hF39_G qG47 hle47 (by decide) (fun z h0 hz => (show z ≠ c32_cnt from by have q1 := hg39 z h0; have q2 := hB.2 z h0; omega))
  have hF47_P : FRM cnt [101, 103, 104, 105, 106, 108, 109, 110, 201, 202] (fun z => z ≠ this) P c47_P := FRM_trans hF39_P qP47 hle47 (by decide) (fun z h0 hz => (show z ≠ c32_cnt from by have q1 := hg39 z h0; have q2 := hB.2 z h0; omega))
  have hF47_U : FRM cnt [] (fun z => z ≠ this) U c47_U := FRM_trans hF39_U qU47 hle47 (by decide) (fun z h0 hz => (show z ≠ c32_cnt from by have q1 := hg39 z h0; have q2 := hB.2 z h0; omega))
  have hF47_V : FRM cnt [] (fun z => z ≠ this) V c47_V := FRM_trans hF39_V qV47 hle47 (by decide) (fun z h0 hz => (show z ≠ c32_cnt from by have q1 := hg39 z h0; have q2 := hB.2 z h0; omega))
  have hF47_X : FRM cnt [] (fun z => z ≠ this) X c47_X := FRM_trans hF39_X qX47 hle47 (by decide) (fun z h0 hz => (show z ≠ c32_cnt from by have q1 := hg39 z h0; have q2 := hB.2 z h0; omega))
  have hF47_O : FRM cnt [] (fun z => z ≠ this) O c47_O := FRM_trans hF39_O qO47 hle47 (by decide) (fun z h0 hz => (show z ≠ c32_cnt from by have q1 := hg39 z h0; have q2 := hB.2 z h0; omega))
  have hln47 : ∀ z, z < cnt → c47_ln z = ln z := fun z hz => (ql47 z (Nat.lt_of_lt_of_le hz hle47)).trans (hln39 z hz)
  have g22 := ag47 this lt20
  have lt23 : this < c47_cnt := by omega
  have g24 := ag47 c32_cnt ltn39
  have lt25 : c32_cnt < c47_cnt := by omega
  refine pw_vl (fun m50 em50 => ?_)
  have hl26 : LC 104 la47_21 c47_cnt m50 := LC_up (hB47.1 104 fl_104) em50 (by omega) (by omega) (lk_104.mpr (by omega))
  have hf27 : ∀ z, (z < cnt ∧ z ≠ this) → m50 z = (P 104) z := fr_up (e0 := (P 104)) (fun z hz => hF47_P 104 z hz.1 (fun _ => hz.2)) em50 (show ¬ (this < cnt ∧ this ≠ this) from fun hz => by have q1 := hg47 this hz.1; omega)
  refine pw_tk ?_
  refine pw_newc (la := la47_21) (L := la47_21 this + 3) (LB_set hB47 hl26) (by have q28 := hB47.2 this lt23; omega) (fun la54 G54 P54 U54 V54 X54 O54 kd54 ln54 cnt54 hcn54 hB54 hL54 ag54 qG54 qP54 qU54 qV54 qX54 qO54 ql54 => ?_)
  have hle54 : cnt ≤ c47_cnt := by omega
  have hg54 : ∀ z, z < cnt → la54 z = la z := fun z hz => (ag54 z (Nat.lt_of_lt_of_le hz hle54)).trans (hg47 z hz)
  have hF54_G : FRM cnt [100, 102, 107, 200, 203] (fun z => z ≠ this) G G54 := FRM_trans hF47_G qG54 hle54 (by decide) (fun _ _ _ => trivial)
  have hF54_P : FRM cnt [101, 103, 104, 105, 106, 108, 109, 110, 201, 202] (fun z => z ≠ this) P P54 := FRM_trans (FRM_set hF47_P (by decide) (fun z h1 h2 => hf27 z ⟨h1, h2⟩)) qP54 hle54 (by decide) (fun _ _ _ => trivial)
  have hF54_U : FRM cnt [] (fun z => z ≠ this) U U54 := FRM_trans hF47_U qU54 hle54 (by decide) (fun _ _ _ => trivial)
  have hF54_V : FRM cnt [] (fun z => z ≠ this) V V54 := FRM_trans hF47_V qV54 hle54 (by decide) (fun _ _ _ => trivial)
  have hF54_X : FRM cnt [] (fun z => z ≠ this) X X54 := FRM_trans hF47_X qX54 hle54 (by decide) (fun _ _ _ => trivial)
  have hF54_O : FRM cnt [] (fun z => z ≠ this) O O54 := FRM_trans hF47_O qO54 hle54 (by decide) (fun _ _ _ => trivial)
  have hln54 : ∀ z, z < cnt → ln54 z = ln z := fun z hz => (ql54 z (Nat.lt_of_lt_of_le hz hle54)).trans (hln47 z hz)
  have g29 := ag54 this lt23
  have lt30 : this < cnt54 := by omega
  have ltn54 : c47_cnt < cnt54 := by omega
  refine pw_bA9 (fun c62_G c62_P c62_U c62_V c62_X c62_O c62_kd c62_ln c62_cnt v1_62 v2_62 hc62 => ?_)
  have hq62 := fr_X10_init la54 G54 P54 U54 V54 X54 O54 kd54 ln54 cnt54 c47_cnt (40 : Int32) (16 : Int32) hB54 ltn54 _ hc62
  obtain ⟨la62_31, ag62, hB62, cc62, qG62, qP62, qU62, qV62, qX62, qO62, ql62⟩ : ∃ la9 : Nat → Nat, (∀ z, z < cnt54 → la9 z = la54 z) ∧ LB la9 c62_cnt c62_P ∧ cnt54 ≤ c62_cnt ∧ FRM cnt54 [200, 203] (fun z => z ≠ c47_cnt) G54 c62_G ∧ FRM cnt54 [201, 202] (fun z => z ≠ c47_cnt) P54 c62_P ∧ FRM cnt54 [] (fun z => z ≠ c47_cnt) U54 c62_U ∧ FRM cnt54 [] (fun z => z ≠ c47_cnt) V54 c62_V ∧ FRM cnt54 [] (fun z => z ≠ c47_cnt) X54 c62_X ∧ FRM cnt54 [] (fun z => z ≠ c47_cnt) O54 c62_O ∧ (∀ z, z < cnt54 → c62_ln z = ln54 z) := hq62
  have hle62 : cnt ≤ cnt54 := by omega
  have hg62 : ∀ z, z < cnt → la62_31 z = la z := fun z hz => (ag62 z (Nat.lt_of_lt_of_le hz hle62)).trans (hg54 z hz)
  have hF62_G : FRM cnt [100, 102, 107, 200, 203] (fun z => z ≠ this) G c62_G := FRM_trans hF54_G qG62 hle62 (by decide) (fun z h0 hz => (show z ≠ c47_cnt from by have q1 := hg54 z h0; have q2 := hB.2 z h0; omega))
  have hF62_P : FRM cnt [101, 103, 104, 105, 106, 108, 109, 110, 201, 202] (fun z => z ≠ this) P c62_P := FRM_trans hF54_P qP62 hle62 (by decide) (fun z h0 hz => (show z ≠ c47_cnt from by have q1 := hg54 z h0; have q2 := hB.2 z h0; omega))
  have hF62_U : FRM cnt [] (fun z => z ≠ this) U c62_U := FRM_trans hF54_U qU62 hle62 (by decide) (fun z h0 hz => (show z ≠ c47_cnt from by have q1 := hg54 z h0; have q2 := hB.2 z h0; omega))
  have hF62_V : FRM cnt [] (fun z => z ≠ this) V c62_V := FRM_trans hF54_V qV62 hle62 (by decide) (fun z h0 hz => (show z ≠ c47_cnt from by have q1 := hg54 z h0; have q2 := hB.2 z h0; omega))
  have hF62_X : FRM cnt [] (fun z => z ≠ this) X c62_X := FRM_trans hF54_X qX62 hle62 (by decide) (fun z h0 hz => (show z ≠ c47_cnt from by have q1 := hg54 z h0; have q2 := hB.2 z h0; omega))
  have hF62_O : FRM cnt [] (fun z => z ≠ this) O c62_O := FRM_trans hF54_O qO62 hle62 (by decide) (fun z h0 hz => (show z ≠ c47_cnt from by have q1 := hg54 z h0; have q2 := hB.2 z h0; omega))
  have hln62 : ∀ z, z < cnt → c62_ln z = ln z := fun z hz => (ql62 z (Nat.lt_of_lt_of_le hz hle62)).trans (hln54 z hz)
  have g32 := ag62 this lt30
  have lt33 : this < c62_cnt := by omega
  have g34 := ag62 c47_cnt ltn54
  have lt35 : c47_cnt < c62_cnt := by omega
  refine pw_vl (fun m65 em65 => ?_)
  have hl36 : LC 105 la62_31 c62_cnt m65 := LC_up (hB62.1 105 fl_105) em65 (by omega) (by omega) (lk_105.mpr (by omega))
  have hf37 : ∀ z, (z < cnt ∧ z ≠ this) → m65 z = (P 105) z := fr_up (e0 := (P 105)) (fun z hz => hF62_P 105 z hz.1 (fun _ => hz.2)) em65 (show ¬ (this < cnt ∧ this ≠ this) from fun hz => by have q1 := hg62 this hz.1; omega)
  refine pw_if (fun _ => ?_)
  refine pw_tk ?_
  refine pw_newc (la := la62_31) (L := la62_31 this + 0) (LB_set hB62 hl36) (by have q38 := hB62.2 this lt33; omega) (fun la71 G71 P71 U71 V71 X71 O71 kd71 ln71 cnt71 hcn71 hB71 hL71 ag71 qG71 qP71 qU71 qV71 qX71 qO71 ql71 => ?_)
  have hle71 : cnt ≤ c62_cnt := by omega
  have hg71 : ∀ z, z < cnt → la71 z = la z := fun z hz => (ag71 z (Nat.lt_of_lt_of_le hz hle71)).trans (hg62 z hz)
  have hF71_G : FRM cnt [100, 102, 107, 200, 203] (fun z => z ≠ this) G G71 := FRM_trans hF62_G qG71 hle71 (by decide) (fun _ _ _ => trivial)
  have hF71_P : FRM cnt [101, 103, 104, 105, 106, 108, 109, 110, 201, 202] (fun z => z ≠ this) P P71 := FRM_trans (FRM_set hF62_P (by decide) (fun z h1 h2 => hf37 z ⟨h1, h2⟩)) qP71 hle71 (by decide) (fun _ _ _ => trivial)
  have hF71_U : FRM cnt [] (fun z => z ≠ this) U U71 := FRM_trans hF62_U qU71 hle71 (by decide) (fun _ _ _ => trivial)
  have hF71_V : FRM cnt [] (fun z => z ≠ this) V V71 := FRM_trans hF62_V qV71 hle71 (by decide) (fun _ _ _ => trivial)
  have hF71_X : FRM cnt [] (fun z => z ≠ this) X X71 := FRM_trans hF62_X qX71 hle71 (by decide) (fun _ _ _ => trivial)
  have hF71_O : FRM cnt [] (fun z => z ≠ this) O O71 := FRM_trans hF62_O qO71 hle71 (by decide) (fun _ _ _ => trivial)
  have hln71 : ∀ z, z < cnt → ln71 z = ln z := fun z hz => (ql71 z (Nat.lt_of_lt_of_le hz hle71)).trans (hln62 z hz)
  have g39 := ag71 this lt33
  have lt40 : this < cnt71 := by omega
  have ltn71 : c62_cnt < cnt71 := by omega
  refine pw_vl (fun m73 em73 => ?_)
  have hl41 : LC 106 la71 cnt71 m73 := LC_up (hB71.1 106 fl_106) em73 (by omega) (by omega) (lk_106.mpr (by omega))
  have hf42 : ∀ z, (z < cnt ∧ z ≠ this) → m73 z = (P 106) z := fr_up (e0 := (P 106)) (fun z hz => hF71_P 106 z hz.1 (fun _ => hz.2)) em73 (show ¬ (this < cnt ∧ this ≠ this) from fun hz => by have q1 := hg71 this hz.1; omega)
  refine pw_vl (fun m78 em78 => ?_)
  have hf43 : ∀ z, (z < cnt ∧ z ≠ this) → m78 z = (G 107) z := fr_up (e0 := (G 107)) (fun z hz => hF71_G 107 z hz.1 (fun _ => hz.2)) em78 (show ¬ (this < cnt ∧ this ≠ this) from fun hz => by have q1 := hg71 this hz.1; omega)
  refine pw_tk ?_
  refine pw_newc (la := la71) (L := la71 this + 4) (LB_set hB71 hl41) (by have q44 := hB71.2 this lt40; omega) (fun la82 G82 P82 U82 V82 X82 O82 kd82 ln82 cnt82 hcn82 hB82 hL82 ag82 qG82 qP82 qU82 qV82 qX82 qO82 ql82 => ?_)
  have hle82 : cnt ≤ cnt71 := by omega
  have hg82 : ∀ z, z < cnt → la82 z = la z := fun z hz => (ag82 z (Nat.lt_of_lt_of_le hz hle82)).trans (hg71 z hz)
  have hF82_G : FRM cnt [100, 102, 107, 200, 203] (fun z => z ≠ this) G G82 := FRM_trans (FRM_set hF71_G (by decide) (fun z h1 h2 => hf43 z ⟨h1, h2⟩)) qG82 hle82 (by decide) (fun _ _ _ => trivial)
  have hF82_P : FRM cnt [101, 103, 104, 105, 106, 108, 109, 110, 201, 202] (fun z => z ≠ this) P P82 := FRM_trans (FRM_set hF71_P (by decide) (fun z h1 h2 => hf42 z ⟨h1, h2⟩)) qP82 hle82 (by decide) (fun _ _ _ => trivial)
  have hF82_U : FRM cnt [] (fun z => z ≠ this) U U82 := FRM_trans hF71_U qU82 hle82 (by decide) (fun _ _ _ => trivial)
  have hF82_V : FRM cnt [] (fun z => z ≠ this) V V82 := FRM_trans hF71_V qV82 hle82 (by decide) (fun _ _ _ => trivial)
  have hF82_X : FRM cnt [] (fun z => z ≠ this) X X82 := FRM_trans hF71_X qX82 hle82 (by decide) (fun _ _ _ => trivial)
  have hF82_O : FRM cnt [] (fun z => z ≠ this) O O82 := FRM_trans hF71_O qO82 hle82 (by decide) (fun _ _ _ => trivial)
  have hln82 : ∀ z, z < cnt → ln82 z = ln z := fun z hz => (ql82 z (Nat.lt_of_lt_of_le hz hle82)).trans (hln71 z hz)
  have g45 := ag82 this lt40
  have lt46 : this < cnt82 := by omega
  have ltn82 : cnt71 < cnt82 := by omega
  refine pw_bA9 (fun c90_G c90_P c90_U c90_V c90_X c90_O c90_kd c90_ln c90_cnt v1_90 v2_90 hc90 => ?_)
  have hq90 := fr_X10_init la82 G82 P82 U82 V82 X82 O82 kd82 ln82 cnt82 cnt71 (40 : Int32) (24 : Int32) hB82 ltn82 _ hc90
  obtain ⟨la90_47, ag90, hB90, cc90, qG90, qP90, qU90, qV90, qX90, qO90, ql90⟩ : ∃ la9 : Nat → Nat, (∀ z, z < cnt82 → la9 z = la82 z) ∧ LB la9 c90_cnt c90_P ∧ cnt82 ≤ c90_cnt ∧ FRM cnt82 [200, 203] (fun z => z ≠ cnt71) G82 c90_G ∧ FRM cnt82 [201, 202] (fun z => z ≠ cnt71) P82 c90_P ∧ FRM cnt82 [] (fun z => z ≠ cnt71) U82 c90_U ∧ FRM cnt82 [] (fun z => z ≠ cnt71) V82 c90_V ∧ FRM cnt82 [] (fun z => z ≠ cnt71) X82 c90_X ∧ FRM cnt82 [] (fun z => z ≠ cnt71) O82 c90_O ∧ (∀ z, z < cnt82 → c90_ln z = ln82 z) := hq90
  have hle90 : cnt ≤ cnt82 := by omega
  have hg90 : ∀ z, z < cnt → la90_47 z = la z := fun z hz => (ag90 z (Nat.lt_of_lt_of_le hz hle90)).trans (hg82 z hz)
  have hF90_G : FRM cnt [100, 102, 107, 200, 203] (fun z => z ≠ this) G c90_G := FRM_trans hF82_G qG90 hle90 (by decide) (fun z h0 hz => (show z ≠ cnt71 from by have q1 := hg82 z h0; have q2 := hB.2 z h0; omega))
  have hF90_P : FRM cnt [101, 103, 104, 105, 106, 108, 109, 110, 201, 202] (fun z => z ≠ this) P c90_P := FRM_trans hF82_P qP90 hle90 (by decide) (fun z h0 hz => (show z ≠ cnt71 from by have q1 := hg82 z h0; have q2 := hB.2 z h0; omega))
  have hF90_U : FRM cnt [] (fun z => z ≠ this) U c90_U := FRM_trans hF82_U qU90 hle90 (by decide) (fun z h0 hz => (show z ≠ cnt71 from by have q1 := hg82 z h0; have q2 := hB.2 z h0; omega))
  have hF90_V : FRM cnt [] (fun z => z ≠ this) V c90_V := FRM_trans hF82_V qV90 hle90 (by decide) (fun z h0 hz => (show z ≠ cnt71 from by have q1 := hg82 z h0; have q2 := hB.2 z h0; omega))
  have hF90_X : FRM cnt [] (fun z => z ≠ this) X c90_X := FRM_trans hF82_X qX90 hle90 (by decide) (fun z h0 hz => (show z ≠ cnt71 from by have q1 := hg82 z h0; have q2 := hB.2 z h0; omega))
  have hF90_O : FRM cnt [] (fun z => z ≠ this) O c90_O := FRM_trans hF82_O qO90 hle90 (by decide) (fun z h0 hz => (show z ≠ cnt71 from by have q1 := hg82 z h0; have q2 := hB.2 z h0; omega))
  have hln90 : ∀ z, z < cnt → c90_ln z = ln z := fun z hz => (ql90 z (Nat.lt_of_lt_of_le hz hle90)).trans (hln82 z hz)
  have g48 := ag90 this lt46
  have lt49 : this < c90_cnt := by omega
  have g50 := ag90 cnt71 ltn82
  have lt51 : cnt71 < c90_cnt := by omega
  refine pw_vl (fun m93 em93 => ?_)
  have hl52 : LC 108 la90_47 c90_cnt m93 := LC_up (hB90.1 108 fl_108) em93 (by omega) (by omega) (lk_108.mpr (by omega))
  have hf53 : ∀ z, (z < cnt ∧ z ≠ this) → m93 z = (P 108) z := fr_up (e0 := (P 108)) (fun z hz => hF90_P 108 z hz.1 (fun _ => hz.2)) em93 (show ¬ (this < cnt ∧ this ≠ this) from fun hz => by have q1 := hg90 this hz.1; omega)
  refine pw_if (fun _ => ?_)
  refine pw_tk ?_
  refine pw_newc (la := la90_47) (L := la90_47 this + 0) (LB_set hB90 hl52) (by have q54 := hB90.2 this lt49; omega) (fun la99 G99 P99 U99 V99 X99 O99 kd99 ln99 cnt99 hcn99 hB99 hL99 ag99 qG99 qP99 qU99 qV99 qX99 qO99 ql99 => ?_)
  have hle99 : cnt ≤ c90_cnt := by omega
  have hg99 : ∀ z, z < cnt → la99 z = la z := fun z hz => (ag99 z (Nat.lt_of_lt_of_le hz hle99)).trans (hg90 z hz)
  have hF99_G : FRM cnt [100, 102, 107, 200, 203] (fun z => z ≠ this) G G99 := FRM_trans hF90_G qG99 hle99 (by decide) (fun _ _ _ => trivial)
  have hF99_P : FRM cnt [101, 103, 104, 105, 106, 108, 109, 110, 201, 202] (fun z => z ≠ this) P P99 := FRM_trans (FRM_set hF90_P (by decide) (fun z h1 h2 => hf53 z ⟨h1, h2⟩)) qP99 hle99 (by decide) (fun _ _ _ => trivial)
  have hF99_U : FRM cnt [] (fun z => z ≠ this) U U99 := FRM_trans hF90_U qU99 hle99 (by decide) (fun _ _ _ => trivial)
  have hF99_V : FRM cnt [] (fun z => z ≠ this) V V99 := FRM_trans hF90_V qV99 hle99 (by decide) (fun _ _ _ => trivial)
  have hF99_X : FRM cnt [] (fun z => z ≠ this) X X99 := FRM_trans hF90_X qX99 hle99 (by decide) (fun _ _ _ => trivial)
  have hF99_O : FRM cnt [] (fun z => z ≠ this) O O99 := FRM_trans hF90_O qO99 hle99 (by decide) (fun _ _ _ => trivial)
  have hln99 : ∀ z, z < cnt → ln99 z = ln z := fun z hz => (ql99 z (Nat.lt_of_lt_of_le hz hle99)).trans (hln90 z hz)
  have g55 := ag99 this lt49
  have lt56 : this < cnt99 := by omega
  have ltn99 : c90_cnt < cnt99 := by omega
  refine pw_vl (fun m101 em101 => ?_)
  have hl57 : LC 109 la99 cnt99 m101 := LC_up (hB99.1 109 fl_109) em101 (by omega) (by omega) (lk_109.mpr (by omega))
  have hf58 : ∀ z, (z < cnt ∧ z ≠ this) → m101 z = (P 109) z := fr_up (e0 := (P 109)) (fun z hz => hF99_P 109 z hz.1 (fun _ => hz.2)) em101 (show ¬ (this < cnt ∧ this ≠ this) from fun hz => by have q1 := hg99 this hz.1; omega)
  refine pw_if (fun _ => ?_)
  refine pw_tk ?_
  refine pw_newc (la := la99) (L := la99 this + 0) (LB_set hB99 hl57) (by have q59 := hB99.2 this lt56; omega) (fun la107 G107 P107 U107 V107 X107 O107 kd107 ln107 cnt107 hcn107 hB107 hL107 ag107 qG107 qP107 qU107 qV107 qX107 qO107 ql107 => ?_)
  have hle107 : cnt ≤ cnt99 := by omega
  have hg107 : ∀ z, z < cnt → la107 z = la z := fun z hz => (ag107 z (Nat.lt_of_lt_of_le hz hle107)).trans (hg99 z hz)
  have hF107_G : FRM cnt [100, 102, 107, 200, 203] (fun z => z ≠ this) G G107 := FRM_trans hF99_G qG107 hle107 (by decide) (fun _ _ _ => trivial)
  have hF107_P : FRM cnt [101, 103, 104, 105, 106, 108, 109, 110, 201, 202] (fun z => z ≠ this) P P107 := FRM_trans (FRM_set hF99_P (by decide) (fun z h1 h2 => hf58 z ⟨h1, h2⟩)) qP107 hle107 (by decide) (fun _ _ _ => trivial)
  have hF107_U : FRM cnt [] (fun z => z ≠ this) U U107 := FRM_trans hF99_U qU107 hle107 (by decide) (fun _ _ _ => trivial)
  have hF107_V : FRM cnt [] (fun z => z ≠ this) V V107 := FRM_trans hF99_V qV107 hle107 (by decide) (fun _ _ _ => trivial)
  have hF107_X : FRM cnt [] (fun z => z ≠ this) X X107 := FRM_trans hF99_X qX107 hle107 (by decide) (fun _ _ _ => trivial)
  have hF107_O : FRM cnt [] (fun z => z ≠ this) O O107 := FRM_trans hF99_O qO107 hle107 (by decide) (fun _ _ _ => trivial)
  have hln107 : ∀ z, z < cnt → ln107 z = ln z := fun z hz => (ql107 z (Nat.lt_of_lt_of_le hz hle107)).trans (hln99 z hz)
  have g60 := ag107 this lt56
  have lt61 : this < cnt107 := by omega
  have ltn107 : cnt99 < cnt107 := by omega
  refine pw_vl (fun m109 em109 => ?_)
  have hl62 : LC 110 la107 cnt107 m109 := LC_up (hB107.1 110 fl_110) em109 (by omega) (by omega) (lk_110.mpr (by omega))
  have hf63 : ∀ z, (z < cnt ∧ z ≠ this) → m109 z = (P 110) z := fr_up (e0 := (P 110)) (fun z hz => hF107_P 110 z hz.1 (fun _ => hz.2)) em109 (show ¬ (this < cnt ∧ this ≠ this) from fun hz => by have q1 := hg107 this hz.1; omega)
  exact pw_some ⟨la107, hg107, (LB_set hB107 hl62), (show cnt ≤ cnt107 from by omega), hF107_G, (FRM_set hF107_P (by decide) (fun z h1 h2 => hf63 z ⟨h1, h2⟩)), hF107_U, hF107_V, hF107_X, hF107_O, hln107⟩
abbrev RF_J7_copyOfRangeByte_39247 (la : Nat → Nat) (G : Nat → Nat → Int32) (P : Nat → Nat → Option Nat) (U : Nat → Nat → Int64) (V : Nat → Nat → Nat → Int32) (X : Nat → Nat → Nat → Int64) (O : Nat → Nat → Nat → Option Nat) (kd : Nat → Nat) (ln : Nat → Nat) (cnt : Nat) (p0 : Nat) (p1 : Int32) (p2 : Int32) (nl : Nat) : (Nat × (Nat → Nat → Int32) × (Nat → Nat → Option Nat) × (Nat → Nat → Int64) × (Nat → Nat → Nat → Int32) × (Nat → Nat → Nat → Int64) × (Nat → Nat → Nat → Option Nat) × (Nat → Nat) × (Nat → Nat) × Nat) → Prop := fun t => ∃ la1 : Nat → Nat, (∀ z, z < cnt → la1 z = la z) ∧ LB la1 (t.2.2.2.2.2.2.2.2.2) (t.2.2.1) ∧ cnt ≤ (t.2.2.2.2.2.2.2.2.2) ∧ FRM cnt [] (fun z => True) G (t.2.1) ∧ FRM cnt [] (fun z => True) P (t.2.2.1) ∧ FRM cnt [] (fun z => True) U (t.2.2.2.1) ∧ FRM cnt [0] (fun z => True) V (t.2.2.2.2.1) ∧ FRM cnt [] (fun z => True) X (t.2.2.2.2.2.1) ∧ FRM cnt [] (fun z => True) O (t.2.2.2.2.2.2.1) ∧ (∀ z, z < cnt → (t.2.2.2.2.2.2.2.2.1) z = ln z) ∧ (cnt ≤ (t.1) ∧ (t.1) < (t.2.2.2.2.2.2.2.2.2) ∧ la1 (t.1) = nl)
set_option maxHeartbeats 4000000 in
set_option maxRecDepth 100000 in
theorem fr_J7_copyOfRangeByte_39247 (la : Nat → Nat) (G : Nat → Nat → Int32) (P : Nat → Nat → Option Nat) (U : Nat → Nat → Int64) (V : Nat → Nat → Nat → Int32) (X : Nat → Nat → Nat → Int64) (O : Nat → Nat → Nat → Option Nat) (kd : Nat → Nat) (ln : Nat → Nat) (cnt : Nat) (p0 : Nat) (p1 : Int32) (p2 : Int32) (nl : Nat) (hB : LB la cnt P) (hlt_p0 : p0 < cnt) (hp0 : nl < 100000 + 10 * cnt + 6) : pw (f_J7_copyOfRangeByte_39247 G P U V X O kd ln cnt p0 p1 p2) (sp1 (RF_J7_copyOfRangeByte_39247 la G P U V X O kd ln cnt p0 p1 p2 nl)) := by
  unfold f_J7_copyOfRangeByte_39247
  refine pw_b0 (fun u2 hc2 => ?_)
  clear hc2
  refine pw_vl (fun x8 _ => ?_)
  refine pw_if (fun _ => ?_)
  refine pw_tk ?_
  refine pw_newc (la := la) (L := nl) hB (by have q1 := hB.2 p0 hlt_p0; omega) (fun la10 G10 P10 U10 V10 X10 O10 kd10 ln10 cnt10 hcn10 hB10 hL10 ag10 qG10 qP10 qU10 qV10 qX10 qO10 ql10 => ?_)
  have hle10 : cnt ≤ cnt := Nat.le_refl _
  have hg10 : ∀ z, z < cnt → la10 z = la z := fun z hz => (ag10 z (Nat.lt_of_lt_of_le hz hle10)).trans (rfl)
  have hF10_G : FRM cnt [] (fun z => True) G G10 := FRM_trans FRM_refl qG10 hle10 (by decide) (fun _ _ _ => trivial)
  have hF10_P : FRM cnt [] (fun z => True) P P10 := FRM_trans FRM_refl qP10 hle10 (by decide) (fun _ _ _ => trivial)
  have hF10_U : FRM cnt [] (fun z => True) U U10 := FRM_trans FRM_refl qU10 hle10 (by decide) (fun _ _ _ => trivial)
  have hF10_V : FRM cnt [0] (fun z => True) V V10 := FRM_trans FRM_refl qV10 hle10 (by decide) (fun _ _ _ => trivial)
  have hF10_X : FRM cnt [] (fun z => True) X X10 := FRM_trans FRM_refl qX10 hle10 (by decide) (fun _ _ _ => trivial)
  have hF10_O : FRM cnt [] (fun z => True) O O10 := FRM_trans FRM_refl qO10 hle10 (by decide) (fun _ _ _ => trivial)
  have hln10 : ∀ z, z < cnt → ln10 z = ln z := fun z hz => (ql10 z (Nat.lt_of_lt_of_le hz hle10)).trans (rfl)
  have g2 := ag10 p0 hlt_p0
  have lt3 : p0 < cnt10 := by omega
  have ltn10 : cnt < cnt10 := by omega
  refine pw_if (fun _ => ?_)
  refine pw_vl (fun m27 em27 => ?_)
  have hf4 : ∀ z, (z < cnt ∧ True) → m27 z = (V 0) z := fr_up (e0 := (V 0)) (fun z hz => hF10_V 0 z hz.1 (fun _ => hz.2)) em27 (show ¬ (cnt < cnt ∧ True) from fun hz => by have q1 := hg10 cnt hz.1; omega)
  exact pw_some ⟨la10, hg10, hB10, (show cnt ≤ cnt10 from by omega), hF10_G, hF10_P, hF10_U, (FRM_set hF10_V (by decide) (fun z h1 h2 => hf4 z ⟨h1, h2⟩)), hF10_X, hF10_O, hln10, (show cnt ≤ cnt ∧ cnt < cnt10 ∧ la10 cnt = nl from ⟨by omega, by omega, by omega⟩)⟩
abbrev RF_J7_copyOfRange_39247 (la : Nat → Nat) (G : Nat → Nat → Int32) (P : Nat → Nat → Option Nat) (U : Nat → Nat → Int64) (V : Nat → Nat → Nat → Int32) (X : Nat → Nat → Nat → Int64) (O : Nat → Nat → Nat → Option Nat) (kd : Nat → Nat) (ln : Nat → Nat) (cnt : Nat) (p0 : Nat) (p1 : Int32) (p2 : Int32) (nl : Nat) : (Nat × (Nat → Nat → Int32) × (Nat → Nat → Option Nat) × (Nat → Nat → Int64) × (Nat → Nat → Nat → Int32) × (Nat → Nat → Nat → Int64) × (Nat → Nat → Nat → Option Nat) × (Nat → Nat) × (Nat → Nat) × Nat) → Prop := fun t => ∃ la1 : Nat → Nat, (∀ z, z < cnt → la1 z = la z) ∧ LB la1 (t.2.2.2.2.2.2.2.2.2) (t.2.2.1) ∧ cnt ≤ (t.2.2.2.2.2.2.2.2.2) ∧ FRM cnt [] (fun z => True) G (t.2.1) ∧ FRM cnt [] (fun z => True) P (t.2.2.1) ∧ FRM cnt [] (fun z => True) U (t.2.2.2.1) ∧ FRM cnt [0] (fun z => True) V (t.2.2.2.2.1) ∧ FRM cnt [] (fun z => True) X (t.2.2.2.2.2.1) ∧ FRM cnt [] (fun z => True) O (t.2.2.2.2.2.2.1) ∧ (∀ z, z < cnt → (t.2.2.2.2.2.2.2.2.1) z = ln z) ∧ (cnt ≤ (t.1) ∧ (t.1) < (t.2.2.2.2.2.2.2.2.2) ∧ la1 (t.1) = nl)
set_option maxHeartbeats 4000000 in
set_option maxRecDepth 100000 in
theorem fr_J7_copyOfRange_39247 (la : Nat → Nat) (G : Nat → Nat → Int32) (P : Nat → Nat → Option Nat) (U : Nat → Nat → Int64) (V : Nat → Nat → Nat → Int32) (X : Nat → Nat → Nat → Int64) (O : Nat → Nat → Nat → Option Nat) (kd : Nat → Nat) (ln : Nat → Nat) (cnt : Nat) (p0 : Nat) (p1 : Int32) (p2 : Int32) (nl : Nat) (hB : LB la cnt P) (hlt_p0 : p0 < cnt) (hp0 : nl < 100000 + 10 * cnt + 6) : pw (f_J7_copyOfRange_39247 G P U V X O kd ln cnt p0 p1 p2) (sp1 (RF_J7_copyOfRange_39247 la G P U V X O kd ln cnt p0 p1 p2 nl)) := by
  unfold f_J7_copyOfRange_39247
  refine pw_jn (fun j10 => pw (j10 ()) (sp1 (RF_J7_copyOfRange_39247 la G P U V X O kd ln cnt p0 p1 p2 nl))) ?_ ?_
  · show pw _ _
    refine pw_bA10 (fun r13 c13_G c13_P c13_U c13_V c13_X c13_O c13_kd c13_ln c13_cnt v1_13 v2_13 hc13 => ?_)
    have hq13 := fr_J7_copyOfRangeByte_39247 la G P U V X O kd ln cnt p0 p1 p2 (nl) hB hlt_p0 (show (nl) < 100000 + 10 * cnt + 6 from by omega) _ hc13
    obtain ⟨la13_1, ag13, hB13, cc13, qG13, qP13, qU13, qV13, qX13, qO13, ql13, po13_0⟩ : ∃ la9 : Nat → Nat, (∀ z, z < cnt → la9 z = la z) ∧ LB la9 c13_cnt c13_P ∧ cnt ≤ c13_cnt ∧ FRM cnt [] (fun z => True) G c13_G ∧ FRM cnt [] (fun z => True) P c13_P ∧ FRM cnt [] (fun z => True) U c13_U ∧ FRM cnt [0] (fun z => True) V c13_V ∧ FRM cnt [] (fun z => True) X c13_X ∧ FRM cnt [] (fun z => True) O c13_O ∧ (∀ z, z < cnt → c13_ln z = ln z) ∧ (cnt ≤ r13 ∧ r13 < c13_cnt ∧ la9 r13 = (nl)) := hq13
    obtain ⟨po13_0_1, po13_0_2, po13_0_3⟩ := po13_0
    have hle13 : cnt ≤ cnt := Nat.le_refl _
    have hg13 : ∀ z, z < cnt → la13_1 z = la z := fun z hz => (ag13 z (Nat.lt_of_lt_of_le hz hle13)).trans (rfl)
    have hF13_G : FRM cnt [] (fun z => True) G c13_G := FRM_trans FRM_refl qG13 hle13 (by decide) (fun _ _ _ => trivial)
    have hF13_P : FRM cnt [] (fun z => True) P c13_P := FRM_trans FRM_refl qP13 hle13 (by decide) (fun _ _ _ => trivial)
    have hF13_U : FRM cnt [] (fun z => True) U c13_U := FRM_trans FRM_refl qU13 hle13 (by decide) (fun _ _ _ => trivial)
    have hF13_V : FRM cnt [0] (fun z => True) V c13_V := FRM_trans FRM_refl qV13 hle13 (by decide) (fun _ _ _ => trivial)
    have hF13_X : FRM cnt [] (fun z => True) X c13_X := FRM_trans FRM_refl qX13 hle13 (by decide) (fun _ _ _ => trivial)
    have hF13_O : FRM cnt [] (fun z => True) O c13_O := FRM_trans FRM_refl qO13 hle13 (by decide) (fun _ _ _ => trivial)
    have hln13 : ∀ z, z < cnt → c13_ln z = ln z := fun z hz => (ql13 z (Nat.lt_of_lt_of_le hz hle13)).trans (rfl)
    have g2 := ag13 p0 hlt_p0
    have lt3 : p0 < c13_cnt := by omega
    exact pw_some ⟨la13_1, hg13, hB13, (show cnt ≤ c13_cnt from by omega), hF13_G, hF13_P, hF13_U, hF13_V, hF13_X, hF13_O, hln13, (show cnt ≤ r13 ∧ r13 < c13_cnt ∧ la13_1 r13 = nl from ⟨by omega, by omega, by omega⟩)⟩
  intro j10 Jj10
  refine pw_ite (fun _ => ?_) (fun _ => ?_)
  · skip
    refine pw_ite (fun _ => ?_) (fun _ => ?_)
    · skip
      exact pw_none
    · skip
      exact Jj10
  · skip
    exact Jj10
abbrev RF_X4_letters (la : Nat → Nat) (G : Nat → Nat → Int32) (P : Nat → Nat → Option Nat) (U : Nat → Nat → Int64) (V : Nat → Nat → Nat → Int32) (X : Nat → Nat → Nat → Int64) (O : Nat → Nat → Nat → Option Nat) (kd : Nat → Nat) (ln : Nat → Nat) (cnt : Nat) (this : Nat) (nl : Nat) : (Nat × (Nat → Nat → Int32) × (Nat → Nat → Option Nat) × (Nat → Nat → Int64) × (Nat → Nat → Nat → Int32) × (Nat → Nat → Nat → Int64) × (Nat → Nat → Nat → Option Nat) × (Nat → Nat) × (Nat → Nat) × Nat) → Prop := fun t => ∃ la1 : Nat → Nat, (∀ z, z < cnt → la1 z = la z) ∧ LB la1 (t.2.2.2.2.2.2.2.2.2) (t.2.2.1) ∧ cnt ≤ (t.2.2.2.2.2.2.2.2.2) ∧ FRM cnt [] (fun z => True) G (t.2.1) ∧ FRM cnt [] (fun z => True) P (t.2.2.1) ∧ FRM cnt [] (fun z => True) U (t.2.2.2.1) ∧ FRM cnt [0] (fun z => True) V (t.2.2.2.2.1) ∧ FRM cnt [] (fun z => True) X (t.2.2.2.2.2.1) ∧ FRM cnt [] (fun z => True) O (t.2.2.2.2.2.2.1) ∧ (∀ z, z < cnt → (t.2.2.2.2.2.2.2.2.1) z = ln z) ∧ (cnt ≤ (t.1) ∧ (t.1) < (t.2.2.2.2.2.2.2.2.2) ∧ la1 (t.1) = nl)
set_option maxHeartbeats 4000000 in
set_option maxRecDepth 100000 in
theorem fr_X4_letters (la : Nat → Nat) (G : Nat → Nat → Int32) (P : Nat → Nat → Option Nat) (U : Nat → Nat → Int64) (V : Nat → Nat → Nat → Int32) (X : Nat → Nat → Nat → Int64) (O : Nat → Nat → Nat → Option Nat) (kd : Nat → Nat) (ln : Nat → Nat) (cnt : Nat) (this : Nat) (nl : Nat) (hB : LB la cnt P) (hlt_this : this < cnt) (hp0 : nl < 100000 + 10 * cnt + 6) : pw (f_X4_letters G P U V X O kd ln cnt this) (sp1 (RF_X4_letters la G P U V X O kd ln cnt this nl)) := by
  unfold f_X4_letters
  refine pw_nn (fun a1 hn_a1 => ?_)
  obtain ⟨_, lt_a1, lb_a1⟩ := (hB.1 82 fl_82) this a1 hn_a1
  refine pw_bA10 (fun r17 c17_G c17_P c17_U c17_V c17_X c17_O c17_kd c17_ln c17_cnt v1_17 v2_17 hc17 => ?_)
  have hq17 := fr_J7_copyOfRange_39247 la G P U V X O kd ln cnt a1 ((G 87) this) (((G 87) this) + ((G 88) this)) (nl) hB lt_a1 (show (nl) < 100000 + 10 * cnt + 6 from by omega) _ hc17
  obtain ⟨la17_1, ag17, hB17, cc17, qG17, qP17, qU17, qV17, qX17, qO17, ql17, po17_0⟩ : ∃ la9 : Nat → Nat, (∀ z, z < cnt → la9 z = la z) ∧ LB la9 c17_cnt c17_P ∧ cnt ≤ c17_cnt ∧ FRM cnt [] (fun z => True) G c17_G ∧ FRM cnt [] (fun z => True) P c17_P ∧ FRM cnt [] (fun z => True) U c17_U ∧ FRM cnt [0] (fun z => True) V c17_V ∧ FRM cnt [] (fun z => True) X c17_X ∧ FRM cnt [] (fun z => True) O c17_O ∧ (∀ z, z < cnt → c17_ln z = ln z) ∧ (cnt ≤ r17 ∧ r17 < c17_cnt ∧ la9 r17 = (nl)) := hq17
  obtain ⟨po17_0_1, po17_0_2, po17_0_3⟩ := po17_0
  have hle17 : cnt ≤ cnt := Nat.le_refl _
  have hg17 : ∀ z, z < cnt → la17_1 z = la z := fun z hz => (ag17 z (Nat.lt_of_lt_of_le hz hle17)).trans (rfl)
  have hF17_G : FRM cnt [] (fun z => True) G c17_G := FRM_trans FRM_refl qG17 hle17 (by decide) (fun _ _ _ => trivial)
  have hF17_P : FRM cnt [] (fun z => True) P c17_P := FRM_trans FRM_refl qP17 hle17 (by decide) (fun _ _ _ => trivial)
  have hF17_U : FRM cnt [] (fun z => True) U c17_U := FRM_trans FRM_refl qU17 hle17 (by decide) (fun _ _ _ => trivial)
  have hF17_V : FRM cnt [0] (fun z => True) V c17_V := FRM_trans FRM_refl qV17 hle17 (by decide) (fun _ _ _ => trivial)
  have hF17_X : FRM cnt [] (fun z => True) X c17_X := FRM_trans FRM_refl qX17 hle17 (by decide) (fun _ _ _ => trivial)
  have hF17_O : FRM cnt [] (fun z => True) O c17_O := FRM_trans FRM_refl qO17 hle17 (by decide) (fun _ _ _ => trivial)
  have hln17 : ∀ z, z < cnt → c17_ln z = ln z := fun z hz => (ql17 z (Nat.lt_of_lt_of_le hz hle17)).trans (rfl)
  have g2 := ag17 this hlt_this
  have lt3 : this < c17_cnt := by omega
  exact pw_some ⟨la17_1, hg17, hB17, (show cnt ≤ c17_cnt from by omega), hF17_G, hF17_P, hF17_U, hF17_V, hF17_X, hF17_O, hln17, (show cnt ≤ r17 ∧ r17 < c17_cnt ∧ la17_1 r17 = nl from ⟨by omega, by omega, by omega⟩)⟩
abbrev RF_X4_readSide (la : Nat → Nat) (G : Nat → Nat → Int32) (P : Nat → Nat → Option Nat) (U : Nat → Nat → Int64) (V : Nat → Nat → Nat → Int32) (X : Nat → Nat → Nat → Int64) (O : Nat → Nat → Nat → Option Nat) (kd : Nat → Nat) (ln : Nat → Nat) (cnt : Nat) (this : Nat) (p0 : Nat) : ((Nat → Nat → Int32) × (Nat → Nat → Option Nat) × (Nat → Nat → Int64) × (Nat → Nat → Nat → Int32) × (Nat → Nat → Nat → Int64) × (Nat → Nat → Nat → Option Nat) × (Nat → Nat) × (Nat → Nat) × Nat) → Prop := fun t => ∃ la1 : Nat → Nat, (∀ z, z < cnt → la1 z = la z) ∧ LB la1 (t.2.2.2.2.2.2.2.2) (t.2.1) ∧ cnt ≤ (t.2.2.2.2.2.2.2.2) ∧ FRM cnt [24, 25, 80, 81, 84, 85, 86, 87, 88] (fun z => (la z < la this ∨ la this < la z) ∧ (la z < la p0 ∨ la p0 < la z)) G (t.1) ∧ FRM cnt [22, 23] (fun z => (la z < la this ∨ la this < la z) ∧ (la z < la p0 ∨ la p0 < la z)) P (t.2.1) ∧ FRM cnt [] (fun z => (la z < la this ∨ la this < la z) ∧ (la z < la p0 ∨ la p0 < la z)) U (t.2.2.1) ∧ FRM cnt [0] (fun z => (la z < la this ∨ la this < la z) ∧ (la z < la p0 ∨ la p0 < la z)) V (t.2.2.2.1) ∧ FRM cnt [] (fun z => (la z < la this ∨ la this < la z) ∧ (la z < la p0 ∨ la p0 < la z)) X (t.2.2.2.2.1) ∧ FRM cnt [] (fun z => (la z < la this ∨ la this < la z) ∧ (la z < la p0 ∨ la p0 < la z)) O (t.2.2.2.2.2.1) ∧ (∀ z, z < cnt → (t.2.2.2.2.2.2.2.1) z = ln z)
set_option maxHeartbeats 4000000 in
set_option maxRecDepth 100000 in
theorem fr_X4_readSide (la : Nat → Nat) (G : Nat → Nat → Int32) (P : Nat → Nat → Option Nat) (U : Nat → Nat → Int64) (V : Nat → Nat → Nat → Int32) (X : Nat → Nat → Nat → Int64) (O : Nat → Nat → Nat → Option Nat) (kd : Nat → Nat) (ln : Nat → Nat) (cnt : Nat) (this : Nat) (p0 : Nat) (hB : LB la cnt P) (hlt_this : this < cnt) (hlt_p0 : p0 < cnt) : pw (f_X4_readSide G P U V X O kd ln cnt this p0) (sp1 (RF_X4_readSide la G P U V X O kd ln cnt this p0)) := by
  unfold f_X4_readSide
  refine pw_b1 (fun r3 hc3 => ?_)
  clear hc3
  refine pw_jn (fun j174 => ∀ (c174_G : Nat → Nat → Int32) (c174_P : Nat → Nat → Option Nat) (c174_U : Nat → Nat → Int64) (c174_V : Nat → Nat → Nat → Int32) (c174_X : Nat → Nat → Nat → Int64) (c174_O : Nat → Nat → Nat → Option Nat) (c174_kd : Nat → Nat) (c174_ln : Nat → Nat) (c174_cnt : Nat) (la174 : Nat → Nat), (∀ z, z < cnt → la174 z = la z) → LB la174 c174_cnt c174_P → cnt ≤ c174_cnt → FRM cnt [24, 25, 80, 81, 84, 85, 86, 87, 88] (fun z => (la z < la this ∨ la this < la z) ∧ (la z < la p0 ∨ la p0 < la z)) G c174_G → FRM cnt [22, 23] (fun z => (la z < la this ∨ la this < la z) ∧ (la z < la p0 ∨ la p0 < la z)) P c174_P → FRM cnt [] (fun z => (la z < la this ∨ la this < la z) ∧ (la z < la p0 ∨ la p0 < la z)) U c174_U → FRM cnt [0] (fun z => (la z < la this ∨ la this < la z) ∧ (la z < la p0 ∨ la p0 < la z)) V c174_V → FRM cnt [] (fun z => (la z < la this ∨ la this < la z) ∧ (la z < la p0 ∨ la p0 < la z)) X c174_X → FRM cnt [] (fun z => (la z < la this ∨ la this < la z) ∧ (la z < la p0 ∨ la p0 < la z)) O c174_O → (∀ z, z < cnt → c174_ln z = ln z) → pw (j174 c174_G c174_P c174_U c174_V c174_X c174_O c174_kd c174_ln c174_cnt) (sp1 (RF_X4_readSide la G P U V X O kd ln cnt this p0))) ?_ ?_
  · intro c174_G c174_P c174_U c174_V c174_X c174_O c174_kd c174_ln c174_cnt la174 hag174 hB174 hcc174 hF174_G hF174_P hF174_U hF174_V hF174_X hF174_O hln174
    show pw _ _
    have g1 := hag174 this hlt_this
    have lt2 : this < c174_cnt := by omega
    have g3 := hag174 p0 hlt_p0
    have lt4 : p0 < c174_cnt := by omega
    exact pw_some ⟨la174, hag174, hB174, (show cnt ≤ c174_cnt from by omega), hF174_G, hF174_P, hF174_U, hF174_V, hF174_X, hF174_O, hln174⟩
  intro j174 Jj174
  refine pw_ite (fun _ => ?_) (fun _ => ?_)
  · skip
    refine pw_b1 (fun r39 hc39 => ?_)
    clear hc39
    refine pw_ite (fun _ => ?_) (fun _ => ?_)
    · skip
      refine pw_b1 (fun r75 hc75 => ?_)
      clear hc75
      refine pw_ite (fun _ => ?_) (fun _ => ?_)
      · skip
        refine pw_b1 (fun r123 hc123 => ?_)
        clear hc123
        refine pw_ite (fun _ => ?_) (fun _ => ?_)
        · skip
          refine pw_b3 (fun r170 c170_G80 c170_G81 hc170 => ?_)
          have hq170 := fr_X4_blame la G P U V X O kd ln cnt this (1 : Int32) hB _ hc170
          obtain ⟨q170_G80, q170_G81⟩ : (∀ z, (la z < la this ∨ la this < la z) → c170_G80 z = (G 80) z) ∧ (∀ z, (la z < la this ∨ la this < la z) → c170_G81 z = (G 81) z) := hq170
          have tz170 : ∀ z, (z < cnt ∧ (la z < la this ∨ la this < la z) ∧ (la z < la p0 ∨ la p0 < la z)) → ((la z < la this ∨ la this < la z)) := fun z hz => by omega
          have hf5 : ∀ z, (z < cnt ∧ (la z < la this ∨ la this < la z) ∧ (la z < la p0 ∨ la p0 < la z)) → c170_G80 z = (G 80) z := fun z hz => (q170_G80 z (tz170 z hz)).trans (rfl)
          have hf6 : ∀ z, (z < cnt ∧ (la z < la this ∨ la this < la z) ∧ (la z < la p0 ∨ la p0 < la z)) → c170_G81 z = (G 81) z := fun z hz => (q170_G81 z (tz170 z hz)).trans (rfl)
          clear hc170
          exact Jj174 (va_up (va_up G 80 c170_G80) 81 c170_G81) P U V X O kd ln cnt la (fun _ _ => rfl) hB (Nat.le_refl _) (FRM_set (FRM_set FRM_refl (by decide) (fun z h1 h2 => hf5 z ⟨h1, h2⟩)) (by decide) (fun z h1 h2 => hf6 z ⟨h1, h2⟩)) FRM_refl FRM_refl FRM_refl FRM_refl FRM_refl (fun _ _ => rfl)
        · skip
          refine pw_nn (fun a131 hn_a131 => ?_)
          have lt_a131 := ((hB.1 23 fl_23) p0 a131 hn_a131).2.1
          have lb_a131 : la a131 = la p0 + 0 := lk_23.mp ((hB.1 23 fl_23) p0 a131 hn_a131).2.2
          refine pw_jn (fun j143 => ∀ (t143_0 : Int32), pw (j143 t143_0) (sp1 (RF_X4_readSide la G P U V X O kd ln cnt this p0))) ?_ ?_
          · intro t143_0
            show pw _ _
            refine pw_b3 (fun r143 c143_G80 c143_G81 hc143 => ?_)
            have hq143 := fr_X4_isNew la G P U V X O kd ln cnt this t143_0 hB _ hc143
            obtain ⟨q143_G80, q143_G81⟩ : (∀ z, (la z < la this ∨ la this < la z) → c143_G80 z = (G 80) z) ∧ (∀ z, (la z < la this ∨ la this < la z) → c143_G81 z = (G 81) z) := hq143
            have tz143 : ∀ z, (z < cnt ∧ (la z < la this ∨ la this < la z) ∧ (la z < la p0 ∨ la p0 < la z)) → ((la z < la this ∨ la this < la z)) := fun z hz => by omega
            have hf7 : ∀ z, (z < cnt ∧ (la z < la this ∨ la this < la z) ∧ (la z < la p0 ∨ la p0 < la z)) → c143_G80 z = (G 80) z := fun z hz => (q143_G80 z (tz143 z hz)).trans (rfl)
            have hf8 : ∀ z, (z < cnt ∧ (la z < la this ∨ la this < la z) ∧ (la z < la p0 ∨ la p0 < la z)) → c143_G81 z = (G 81) z := fun z hz => (q143_G81 z (tz143 z hz)).trans (rfl)
            clear hc143
            refine pw_ite (fun _ => ?_) (fun _ => ?_)
            · skip
              exact Jj174 (va_up (va_up G 80 c143_G80) 81 c143_G81) P U V X O kd ln cnt la (fun _ _ => rfl) hB (Nat.le_refl _) (FRM_set (FRM_set FRM_refl (by decide) (fun z h1 h2 => hf7 z ⟨h1, h2⟩)) (by decide) (fun z h1 h2 => hf8 z ⟨h1, h2⟩)) FRM_refl FRM_refl FRM_refl FRM_refl FRM_refl (fun _ _ => rfl)
            · skip
              refine pw_b8 (fun r151 c151_G80 c151_G81 c151_G84 c151_G85 c151_G86 c151_G87 c151_G88 hc151 => ?_)
              have hq151 := fr_X4_takeLetters la (va_up (va_up G 80 c143_G80) 81 c143_G81) P U V X O kd ln cnt this (0 : Int32) hB _ hc151
              obtain ⟨q151_G80, q151_G81, q151_G84, q151_G85, q151_G86, q151_G87, q151_G88⟩ : (∀ z, (la z < la this ∨ la this < la z) → c151_G80 z = c143_G80 z) ∧ (∀ z, (la z < la this ∨ la this < la z) → c151_G81 z = c143_G81 z) ∧ (∀ z, (la z < la this ∨ la this < la z) → c151_G84 z = (G 84) z) ∧ (∀ z, (la z < la this ∨ la this < la z) → c151_G85 z = (G 85) z) ∧ (∀ z, (la z < la this ∨ la this < la z) → c151_G86 z = (G 86) z) ∧ (∀ z, (la z < la this ∨ la this < la z) → c151_G87 z = (G 87) z) ∧ (∀ z, (la z < la this ∨ la this < la z) → c151_G88 z = (G 88) z) := hq151
              have tz151 : ∀ z, (z < cnt ∧ (la z < la this ∨ la this < la z) ∧ (la z < la p0 ∨ la p0 < la z)) → ((la z < la this ∨ la this < la z)) := fun z hz => by omega
              have hf9 : ∀ z, (z < cnt ∧ (la z < la this ∨ la this < la z) ∧ (la z < la p0 ∨ la p0 < la z)) → c151_G80 z = (G 80) z := fun z hz => (q151_G80 z (tz151 z hz)).trans (hf7 z hz)
              have hf10 : ∀ z, (z < cnt ∧ (la z < la this ∨ la this < la z) ∧ (la z < la p0 ∨ la p0 < la z)) → c151_G81 z = (G 81) z := fun z hz => (q151_G81 z (tz151 z hz)).trans (hf8 z hz)
              have hf11 : ∀ z, (z < cnt ∧ (la z < la this ∨ la this < la z) ∧ (la z < la p0 ∨ la p0 < la z)) → c151_G84 z = (G 84) z := fun z hz => (q151_G84 z (tz151 z hz)).trans (rfl)
              have hf12 : ∀ z, (z < cnt ∧ (la z < la this ∨ la this < la z) ∧ (la z < la p0 ∨ la p0 < la z)) → c151_G85 z = (G 85) z := fun z hz => (q151_G85 z (tz151 z hz)).trans (rfl)
              have hf13 : ∀ z, (z < cnt ∧ (la z < la this ∨ la this < la z) ∧ (la z < la p0 ∨ la p0 < la z)) → c151_G86 z = (G 86) z := fun z hz => (q151_G86 z (tz151 z hz)).trans (rfl)
              have hf14 : ∀ z, (z < cnt ∧ (la z < la this ∨ la this < la z) ∧ (la z < la p0 ∨ la p0 < la z)) → c151_G87 z = (G 87) z := fun z hz => (q151_G87 z (tz151 z hz)).trans (rfl)
              have hf15 : ∀ z, (z < cnt ∧ (la z < la this ∨ la this < la z) ∧ (la z < la p0 ∨ la p0 < la z)) → c151_G88 z = (G 88) z := fun z hz => (q151_G88 z (tz151 z hz)).trans (rfl)
              clear hc151
              refine pw_ite (fun _ => ?_) (fun _ => ?_)
              · skip
                exact Jj174 (va_up (va_up (va_up (va_up (va_up (va_up (va_up (va_up (va_up G 80 c143_G80) 81 c143_G81) 80 c151_G80) 81 c151_G81) 84 c151_G84) 85 c151_G85) 86 c151_G86) 87 c151_G87) 88 c151_G88) P U V X O kd ln cnt la (fun _ _ => rfl) hB (Nat.le_refl _) (FRM_set (FRM_set (FRM_set (FRM_set (FRM_set (FRM_set (FRM_set (FRM_set (FRM_set FRM_refl (by decide) (fun z h1 h2 => hf7 z ⟨h1, h2⟩)) (by decide) (fun z h1 h2 => hf8 z ⟨h1, h2⟩)) (by decide) (fun z h1 h2 => hf9 z ⟨h1, h2⟩)) (by decide) (fun z h1 h2 => hf10 z ⟨h1, h2⟩)) (by decide) (fun z h1 h2 => hf11 z ⟨h1, h2⟩)) (by decide) (fun z h1 h2 => hf12 z ⟨h1, h2⟩)) (by decide) (fun z h1 h2 => hf13 z ⟨h1, h2⟩)) (by decide) (fun z h1 h2 => hf14 z ⟨h1, h2⟩)) (by decide) (fun z h1 h2 => hf15 z ⟨h1, h2⟩)) FRM_refl FRM_refl FRM_refl FRM_refl FRM_refl (fun _ _ => rfl)
              · skip
                refine pw_bA10 (fun r159 c159_G c159_P c159_U c159_V c159_X c159_O c159_kd c159_ln c159_cnt v1_159 v2_159 hc159 => ?_)
                have hq159 := fr_X4_letters la (va_up (va_up (va_up (va_up (va_up (va_up (va_up (va_up (va_up G 80 c143_G80) 81 c143_G81) 80 c151_G80) 81 c151_G81) 84 c151_G84) 85 c151_G85) 86 c151_G86) 87 c151_G87) 88 c151_G88) P U V X O kd ln cnt this (la p0) hB hlt_this (show (la p0) < 100000 + 10 * cnt + 6 from by have q9 := hB.2 p0 hlt_p0; omega) _ hc159
                obtain ⟨la159_16, ag159, hB159, cc159, qG159, qP159, qU159, qV159, qX159, qO159, ql159, po159_0⟩ : ∃ la9 : Nat → Nat, (∀ z, z < cnt → la9 z = la z) ∧ LB la9 c159_cnt c159_P ∧ cnt ≤ c159_cnt ∧ FRM cnt [] (fun z => True) (va_up (va_up (va_up (va_up (va_up (va_up (va_up (va_up (va_up G 80 c143_G80) 81 c143_G81) 80 c151_G80) 81 c151_G81) 84 c151_G84) 85 c151_G85) 86 c151_G86) 87 c151_G87) 88 c151_G88) c159_G ∧ FRM cnt [] (fun z => True) P c159_P ∧ FRM cnt [] (fun z => True) U c159_U ∧ FRM cnt [0] (fun z => True) V c159_V ∧ FRM cnt [] (fun z => True) X c159_X ∧ FRM cnt [] (fun z => True) O c159_O ∧ (∀ z, z < cnt → c159_ln z = ln z) ∧ (cnt ≤ r159 ∧ r159 < c159_cnt ∧ la9 r159 = (la p0)) := hq159
                obtain ⟨po159_0_1, po159_0_2, po159_0_3⟩ := po159_0
                have hle159 : cnt ≤ cnt := Nat.le_refl _
                have hg159 : ∀ z, z < cnt → la159_16 z = la z := fun z hz => (ag159 z (Nat.lt_of_lt_of_le hz hle159)).trans (rfl)
                have hF159_G : FRM cnt [24, 25, 80, 81, 84, 85, 86, 87, 88] (fun z => (la z < la this ∨ la this < la z) ∧ (la z < la p0 ∨ la p0 < la z)) G c159_G := FRM_trans (FRM_set (FRM_set (FRM_set (FRM_set (FRM_set (FRM_set (FRM_set (FRM_set (FRM_set FRM_refl (by decide) (fun z h1 h2 => hf7 z ⟨h1, h2⟩)) (by decide) (fun z h1 h2 => hf8 z ⟨h1, h2⟩)) (by decide) (fun z h1 h2 => hf9 z ⟨h1, h2⟩)) (by decide) (fun z h1 h2 => hf10 z ⟨h1, h2⟩)) (by decide) (fun z h1 h2 => hf11 z ⟨h1, h2⟩)) (by decide) (fun z h1 h2 => hf12 z ⟨h1, h2⟩)) (by decide) (fun z h1 h2 => hf13 z ⟨h1, h2⟩)) (by decide) (fun z h1 h2 => hf14 z ⟨h1, h2⟩)) (by decide) (fun z h1 h2 => hf15 z ⟨h1, h2⟩)) qG159 hle159 (by decide) (fun _ _ _ => trivial)
                have hF159_P : FRM cnt [22, 23] (fun z => (la z < la this ∨ la this < la z) ∧ (la z < la p0 ∨ la p0 < la z)) P c159_P := FRM_trans FRM_refl qP159 hle159 (by decide) (fun _ _ _ => trivial)
                have hF159_U : FRM cnt [] (fun z => (la z < la this ∨ la this < la z) ∧ (la z < la p0 ∨ la p0 < la z)) U c159_U := FRM_trans FRM_refl qU159 hle159 (by decide) (fun _ _ _ => trivial)
                have hF159_V : FRM cnt [0] (fun z => (la z < la this ∨ la this < la z) ∧ (la z < la p0 ∨ la p0 < la z)) V c159_V := FRM_trans FRM_refl qV159 hle159 (by decide) (fun _ _ _ => trivial)
                have hF159_X : FRM cnt [] (fun z => (la z < la this ∨ la this < la z) ∧ (la z < la p0 ∨ la p0 < la z)) X c159_X := FRM_trans FRM_refl qX159 hle159 (by decide) (fun _ _ _ => trivial)
                have hF159_O : FRM cnt [] (fun z => (la z < la this ∨ la this < la z) ∧ (la z < la p0 ∨ la p0 < la z)) O c159_O := FRM_trans FRM_refl qO159 hle159 (by decide) (fun _ _ _ => trivial)
                have hln159 : ∀ z, z < cnt → c159_ln z = ln z := fun z hz => (ql159 z (Nat.lt_of_lt_of_le hz hle159)).trans (rfl)
                have g17 := ag159 this hlt_this
                have lt18 : this < c159_cnt := by omega
                have g19 := ag159 p0 hlt_p0
                have lt20 : p0 < c159_cnt := by omega
                refine pw_vl (fun m162 em162 => ?_)
                have hl21 : LC 23 la159_16 c159_cnt m162 := LC_up (hB159.1 23 fl_23) em162 (by omega) (by omega) (lk_23.mpr (by omega))
                have hf22 : ∀ z, (z < cnt ∧ (la z < la this ∨ la this < la z) ∧ (la z < la p0 ∨ la p0 < la z)) → m162 z = (P 23) z := fr_up (e0 := (P 23)) (fun z hz => hF159_P 23 z hz.1 (fun _ => hz.2)) em162 (show ¬ (p0 < cnt ∧ (la p0 < la this ∨ la this < la p0) ∧ (la p0 < la p0 ∨ la p0 < la p0)) from fun hz => by have q1 := hg159 p0 hz.1; omega)
                exact Jj174 c159_G (va_up c159_P 23 m162) c159_U c159_V c159_X c159_O c159_kd c159_ln c159_cnt la159_16 hg159 (LB_set hB159 hl21) (by omega) hF159_G (FRM_set hF159_P (by decide) (fun z h1 h2 => hf22 z ⟨h1, h2⟩)) hF159_U hF159_V hF159_X hF159_O hln159
          intro j143 Jj143
          refine pw_ite (fun _ => ?_) (fun _ => ?_)
          · skip
            exact Jj143 1
          · skip
            exact Jj143 0
      · skip
        refine pw_nn (fun a83 hn_a83 => ?_)
        have lt_a83 := ((hB.1 22 fl_22) p0 a83 hn_a83).2.1
        have lb_a83 : la a83 = la p0 + 0 := lk_22.mp ((hB.1 22 fl_22) p0 a83 hn_a83).2.2
        refine pw_jn (fun j95 => ∀ (t95_0 : Int32), pw (j95 t95_0) (sp1 (RF_X4_readSide la G P U V X O kd ln cnt this p0))) ?_ ?_
        · intro t95_0
          show pw _ _
          refine pw_b3 (fun r95 c95_G80 c95_G81 hc95 => ?_)
          have hq95 := fr_X4_isNew la G P U V X O kd ln cnt this t95_0 hB _ hc95
          obtain ⟨q95_G80, q95_G81⟩ : (∀ z, (la z < la this ∨ la this < la z) → c95_G80 z = (G 80) z) ∧ (∀ z, (la z < la this ∨ la this < la z) → c95_G81 z = (G 81) z) := hq95
          have tz95 : ∀ z, (z < cnt ∧ (la z < la this ∨ la this < la z) ∧ (la z < la p0 ∨ la p0 < la z)) → ((la z < la this ∨ la this < la z)) := fun z hz => by omega
          have hf23 : ∀ z, (z < cnt ∧ (la z < la this ∨ la this < la z) ∧ (la z < la p0 ∨ la p0 < la z)) → c95_G80 z = (G 80) z := fun z hz => (q95_G80 z (tz95 z hz)).trans (rfl)
          have hf24 : ∀ z, (z < cnt ∧ (la z < la this ∨ la this < la z) ∧ (la z < la p0 ∨ la p0 < la z)) → c95_G81 z = (G 81) z := fun z hz => (q95_G81 z (tz95 z hz)).trans (rfl)
          clear hc95
          refine pw_ite (fun _ => ?_) (fun _ => ?_)
          · skip
            exact Jj174 (va_up (va_up G 80 c95_G80) 81 c95_G81) P U V X O kd ln cnt la (fun _ _ => rfl) hB (Nat.le_refl _) (FRM_set (FRM_set FRM_refl (by decide) (fun z h1 h2 => hf23 z ⟨h1, h2⟩)) (by decide) (fun z h1 h2 => hf24 z ⟨h1, h2⟩)) FRM_refl FRM_refl FRM_refl FRM_refl FRM_refl (fun _ _ => rfl)
          · skip
            refine pw_b8 (fun r103 c103_G80 c103_G81 c103_G84 c103_G85 c103_G86 c103_G87 c103_G88 hc103 => ?_)
            have hq103 := fr_X4_takeLetters la (va_up (va_up G 80 c95_G80) 81 c95_G81) P U V X O kd ln cnt this (0 : Int32) hB _ hc103
            obtain ⟨q103_G80, q103_G81, q103_G84, q103_G85, q103_G86, q103_G87, q103_G88⟩ : (∀ z, (la z < la this ∨ la this < la z) → c103_G80 z = c95_G80 z) ∧ (∀ z, (la z < la this ∨ la this < la z) → c103_G81 z = c95_G81 z) ∧ (∀ z, (la z < la this ∨ la this < la z) → c103_G84 z = (G 84) z) ∧ (∀ z, (la z < la this ∨ la this < la z) → c103_G85 z = (G 85) z) ∧ (∀ z, (la z < la this ∨ la this < la z) → c103_G86 z = (G 86) z) ∧ (∀ z, (la z < la this ∨ la this < la z) → c103_G87 z = (G 87) z) ∧ (∀ z, (la z < la this ∨ la this < la z) → c103_G88 z = (G 88) z) := hq103
            have tz103 : ∀ z, (z < cnt ∧ (la z < la this ∨ la this < la z) ∧ (la z < la p0 ∨ la p0 < la z)) → ((la z < la this ∨ la this < la z)) := fun z hz => by omega
            have hf25 : ∀ z, (z < cnt ∧ (la z < la this ∨ la this < la z) ∧ (la z < la p0 ∨ la p0 < la z)) → c103_G80 z = (G 80) z := fun z hz => (q103_G80 z (tz103 z hz)).trans (hf23 z hz)
            have hf26 : ∀ z, (z < cnt ∧ (la z < la this ∨ la this < la z) ∧ (la z < la p0 ∨ la p0 < la z)) → c103_G81 z = (G 81) z := fun z hz => (q103_G81 z (tz103 z hz)).trans (hf24 z hz)
            have hf27 : ∀ z, (z < cnt ∧ (la z < la this ∨ la this < la z) ∧ (la z < la p0 ∨ la p0 < la z)) → c103_G84 z = (G 84) z := fun z hz => (q103_G84 z (tz103 z hz)).trans (rfl)
            have hf28 : ∀ z, (z < cnt ∧ (la z < la this ∨ la this < la z) ∧ (la z < la p0 ∨ la p0 < la z)) → c103_G85 z = (G 85) z := fun z hz => (q103_G85 z (tz103 z hz)).trans (rfl)
            have hf29 : ∀ z, (z < cnt ∧ (la z < la this ∨ la this < la z) ∧ (la z < la p0 ∨ la p0 < la z)) → c103_G86 z = (G 86) z := fun z hz => (q103_G86 z (tz103 z hz)).trans (rfl)
            have hf30 : ∀ z, (z < cnt ∧ (la z < la this ∨ la this < la z) ∧ (la z < la p0 ∨ la p0 < la z)) → c103_G87 z = (G 87) z := fun z hz => (q103_G87 z (tz103 z hz)).trans (rfl)
            have hf31 : ∀ z, (z < cnt ∧ (la z < la this ∨ la this < la z) ∧ (la z < la p0 ∨ la p0 < la z)) → c103_G88 z = (G 88) z := fun z hz => (q103_G88 z (tz103 z hz)).trans (rfl)
            clear hc103
            refine pw_ite (fun _ => ?_) (fun _ => ?_)
            · skip
              exact Jj174 (va_up (va_up (va_up (va_up (va_up (va_up (va_up (va_up (va_up G 80 c95_G80) 81 c95_G81) 80 c103_G80) 81 c103_G81) 84 c103_G84) 85 c103_G85) 86 c103_G86) 87 c103_G87) 88 c103_G88) P U V X O kd ln cnt la (fun _ _ => rfl) hB (Nat.le_refl _) (FRM_set (FRM_set (FRM_set (FRM_set (FRM_set (FRM_set (FRM_set (FRM_set (FRM_set FRM_refl (by decide) (fun z h1 h2 => hf23 z ⟨h1, h2⟩)) (by decide) (fun z h1 h2 => hf24 z ⟨h1, h2⟩)) (by decide) (fun z h1 h2 => hf25 z ⟨h1, h2⟩)) (by decide) (fun z h1 h2 => hf26 z ⟨h1, h2⟩)) (by decide) (fun z h1 h2 => hf27 z ⟨h1, h2⟩)) (by decide) (fun z h1 h2 => hf28 z ⟨h1, h2⟩)) (by decide) (fun z h1 h2 => hf29 z ⟨h1, h2⟩)) (by decide) (fun z h1 h2 => hf30 z ⟨h1, h2⟩)) (by decide) (fun z h1 h2 => hf31 z ⟨h1, h2⟩)) FRM_refl FRM_refl FRM_refl FRM_refl FRM_refl (fun _ _ => rfl)
            · skip
              refine pw_bA10 (fun r111 c111_G c111_P c111_U c111_V c111_X c111_O c111_kd c111_ln c111_cnt v1_111 v2_111 hc111 => ?_)
              have hq111 := fr_X4_letters la (va_up (va_up (va_up (va_up (va_up (va_up (va_up (va_up (va_up G 80 c95_G80) 81 c95_G81) 80 c103_G80) 81 c103_G81) 84 c103_G84) 85 c103_G85) 86 c103_G86) 87 c103_G87) 88 c103_G88) P U V X O kd ln cnt this (la p0) hB hlt_this (show (la p0) < 100000 + 10 * cnt + 6 from by have q9 := hB.2 p0 hlt_p0; omega) _ hc111
              obtain ⟨la111_32, ag111, hB111, cc111, qG111, qP111, qU111, qV111, qX111, qO111, ql111, po111_0⟩ : ∃ la9 : Nat → Nat, (∀ z, z < cnt → la9 z = la z) ∧ LB la9 c111_cnt c111_P ∧ cnt ≤ c111_cnt ∧ FRM cnt [] (fun z => True) (va_up (va_up (va_up (va_up (va_up (va_up (va_up (va_up (va_up G 80 c95_G80) 81 c95_G81) 80 c103_G80) 81 c103_G81) 84 c103_G84) 85 c103_G85) 86 c103_G86) 87 c103_G87) 88 c103_G88) c111_G ∧ FRM cnt [] (fun z => True) P c111_P ∧ FRM cnt [] (fun z => True) U c111_U ∧ FRM cnt [0] (fun z => True) V c111_V ∧ FRM cnt [] (fun z => True) X c111_X ∧ FRM cnt [] (fun z => True) O c111_O ∧ (∀ z, z < cnt → c111_ln z = ln z) ∧ (cnt ≤ r111 ∧ r111 < c111_cnt ∧ la9 r111 = (la p0)) := hq111
              obtain ⟨po111_0_1, po111_0_2, po111_0_3⟩ := po111_0
              have hle111 : cnt ≤ cnt := Nat.le_refl _
              have hg111 : ∀ z, z < cnt → la111_32 z = la z := fun z hz => (ag111 z (Nat.lt_of_lt_of_le hz hle111)).trans (rfl)
              have hF111_G : FRM cnt [24, 25, 80, 81, 84, 85, 86, 87, 88] (fun z => (la z < la this ∨ la this < la z) ∧ (la z < la p0 ∨ la p0 < la z)) G c111_G := FRM_trans (FRM_set (FRM_set (FRM_set (FRM_set (FRM_set (FRM_set (FRM_set (FRM_set (FRM_set FRM_refl (by decide) (fun z h1 h2 => hf23 z ⟨h1, h2⟩)) (by decide) (fun z h1 h2 => hf24 z ⟨h1, h2⟩)) (by decide) (fun z h1 h2 => hf25 z ⟨h1, h2⟩)) (by decide) (fun z h1 h2 => hf26 z ⟨h1, h2⟩)) (by decide) (fun z h1 h2 => hf27 z ⟨h1, h2⟩)) (by decide) (fun z h1 h2 => hf28 z ⟨h1, h2⟩)) (by decide) (fun z h1 h2 => hf29 z ⟨h1, h2⟩)) (by decide) (fun z h1 h2 => hf30 z ⟨h1, h2⟩)) (by decide) (fun z h1 h2 => hf31 z ⟨h1, h2⟩)) qG111 hle111 (by decide) (fun _ _ _ => trivial)
              have hF111_P : FRM cnt [22, 23] (fun z => (la z < la this ∨ la this < la z) ∧ (la z < la p0 ∨ la p0 < la z)) P c111_P := FRM_trans FRM_refl qP111 hle111 (by decide) (fun _ _ _ => trivial)
              have hF111_U : FRM cnt [] (fun z => (la z < la this ∨ la this < la z) ∧ (la z < la p0 ∨ la p0 < la z)) U c111_U := FRM_trans FRM_refl qU111 hle111 (by decide) (fun _ _ _ => trivial)
              have hF111_V : FRM cnt [0] (fun z => (la z < la this ∨ la this < la z) ∧ (la z < la p0 ∨ la p0 < la z)) V c111_V := FRM_trans FRM_refl qV111 hle111 (by decide) (fun _ _ _ => trivial)
              have hF111_X : FRM cnt [] (fun z => (la z < la this ∨ la this < la z) ∧ (la z < la p0 ∨ la p0 < la z)) X c111_X := FRM_trans FRM_refl qX111 hle111 (by decide) (fun _ _ _ => trivial)
              have hF111_O : FRM cnt [] (fun z => (la z < la this ∨ la this < la z) ∧ (la z < la p0 ∨ la p0 < la z)) O c111_O := FRM_trans FRM_refl qO111 hle111 (by decide) (fun _ _ _ => trivial)
              have hln111 : ∀ z, z < cnt → c111_ln z = ln z := fun z hz => (ql111 z (Nat.lt_of_lt_of_le hz hle111)).trans (rfl)
              have g33 := ag111 this hlt_this
              have lt34 : this < c111_cnt := by omega
              have g35 := ag111 p0 hlt_p0
              have lt36 : p0 < c111_cnt := by omega
              refine pw_vl (fun m114 em114 => ?_)
              have hl37 : LC 22 la111_32 c111_cnt m114 := LC_up (hB111.1 22 fl_22) em114 (by omega) (by omega) (lk_22.mpr (by omega))
              have hf38 : ∀ z, (z < cnt ∧ (la z < la this ∨ la this < la z) ∧ (la z < la p0 ∨ la p0 < la z)) → m114 z = (P 22) z := fr_up (e0 := (P 22)) (fun z hz => hF111_P 22 z hz.1 (fun _ => hz.2)) em114 (show ¬ (p0 < cnt ∧ (la p0 < la this ∨ la this < la p0) ∧ (la p0 < la p0 ∨ la p0 < la p0)) from fun hz => by have q1 := hg111 p0 hz.1; omega)
              exact Jj174 c111_G (va_up c111_P 22 m114) c111_U c111_V c111_X c111_O c111_kd c111_ln c111_cnt la111_32 hg111 (LB_set hB111 hl37) (by omega) hF111_G (FRM_set hF111_P (by decide) (fun z h1 h2 => hf38 z ⟨h1, h2⟩)) hF111_U hF111_V hF111_X hF111_O hln111
        intro j95 Jj95
        refine pw_ite (fun _ => ?_) (fun _ => ?_)
        · skip
          exact Jj95 1
        · skip
          exact Jj95 0
    · skip
      refine pw_jn (fun j58 => ∀ (t58_0 : Int32), pw (j58 t58_0) (sp1 (RF_X4_readSide la G P U V X O kd ln cnt this p0))) ?_ ?_
      · intro t58_0
        show pw _ _
        refine pw_b3 (fun r58 c58_G80 c58_G81 hc58 => ?_)
        have hq58 := fr_X4_isNew la G P U V X O kd ln cnt this t58_0 hB _ hc58
        obtain ⟨q58_G80, q58_G81⟩ : (∀ z, (la z < la this ∨ la this < la z) → c58_G80 z = (G 80) z) ∧ (∀ z, (la z < la this ∨ la this < la z) → c58_G81 z = (G 81) z) := hq58
        have tz58 : ∀ z, (z < cnt ∧ (la z < la this ∨ la this < la z) ∧ (la z < la p0 ∨ la p0 < la z)) → ((la z < la this ∨ la this < la z)) := fun z hz => by omega
        have hf39 : ∀ z, (z < cnt ∧ (la z < la this ∨ la this < la z) ∧ (la z < la p0 ∨ la p0 < la z)) → c58_G80 z = (G 80) z := fun z hz => (q58_G80 z (tz58 z hz)).trans (rfl)
        have hf40 : ∀ z, (z < cnt ∧ (la z < la this ∨ la this < la z) ∧ (la z < la p0 ∨ la p0 < la z)) → c58_G81 z = (G 81) z := fun z hz => (q58_G81 z (tz58 z hz)).trans (rfl)
        clear hc58
        refine pw_ite (fun _ => ?_) (fun _ => ?_)
        · skip
          exact Jj174 (va_up (va_up G 80 c58_G80) 81 c58_G81) P U V X O kd ln cnt la (fun _ _ => rfl) hB (Nat.le_refl _) (FRM_set (FRM_set FRM_refl (by decide) (fun z h1 h2 => hf39 z ⟨h1, h2⟩)) (by decide) (fun z h1 h2 => hf40 z ⟨h1, h2⟩)) FRM_refl FRM_refl FRM_refl FRM_refl FRM_refl (fun _ _ => rfl)
        · skip
          refine pw_vl (fun m66 em66 => ?_)
          have hf41 : ∀ z, (z < cnt ∧ (la z < la this ∨ la this < la z) ∧ (la z < la p0 ∨ la p0 < la z)) → m66 z = (G 25) z := fr_up (e0 := (G 25)) (fun _ _ => rfl) em66 (show ¬ (p0 < cnt ∧ (la p0 < la this ∨ la this < la p0) ∧ (la p0 < la p0 ∨ la p0 < la p0)) from fun hz => by omega)
          exact Jj174 (va_up (va_up (va_up G 80 c58_G80) 81 c58_G81) 25 m66) P U V X O kd ln cnt la (fun _ _ => rfl) hB (Nat.le_refl _) (FRM_set (FRM_set (FRM_set FRM_refl (by decide) (fun z h1 h2 => hf39 z ⟨h1, h2⟩)) (by decide) (fun z h1 h2 => hf40 z ⟨h1, h2⟩)) (by decide) (fun z h1 h2 => hf41 z ⟨h1, h2⟩)) FRM_refl FRM_refl FRM_refl FRM_refl FRM_refl (fun _ _ => rfl)
      intro j58 Jj58
      refine pw_ite (fun _ => ?_) (fun _ => ?_)
      · skip
        exact Jj58 1
      · skip
        exact Jj58 0
  · skip
    refine pw_jn (fun j22 => ∀ (t22_0 : Int32), pw (j22 t22_0) (sp1 (RF_X4_readSide la G P U V X O kd ln cnt this p0))) ?_ ?_
    · intro t22_0
      show pw _ _
      refine pw_b3 (fun r22 c22_G80 c22_G81 hc22 => ?_)
      have hq22 := fr_X4_isNew la G P U V X O kd ln cnt this t22_0 hB _ hc22
      obtain ⟨q22_G80, q22_G81⟩ : (∀ z, (la z < la this ∨ la this < la z) → c22_G80 z = (G 80) z) ∧ (∀ z, (la z < la this ∨ la this < la z) → c22_G81 z = (G 81) z) := hq22
      have tz22 : ∀ z, (z < cnt ∧ (la z < la this ∨ la this < la z) ∧ (la z < la p0 ∨ la p0 < la z)) → ((la z < la this ∨ la this < la z)) := fun z hz => by omega
      have hf42 : ∀ z, (z < cnt ∧ (la z < la this ∨ la this < la z) ∧ (la z < la p0 ∨ la p0 < la z)) → c22_G80 z = (G 80) z := fun z hz => (q22_G80 z (tz22 z hz)).trans (rfl)
      have hf43 : ∀ z, (z < cnt ∧ (la z < la this ∨ la this < la z) ∧ (la z < la p0 ∨ la p0 < la z)) → c22_G81 z = (G 81) z := fun z hz => (q22_G81 z (tz22 z hz)).trans (rfl)
      clear hc22
      refine pw_ite (fun _ => ?_) (fun _ => ?_)
      · skip
        exact Jj174 (va_up (va_up G 80 c22_G80) 81 c22_G81) P U V X O kd ln cnt la (fun _ _ => rfl) hB (Nat.le_refl _) (FRM_set (FRM_set FRM_refl (by decide) (fun z h1 h2 => hf42 z ⟨h1, h2⟩)) (by decide) (fun z h1 h2 => hf43 z ⟨h1, h2⟩)) FRM_refl FRM_refl FRM_refl FRM_refl FRM_refl (fun _ _ => rfl)
      · skip
        refine pw_vl (fun m30 em30 => ?_)
        have hf44 : ∀ z, (z < cnt ∧ (la z < la this ∨ la this < la z) ∧ (la z < la p0 ∨ la p0 < la z)) → m30 z = (G 24) z := fr_up (e0 := (G 24)) (fun _ _ => rfl) em30 (show ¬ (p0 < cnt ∧ (la p0 < la this ∨ la this < la p0) ∧ (la p0 < la p0 ∨ la p0 < la p0)) from fun hz => by omega)
        exact Jj174 (va_up (va_up (va_up G 80 c22_G80) 81 c22_G81) 24 m30) P U V X O kd ln cnt la (fun _ _ => rfl) hB (Nat.le_refl _) (FRM_set (FRM_set (FRM_set FRM_refl (by decide) (fun z h1 h2 => hf42 z ⟨h1, h2⟩)) (by decide) (fun z h1 h2 => hf43 z ⟨h1, h2⟩)) (by decide) (fun z h1 h2 => hf44 z ⟨h1, h2⟩)) FRM_refl FRM_refl FRM_refl FRM_refl FRM_refl (fun _ _ => rfl)
    intro j22 Jj22
    refine pw_ite (fun _ => ?_) (fun _ => ?_)
    · skip
      exact Jj22 1
    · skip
      exact Jj22 0
abbrev RF_X4_readLaw (la : Nat → Nat) (G : Nat → Nat → Int32) (P : Nat → Nat → Option Nat) (U : Nat → Nat → Int64) (V : Nat → Nat → Nat → Int32) (X : Nat → Nat → Nat → Int64) (O : Nat → Nat → Nat → Option Nat) (kd : Nat → Nat) (ln : Nat → Nat) (cnt : Nat) (this : Nat) (p0 : Nat) : ((Nat → Nat → Int32) × (Nat → Nat → Option Nat) × (Nat → Nat → Int64) × (Nat → Nat → Nat → Int32) × (Nat → Nat → Nat → Int64) × (Nat → Nat → Nat → Option Nat) × (Nat → Nat) × (Nat → Nat) × Nat) → Prop := fun t => ∃ la1 : Nat → Nat, (∀ z, z < cnt → la1 z = la z) ∧ LB la1 (t.2.2.2.2.2.2.2.2) (t.2.1) ∧ cnt ≤ (t.2.2.2.2.2.2.2.2) ∧ FRM cnt [24, 25, 80, 81, 84, 85, 86, 87, 88, 102] (fun z => (la z < la this ∨ la this < la z) ∧ (la z < la p0 ∨ la p0 + 3 < la z) ∧ (la z < la p0 + 5 ∨ la p0 + 5 < la z)) G (t.1) ∧ FRM cnt [22, 23] (fun z => (la z < la this ∨ la this < la z) ∧ (la z < la p0 ∨ la p0 + 3 < la z) ∧ (la z < la p0 + 5 ∨ la p0 + 5 < la z)) P (t.2.1) ∧ FRM cnt [] (fun z => (la z < la this ∨ la this < la z) ∧ (la z < la p0 ∨ la p0 + 3 < la z) ∧ (la z < la p0 + 5 ∨ la p0 + 5 < la z)) U (t.2.2.1) ∧ FRM cnt [0] (fun z => (la z < la this ∨ la this < la z) ∧ (la z < la p0 ∨ la p0 + 3 < la z) ∧ (la z < la p0 + 5 ∨ la p0 + 5 < la z)) V (t.2.2.2.1) ∧ FRM cnt [] (fun z => (la z < la this ∨ la this < la z) ∧ (la z < la p0 ∨ la p0 + 3 < la z) ∧ (la z < la p0 + 5 ∨ la p0 + 5 < la z)) X (t.2.2.2.2.1) ∧ FRM cnt [0] (fun z => (la z < la this ∨ la this < la z) ∧ (la z < la p0 ∨ la p0 + 3 < la z) ∧ (la z < la p0 + 5 ∨ la p0 + 5 < la z)) O (t.2.2.2.2.2.1) ∧ (∀ z, z < cnt → (t.2.2.2.2.2.2.2.1) z = ln z)
set_option maxHeartbeats 4000000 in
set_option maxRecDepth 100000 in
theorem fr_X4_readLaw (la : Nat → Nat) (G : Nat → Nat → Int32) (P : Nat → Nat → Option Nat) (U : Nat → Nat → Int64) (V : Nat → Nat → Nat → Int32) (X : Nat → Nat → Nat → Int64) (O : Nat → Nat → Nat → Option Nat) (kd : Nat → Nat) (ln : Nat → Nat) (cnt : Nat) (this : Nat) (p0 : Nat) (hB : LB la cnt P) (hlt_this : this < cnt) (hlt_p0 : p0 < cnt) : pw (f_X4_readLaw G P U V X O kd ln cnt this p0) (sp1 (RF_X4_readLaw la G P U V X O kd ln cnt this p0)) := by
  unfold f_X4_readLaw
  refine pw_jn (fun j15 => ∀ (t15_0 : Int32), pw (j15 t15_0) (sp1 (RF_X4_readLaw la G P U V X O kd ln cnt this p0))) ?_ ?_
  · intro t15_0
    show pw _ _
    refine pw_b3 (fun r15 c15_G80 c15_G81 hc15 => ?_)
    have hq15 := fr_X4_hasRoom la G P U V X O kd ln cnt this t15_0 hB _ hc15
    obtain ⟨q15_G80, q15_G81⟩ : (∀ z, (la z < la this ∨ la this < la z) → c15_G80 z = (G 80) z) ∧ (∀ z, (la z < la this ∨ la this < la z) → c15_G81 z = (G 81) z) := hq15
    have tz15 : ∀ z, (z < cnt ∧ (la z < la this ∨ la this < la z) ∧ (la z < la p0 ∨ la p0 + 3 < la z) ∧ (la z < la p0 + 5 ∨ la p0 + 5 < la z)) → ((la z < la this ∨ la this < la z)) := fun z hz => by omega
    have hf1 : ∀ z, (z < cnt ∧ (la z < la this ∨ la this < la z) ∧ (la z < la p0 ∨ la p0 + 3 < la z) ∧ (la z < la p0 + 5 ∨ la p0 + 5 < la z)) → c15_G80 z = (G 80) z := fun z hz => (q15_G80 z (tz15 z hz)).trans (rfl)
    have hf2 : ∀ z, (z < cnt ∧ (la z < la this ∨ la this < la z) ∧ (la z < la p0 ∨ la p0 + 3 < la z) ∧ (la z < la p0 + 5 ∨ la p0 + 5 < la z)) → c15_G81 z = (G 81) z := fun z hz => (q15_G81 z (tz15 z hz)).trans (rfl)
    clear hc15
    refine pw_jn (fun j29 => ∀ (c29_G80 : Nat → Int32) (c29_G81 : Nat → Int32) (c29_G84 : Nat → Int32) (c29_G85 : Nat → Int32) (c29_G86 : Nat → Int32) (c29_G87 : Nat → Int32) (c29_G88 : Nat → Int32), (∀ z, (z < cnt ∧ (la z < la this ∨ la this < la z) ∧ (la z < la p0 ∨ la p0 + 3 < la z) ∧ (la z < la p0 + 5 ∨ la p0 + 5 < la z)) → c29_G80 z = (G 80) z) → (∀ z, (z < cnt ∧ (la z < la this ∨ la this < la z) ∧ (la z < la p0 ∨ la p0 + 3 < la z) ∧ (la z < la p0 + 5 ∨ la p0 + 5 < la z)) → c29_G81 z = (G 81) z) → (∀ z, (z < cnt ∧ (la z < la this ∨ la this < la z) ∧ (la z < la p0 ∨ la p0 + 3 < la z) ∧ (la z < la p0 + 5 ∨ la p0 + 5 < la z)) → c29_G84 z = (G 84) z) → (∀ z, (z < cnt ∧ (la z < la this ∨ la this < la z) ∧ (la z < la p0 ∨ la p0 + 3 < la z) ∧ (la z < la p0 + 5 ∨ la p0 + 5 < la z)) → c29_G85 z = (G 85) z) → (∀ z, (z < cnt ∧ (la z < la this ∨ la this < la z) ∧ (la z < la p0 ∨ la p0 + 3 < la z) ∧ (la z < la p0 + 5 ∨ la p0 + 5 < la z)) → c29_G86 z = (G 86) z) → (∀ z, (z < cnt ∧ (la z < la this ∨ la this < la z) ∧ (la z < la p0 ∨ la p0 + 3 < la z) ∧ (la z < la p0 + 5 ∨ la p0 + 5 < la z)) → c29_G87 z = (G 87) z) → (∀ z, (z < cnt ∧ (la z < la this ∨ la this < la z) ∧ (la z < la p0 ∨ la p0 + 3 < la z) ∧ (la z < la p0 + 5 ∨ la p0 + 5 < la z)) → c29_G88 z = (G 88) z) → pw (j29 c29_G80 c29_G81 c29_G84 c29_G85 c29_G86 c29_G87 c29_G88) (sp1 (RF_X4_readLaw la G P U V X O kd ln cnt this p0))) ?_ ?_
    · intro c29_G80 c29_G81 c29_G84 c29_G85 c29_G86 c29_G87 c29_G88 hf3 hf4 hf5 hf6 hf7 hf8 hf9
      show pw _ _
      exact pw_some ⟨la, (fun _ _ => rfl), hB, (Nat.le_refl _), (FRM_set (FRM_set (FRM_set (FRM_set (FRM_set (FRM_set (FRM_set FRM_refl (by decide) (fun z h1 h2 => hf3 z ⟨h1, h2⟩)) (by decide) (fun z h1 h2 => hf4 z ⟨h1, h2⟩)) (by decide) (fun z h1 h2 => hf5 z ⟨h1, h2⟩)) (by decide) (fun z h1 h2 => hf6 z ⟨h1, h2⟩)) (by decide) (fun z h1 h2 => hf7 z ⟨h1, h2⟩)) (by decide) (fun z h1 h2 => hf8 z ⟨h1, h2⟩)) (by decide) (fun z h1 h2 => hf9 z ⟨h1, h2⟩)), FRM_refl, FRM_refl, FRM_refl, FRM_refl, FRM_refl, (fun _ _ => rfl)⟩
    intro j29 Jj29
    refine pw_ite (fun _ => ?_) (fun _ => ?_)
    · skip
      exact Jj29 c15_G80 c15_G81 (G 84) (G 85) (G 86) (G 87) (G 88) hf1 hf2 (fun _ _ => rfl) (fun _ _ => rfl) (fun _ _ => rfl) (fun _ _ => rfl) (fun _ _ => rfl)
    · skip
      refine pw_b8 (fun r23 c23_G80 c23_G81 c23_G84 c23_G85 c23_G86 c23_G87 c23_G88 hc23 => ?_)
      have hq23 := fr_X4_takeLetters la (va_up (va_up G 80 c15_G80) 81 c15_G81) P U V X O kd ln cnt this (0 : Int32) hB _ hc23
      obtain ⟨q23_G80, q23_G81, q23_G84, q23_G85, q23_G86, q23_G87, q23_G88⟩ : (∀ z, (la z < la this ∨ la this < la z) → c23_G80 z = c15_G80 z) ∧ (∀ z, (la z < la this ∨ la this < la z) → c23_G81 z = c15_G81 z) ∧ (∀ z, (la z < la this ∨ la this < la z) → c23_G84 z = (G 84) z) ∧ (∀ z, (la z < la this ∨ la this < la z) → c23_G85 z = (G 85) z) ∧ (∀ z, (la z < la this ∨ la this < la z) → c23_G86 z = (G 86) z) ∧ (∀ z, (la z < la this ∨ la this < la z) → c23_G87 z = (G 87) z) ∧ (∀ z, (la z < la this ∨ la this < la z) → c23_G88 z = (G 88) z) := hq23
      have tz23 : ∀ z, (z < cnt ∧ (la z < la this ∨ la this < la z) ∧ (la z < la p0 ∨ la p0 + 3 < la z) ∧ (la z < la p0 + 5 ∨ la p0 + 5 < la z)) → ((la z < la this ∨ la this < la z)) := fun z hz => by omega
      have hf10 : ∀ z, (z < cnt ∧ (la z < la this ∨ la this < la z) ∧ (la z < la p0 ∨ la p0 + 3 < la z) ∧ (la z < la p0 + 5 ∨ la p0 + 5 < la z)) → c23_G80 z = (G 80) z := fun z hz => (q23_G80 z (tz23 z hz)).trans (hf1 z hz)
      have hf11 : ∀ z, (z < cnt ∧ (la z < la this ∨ la this < la z) ∧ (la z < la p0 ∨ la p0 + 3 < la z) ∧ (la z < la p0 + 5 ∨ la p0 + 5 < la z)) → c23_G81 z = (G 81) z := fun z hz => (q23_G81 z (tz23 z hz)).trans (hf2 z hz)
      have hf12 : ∀ z, (z < cnt ∧ (la z < la this ∨ la this < la z) ∧ (la z < la p0 ∨ la p0 + 3 < la z) ∧ (la z < la p0 + 5 ∨ la p0 + 5 < la z)) → c23_G84 z = (G 84) z := fun z hz => (q23_G84 z (tz23 z hz)).trans (rfl)
      have hf13 : ∀ z, (z < cnt ∧ (la z < la this ∨ la this < la z) ∧ (la z < la p0 ∨ la p0 + 3 < la z) ∧ (la z < la p0 + 5 ∨ la p0 + 5 < la z)) → c23_G85 z = (G 85) z := fun z hz => (q23_G85 z (tz23 z hz)).trans (rfl)
      have hf14 : ∀ z, (z < cnt ∧ (la z < la this ∨ la this < la z) ∧ (la z < la p0 ∨ la p0 + 3 < la z) ∧ (la z < la p0 + 5 ∨ la p0 + 5 < la z)) → c23_G86 z = (G 86) z := fun z hz => (q23_G86 z (tz23 z hz)).trans (rfl)
      have hf15 : ∀ z, (z < cnt ∧ (la z < la this ∨ la this < la z) ∧ (la z < la p0 ∨ la p0 + 3 < la z) ∧ (la z < la p0 + 5 ∨ la p0 + 5 < la z)) → c23_G87 z = (G 87) z := fun z hz => (q23_G87 z (tz23 z hz)).trans (rfl)
      have hf16 : ∀ z, (z < cnt ∧ (la z < la this ∨ la this < la z) ∧ (la z < la p0 ∨ la p0 + 3 < la z) ∧ (la z < la p0 + 5 ∨ la p0 + 5 < la z)) → c23_G88 z = (G 88) z := fun z hz => (q23_G88 z (tz23 z hz)).trans (rfl)
      clear hc23
      refine pw_ite (fun _ => ?_) (fun _ => ?_)
      · skip
        exact Jj29 c23_G80 c23_G81 c23_G84 c23_G85 c23_G86 c23_G87 c23_G88 hf10 hf11 hf12 hf13 hf14 hf15 hf16
      · skip
        refine pw_bA10 (fun r31 c31_G c31_P c31_U c31_V c31_X c31_O c31_kd c31_ln c31_cnt v1_31 v2_31 hc31 => ?_)
        have hq31 := fr_X4_letters la (va_up (va_up (va_up (va_up (va_up (va_up (va_up (va_up (va_up G 80 c15_G80) 81 c15_G81) 80 c23_G80) 81 c23_G81) 84 c23_G84) 85 c23_G85) 86 c23_G86) 87 c23_G87) 88 c23_G88) P U V X O kd ln cnt this (la p0 + 5) hB hlt_this (show (la p0 + 5) < 100000 + 10 * cnt + 6 from by have q9 := hB.2 p0 hlt_p0; omega) _ hc31
        obtain ⟨la31_17, ag31, hB31, cc31, qG31, qP31, qU31, qV31, qX31, qO31, ql31, po31_0⟩ : ∃ la9 : Nat → Nat, (∀ z, z < cnt → la9 z = la z) ∧ LB la9 c31_cnt c31_P ∧ cnt ≤ c31_cnt ∧ FRM cnt [] (fun z => True) (va_up (va_up (va_up (va_up (va_up (va_up (va_up (va_up (va_up G 80 c15_G80) 81 c15_G81) 80 c23_G80) 81 c23_G81) 84 c23_G84) 85 c23_G85) 86 c23_G86) 87 c23_G87) 88 c23_G88) c31_G ∧ FRM cnt [] (fun z => True) P c31_P ∧ FRM cnt [] (fun z => True) U c31_U ∧ FRM cnt [0] (fun z => True) V c31_V ∧ FRM cnt [] (fun z => True) X c31_X ∧ FRM cnt [] (fun z => True) O c31_O ∧ (∀ z, z < cnt → c31_ln z = ln z) ∧ (cnt ≤ r31 ∧ r31 < c31_cnt ∧ la9 r31 = (la p0 + 5)) := hq31
        obtain ⟨po31_0_1, po31_0_2, po31_0_3⟩ := po31_0
        have hle31 : cnt ≤ cnt := Nat.le_refl _
        have hg31 : ∀ z, z < cnt → la31_17 z = la z := fun z hz => (ag31 z (Nat.lt_of_lt_of_le hz hle31)).trans (rfl)
        have hF31_G : FRM cnt [24, 25, 80, 81, 84, 85, 86, 87, 88, 102] (fun z => (la z < la this ∨ la this < la z) ∧ (la z < la p0 ∨ la p0 + 3 < la z) ∧ (la z < la p0 + 5 ∨ la p0 + 5 < la z)) G c31_G := FRM_trans (FRM_set (FRM_set (FRM_set (FRM_set (FRM_set (FRM_set (FRM_set (FRM_set (FRM_set FRM_refl (by decide) (fun z h1 h2 => hf1 z ⟨h1, h2⟩)) (by decide) (fun z h1 h2 => hf2 z ⟨h1, h2⟩)) (by decide) (fun z h1 h2 => hf10 z ⟨h1, h2⟩)) (by decide) (fun z h1 h2 => hf11 z ⟨h1, h2⟩)) (by decide) (fun z h1 h2 => hf12 z ⟨h1, h2⟩)) (by decide) (fun z h1 h2 => hf13 z ⟨h1, h2⟩)) (by decide) (fun z h1 h2 => hf14 z ⟨h1, h2⟩)) (by decide) (fun z h1 h2 => hf15 z ⟨h1, h2⟩)) (by decide) (fun z h1 h2 => hf16 z ⟨h1, h2⟩)) qG31 hle31 (by decide) (fun _ _ _ => trivial)
        have hF31_P : FRM cnt [22, 23] (fun z => (la z < la this ∨ la this < la z) ∧ (la z < la p0 ∨ la p0 + 3 < la z) ∧ (la z < la p0 + 5 ∨ la p0 + 5 < la z)) P c31_P := FRM_trans FRM_refl qP31 hle31 (by decide) (fun _ _ _ => trivial)
        have hF31_U : FRM cnt [] (fun z => (la z < la this ∨ la this < la z) ∧ (la z < la p0 ∨ la p0 + 3 < la z) ∧ (la z < la p0 + 5 ∨ la p0 + 5 < la z)) U c31_U := FRM_trans FRM_refl qU31 hle31 (by decide) (fun _ _ _ => trivial)
        have hF31_V : FRM cnt [0] (fun z => (la z < la this ∨ la this < la z) ∧ (la z < la p0 ∨ la p0 + 3 < la z) ∧ (la z < la p0 + 5 ∨ la p0 + 5 < la z)) V c31_V := FRM_trans FRM_refl qV31 hle31 (by decide) (fun _ _ _ => trivial)
        have hF31_X : FRM cnt [] (fun z => (la z < la this ∨ la this < la z) ∧ (la z < la p0 ∨ la p0 + 3 < la z) ∧ (la z < la p0 + 5 ∨ la p0 + 5 < la z)) X c31_X := FRM_trans FRM_refl qX31 hle31 (by decide) (fun _ _ _ => trivial)
        have hF31_O : FRM cnt [0] (fun z => (la z < la this ∨ la this < la z) ∧ (la z < la p0 ∨ la p0 + 3 < la z) ∧ (la z < la p0 + 5 ∨ la p0 + 5 < la z)) O c31_O := FRM_trans FRM_refl qO31 hle31 (by decide) (fun _ _ _ => trivial)
        have hln31 : ∀ z, z < cnt → c31_ln z = ln z := fun z hz => (ql31 z (Nat.lt_of_lt_of_le hz hle31)).trans (rfl)
        have g18 := ag31 this hlt_this
        have lt19 : this < c31_cnt := by omega
        have g20 := ag31 p0 hlt_p0
        have lt21 : p0 < c31_cnt := by omega
        refine pw_b8 (fun r36 c36_G80 c36_G81 c36_G84 c36_G85 c36_G86 c36_G87 c36_G88 hc36 => ?_)
        have hq36 := fr_X4_takeTo la31_17 c31_G c31_P c31_U c31_V c31_X c31_O c31_kd c31_ln c31_cnt this hB31 _ hc36
        obtain ⟨q36_G80, q36_G81, q36_G84, q36_G85, q36_G86, q36_G87, q36_G88⟩ : (∀ z, (la31_17 z < la31_17 this ∨ la31_17 this < la31_17 z) → c36_G80 z = (c31_G 80) z) ∧ (∀ z, (la31_17 z < la31_17 this ∨ la31_17 this < la31_17 z) → c36_G81 z = (c31_G 81) z) ∧ (∀ z, (la31_17 z < la31_17 this ∨ la31_17 this < la31_17 z) → c36_G84 z = (c31_G 84) z) ∧ (∀ z, (la31_17 z < la31_17 this ∨ la31_17 this < la31_17 z) → c36_G85 z = (c31_G 85) z) ∧ (∀ z, (la31_17 z < la31_17 this ∨ la31_17 this < la31_17 z) → c36_G86 z = (c31_G 86) z) ∧ (∀ z, (la31_17 z < la31_17 this ∨ la31_17 this < la31_17 z) → c36_G87 z = (c31_G 87) z) ∧ (∀ z, (la31_17 z < la31_17 this ∨ la31_17 this < la31_17 z) → c36_G88 z = (c31_G 88) z) := hq36
        have tz36 : ∀ z, (z < cnt ∧ (la z < la this ∨ la this < la z) ∧ (la z < la p0 ∨ la p0 + 3 < la z) ∧ (la z < la p0 + 5 ∨ la p0 + 5 < la z)) → ((la31_17 z < la31_17 this ∨ la31_17 this < la31_17 z)) := fun z hz => by have q1 := hg31 z hz.1; have q2 := hB.2 z hz.1; omega
        have hf22 : ∀ z, (z < cnt ∧ (la z < la this ∨ la this < la z) ∧ (la z < la p0 ∨ la p0 + 3 < la z) ∧ (la z < la p0 + 5 ∨ la p0 + 5 < la z)) → c36_G80 z = (G 80) z := fun z hz => (q36_G80 z (tz36 z hz)).trans (hF31_G 80 z hz.1 (fun _ => hz.2))
        have hf23 : ∀ z, (z < cnt ∧ (la z < la this ∨ la this < la z) ∧ (la z < la p0 ∨ la p0 + 3 < la z) ∧ (la z < la p0 + 5 ∨ la p0 + 5 < la z)) → c36_G81 z = (G 81) z := fun z hz => (q36_G81 z (tz36 z hz)).trans (hF31_G 81 z hz.1 (fun _ => hz.2))
        have hf24 : ∀ z, (z < cnt ∧ (la z < la this ∨ la this < la z) ∧ (la z < la p0 ∨ la p0 + 3 < la z) ∧ (la z < la p0 + 5 ∨ la p0 + 5 < la z)) → c36_G84 z = (G 84) z := fun z hz => (q36_G84 z (tz36 z hz)).trans (hF31_G 84 z hz.1 (fun _ => hz.2))
        have hf25 : ∀ z, (z < cnt ∧ (la z < la this ∨ la this < la z) ∧ (la z < la p0 ∨ la p0 + 3 < la z) ∧ (la z < la p0 + 5 ∨ la p0 + 5 < la z)) → c36_G85 z = (G 85) z := fun z hz => (q36_G85 z (tz36 z hz)).trans (hF31_G 85 z hz.1 (fun _ => hz.2))
        have hf26 : ∀ z, (z < cnt ∧ (la z < la this ∨ la this < la z) ∧ (la z < la p0 ∨ la p0 + 3 < la z) ∧ (la z < la p0 + 5 ∨ la p0 + 5 < la z)) → c36_G86 z = (G 86) z := fun z hz => (q36_G86 z (tz36 z hz)).trans (hF31_G 86 z hz.1 (fun _ => hz.2))
        have hf27 : ∀ z, (z < cnt ∧ (la z < la this ∨ la this < la z) ∧ (la z < la p0 ∨ la p0 + 3 < la z) ∧ (la z < la p0 + 5 ∨ la p0 + 5 < la z)) → c36_G87 z = (G 87) z := fun z hz => (q36_G87 z (tz36 z hz)).trans (hF31_G 87 z hz.1 (fun _ => hz.2))
        have hf28 : ∀ z, (z < cnt ∧ (la z < la this ∨ la this < la z) ∧ (la z < la p0 ∨ la p0 + 3 < la z) ∧ (la z < la p0 + 5 ∨ la p0 + 5 < la z)) → c36_G88 z = (G 88) z := fun z hz => (q36_G88 z (tz36 z hz)).trans (hF31_G 88 z hz.1 (fun _ => hz.2))
        clear hc36
        refine pw_jn (fun j50 => ∀ (c50_G80 : Nat → Int32) (c50_G81 : Nat → Int32) (c50_G84 : Nat → Int32) (c50_G85 : Nat → Int32) (c50_G86 : Nat → Int32) (c50_G87 : Nat → Int32) (c50_G88 : Nat → Int32), (∀ z, (z < cnt ∧ (la z < la this ∨ la this < la z) ∧ (la z < la p0 ∨ la p0 + 3 < la z) ∧ (la z < la p0 + 5 ∨ la p0 + 5 < la z)) → c50_G80 z = (G 80) z) → (∀ z, (z < cnt ∧ (la z < la this ∨ la this < la z) ∧ (la z < la p0 ∨ la p0 + 3 < la z) ∧ (la z < la p0 + 5 ∨ la p0 + 5 < la z)) → c50_G81 z = (G 81) z) → (∀ z, (z < cnt ∧ (la z < la this ∨ la this < la z) ∧ (la z < la p0 ∨ la p0 + 3 < la z) ∧ (la z < la p0 + 5 ∨ la p0 + 5 < la z)) → c50_G84 z = (G 84) z) → (∀ z, (z < cnt ∧ (la z < la this ∨ la this < la z) ∧ (la z < la p0 ∨ la p0 + 3 < la z) ∧ (la z < la p0 + 5 ∨ la p0 + 5 < la z)) → c50_G85 z = (G 85) z) → (∀ z, (z < cnt ∧ (la z < la this ∨ la this < la z) ∧ (la z < la p0 ∨ la p0 + 3 < la z) ∧ (la z < la p0 + 5 ∨ la p0 + 5 < la z)) → c50_G86 z = (G 86) z) → (∀ z, (z < cnt ∧ (la z < la this ∨ la this < la z) ∧ (la z < la p0 ∨ la p0 + 3 < la z) ∧ (la z < la p0 + 5 ∨ la p0 + 5 < la z)) → c50_G87 z = (G 87) z) → (∀ z, (z < cnt ∧ (la z < la this ∨ la this < la z) ∧ (la z < la p0 ∨ la p0 + 3 < la z) ∧ (la z < la p0 + 5 ∨ la p0 + 5 < la z)) → c50_G88 z = (G 88) z) → pw (j50 c50_G80 c50_G81 c50_G84 c50_G85 c50_G86 c50_G87 c50_G88) (sp1 (RF_X4_readLaw la G P U V X O kd ln cnt this p0))) ?_ ?_
        · intro c50_G80 c50_G81 c50_G84 c50_G85 c50_G86 c50_G87 c50_G88 hf29 hf30 hf31 hf32 hf33 hf34 hf35
          show pw _ _
          exact pw_some ⟨la31_17, hg31, hB31, (show cnt ≤ c31_cnt from by omega), (FRM_set (FRM_set (FRM_set (FRM_set (FRM_set (FRM_set (FRM_set hF31_G (by decide) (fun z h1 h2 => hf29 z ⟨h1, h2⟩)) (by decide) (fun z h1 h2 => hf30 z ⟨h1, h2⟩)) (by decide) (fun z h1 h2 => hf31 z ⟨h1, h2⟩)) (by decide) (fun z h1 h2 => hf32 z ⟨h1, h2⟩)) (by decide) (fun z h1 h2 => hf33 z ⟨h1, h2⟩)) (by decide) (fun z h1 h2 => hf34 z ⟨h1, h2⟩)) (by decide) (fun z h1 h2 => hf35 z ⟨h1, h2⟩)), hF31_P, hF31_U, hF31_V, hF31_X, hF31_O, hln31⟩
        intro j50 Jj50
        refine pw_ite (fun _ => ?_) (fun _ => ?_)
        · skip
          exact Jj50 c36_G80 c36_G81 c36_G84 c36_G85 c36_G86 c36_G87 c36_G88 hf22 hf23 hf24 hf25 hf26 hf27 hf28
        · skip
          refine pw_b8 (fun r44 c44_G80 c44_G81 c44_G84 c44_G85 c44_G86 c44_G87 c44_G88 hc44 => ?_)
          have hq44 := fr_X4_takeLetters la31_17 (va_up (va_up (va_up (va_up (va_up (va_up (va_up c31_G 80 c36_G80) 81 c36_G81) 84 c36_G84) 85 c36_G85) 86 c36_G86) 87 c36_G87) 88 c36_G88) c31_P c31_U c31_V c31_X c31_O c31_kd c31_ln c31_cnt this (1 : Int32) hB31 _ hc44
          obtain ⟨q44_G80, q44_G81, q44_G84, q44_G85, q44_G86, q44_G87, q44_G88⟩ : (∀ z, (la31_17 z < la31_17 this ∨ la31_17 this < la31_17 z) → c44_G80 z = c36_G80 z) ∧ (∀ z, (la31_17 z < la31_17 this ∨ la31_17 this < la31_17 z) → c44_G81 z = c36_G81 z) ∧ (∀ z, (la31_17 z < la31_17 this ∨ la31_17 this < la31_17 z) → c44_G84 z = c36_G84 z) ∧ (∀ z, (la31_17 z < la31_17 this ∨ la31_17 this < la31_17 z) → c44_G85 z = c36_G85 z) ∧ (∀ z, (la31_17 z < la31_17 this ∨ la31_17 this < la31_17 z) → c44_G86 z = c36_G86 z) ∧ (∀ z, (la31_17 z < la31_17 this ∨ la31_17 this < la31_17 z) → c44_G87 z = c36_G87 z) ∧ (∀ z, (la31_17 z < la31_17 this ∨ la31_17 this < la31_17 z) → c44_G88 z = c36_G88 z) := hq44
          have tz44 : ∀ z, (z < cnt ∧ (la z < la this ∨ la this < la z) ∧ (la z < la p0 ∨ la p0 + 3 < la z) ∧ (la z < la p0 + 5 ∨ la p0 + 5 < la z)) → ((la31_17 z < la31_17 this ∨ la31_17 this < la31_17 z)) := fun z hz => by have q1 := hg31 z hz.1; have q2 := hB.2 z hz.1; omega
          have hf36 : ∀ z, (z < cnt ∧ (la z < la this ∨ la this < la z) ∧ (la z < la p0 ∨ la p0 + 3 < la z) ∧ (la z < la p0 + 5 ∨ la p0 + 5 < la z)) → c44_G80 z = (G 80) z := fun z hz => (q44_G80 z (tz44 z hz)).trans (hf22 z hz)
          have hf37 : ∀ z, (z < cnt ∧ (la z < la this ∨ la this < la z) ∧ (la z < la p0 ∨ la p0 + 3 < la z) ∧ (la z < la p0 + 5 ∨ la p0 + 5 < la z)) → c44_G81 z = (G 81) z := fun z hz => (q44_G81 z (tz44 z hz)).trans (hf23 z hz)
          have hf38 : ∀ z, (z < cnt ∧ (la z < la this ∨ la this < la z) ∧ (la z < la p0 ∨ la p0 + 3 < la z) ∧ (la z < la p0 + 5 ∨ la p0 + 5 < la z)) → c44_G84 z = (G 84) z := fun z hz => (q44_G84 z (tz44 z hz)).trans (hf24 z hz)
          have hf39 : ∀ z, (z < cnt ∧ (la z < la this ∨ la this < la z) ∧ (la z < la p0 ∨ la p0 + 3 < la z) ∧ (la z < la p0 + 5 ∨ la p0 + 5 < la z)) → c44_G85 z = (G 85) z := fun z hz => (q44_G85 z (tz44 z hz)).trans (hf25 z hz)
          have hf40 : ∀ z, (z < cnt ∧ (la z < la this ∨ la this < la z) ∧ (la z < la p0 ∨ la p0 + 3 < la z) ∧ (la z < la p0 + 5 ∨ la p0 + 5 < la z)) → c44_G86 z = (G 86) z := fun z hz => (q44_G86 z (tz44 z hz)).trans (hf26 z hz)
          have hf41 : ∀ z, (z < cnt ∧ (la z < la this ∨ la this < la z) ∧ (la z < la p0 ∨ la p0 + 3 < la z) ∧ (la z < la p0 + 5 ∨ la p0 + 5 < la z)) → c44_G87 z = (G 87) z := fun z hz => (q44_G87 z (tz44 z hz)).trans (hf27 z hz)
          have hf42 : ∀ z, (z < cnt ∧ (la z < la this ∨ la this < la z) ∧ (la z < la p0 ∨ la p0 + 3 < la z) ∧ (la z < la p0 + 5 ∨ la p0 + 5 < la z)) → c44_G88 z = (G 88) z := fun z hz => (q44_G88 z (tz44 z hz)).trans (hf28 z hz)
          clear hc44
          refine pw_ite (fun _ => ?_) (fun _ => ?_)
          · skip
            exact Jj50 c44_G80 c44_G81 c44_G84 c44_G85 c44_G86 c44_G87 c44_G88 hf36 hf37 hf38 hf39 hf40 hf41 hf42
          · skip
            refine pw_tk ?_
            refine pw_newc (la := la31_17) (L := la31_17 p0 + 5) hB31 (by have q43 := hB31.2 this lt19; have q44 := hB31.2 p0 lt21; omega) (fun la51 G51 P51 U51 V51 X51 O51 kd51 ln51 cnt51 hcn51 hB51 hL51 ag51 qG51 qP51 qU51 qV51 qX51 qO51 ql51 => ?_)
            have hle51 : cnt ≤ c31_cnt := by omega
            have hg51 : ∀ z, z < cnt → la51 z = la z := fun z hz => (ag51 z (Nat.lt_of_lt_of_le hz hle51)).trans (hg31 z hz)
            have hF51_G : FRM cnt [24, 25, 80, 81, 84, 85, 86, 87, 88, 102] (fun z => (la z < la this ∨ la this < la z) ∧ (la z < la p0 ∨ la p0 + 3 < la z) ∧ (la z < la p0 + 5 ∨ la p0 + 5 < la z)) G G51 := FRM_trans (FRM_set (FRM_set (FRM_set (FRM_set (FRM_set (FRM_set (FRM_set (FRM_set (FRM_set (FRM_set (FRM_set (FRM_set (FRM_set (FRM_set hF31_G (by decide) (fun z h1 h2 => hf22 z ⟨h1, h2⟩)) (by decide) (fun z h1 h2 => hf23 z ⟨h1, h2⟩)) (by decide) (fun z h1 h2 => hf24 z ⟨h1, h2⟩)) (by decide) (fun z h1 h2 => hf25 z ⟨h1, h2⟩)) (by decide) (fun z h1 h2 => hf26 z ⟨h1, h2⟩)) (by decide) (fun z h1 h2 => hf27 z ⟨h1, h2⟩)) (by decide) (fun z h1 h2 => hf28 z ⟨h1, h2⟩)) (by decide) (fun z h1 h2 => hf36 z ⟨h1, h2⟩)) (by decide) (fun z h1 h2 => hf37 z ⟨h1, h2⟩)) (by decide) (fun z h1 h2 => hf38 z ⟨h1, h2⟩)) (by decide) (fun z h1 h2 => hf39 z ⟨h1, h2⟩)) (by decide) (fun z h1 h2 => hf40 z ⟨h1, h2⟩)) (by decide) (fun z h1 h2 => hf41 z ⟨h1, h2⟩)) (by decide) (fun z h1 h2 => hf42 z ⟨h1, h2⟩)) qG51 hle51 (by decide) (fun _ _ _ => trivial)
            have hF51_P : FRM cnt [22, 23] (fun z => (la z < la this ∨ la this < la z) ∧ (la z < la p0 ∨ la p0 + 3 < la z) ∧ (la z < la p0 + 5 ∨ la p0 + 5 < la z)) P P51 := FRM_trans hF31_P qP51 hle51 (by decide) (fun _ _ _ => trivial)
            have hF51_U : FRM cnt [] (fun z => (la z < la this ∨ la this < la z) ∧ (la z < la p0 ∨ la p0 + 3 < la z) ∧ (la z < la p0 + 5 ∨ la p0 + 5 < la z)) U U51 := FRM_trans hF31_U qU51 hle51 (by decide) (fun _ _ _ => trivial)
            have hF51_V : FRM cnt [0] (fun z => (la z < la this ∨ la this < la z) ∧ (la z < la p0 ∨ la p0 + 3 < la z) ∧ (la z < la p0 + 5 ∨ la p0 + 5 < la z)) V V51 := FRM_trans hF31_V qV51 hle51 (by decide) (fun _ _ _ => trivial)
            have hF51_X : FRM cnt [] (fun z => (la z < la this ∨ la this < la z) ∧ (la z < la p0 ∨ la p0 + 3 < la z) ∧ (la z < la p0 + 5 ∨ la p0 + 5 < la z)) X X51 := FRM_trans hF31_X qX51 hle51 (by decide) (fun _ _ _ => trivial)
            have hF51_O : FRM cnt [0] (fun z => (la z < la this ∨ la this < la z) ∧ (la z < la p0 ∨ la p0 + 3 < la z) ∧ (la z < la p0 + 5 ∨ la p0 + 5 < la z)) O O51 := FRM_trans hF31_O qO51 hle51 (by decide) (fun _ _ _ => trivial)
            have hln51 : ∀ z, z < cnt → ln51 z = ln z := fun z hz => (ql51 z (Nat.lt_of_lt_of_le hz hle51)).trans (hln31 z hz)
            have g45 := ag51 this lt19
            have lt46 : this < cnt51 := by omega
            have g47 := ag51 p0 lt21
            have lt48 : p0 < cnt51 := by omega
            have g49 := ag51 r31 po31_0_2
            have lt50 : r31 < cnt51 := by omega
            have ltn51 : c31_cnt < cnt51 := by omega
            refine pw_bA10 (fun r57 c57_G c57_P c57_U c57_V c57_X c57_O c57_kd c57_ln c57_cnt v1_57 v2_57 hc57 => ?_)
            have hq57 := fr_X4_letters la51 G51 P51 U51 V51 X51 O51 kd51 ln51 cnt51 this (la51 p0 + 5) hB51 lt46 (show (la51 p0 + 5) < 100000 + 10 * cnt51 + 6 from by have q9 := hB51.2 p0 lt48; omega) _ hc57
            obtain ⟨la57_51, ag57, hB57, cc57, qG57, qP57, qU57, qV57, qX57, qO57, ql57, po57_0⟩ : ∃ la9 : Nat → Nat, (∀ z, z < cnt51 → la9 z = la51 z) ∧ LB la9 c57_cnt c57_P ∧ cnt51 ≤ c57_cnt ∧ FRM cnt51 [] (fun z => True) G51 c57_G ∧ FRM cnt51 [] (fun z => True) P51 c57_P ∧ FRM cnt51 [] (fun z => True) U51 c57_U ∧ FRM cnt51 [0] (fun z => True) V51 c57_V ∧ FRM cnt51 [] (fun z => True) X51 c57_X ∧ FRM cnt51 [] (fun z => True) O51 c57_O ∧ (∀ z, z < cnt51 → c57_ln z = ln51 z) ∧ (cnt51 ≤ r57 ∧ r57 < c57_cnt ∧ la9 r57 = (la51 p0 + 5)) := hq57
            obtain ⟨po57_0_1, po57_0_2, po57_0_3⟩ := po57_0
            have hle57 : cnt ≤ cnt51 := by omega
            have hg57 : ∀ z, z < cnt → la57_51 z = la z := fun z hz => (ag57 z (Nat.lt_of_lt_of_le hz hle57)).trans (hg51 z hz)
            have hF57_G : FRM cnt [24, 25, 80, 81, 84, 85, 86, 87, 88, 102] (fun z => (la z < la this ∨ la this < la z) ∧ (la z < la p0 ∨ la p0 + 3 < la z) ∧ (la z < la p0 + 5 ∨ la p0 + 5 < la z)) G c57_G := FRM_trans hF51_G qG57 hle57 (by decide) (fun _ _ _ => trivial)
            have hF57_P : FRM cnt [22, 23] (fun z => (la z < la this ∨ la this < la z) ∧ (la z < la p0 ∨ la p0 + 3 < la z) ∧ (la z < la p0 + 5 ∨ la p0 + 5 < la z)) P c57_P := FRM_trans hF51_P qP57 hle57 (by decide) (fun _ _ _ => trivial)
            have hF57_U : FRM cnt [] (fun z => (la z < la this ∨ la this < la z) ∧ (la z < la p0 ∨ la p0 + 3 < la z) ∧ (la z < la p0 + 5 ∨ la p0 + 5 < la z)) U c57_U := FRM_trans hF51_U qU57 hle57 (by decide) (fun _ _ _ => trivial)
            have hF57_V : FRM cnt [0] (fun z => (la z < la this ∨ la this < la z) ∧ (la z < la p0 ∨ la p0 + 3 < la z) ∧ (la z < la p0 + 5 ∨ la p0 + 5 < la z)) V c57_V := FRM_trans hF51_V qV57 hle57 (by decide) (fun _ _ _ => trivial)
            have hF57_X : FRM cnt [] (fun z => (la z < la this ∨ la this < la z) ∧ (la z < la p0 ∨ la p0 + 3 < la z) ∧ (la z < la p0 + 5 ∨ la p0 + 5 < la z)) X c57_X := FRM_trans hF51_X qX57 hle57 (by decide) (fun _ _ _ => trivial)
            have hF57_O : FRM cnt [0] (fun z => (la z < la this ∨ la this < la z) ∧ (la z < la p0 ∨ la p0 + 3 < la z) ∧ (la z < la p0 + 5 ∨ la p0 + 5 < la z)) O c57_O := FRM_trans hF51_O qO57 hle57 (by decide) (fun _ _ _ => trivial)
            have hln57 : ∀ z, z < cnt → c57_ln z = ln z := fun z hz => (ql57 z (Nat.lt_of_lt_of_le hz hle57)).trans (hln51 z hz)
            have g52 := ag57 this lt46
            have lt53 : this < c57_cnt := by omega
            have g54 := ag57 p0 lt48
            have lt55 : p0 < c57_cnt := by omega
            have g56 := ag57 r31 lt50
            have lt57 : r31 < c57_cnt := by omega
            have g58 := ag57 c31_cnt ltn51
            have lt59 : c31_cnt < c57_cnt := by omega
            refine pw_bA9 (fun c60_G c60_P c60_U c60_V c60_X c60_O c60_kd c60_ln c60_cnt v1_60 v2_60 hc60 => ?_)
            have hq60 := fr_X1_init la57_51 c57_G c57_P c57_U c57_V c57_X c57_O c57_kd c57_ln c57_cnt c31_cnt r31 r57 hB57 lt59 lt57 po57_0_2 (show la57_51 r31 = la57_51 c31_cnt from by omega) (show la57_51 r57 = la57_51 c31_cnt from by omega) _ hc60
            obtain ⟨la60_60, ag60, hB60, cc60, qG60, qP60, qU60, qV60, qX60, qO60, ql60⟩ : ∃ la9 : Nat → Nat, (∀ z, z < c57_cnt → la9 z = la57_51 z) ∧ LB la9 c60_cnt c60_P ∧ c57_cnt ≤ c60_cnt ∧ FRM c57_cnt [24, 25] (fun z => z ≠ c31_cnt) c57_G c60_G ∧ FRM c57_cnt [20, 21, 22, 23] (fun z => z ≠ c31_cnt) c57_P c60_P ∧ FRM c57_cnt [] (fun z => z ≠ c31_cnt) c57_U c60_U ∧ FRM c57_cnt [] (fun z => z ≠ c31_cnt) c57_V c60_V ∧ FRM c57_cnt [] (fun z => z ≠ c31_cnt) c57_X c60_X ∧ FRM c57_cnt [] (fun z => z ≠ c31_cnt) c57_O c60_O ∧ (∀ z, z < c57_cnt → c60_ln z = c57_ln z) := hq60
            have hle60 : cnt ≤ c57_cnt := by omega
            have hg60 : ∀ z, z < cnt → la60_60 z = la z := fun z hz => (ag60 z (Nat.lt_of_lt_of_le hz hle60)).trans (hg57 z hz)
            have hF60_G : FRM cnt [24, 25, 80, 81, 84, 85, 86, 87, 88, 102] (fun z => (la z < la this ∨ la this < la z) ∧ (la z < la p0 ∨ la p0 + 3 < la z) ∧ (la z < la p0 + 5 ∨ la p0 + 5 < la z)) G c60_G := FRM_tri hF57_G qG60 hle60 (show cnt ≤ c31_cnt from by omega)
            have hF60_P : FRM cnt [22, 23] (fun z => (la z < la this ∨ la this < la z) ∧ (la z < la p0 ∨ la p0 + 3 < la z) ∧ (la z < la p0 + 5 ∨ la p0 + 5 < la z)) P c60_P := FRM_tri hF57_P qP60 hle60 (show cnt ≤ c31_cnt from by omega)
            have hF60_U : FRM cnt [] (fun z => (la z < la this ∨ la this < la z) ∧ (la z < la p0 ∨ la p0 + 3 < la z) ∧ (la z < la p0 + 5 ∨ la p0 + 5 < la z)) U c60_U := FRM_tri hF57_U qU60 hle60 (show cnt ≤ c31_cnt from by omega)
            have hF60_V : FRM cnt [0] (fun z => (la z < la this ∨ la this < la z) ∧ (la z < la p0 ∨ la p0 + 3 < la z) ∧ (la z < la p0 + 5 ∨ la p0 + 5 < la z)) V c60_V := FRM_tri hF57_V qV60 hle60 (show cnt ≤ c31_cnt from by omega)
            have hF60_X : FRM cnt [] (fun z => (la z < la this ∨ la this < la z) ∧ (la z < la p0 ∨ la p0 + 3 < la z) ∧ (la z < la p0 + 5 ∨ la p0 + 5 < la z)) X c60_X := FRM_tri hF57_X qX60 hle60 (show cnt ≤ c31_cnt from by omega)
            have hF60_O : FRM cnt [0] (fun z => (la z < la this ∨ la this < la z) ∧ (la z < la p0 ∨ la p0 + 3 < la z) ∧ (la z < la p0 + 5 ∨ la p0 + 5 < la z)) O c60_O := FRM_tri hF57_O qO60 hle60 (show cnt ≤ c31_cnt from by omega)
            have hln60 : ∀ z, z < cnt → c60_ln z = ln z := fun z hz => (ql60 z (Nat.lt_of_lt_of_le hz hle60)).trans (hln57 z hz)
            have g61 := ag60 this lt53
            have lt62 : this < c60_cnt := by omega
            have g63 := ag60 p0 lt55
            have lt64 : p0 < c60_cnt := by omega
            have g65 := ag60 r31 lt57
            have lt66 : r31 < c60_cnt := by omega
            have g67 := ag60 c31_cnt lt59
            have lt68 : c31_cnt < c60_cnt := by omega
            refine pw_jn (fun k109 => ∀ (c109_G : Nat → Nat → Int32) (c109_P : Nat → Nat → Option Nat) (c109_U : Nat → Nat → Int64) (c109_V : Nat → Nat → Nat → Int32) (c109_X : Nat → Nat → Nat → Int64) (c109_O : Nat → Nat → Nat → Option Nat) (c109_kd : Nat → Nat) (c109_ln : Nat → Nat) (c109_cnt : Nat) (la109 : Nat → Nat), (∀ z, z < cnt → la109 z = la z) → LB la109 c109_cnt c109_P → cnt ≤ c109_cnt → FRM cnt [24, 25, 80, 81, 84, 85, 86, 87, 88, 102] (fun z => (la z < la this ∨ la this < la z) ∧ (la z < la p0 ∨ la p0 + 3 < la z) ∧ (la z < la p0 + 5 ∨ la p0 + 5 < la z)) G c109_G → FRM cnt [22, 23] (fun z => (la z < la this ∨ la this < la z) ∧ (la z < la p0 ∨ la p0 + 3 < la z) ∧ (la z < la p0 + 5 ∨ la p0 + 5 < la z)) P c109_P → FRM cnt [] (fun z => (la z < la this ∨ la this < la z) ∧ (la z < la p0 ∨ la p0 + 3 < la z) ∧ (la z < la p0 + 5 ∨ la p0 + 5 < la z)) U c109_U → FRM cnt [0] (fun z => (la z < la this ∨ la this < la z) ∧ (la z < la p0 ∨ la p0 + 3 < la z) ∧ (la z < la p0 + 5 ∨ la p0 + 5 < la z)) V c109_V → FRM cnt [] (fun z => (la z < la this ∨ la this < la z) ∧ (la z < la p0 ∨ la p0 + 3 < la z) ∧ (la z < la p0 + 5 ∨ la p0 + 5 < la z)) X c109_X → FRM cnt [0] (fun z => (la z < la this ∨ la this < la z) ∧ (la z < la p0 ∨ la p0 + 3 < la z) ∧ (la z < la p0 + 5 ∨ la p0 + 5 < la z)) O c109_O → (∀ z, z < cnt → c109_ln z = ln z) → pw (k109 c109_G c109_P c109_U c109_V c109_X c109_O c109_kd c109_ln c109_cnt) (sp1 (RF_X4_readLaw la G P U V X O kd ln cnt this p0))) ?_ ?_
            · intro c109_G c109_P c109_U c109_V c109_X c109_O c109_kd c109_ln c109_cnt la109 hag109 hB109 hcc109 hF109_G hF109_P hF109_U hF109_V hF109_X hF109_O hln109
              show pw _ _
              have g69 := hag109 this hlt_this
              have lt70 : this < c109_cnt := by omega
              have g71 := hag109 p0 hlt_p0
              have lt72 : p0 < c109_cnt := by omega
              exact pw_some ⟨la109, hag109, hB109, (show cnt ≤ c109_cnt from by omega), hF109_G, hF109_P, hF109_U, hF109_V, hF109_X, hF109_O, hln109⟩
            intro k109 Jk109
            have lp67 : ∀ (n67 : Nat) (y67_4 : Int32) (d67_G : Nat → Nat → Int32) (d67_P : Nat → Nat → Option Nat) (d67_U : Nat → Nat → Int64) (d67_V : Nat → Nat → Nat → Int32) (d67_X : Nat → Nat → Nat → Int64) (d67_O : Nat → Nat → Nat → Option Nat) (d67_kd : Nat → Nat) (d67_ln : Nat → Nat) (d67_cnt : Nat) (la67 : Nat → Nat), (∀ z, z < cnt → la67 z = la z) → LB la67 d67_cnt d67_P → cnt ≤ d67_cnt → FRM cnt [24, 25, 80, 81, 84, 85, 86, 87, 88, 102] (fun z => (la z < la this ∨ la this < la z) ∧ (la z < la p0 ∨ la p0 + 3 < la z) ∧ (la z < la p0 + 5 ∨ la p0 + 5 < la z)) G d67_G → FRM cnt [22, 23] (fun z => (la z < la this ∨ la this < la z) ∧ (la z < la p0 ∨ la p0 + 3 < la z) ∧ (la z < la p0 + 5 ∨ la p0 + 5 < la z)) P d67_P → FRM cnt [] (fun z => (la z < la this ∨ la this < la z) ∧ (la z < la p0 ∨ la p0 + 3 < la z) ∧ (la z < la p0 + 5 ∨ la p0 + 5 < la z)) U d67_U → FRM cnt [0] (fun z => (la z < la this ∨ la this < la z) ∧ (la z < la p0 ∨ la p0 + 3 < la z) ∧ (la z < la p0 + 5 ∨ la p0 + 5 < la z)) V d67_V → FRM cnt [] (fun z => (la z < la this ∨ la this < la z) ∧ (la z < la p0 ∨ la p0 + 3 < la z) ∧ (la z < la p0 + 5 ∨ la p0 + 5 < la z)) X d67_X → FRM cnt [0] (fun z => (la z < la this ∨ la this < la z) ∧ (la z < la p0 ∨ la p0 + 3 < la z) ∧ (la z < la p0 + 5 ∨ la p0 + 5 < la z)) O d67_O → (∀ z, z < cnt → d67_ln z = ln z) → c31_cnt < d67_cnt ∧ la67 c31_cnt = la67 p0 + 5 → pw (L_X4_readLaw_67 this p0 c31_cnt k109 n67 y67_4 d67_G d67_P d67_U d67_V d67_X d67_O d67_kd d67_ln d67_cnt) (sp1 (RF_X4_readLaw la G P U V X O kd ln cnt this p0)) := by
              intro n67
              induction n67 with
              | zero => intros; exact pw_none
              | succ n67 ih67 =>
                intro y67_4 d67_G d67_P d67_U d67_V d67_X d67_O d67_kd d67_ln d67_cnt la67 hag67 hB67 hcc67 hF67_G hF67_P hF67_U hF67_V hF67_X hF67_O hln67 li73
                show pw (B_X4_readLaw_67 this p0 c31_cnt k109 (L_X4_readLaw_67 this p0 c31_cnt k109 n67) y67_4 d67_G d67_P d67_U d67_V d67_X d67_O d67_kd d67_ln d67_cnt) _
                unfold B_X4_readLaw_67
                have g74 := hag67 this hlt_this
                have lt75 : this < d67_cnt := by omega
                have g76 := hag67 p0 hlt_p0
                have lt77 : p0 < d67_cnt := by omega
                refine pw_ite (fun _ => ?_) (fun _ => ?_)
                · skip
                  exact Jk109 d67_G d67_P d67_U d67_V d67_X d67_O d67_kd d67_ln d67_cnt la67 hag67 hB67 (by omega) hF67_G hF67_P hF67_U hF67_V hF67_X hF67_O hln67
                · skip
                  refine pw_ite (fun _ => ?_) (fun _ => ?_)
                  · skip
                    refine pw_b5 (fun c81_G84 c81_G85 c81_G86 c81_G87 c81_G88 hc81 => ?_)
                    have hq81 := fr_X4_nextToken la67 d67_G d67_P d67_U d67_V d67_X d67_O d67_kd d67_ln d67_cnt this hB67 _ hc81
                    obtain ⟨q81_G84, q81_G85, q81_G86, q81_G87, q81_G88⟩ : (∀ z, (la67 z < la67 this ∨ la67 this < la67 z) → c81_G84 z = (d67_G 84) z) ∧ (∀ z, (la67 z < la67 this ∨ la67 this < la67 z) → c81_G85 z = (d67_G 85) z) ∧ (∀ z, (la67 z < la67 this ∨ la67 this < la67 z) → c81_G86 z = (d67_G 86) z) ∧ (∀ z, (la67 z < la67 this ∨ la67 this < la67 z) → c81_G87 z = (d67_G 87) z) ∧ (∀ z, (la67 z < la67 this ∨ la67 this < la67 z) → c81_G88 z = (d67_G 88) z) := hq81
                    have tz81 : ∀ z, (z < cnt ∧ (la z < la this ∨ la this < la z) ∧ (la z < la p0 ∨ la p0 + 3 < la z) ∧ (la z < la p0 + 5 ∨ la p0 + 5 < la z)) → ((la67 z < la67 this ∨ la67 this < la67 z)) := fun z hz => by have q1 := hag67 z hz.1; have q2 := hB.2 z hz.1; omega
                    have hf78 : ∀ z, (z < cnt ∧ (la z < la this ∨ la this < la z) ∧ (la z < la p0 ∨ la p0 + 3 < la z) ∧ (la z < la p0 + 5 ∨ la p0 + 5 < la z)) → c81_G84 z = (G 84) z := fun z hz => (q81_G84 z (tz81 z hz)).trans (hF67_G 84 z hz.1 (fun _ => hz.2))
                    have hf79 : ∀ z, (z < cnt ∧ (la z < la this ∨ la this < la z) ∧ (la z < la p0 ∨ la p0 + 3 < la z) ∧ (la z < la p0 + 5 ∨ la p0 + 5 < la z)) → c81_G85 z = (G 85) z := fun z hz => (q81_G85 z (tz81 z hz)).trans (hF67_G 85 z hz.1 (fun _ => hz.2))
                    have hf80 : ∀ z, (z < cnt ∧ (la z < la this ∨ la this < la z) ∧ (la z < la p0 ∨ la p0 + 3 < la z) ∧ (la z < la p0 + 5 ∨ la p0 + 5 < la z)) → c81_G86 z = (G 86) z := fun z hz => (q81_G86 z (tz81 z hz)).trans (hF67_G 86 z hz.1 (fun _ => hz.2))
                    have hf81 : ∀ z, (z < cnt ∧ (la z < la this ∨ la this < la z) ∧ (la z < la p0 ∨ la p0 + 3 < la z) ∧ (la z < la p0 + 5 ∨ la p0 + 5 < la z)) → c81_G87 z = (G 87) z := fun z hz => (q81_G87 z (tz81 z hz)).trans (hF67_G 87 z hz.1 (fun _ => hz.2))
                    have hf82 : ∀ z, (z < cnt ∧ (la z < la this ∨ la this < la z) ∧ (la z < la p0 ∨ la p0 + 3 < la z) ∧ (la z < la p0 + 5 ∨ la p0 + 5 < la z)) → c81_G88 z = (G 88) z := fun z hz => (q81_G88 z (tz81 z hz)).trans (hF67_G 88 z hz.1 (fun _ => hz.2))
                    clear hc81
                    refine pw_ite (fun _ => ?_) (fun _ => ?_)
                    · skip
                      refine pw_b2 (fun c94_G102 c94_O0 hc94 => ?_)
                      have hq94 := fr_X5_addLaw la67 (va_up (va_up (va_up (va_up (va_up d67_G 84 c81_G84) 85 c81_G85) 86 c81_G86) 87 c81_G87) 88 c81_G88) d67_P d67_U d67_V d67_X d67_O d67_kd d67_ln d67_cnt p0 c31_cnt hB67 _ hc94
                      obtain ⟨q94_G102, q94_O0⟩ : (∀ z, (la67 z < la67 p0 ∨ la67 p0 + 3 < la67 z) ∧ (la67 z < la67 p0 + 5 ∨ la67 p0 + 5 < la67 z) → c94_G102 z = (d67_G 102) z) ∧ (∀ z, (la67 z < la67 p0 ∨ la67 p0 + 3 < la67 z) ∧ (la67 z < la67 p0 + 5 ∨ la67 p0 + 5 < la67 z) → c94_O0 z = (d67_O 0) z) := hq94
                      have tz94 : ∀ z, (z < cnt ∧ (la z < la this ∨ la this < la z) ∧ (la z < la p0 ∨ la p0 + 3 < la z) ∧ (la z < la p0 + 5 ∨ la p0 + 5 < la z)) → ((la67 z < la67 p0 ∨ la67 p0 + 3 < la67 z) ∧ (la67 z < la67 p0 + 5 ∨ la67 p0 + 5 < la67 z)) := fun z hz => by have q1 := hag67 z hz.1; have q2 := hB.2 z hz.1; omega
                      have hf83 : ∀ z, (z < cnt ∧ (la z < la this ∨ la this < la z) ∧ (la z < la p0 ∨ la p0 + 3 < la z) ∧ (la z < la p0 + 5 ∨ la p0 + 5 < la z)) → c94_G102 z = (G 102) z := fun z hz => (q94_G102 z (tz94 z hz)).trans (hF67_G 102 z hz.1 (fun _ => hz.2))
                      have hf84 : ∀ z, (z < cnt ∧ (la z < la this ∨ la this < la z) ∧ (la z < la p0 ∨ la p0 + 3 < la z) ∧ (la z < la p0 + 5 ∨ la p0 + 5 < la z)) → c94_O0 z = (O 0) z := fun z hz => (q94_O0 z (tz94 z hz)).trans (hF67_O 0 z hz.1 (fun _ => hz.2))
                      clear hc94
                      exact pw_some ⟨la67, hag67, hB67, (show cnt ≤ d67_cnt from by omega), (FRM_set (FRM_set (FRM_set (FRM_set (FRM_set (FRM_set hF67_G (by decide) (fun z h1 h2 => hf78 z ⟨h1, h2⟩)) (by decide) (fun z h1 h2 => hf79 z ⟨h1, h2⟩)) (by decide) (fun z h1 h2 => hf80 z ⟨h1, h2⟩)) (by decide) (fun z h1 h2 => hf81 z ⟨h1, h2⟩)) (by decide) (fun z h1 h2 => hf82 z ⟨h1, h2⟩)) (by decide) (fun z h1 h2 => hf83 z ⟨h1, h2⟩)), hF67_P, hF67_U, hF67_V, hF67_X, (FRM_set hF67_O (by decide) (fun z h1 h2 => hf84 z ⟨h1, h2⟩)), hln67⟩
                    · skip
                      refine pw_bA9 (fun c100_G c100_P c100_U c100_V c100_X c100_O c100_kd c100_ln c100_cnt v1_100 v2_100 hc100 => ?_)
                      have hq100 := fr_X4_readSide la67 (va_up (va_up (va_up (va_up (va_up d67_G 84 c81_G84) 85 c81_G85) 86 c81_G86) 87 c81_G87) 88 c81_G88) d67_P d67_U d67_V d67_X d67_O d67_kd d67_ln d67_cnt this c31_cnt hB67 lt75 li73.1 _ hc100
                      obtain ⟨la100_85, ag100, hB100, cc100, qG100, qP100, qU100, qV100, qX100, qO100, ql100⟩ : ∃ la9 : Nat → Nat, (∀ z, z < d67_cnt → la9 z = la67 z) ∧ LB la9 c100_cnt c100_P ∧ d67_cnt ≤ c100_cnt ∧ FRM d67_cnt [24, 25, 80, 81, 84, 85, 86, 87, 88] (fun z => (la67 z < la67 this ∨ la67 this < la67 z) ∧ (la67 z < la67 c31_cnt ∨ la67 c31_cnt < la67 z)) (va_up (va_up (va_up (va_up (va_up d67_G 84 c81_G84) 85 c81_G85) 86 c81_G86) 87 c81_G87) 88 c81_G88) c100_G ∧ FRM d67_cnt [22, 23] (fun z => (la67 z < la67 this ∨ la67 this < la67 z) ∧ (la67 z < la67 c31_cnt ∨ la67 c31_cnt < la67 z)) d67_P c100_P ∧ FRM d67_cnt [] (fun z => (la67 z < la67 this ∨ la67 this < la67 z) ∧ (la67 z < la67 c31_cnt ∨ la67 c31_cnt < la67 z)) d67_U c100_U ∧ FRM d67_cnt [0] (fun z => (la67 z < la67 this ∨ la67 this < la67 z) ∧ (la67 z < la67 c31_cnt ∨ la67 c31_cnt < la67 z)) d67_V c100_V ∧ FRM d67_cnt [] (fun z => (la67 z < la67 this ∨ la67 this < la67 z) ∧ (la67 z < la67 c31_cnt ∨ la67 c31_cnt < la67 z)) d67_X c100_X ∧ FRM d67_cnt [] (fun z => (la67 z < la67 this ∨ la67 this < la67 z) ∧ (la67 z < la67 c31_cnt ∨ la67 c31_cnt < la67 z)) d67_O c100_O ∧ (∀ z, z < d67_cnt → c100_ln z = d67_ln z) := hq100
                      have hle100 : cnt ≤ d67_cnt := by omega
                      have hg100 : ∀ z, z < cnt → la100_85 z = la z := fun z hz => (ag100 z (Nat.lt_of_lt_of_le hz hle100)).trans (hag67 z hz)
                      have hF100_G : FRM cnt [24, 25, 80, 81, 84, 85, 86, 87, 88, 102] (fun z => (la z < la this ∨ la this < la z) ∧ (la z < la p0 ∨ la p0 + 3 < la z) ∧ (la z < la p0 + 5 ∨ la p0 + 5 < la z)) G c100_G := FRM_trans (FRM_set (FRM_set (FRM_set (FRM_set (FRM_set hF67_G (by decide) (fun z h1 h2 => hf78 z ⟨h1, h2⟩)) (by decide) (fun z h1 h2 => hf79 z ⟨h1, h2⟩)) (by decide) (fun z h1 h2 => hf80 z ⟨h1, h2⟩)) (by decide) (fun z h1 h2 => hf81 z ⟨h1, h2⟩)) (by decide) (fun z h1 h2 => hf82 z ⟨h1, h2⟩)) qG100 hle100 (by decide) (fun z h0 hz => (show (la67 z < la67 this ∨ la67 this < la67 z) ∧ (la67 z < la67 c31_cnt ∨ la67 c31_cnt < la67 z) from by have q1 := hag67 z h0; have q2 := hB.2 z h0; omega))
                      have hF100_P : FRM cnt [22, 23] (fun z => (la z < la this ∨ la this < la z) ∧ (la z < la p0 ∨ la p0 + 3 < la z) ∧ (la z < la p0 + 5 ∨ la p0 + 5 < la z)) P c100_P := FRM_trans hF67_P qP100 hle100 (by decide) (fun z h0 hz => (show (la67 z < la67 this ∨ la67 this < la67 z) ∧ (la67 z < la67 c31_cnt ∨ la67 c31_cnt < la67 z) from by have q1 := hag67 z h0; have q2 := hB.2 z h0; omega))
                      have hF100_U : FRM cnt [] (fun z => (la z < la this ∨ la this < la z) ∧ (la z < la p0 ∨ la p0 + 3 < la z) ∧ (la z < la p0 + 5 ∨ la p0 + 5 < la z)) U c100_U := FRM_trans hF67_U qU100 hle100 (by decide) (fun z h0 hz => (show (la67 z < la67 this ∨ la67 this < la67 z) ∧ (la67 z < la67 c31_cnt ∨ la67 c31_cnt < la67 z) from by have q1 := hag67 z h0; have q2 := hB.2 z h0; omega))
                      have hF100_V : FRM cnt [0] (fun z => (la z < la this ∨ la this < la z) ∧ (la z < la p0 ∨ la p0 + 3 < la z) ∧ (la z < la p0 + 5 ∨ la p0 + 5 < la z)) V c100_V := FRM_trans hF67_V qV100 hle100 (by decide) (fun z h0 hz => (show (la67 z < la67 this ∨ la67 this < la67 z) ∧ (la67 z < la67 c31_cnt ∨ la67 c31_cnt < la67 z) from by have q1 := hag67 z h0; have q2 := hB.2 z h0; omega))
                      have hF100_X : FRM cnt [] (fun z => (la z < la this ∨ la this < la z) ∧ (la z < la p0 ∨ la p0 + 3 < la z) ∧ (la z < la p0 + 5 ∨ la p0 + 5 < la z)) X c100_X := FRM_trans hF67_X qX100 hle100 (by decide) (fun z h0 hz => (show (la67 z < la67 this ∨ la67 this < la67 z) ∧ (la67 z < la67 c31_cnt ∨ la67 c31_cnt < la67 z) from by have q1 := hag67 z h0; have q2 := hB.2 z h0; omega))
                      have hF100_O : FRM cnt [0] (fun z => (la z < la this ∨ la this < la z) ∧ (la z < la p0 ∨ la p0 + 3 < la z) ∧ (la z < la p0 + 5 ∨ la p0 + 5 < la z)) O c100_O := FRM_trans hF67_O qO100 hle100 (by decide) (fun z h0 hz => (show (la67 z < la67 this ∨ la67 this < la67 z) ∧ (la67 z < la67 c31_cnt ∨ la67 c31_cnt < la67 z) from by have q1 := hag67 z h0; have q2 := hB.2 z h0; omega))
                      have hln100 : ∀ z, z < cnt → c100_ln z = ln z := fun z hz => (ql100 z (Nat.lt_of_lt_of_le hz hle100)).trans (hln67 z hz)
                      have g86 := ag100 this lt75
                      have lt87 : this < c100_cnt := by omega
                      have g88 := ag100 p0 lt77
                      have lt89 : p0 < c100_cnt := by omega
                      have g90 := ag100 c31_cnt li73.1
                      have lt91 : c31_cnt < c100_cnt := by omega
                      exact ih67 (y67_4 + 1) c100_G c100_P c100_U c100_V c100_X c100_O c100_kd c100_ln c100_cnt la100_85 hg100 hB100 (by omega) hF100_G hF100_P hF100_U hF100_V hF100_X hF100_O hln100 (show c31_cnt < c100_cnt ∧ la100_85 c31_cnt = la100_85 p0 + 5 from by omega)
                  · skip
                    exact Jk109 d67_G d67_P d67_U d67_V d67_X d67_O d67_kd d67_ln d67_cnt la67 hag67 hB67 (by omega) hF67_G hF67_P hF67_U hF67_V hF67_X hF67_O hln67
            exact lp67 NN 0 c60_G c60_P c60_U c60_V c60_X c60_O c60_kd c60_ln c60_cnt la60_60 hg60 hB60 (by omega) hF60_G hF60_P hF60_U hF60_V hF60_X hF60_O hln60 (show c31_cnt < c60_cnt ∧ la60_60 c31_cnt = la60_60 p0 + 5 from by omega)
  intro j15 Jj15
  refine pw_ite (fun _ => ?_) (fun _ => ?_)
  · skip
    exact Jj15 0
  · skip
    exact Jj15 1
abbrev RF_X4_read (la : Nat → Nat) (G : Nat → Nat → Int32) (P : Nat → Nat → Option Nat) (U : Nat → Nat → Int64) (V : Nat → Nat → Nat → Int32) (X : Nat → Nat → Nat → Int64) (O : Nat → Nat → Nat → Option Nat) (kd : Nat → Nat) (ln : Nat → Nat) (cnt : Nat) (this : Nat) (p0 : Nat) (p1 : Int32) (p2 : Nat) : ((Nat → Nat → Int32) × (Nat → Nat → Option Nat) × (Nat → Nat → Int64) × (Nat → Nat → Nat → Int32) × (Nat → Nat → Nat → Int64) × (Nat → Nat → Nat → Option Nat) × (Nat → Nat) × (Nat → Nat) × Nat) → Prop := fun t => ∃ la1 : Nat → Nat, (∀ z, z < cnt → la1 z = la z) ∧ LB la1 (t.2.2.2.2.2.2.2.2) (t.2.1) ∧ cnt ≤ (t.2.2.2.2.2.2.2.2) ∧ FRM cnt [24, 25, 80, 81, 83, 84, 85, 86, 87, 88, 102, 107, 203] (fun z => (la z < la this ∨ la this < la z) ∧ (la z < la p2 ∨ la p2 + 3 < la z) ∧ (la z < la p2 + 5 ∨ la p2 + 5 < la z)) G (t.1) ∧ FRM cnt [22, 23, 82] (fun z => (la z < la this ∨ la this < la z) ∧ (la z < la p2 ∨ la p2 + 3 < la z) ∧ (la z < la p2 + 5 ∨ la p2 + 5 < la z)) P (t.2.1) ∧ FRM cnt [] (fun z => (la z < la this ∨ la this < la z) ∧ (la z < la p2 ∨ la p2 + 3 < la z) ∧ (la z < la p2 + 5 ∨ la p2 + 5 < la z)) U (t.2.2.1) ∧ FRM cnt [0, 1, 10] (fun z => (la z < la this ∨ la this < la z) ∧ (la z < la p2 ∨ la p2 + 3 < la z) ∧ (la z < la p2 + 5 ∨ la p2 + 5 < la z)) V (t.2.2.2.1) ∧ FRM cnt [] (fun z => (la z < la this ∨ la this < la z) ∧ (la z < la p2 ∨ la p2 + 3 < la z) ∧ (la z < la p2 + 5 ∨ la p2 + 5 < la z)) X (t.2.2.2.2.1) ∧ FRM cnt [0] (fun z => (la z < la this ∨ la this < la z) ∧ (la z < la p2 ∨ la p2 + 3 < la z) ∧ (la z < la p2 + 5 ∨ la p2 + 5 < la z)) O (t.2.2.2.2.2.1) ∧ (∀ z, z < cnt → (t.2.2.2.2.2.2.2.1) z = ln z)
set_option maxHeartbeats 4000000 in
set_option maxRecDepth 100000 in
theorem fr_X4_read (la : Nat → Nat) (G : Nat → Nat → Int32) (P : Nat → Nat → Option Nat) (U : Nat → Nat → Int64) (V : Nat → Nat → Nat → Int32) (X : Nat → Nat → Nat → Int64) (O : Nat → Nat → Nat → Option Nat) (kd : Nat → Nat) (ln : Nat → Nat) (cnt : Nat) (this : Nat) (p0 : Nat) (p1 : Int32) (p2 : Nat) (hB : LB la cnt P) (hlt_this : this < cnt) (hlt_p0 : p0 < cnt) (hlt_p2 : p2 < cnt) : pw (f_X4_read G P U V X O kd ln cnt this p0 p1 p2) (sp1 (RF_X4_read la G P U V X O kd ln cnt this p0 p1 p2)) := by
  unfold f_X4_read
  refine pw_vl (fun m2 em2 => ?_)
  have hl1 : LC 82 la cnt m2 := LC_up (hB.1 82 fl_82) em2 (by omega) (by omega) (lk_82 _ _)
  have hf2 : ∀ z, (z < cnt ∧ (la z < la this ∨ la this < la z) ∧ (la z < la p2 ∨ la p2 + 3 < la z) ∧ (la z < la p2 + 5 ∨ la p2 + 5 < la z)) → m2 z = (P 82) z := fr_up (e0 := (P 82)) (fun _ _ => rfl) em2 (show ¬ (this < cnt ∧ (la this < la this ∨ la this < la this) ∧ (la this < la p2 ∨ la p2 + 3 < la this) ∧ (la this < la p2 + 5 ∨ la p2 + 5 < la this)) from fun hz => by omega)
  refine pw_vl (fun x12 _ => ?_)
  refine pw_vl (fun m12 em12 => ?_)
  have hf3 : ∀ z, (z < cnt ∧ (la z < la this ∨ la this < la z) ∧ (la z < la p2 ∨ la p2 + 3 < la z) ∧ (la z < la p2 + 5 ∨ la p2 + 5 < la z)) → m12 z = (G 83) z := fr_up (e0 := (G 83)) (fun _ _ => rfl) em12 (show ¬ (this < cnt ∧ (la this < la this ∨ la this < la this) ∧ (la this < la p2 ∨ la p2 + 3 < la this) ∧ (la this < la p2 + 5 ∨ la p2 + 5 < la this)) from fun hz => by omega)
  refine pw_vl (fun m17 em17 => ?_)
  have hf4 : ∀ z, (z < cnt ∧ (la z < la this ∨ la this < la z) ∧ (la z < la p2 ∨ la p2 + 3 < la z) ∧ (la z < la p2 + 5 ∨ la p2 + 5 < la z)) → m17 z = (G 84) z := fr_up (e0 := (G 84)) (fun _ _ => rfl) em17 (show ¬ (this < cnt ∧ (la this < la this ∨ la this < la this) ∧ (la this < la p2 ∨ la p2 + 3 < la this) ∧ (la this < la p2 + 5 ∨ la p2 + 5 < la this)) from fun hz => by omega)
  refine pw_vl (fun m22 em22 => ?_)
  have hf5 : ∀ z, (z < cnt ∧ (la z < la this ∨ la this < la z) ∧ (la z < la p2 ∨ la p2 + 3 < la z) ∧ (la z < la p2 + 5 ∨ la p2 + 5 < la z)) → m22 z = (G 80) z := fr_up (e0 := (G 80)) (fun _ _ => rfl) em22 (show ¬ (this < cnt ∧ (la this < la this ∨ la this < la this) ∧ (la this < la p2 ∨ la p2 + 3 < la this) ∧ (la this < la p2 + 5 ∨ la p2 + 5 < la this)) from fun hz => by omega)
  refine pw_vl (fun m27 em27 => ?_)
  have hf6 : ∀ z, (z < cnt ∧ (la z < la this ∨ la this < la z) ∧ (la z < la p2 ∨ la p2 + 3 < la z) ∧ (la z < la p2 + 5 ∨ la p2 + 5 < la z)) → m27 z = (G 81) z := fr_up (e0 := (G 81)) (fun _ _ => rfl) em27 (show ¬ (this < cnt ∧ (la this < la this ∨ la this < la this) ∧ (la this < la p2 ∨ la p2 + 3 < la this) ∧ (la this < la p2 + 5 ∨ la p2 + 5 < la this)) from fun hz => by omega)
  refine pw_jn (fun k141 => ∀ (c141_G : Nat → Nat → Int32) (c141_P : Nat → Nat → Option Nat) (c141_U : Nat → Nat → Int64) (c141_V : Nat → Nat → Nat → Int32) (c141_X : Nat → Nat → Nat → Int64) (c141_O : Nat → Nat → Nat → Option Nat) (c141_kd : Nat → Nat) (c141_ln : Nat → Nat) (c141_cnt : Nat) (la141 : Nat → Nat), (∀ z, z < cnt → la141 z = la z) → LB la141 c141_cnt c141_P → cnt ≤ c141_cnt → FRM cnt [24, 25, 80, 81, 83, 84, 85, 86, 87, 88, 102, 107, 203] (fun z => (la z < la this ∨ la this < la z) ∧ (la z < la p2 ∨ la p2 + 3 < la z) ∧ (la z < la p2 + 5 ∨ la p2 + 5 < la z)) G c141_G → FRM cnt [22, 23, 82] (fun z => (la z < la this ∨ la this < la z) ∧ (la z < la p2 ∨ la p2 + 3 < la z) ∧ (la z < la p2 + 5 ∨ la p2 + 5 < la z)) P c141_P → FRM cnt [] (fun z => (la z < la this ∨ la this < la z) ∧ (la z < la p2 ∨ la p2 + 3 < la z) ∧ (la z < la p2 + 5 ∨ la p2 + 5 < la z)) U c141_U → FRM cnt [0, 1, 10] (fun z => (la z < la this ∨ la this < la z) ∧ (la z < la p2 ∨ la p2 + 3 < la z) ∧ (la z < la p2 + 5 ∨ la p2 + 5 < la z)) V c141_V → FRM cnt [] (fun z => (la z < la this ∨ la this < la z) ∧ (la z < la p2 ∨ la p2 + 3 < la z) ∧ (la z < la p2 + 5 ∨ la p2 + 5 < la z)) X c141_X → FRM cnt [0] (fun z => (la z < la this ∨ la this < la z) ∧ (la z < la p2 ∨ la p2 + 3 < la z) ∧ (la z < la p2 + 5 ∨ la p2 + 5 < la z)) O c141_O → (∀ z, z < cnt → c141_ln z = ln z) → pw (k141 c141_G c141_P c141_U c141_V c141_X c141_O c141_kd c141_ln c141_cnt) (sp1 (RF_X4_read la G P U V X O kd ln cnt this p0 p1 p2))) ?_ ?_
  · intro c141_G c141_P c141_U c141_V c141_X c141_O c141_kd c141_ln c141_cnt la141 hag141 hB141 hcc141 hF141_G hF141_P hF141_U hF141_V hF141_X hF141_O hln141
    show pw _ _
    have g7 := hag141 this hlt_this
    have lt8 : this < c141_cnt := by omega
    have g9 := hag141 p0 hlt_p0
    have lt10 : p0 < c141_cnt := by omega
    have g11 := hag141 p2 hlt_p2
    have lt12 : p2 < c141_cnt := by omega
    exact pw_some ⟨la141, hag141, hB141, (show cnt ≤ c141_cnt from by omega), hF141_G, hF141_P, hF141_U, hF141_V, hF141_X, hF141_O, hln141⟩
  intro k141 Jk141
  have lp33 : ∀ (n33 : Nat) (y33_4 : Int32) (d33_G : Nat → Nat → Int32) (d33_P : Nat → Nat → Option Nat) (d33_U : Nat → Nat → Int64) (d33_V : Nat → Nat → Nat → Int32) (d33_X : Nat → Nat → Nat → Int64) (d33_O : Nat → Nat → Nat → Option Nat) (d33_kd : Nat → Nat) (d33_ln : Nat → Nat) (d33_cnt : Nat) (la33 : Nat → Nat), (∀ z, z < cnt → la33 z = la z) → LB la33 d33_cnt d33_P → cnt ≤ d33_cnt → FRM cnt [24, 25, 80, 81, 83, 84, 85, 86, 87, 88, 102, 107, 203] (fun z => (la z < la this ∨ la this < la z) ∧ (la z < la p2 ∨ la p2 + 3 < la z) ∧ (la z < la p2 + 5 ∨ la p2 + 5 < la z)) G d33_G → FRM cnt [22, 23, 82] (fun z => (la z < la this ∨ la this < la z) ∧ (la z < la p2 ∨ la p2 + 3 < la z) ∧ (la z < la p2 + 5 ∨ la p2 + 5 < la z)) P d33_P → FRM cnt [] (fun z => (la z < la this ∨ la this < la z) ∧ (la z < la p2 ∨ la p2 + 3 < la z) ∧ (la z < la p2 + 5 ∨ la p2 + 5 < la z)) U d33_U → FRM cnt [0, 1, 10] (fun z => (la z < la this ∨ la this < la z) ∧ (la z < la p2 ∨ la p2 + 3 < la z) ∧ (la z < la p2 + 5 ∨ la p2 + 5 < la z)) V d33_V → FRM cnt [] (fun z => (la z < la this ∨ la this < la z) ∧ (la z < la p2 ∨ la p2 + 3 < la z) ∧ (la z < la p2 + 5 ∨ la p2 + 5 < la z)) X d33_X → FRM cnt [0] (fun z => (la z < la this ∨ la this < la z) ∧ (la z < la p2 ∨ la p2 + 3 < la z) ∧ (la z < la p2 + 5 ∨ la p2 + 5 < la z)) O d33_O → (∀ z, z < cnt → d33_ln z = ln z) → pw (L_X4_read_33 this p2 k141 n33 y33_4 d33_G d33_P d33_U d33_V d33_X d33_O d33_kd d33_ln d33_cnt) (sp1 (RF_X4_read la G P U V X O kd ln cnt this p0 p1 p2)) := by
    intro n33
    induction n33 with
    | zero => intros; exact pw_none
    | succ n33 ih33 =>
      intro y33_4 d33_G d33_P d33_U d33_V d33_X d33_O d33_kd d33_ln d33_cnt la33 hag33 hB33 hcc33 hF33_G hF33_P hF33_U hF33_V hF33_X hF33_O hln33
      show pw (B_X4_read_33 this p2 k141 (L_X4_read_33 this p2 k141 n33) y33_4 d33_G d33_P d33_U d33_V d33_X d33_O d33_kd d33_ln d33_cnt) _
      unfold B_X4_read_33
      have g13 := hag33 this hlt_this
      have lt14 : this < d33_cnt := by omega
      have g15 := hag33 p0 hlt_p0
      have lt16 : p0 < d33_cnt := by omega
      have g17 := hag33 p2 hlt_p2
      have lt18 : p2 < d33_cnt := by omega
      refine pw_ite (fun _ => ?_) (fun _ => ?_)
      · skip
        exact Jk141 d33_G d33_P d33_U d33_V d33_X d33_O d33_kd d33_ln d33_cnt la33 hag33 hB33 (by omega) hF33_G hF33_P hF33_U hF33_V hF33_X hF33_O hln33
      · skip
        refine pw_ite (fun _ => ?_) (fun _ => ?_)
        · skip
          refine pw_b5 (fun c50_G84 c50_G85 c50_G86 c50_G87 c50_G88 hc50 => ?_)
          have hq50 := fr_X4_nextToken la33 d33_G d33_P d33_U d33_V d33_X d33_O d33_kd d33_ln d33_cnt this hB33 _ hc50
          obtain ⟨q50_G84, q50_G85, q50_G86, q50_G87, q50_G88⟩ : (∀ z, (la33 z < la33 this ∨ la33 this < la33 z) → c50_G84 z = (d33_G 84) z) ∧ (∀ z, (la33 z < la33 this ∨ la33 this < la33 z) → c50_G85 z = (d33_G 85) z) ∧ (∀ z, (la33 z < la33 this ∨ la33 this < la33 z) → c50_G86 z = (d33_G 86) z) ∧ (∀ z, (la33 z < la33 this ∨ la33 this < la33 z) → c50_G87 z = (d33_G 87) z) ∧ (∀ z, (la33 z < la33 this ∨ la33 this < la33 z) → c50_G88 z = (d33_G 88) z) := hq50
          have tz50 : ∀ z, (z < cnt ∧ (la z < la this ∨ la this < la z) ∧ (la z < la p2 ∨ la p2 + 3 < la z) ∧ (la z < la p2 + 5 ∨ la p2 + 5 < la z)) → ((la33 z < la33 this ∨ la33 this < la33 z)) := fun z hz => by have q1 := hag33 z hz.1; have q2 := hB.2 z hz.1; omega
          have hf19 : ∀ z, (z < cnt ∧ (la z < la this ∨ la this < la z) ∧ (la z < la p2 ∨ la p2 + 3 < la z) ∧ (la z < la p2 + 5 ∨ la p2 + 5 < la z)) → c50_G84 z = (G 84) z := fun z hz => (q50_G84 z (tz50 z hz)).trans (hF33_G 84 z hz.1 (fun _ => hz.2))
          have hf20 : ∀ z, (z < cnt ∧ (la z < la this ∨ la this < la z) ∧ (la z < la p2 ∨ la p2 + 3 < la z) ∧ (la z < la p2 + 5 ∨ la p2 + 5 < la z)) → c50_G85 z = (G 85) z := fun z hz => (q50_G85 z (tz50 z hz)).trans (hF33_G 85 z hz.1 (fun _ => hz.2))
          have hf21 : ∀ z, (z < cnt ∧ (la z < la this ∨ la this < la z) ∧ (la z < la p2 ∨ la p2 + 3 < la z) ∧ (la z < la p2 + 5 ∨ la p2 + 5 < la z)) → c50_G86 z = (G 86) z := fun z hz => (q50_G86 z (tz50 z hz)).trans (hF33_G 86 z hz.1 (fun _ => hz.2))
          have hf22 : ∀ z, (z < cnt ∧ (la z < la this ∨ la this < la z) ∧ (la z < la p2 ∨ la p2 + 3 < la z) ∧ (la z < la p2 + 5 ∨ la p2 + 5 < la z)) → c50_G87 z = (G 87) z := fun z hz => (q50_G87 z (tz50 z hz)).trans (hF33_G 87 z hz.1 (fun _ => hz.2))
          have hf23 : ∀ z, (z < cnt ∧ (la z < la this ∨ la this < la z) ∧ (la z < la p2 ∨ la p2 + 3 < la z) ∧ (la z < la p2 + 5 ∨ la p2 + 5 < la z)) → c50_G88 z = (G 88) z := fun z hz => (q50_G88 z (tz50 z hz)).trans (hF33_G 88 z hz.1 (fun _ => hz.2))
          clear hc50
          refine pw_ite (fun _ => ?_) (fun _ => ?_)
          · skip
            exact pw_some ⟨la33, hag33, hB33, (show cnt ≤ d33_cnt from by omega), (FRM_set (FRM_set (FRM_set (FRM_set (FRM_set hF33_G (by decide) (fun z h1 h2 => hf19 z ⟨h1, h2⟩)) (by decide) (fun z h1 h2 => hf20 z ⟨h1, h2⟩)) (by decide) (fun z h1 h2 => hf21 z ⟨h1, h2⟩)) (by decide) (fun z h1 h2 => hf22 z ⟨h1, h2⟩)) (by decide) (fun z h1 h2 => hf23 z ⟨h1, h2⟩)), hF33_P, hF33_U, hF33_V, hF33_X, hF33_O, hln33⟩
          · skip
            refine pw_b1 (fun r64 hc64 => ?_)
            clear hc64
            refine pw_jn (fun j135 => ∀ (c135_G : Nat → Nat → Int32) (c135_P : Nat → Nat → Option Nat) (c135_U : Nat → Nat → Int64) (c135_V : Nat → Nat → Nat → Int32) (c135_X : Nat → Nat → Nat → Int64) (c135_O : Nat → Nat → Nat → Option Nat) (c135_kd : Nat → Nat) (c135_ln : Nat → Nat) (c135_cnt : Nat) (la135 : Nat → Nat), (∀ z, z < cnt → la135 z = la z) → LB la135 c135_cnt c135_P → cnt ≤ c135_cnt → FRM cnt [24, 25, 80, 81, 83, 84, 85, 86, 87, 88, 102, 107, 203] (fun z => (la z < la this ∨ la this < la z) ∧ (la z < la p2 ∨ la p2 + 3 < la z) ∧ (la z < la p2 + 5 ∨ la p2 + 5 < la z)) G c135_G → FRM cnt [22, 23, 82] (fun z => (la z < la this ∨ la this < la z) ∧ (la z < la p2 ∨ la p2 + 3 < la z) ∧ (la z < la p2 + 5 ∨ la p2 + 5 < la z)) P c135_P → FRM cnt [] (fun z => (la z < la this ∨ la this < la z) ∧ (la z < la p2 ∨ la p2 + 3 < la z) ∧ (la z < la p2 + 5 ∨ la p2 + 5 < la z)) U c135_U → FRM cnt [0, 1, 10] (fun z => (la z < la this ∨ la this < la z) ∧ (la z < la p2 ∨ la p2 + 3 < la z) ∧ (la z < la p2 + 5 ∨ la p2 + 5 < la z)) V c135_V → FRM cnt [] (fun z => (la z < la this ∨ la this < la z) ∧ (la z < la p2 ∨ la p2 + 3 < la z) ∧ (la z < la p2 + 5 ∨ la p2 + 5 < la z)) X c135_X → FRM cnt [0] (fun z => (la z < la this ∨ la this < la z) ∧ (la z < la p2 ∨ la p2 + 3 < la z) ∧ (la z < la p2 + 5 ∨ la p2 + 5 < la z)) O c135_O → (∀ z, z < cnt → c135_ln z = ln z) → pw (j135 c135_G c135_P c135_U c135_V c135_X c135_O c135_kd c135_ln c135_cnt) (sp1 (RF_X4_read la G P U V X O kd ln cnt this p0 p1 p2))) ?_ ?_
            · intro c135_G c135_P c135_U c135_V c135_X c135_O c135_kd c135_ln c135_cnt la135 hag135 hB135 hcc135 hF135_G hF135_P hF135_U hF135_V hF135_X hF135_O hln135
              show pw _ _
              have g24 := hag135 this hlt_this
              have lt25 : this < c135_cnt := by omega
              have g26 := hag135 p0 hlt_p0
              have lt27 : p0 < c135_cnt := by omega
              have g28 := hag135 p2 hlt_p2
              have lt29 : p2 < c135_cnt := by omega
              exact ih33 (y33_4 + 1) c135_G c135_P c135_U c135_V c135_X c135_O c135_kd c135_ln c135_cnt la135 hag135 hB135 (by omega) hF135_G hF135_P hF135_U hF135_V hF135_X hF135_O hln135
            intro j135 Jj135
            refine pw_ite (fun _ => ?_) (fun _ => ?_)
            · skip
              refine pw_b1 (fun r81 hc81 => ?_)
              clear hc81
              refine pw_ite (fun _ => ?_) (fun _ => ?_)
              · skip
                refine pw_b1 (fun r98 hc98 => ?_)
                clear hc98
                refine pw_ite (fun _ => ?_) (fun _ => ?_)
                · skip
                  refine pw_b1 (fun r115 hc115 => ?_)
                  clear hc115
                  refine pw_ite (fun _ => ?_) (fun _ => ?_)
                  · skip
                    refine pw_b3 (fun r131 c131_G80 c131_G81 hc131 => ?_)
                    have hq131 := fr_X4_blame la33 (va_up (va_up (va_up (va_up (va_up d33_G 84 c50_G84) 85 c50_G85) 86 c50_G86) 87 c50_G87) 88 c50_G88) d33_P d33_U d33_V d33_X d33_O d33_kd d33_ln d33_cnt this (1 : Int32) hB33 _ hc131
                    obtain ⟨q131_G80, q131_G81⟩ : (∀ z, (la33 z < la33 this ∨ la33 this < la33 z) → c131_G80 z = (d33_G 80) z) ∧ (∀ z, (la33 z < la33 this ∨ la33 this < la33 z) → c131_G81 z = (d33_G 81) z) := hq131
                    have tz131 : ∀ z, (z < cnt ∧ (la z < la this ∨ la this < la z) ∧ (la z < la p2 ∨ la p2 + 3 < la z) ∧ (la z < la p2 + 5 ∨ la p2 + 5 < la z)) → ((la33 z < la33 this ∨ la33 this < la33 z)) := fun z hz => by have q1 := hag33 z hz.1; have q2 := hB.2 z hz.1; omega
                    have hf30 : ∀ z, (z < cnt ∧ (la z < la this ∨ la this < la z) ∧ (la z < la p2 ∨ la p2 + 3 < la z) ∧ (la z < la p2 + 5 ∨ la p2 + 5 < la z)) → c131_G80 z = (G 80) z := fun z hz => (q131_G80 z (tz131 z hz)).trans (hF33_G 80 z hz.1 (fun _ => hz.2))
                    have hf31 : ∀ z, (z < cnt ∧ (la z < la this ∨ la this < la z) ∧ (la z < la p2 ∨ la p2 + 3 < la z) ∧ (la z < la p2 + 5 ∨ la p2 + 5 < la z)) → c131_G81 z = (G 81) z := fun z hz => (q131_G81 z (tz131 z hz)).trans (hF33_G 81 z hz.1 (fun _ => hz.2))
                    clear hc131
                    exact Jj135 (va_up (va_up (va_up (va_up (va_up (va_up (va_up d33_G 84 c50_G84) 85 c50_G85) 86 c50_G86) 87 c50_G87) 88 c50_G88) 80 c131_G80) 81 c131_G81) d33_P d33_U d33_V d33_X d33_O d33_kd d33_ln d33_cnt la33 hag33 hB33 (by omega) (FRM_set (FRM_set (FRM_set (FRM_set (FRM_set (FRM_set (FRM_set hF33_G (by decide) (fun z h1 h2 => hf19 z ⟨h1, h2⟩)) (by decide) (fun z h1 h2 => hf20 z ⟨h1, h2⟩)) (by decide) (fun z h1 h2 => hf21 z ⟨h1, h2⟩)) (by decide) (fun z h1 h2 => hf22 z ⟨h1, h2⟩)) (by decide) (fun z h1 h2 => hf23 z ⟨h1, h2⟩)) (by decide) (fun z h1 h2 => hf30 z ⟨h1, h2⟩)) (by decide) (fun z h1 h2 => hf31 z ⟨h1, h2⟩)) hF33_P hF33_U hF33_V hF33_X hF33_O hln33
                  · skip
                    refine pw_bA9 (fun c123_G c123_P c123_U c123_V c123_X c123_O c123_kd c123_ln c123_cnt v1_123 v2_123 hc123 => ?_)
                    have hq123 := fr_X4_readLaw la33 (va_up (va_up (va_up (va_up (va_up d33_G 84 c50_G84) 85 c50_G85) 86 c50_G86) 87 c50_G87) 88 c50_G88) d33_P d33_U d33_V d33_X d33_O d33_kd d33_ln d33_cnt this p2 hB33 lt14 lt18 _ hc123
                    obtain ⟨la123_32, ag123, hB123, cc123, qG123, qP123, qU123, qV123, qX123, qO123, ql123⟩ : ∃ la9 : Nat → Nat, (∀ z, z < d33_cnt → la9 z = la33 z) ∧ LB la9 c123_cnt c123_P ∧ d33_cnt ≤ c123_cnt ∧ FRM d33_cnt [24, 25, 80, 81, 84, 85, 86, 87, 88, 102] (fun z => (la33 z < la33 this ∨ la33 this < la33 z) ∧ (la33 z < la33 p2 ∨ la33 p2 + 3 < la33 z) ∧ (la33 z < la33 p2 + 5 ∨ la33 p2 + 5 < la33 z)) (va_up (va_up (va_up (va_up (va_up d33_G 84 c50_G84) 85 c50_G85) 86 c50_G86) 87 c50_G87) 88 c50_G88) c123_G ∧ FRM d33_cnt [22, 23] (fun z => (la33 z < la33 this ∨ la33 this < la33 z) ∧ (la33 z < la33 p2 ∨ la33 p2 + 3 < la33 z) ∧ (la33 z < la33 p2 + 5 ∨ la33 p2 + 5 < la33 z)) d33_P c123_P ∧ FRM d33_cnt [] (fun z => (la33 z < la33 this ∨ la33 this < la33 z) ∧ (la33 z < la33 p2 ∨ la33 p2 + 3 < la33 z) ∧ (la33 z < la33 p2 + 5 ∨ la33 p2 + 5 < la33 z)) d33_U c123_U ∧ FRM d33_cnt [0] (fun z => (la33 z < la33 this ∨ la33 this < la33 z) ∧ (la33 z < la33 p2 ∨ la33 p2 + 3 < la33 z) ∧ (la33 z < la33 p2 + 5 ∨ la33 p2 + 5 < la33 z)) d33_V c123_V ∧ FRM d33_cnt [] (fun z => (la33 z < la33 this ∨ la33 this < la33 z) ∧ (la33 z < la33 p2 ∨ la33 p2 + 3 < la33 z) ∧ (la33 z < la33 p2 + 5 ∨ la33 p2 + 5 < la33 z)) d33_X c123_X ∧ FRM d33_cnt [0] (fun z => (la33 z < la33 this ∨ la33 this < la33 z) ∧ (la33 z < la33 p2 ∨ la33 p2 + 3 < la33 z) ∧ (la33 z < la33 p2 + 5 ∨ la33 p2 + 5 < la33 z)) d33_O c123_O ∧ (∀ z, z < d33_cnt → c123_ln z = d33_ln z) := hq123
                    have hle123 : cnt ≤ d33_cnt := by omega
                    have hg123 : ∀ z, z < cnt → la123_32 z = la z := fun z hz => (ag123 z (Nat.lt_of_lt_of_le hz hle123)).trans (hag33 z hz)
                    have hF123_G : FRM cnt [24, 25, 80, 81, 83, 84, 85, 86, 87, 88, 102, 107, 203] (fun z => (la z < la this ∨ la this < la z) ∧ (la z < la p2 ∨ la p2 + 3 < la z) ∧ (la z < la p2 + 5 ∨ la p2 + 5 < la z)) G c123_G := FRM_trans (FRM_set (FRM_set (FRM_set (FRM_set (FRM_set hF33_G (by decide) (fun z h1 h2 => hf19 z ⟨h1, h2⟩)) (by decide) (fun z h1 h2 => hf20 z ⟨h1, h2⟩)) (by decide) (fun z h1 h2 => hf21 z ⟨h1, h2⟩)) (by decide) (fun z h1 h2 => hf22 z ⟨h1, h2⟩)) (by decide) (fun z h1 h2 => hf23 z ⟨h1, h2⟩)) qG123 hle123 (by decide) (fun z h0 hz => (show (la33 z < la33 this ∨ la33 this < la33 z) ∧ (la33 z < la33 p2 ∨ la33 p2 + 3 < la33 z) ∧ (la33 z < la33 p2 + 5 ∨ la33 p2 + 5 < la33 z) from by have q1 := hag33 z h0; have q2 := hB.2 z h0; omega))
                    have hF123_P : FRM cnt [22, 23, 82] (fun z => (la z < la this ∨ la this < la z) ∧ (la z < la p2 ∨ la p2 + 3 < la z) ∧ (la z < la p2 + 5 ∨ la p2 + 5 < la z)) P c123_P := FRM_trans hF33_P qP123 hle123 (by decide) (fun z h0 hz => (show (la33 z < la33 this ∨ la33 this < la33 z) ∧ (la33 z < la33 p2 ∨ la33 p2 + 3 < la33 z) ∧ (la33 z < la33 p2 + 5 ∨ la33 p2 + 5 < la33 z) from by have q1 := hag33 z h0; have q2 := hB.2 z h0; omega))
                    have hF123_U : FRM cnt [] (fun z => (la z < la this ∨ la this < la z) ∧ (la z < la p2 ∨ la p2 + 3 < la z) ∧ (la z < la p2 + 5 ∨ la p2 + 5 < la z)) U c123_U := FRM_trans hF33_U qU123 hle123 (by decide) (fun z h0 hz => (show (la33 z < la33 this ∨ la33 this < la33 z) ∧ (la33 z < la33 p2 ∨ la33 p2 + 3 < la33 z) ∧ (la33 z < la33 p2 + 5 ∨ la33 p2 + 5 < la33 z) from by have q1 := hag33 z h0; have q2 := hB.2 z h0; omega))
                    have hF123_V : FRM cnt [0, 1, 10] (fun z => (la z < la this ∨ la this < la z) ∧ (la z < la p2 ∨ la p2 + 3 < la z) ∧ (la z < la p2 + 5 ∨ la p2 + 5 < la z)) V c123_V := FRM_trans hF33_V qV123 hle123 (by decide) (fun z h0 hz => (show (la33 z < la33 this ∨ la33 this < la33 z) ∧ (la33 z < la33 p2 ∨ la33 p2 + 3 < la33 z) ∧ (la33 z < la33 p2 + 5 ∨ la33 p2 + 5 < la33 z) from by have q1 := hag33 z h0; have q2 := hB.2 z h0; omega))
                    have hF123_X : FRM cnt [] (fun z => (la z < la this ∨ la this < la z) ∧ (la z < la p2 ∨ la p2 + 3 < la z) ∧ (la z < la p2 + 5 ∨ la p2 + 5 < la z)) X c123_X := FRM_trans hF33_X qX123 hle123 (by decide) (fun z h0 hz => (show (la33 z < la33 this ∨ la33 this < la33 z) ∧ (la33 z < la33 p2 ∨ la33 p2 + 3 < la33 z) ∧ (la33 z < la33 p2 + 5 ∨ la33 p2 + 5 < la33 z) from by have q1 := hag33 z h0; have q2 := hB.2 z h0; omega))
                    have hF123_O : FRM cnt [0] (fun z => (la z < la this ∨ la this < la z) ∧ (la z < la p2 ∨ la p2 + 3 < la z) ∧ (la z < la p2 + 5 ∨ la p2 + 5 < la z)) O c123_O := FRM_trans hF33_O qO123 hle123 (by decide) (fun z h0 hz => (show (la33 z < la33 this ∨ la33 this < la33 z) ∧ (la33 z < la33 p2 ∨ la33 p2 + 3 < la33 z) ∧ (la33 z < la33 p2 + 5 ∨ la33 p2 + 5 < la33 z) from by have q1 := hag33 z h0; have q2 := hB.2 z h0; omega))
                    have hln123 : ∀ z, z < cnt → c123_ln z = ln z := fun z hz => (ql123 z (Nat.lt_of_lt_of_le hz hle123)).trans (hln33 z hz)
                    have g33 := ag123 this lt14
                    have lt34 : this < c123_cnt := by omega
                    have g35 := ag123 p0 lt16
                    have lt36 : p0 < c123_cnt := by omega
                    have g37 := ag123 p2 lt18
                    have lt38 : p2 < c123_cnt := by omega
                    exact Jj135 c123_G c123_P c123_U c123_V c123_X c123_O c123_kd c123_ln c123_cnt la123_32 hg123 hB123 (by omega) hF123_G hF123_P hF123_U hF123_V hF123_X hF123_O hln123
                · skip
                  refine pw_b10 (fun c106_G80 c106_G81 c106_G84 c106_G85 c106_G86 c106_G87 c106_G88 c106_G203 c106_V0 c106_V1 hc106 => ?_)
                  have hq106 := fr_X4_readPart la33 (va_up (va_up (va_up (va_up (va_up d33_G 84 c50_G84) 85 c50_G85) 86 c50_G86) 87 c50_G87) 88 c50_G88) d33_P d33_U d33_V d33_X d33_O d33_kd d33_ln d33_cnt this p2 hB33 _ hc106
                  obtain ⟨q106_G80, q106_G81, q106_G84, q106_G85, q106_G86, q106_G87, q106_G88, q106_G203, q106_V0, q106_V1⟩ : (∀ z, (la33 z < la33 this ∨ la33 this < la33 z) ∧ (la33 z < la33 p2 ∨ la33 p2 + 3 < la33 z) ∧ (la33 z < la33 p2 + 5 ∨ la33 p2 + 5 < la33 z) → c106_G80 z = (d33_G 80) z) ∧ (∀ z, (la33 z < la33 this ∨ la33 this < la33 z) ∧ (la33 z < la33 p2 ∨ la33 p2 + 3 < la33 z) ∧ (la33 z < la33 p2 + 5 ∨ la33 p2 + 5 < la33 z) → c106_G81 z = (d33_G 81) z) ∧ (∀ z, (la33 z < la33 this ∨ la33 this < la33 z) ∧ (la33 z < la33 p2 ∨ la33 p2 + 3 < la33 z) ∧ (la33 z < la33 p2 + 5 ∨ la33 p2 + 5 < la33 z) → c106_G84 z = c50_G84 z) ∧ (∀ z, (la33 z < la33 this ∨ la33 this < la33 z) ∧ (la33 z < la33 p2 ∨ la33 p2 + 3 < la33 z) ∧ (la33 z < la33 p2 + 5 ∨ la33 p2 + 5 < la33 z) → c106_G85 z = c50_G85 z) ∧ (∀ z, (la33 z < la33 this ∨ la33 this < la33 z) ∧ (la33 z < la33 p2 ∨ la33 p2 + 3 < la33 z) ∧ (la33 z < la33 p2 + 5 ∨ la33 p2 + 5 < la33 z) → c106_G86 z = c50_G86 z) ∧ (∀ z, (la33 z < la33 this ∨ la33 this < la33 z) ∧ (la33 z < la33 p2 ∨ la33 p2 + 3 < la33 z) ∧ (la33 z < la33 p2 + 5 ∨ la33 p2 + 5 < la33 z) → c106_G87 z = c50_G87 z) ∧ (∀ z, (la33 z < la33 this ∨ la33 this < la33 z) ∧ (la33 z < la33 p2 ∨ la33 p2 + 3 < la33 z) ∧ (la33 z < la33 p2 + 5 ∨ la33 p2 + 5 < la33 z) → c106_G88 z = c50_G88 z) ∧ (∀ z, (la33 z < la33 this ∨ la33 this < la33 z) ∧ (la33 z < la33 p2 ∨ la33 p2 + 3 < la33 z) ∧ (la33 z < la33 p2 + 5 ∨ la33 p2 + 5 < la33 z) → c106_G203 z = (d33_G 203) z) ∧ (∀ z, (la33 z < la33 this ∨ la33 this < la33 z) ∧ (la33 z < la33 p2 ∨ la33 p2 + 3 < la33 z) ∧ (la33 z < la33 p2 + 5 ∨ la33 p2 + 5 < la33 z) → c106_V0 z = (d33_V 0) z) ∧ (∀ z, (la33 z < la33 this ∨ la33 this < la33 z) ∧ (la33 z < la33 p2 ∨ la33 p2 + 3 < la33 z) ∧ (la33 z < la33 p2 + 5 ∨ la33 p2 + 5 < la33 z) → c106_V1 z = (d33_V 1) z) := hq106
                  have tz106 : ∀ z, (z < cnt ∧ (la z < la this ∨ la this < la z) ∧ (la z < la p2 ∨ la p2 + 3 < la z) ∧ (la z < la p2 + 5 ∨ la p2 + 5 < la z)) → ((la33 z < la33 this ∨ la33 this < la33 z) ∧ (la33 z < la33 p2 ∨ la33 p2 + 3 < la33 z) ∧ (la33 z < la33 p2 + 5 ∨ la33 p2 + 5 < la33 z)) := fun z hz => by have q1 := hag33 z hz.1; have q2 := hB.2 z hz.1; omega
                  have hf39 : ∀ z, (z < cnt ∧ (la z < la this ∨ la this < la z) ∧ (la z < la p2 ∨ la p2 + 3 < la z) ∧ (la z < la p2 + 5 ∨ la p2 + 5 < la z)) → c106_G80 z = (G 80) z := fun z hz => (q106_G80 z (tz106 z hz)).trans (hF33_G 80 z hz.1 (fun _ => hz.2))
                  have hf40 : ∀ z, (z < cnt ∧ (la z < la this ∨ la this < la z) ∧ (la z < la p2 ∨ la p2 + 3 < la z) ∧ (la z < la p2 + 5 ∨ la p2 + 5 < la z)) → c106_G81 z = (G 81) z := fun z hz => (q106_G81 z (tz106 z hz)).trans (hF33_G 81 z hz.1 (fun _ => hz.2))
                  have hf41 : ∀ z, (z < cnt ∧ (la z < la this ∨ la this < la z) ∧ (la z < la p2 ∨ la p2 + 3 < la z) ∧ (la z < la p2 + 5 ∨ la p2 + 5 < la z)) → c106_G84 z = (G 84) z := fun z hz => (q106_G84 z (tz106 z hz)).trans (hf19 z hz)
                  have hf42 : ∀ z, (z < cnt ∧ (la z < la this ∨ la this < la z) ∧ (la z < la p2 ∨ la p2 + 3 < la z) ∧ (la z < la p2 + 5 ∨ la p2 + 5 < la z)) → c106_G85 z = (G 85) z := fun z hz => (q106_G85 z (tz106 z hz)).trans (hf20 z hz)
                  have hf43 : ∀ z, (z < cnt ∧ (la z < la this ∨ la this < la z) ∧ (la z < la p2 ∨ la p2 + 3 < la z) ∧ (la z < la p2 + 5 ∨ la p2 + 5 < la z)) → c106_G86 z = (G 86) z := fun z hz => (q106_G86 z (tz106 z hz)).trans (hf21 z hz)
                  have hf44 : ∀ z, (z < cnt ∧ (la z < la this ∨ la this < la z) ∧ (la z < la p2 ∨ la p2 + 3 < la z) ∧ (la z < la p2 + 5 ∨ la p2 + 5 < la z)) → c106_G87 z = (G 87) z := fun z hz => (q106_G87 z (tz106 z hz)).trans (hf22 z hz)
                  have hf45 : ∀ z, (z < cnt ∧ (la z < la this ∨ la this < la z) ∧ (la z < la p2 ∨ la p2 + 3 < la z) ∧ (la z < la p2 + 5 ∨ la p2 + 5 < la z)) → c106_G88 z = (G 88) z := fun z hz => (q106_G88 z (tz106 z hz)).trans (hf23 z hz)
                  have hf46 : ∀ z, (z < cnt ∧ (la z < la this ∨ la this < la z) ∧ (la z < la p2 ∨ la p2 + 3 < la z) ∧ (la z < la p2 + 5 ∨ la p2 + 5 < la z)) → c106_G203 z = (G 203) z := fun z hz => (q106_G203 z (tz106 z hz)).trans (hF33_G 203 z hz.1 (fun _ => hz.2))
                  have hf47 : ∀ z, (z < cnt ∧ (la z < la this ∨ la this < la z) ∧ (la z < la p2 ∨ la p2 + 3 < la z) ∧ (la z < la p2 + 5 ∨ la p2 + 5 < la z)) → c106_V0 z = (V 0) z := fun z hz => (q106_V0 z (tz106 z hz)).trans (hF33_V 0 z hz.1 (fun _ => hz.2))
                  have hf48 : ∀ z, (z < cnt ∧ (la z < la this ∨ la this < la z) ∧ (la z < la p2 ∨ la p2 + 3 < la z) ∧ (la z < la p2 + 5 ∨ la p2 + 5 < la z)) → c106_V1 z = (V 1) z := fun z hz => (q106_V1 z (tz106 z hz)).trans (hF33_V 1 z hz.1 (fun _ => hz.2))
                  clear hc106
                  exact Jj135 (va_up (va_up (va_up (va_up (va_up (va_up (va_up (va_up (va_up (va_up (va_up (va_up (va_up d33_G 84 c50_G84) 85 c50_G85) 86 c50_G86) 87 c50_G87) 88 c50_G88) 80 c106_G80) 81 c106_G81) 84 c106_G84) 85 c106_G85) 86 c106_G86) 87 c106_G87) 88 c106_G88) 203 c106_G203) d33_P d33_U (va_up (va_up d33_V 0 c106_V0) 1 c106_V1) d33_X d33_O d33_kd d33_ln d33_cnt la33 hag33 hB33 (by omega) (FRM_set (FRM_set (FRM_set (FRM_set (FRM_set (FRM_set (FRM_set (FRM_set (FRM_set (FRM_set (FRM_set (FRM_set (FRM_set hF33_G (by decide) (fun z h1 h2 => hf19 z ⟨h1, h2⟩)) (by decide) (fun z h1 h2 => hf20 z ⟨h1, h2⟩)) (by decide) (fun z h1 h2 => hf21 z ⟨h1, h2⟩)) (by decide) (fun z h1 h2 => hf22 z ⟨h1, h2⟩)) (by decide) (fun z h1 h2 => hf23 z ⟨h1, h2⟩)) (by decide) (fun z h1 h2 => hf39 z ⟨h1, h2⟩)) (by decide) (fun z h1 h2 => hf40 z ⟨h1, h2⟩)) (by decide) (fun z h1 h2 => hf41 z ⟨h1, h2⟩)) (by decide) (fun z h1 h2 => hf42 z ⟨h1, h2⟩)) (by decide) (fun z h1 h2 => hf43 z ⟨h1, h2⟩)) (by decide) (fun z h1 h2 => hf44 z ⟨h1, h2⟩)) (by decide) (fun z h1 h2 => hf45 z ⟨h1, h2⟩)) (by decide) (fun z h1 h2 => hf46 z ⟨h1, h2⟩)) hF33_P hF33_U (FRM_set (FRM_set hF33_V (by decide) (fun z h1 h2 => hf47 z ⟨h1, h2⟩)) (by decide) (fun z h1 h2 => hf48 z ⟨h1, h2⟩)) hF33_X hF33_O hln33
              · skip
                refine pw_b12 (fun c89_G80 c89_G81 c89_G84 c89_G85 c89_G86 c89_G87 c89_G88 c89_G107 c89_G203 c89_V0 c89_V1 c89_V10 hc89 => ?_)
                have hq89 := fr_X4_readList la33 (va_up (va_up (va_up (va_up (va_up d33_G 84 c50_G84) 85 c50_G85) 86 c50_G86) 87 c50_G87) 88 c50_G88) d33_P d33_U d33_V d33_X d33_O d33_kd d33_ln d33_cnt this p2 hB33 _ hc89
                obtain ⟨q89_G80, q89_G81, q89_G84, q89_G85, q89_G86, q89_G87, q89_G88, q89_G107, q89_G203, q89_V0, q89_V1, q89_V10⟩ : (∀ z, (la33 z < la33 this ∨ la33 this < la33 z) ∧ (la33 z < la33 p2 ∨ la33 p2 + 3 < la33 z) ∧ (la33 z < la33 p2 + 5 ∨ la33 p2 + 5 < la33 z) → c89_G80 z = (d33_G 80) z) ∧ (∀ z, (la33 z < la33 this ∨ la33 this < la33 z) ∧ (la33 z < la33 p2 ∨ la33 p2 + 3 < la33 z) ∧ (la33 z < la33 p2 + 5 ∨ la33 p2 + 5 < la33 z) → c89_G81 z = (d33_G 81) z) ∧ (∀ z, (la33 z < la33 this ∨ la33 this < la33 z) ∧ (la33 z < la33 p2 ∨ la33 p2 + 3 < la33 z) ∧ (la33 z < la33 p2 + 5 ∨ la33 p2 + 5 < la33 z) → c89_G84 z = c50_G84 z) ∧ (∀ z, (la33 z < la33 this ∨ la33 this < la33 z) ∧ (la33 z < la33 p2 ∨ la33 p2 + 3 < la33 z) ∧ (la33 z < la33 p2 + 5 ∨ la33 p2 + 5 < la33 z) → c89_G85 z = c50_G85 z) ∧ (∀ z, (la33 z < la33 this ∨ la33 this < la33 z) ∧ (la33 z < la33 p2 ∨ la33 p2 + 3 < la33 z) ∧ (la33 z < la33 p2 + 5 ∨ la33 p2 + 5 < la33 z) → c89_G86 z = c50_G86 z) ∧ (∀ z, (la33 z < la33 this ∨ la33 this < la33 z) ∧ (la33 z < la33 p2 ∨ la33 p2 + 3 < la33 z) ∧ (la33 z < la33 p2 + 5 ∨ la33 p2 + 5 < la33 z) → c89_G87 z = c50_G87 z) ∧ (∀ z, (la33 z < la33 this ∨ la33 this < la33 z) ∧ (la33 z < la33 p2 ∨ la33 p2 + 3 < la33 z) ∧ (la33 z < la33 p2 + 5 ∨ la33 p2 + 5 < la33 z) → c89_G88 z = c50_G88 z) ∧ (∀ z, (la33 z < la33 this ∨ la33 this < la33 z) ∧ (la33 z < la33 p2 ∨ la33 p2 + 3 < la33 z) ∧ (la33 z < la33 p2 + 5 ∨ la33 p2 + 5 < la33 z) → c89_G107 z = (d33_G 107) z) ∧ (∀ z, (la33 z < la33 this ∨ la33 this < la33 z) ∧ (la33 z < la33 p2 ∨ la33 p2 + 3 < la33 z) ∧ (la33 z < la33 p2 + 5 ∨ la33 p2 + 5 < la33 z) → c89_G203 z = (d33_G 203) z) ∧ (∀ z, (la33 z < la33 this ∨ la33 this < la33 z) ∧ (la33 z < la33 p2 ∨ la33 p2 + 3 < la33 z) ∧ (la33 z < la33 p2 + 5 ∨ la33 p2 + 5 < la33 z) → c89_V0 z = (d33_V 0) z) ∧ (∀ z, (la33 z < la33 this ∨ la33 this < la33 z) ∧ (la33 z < la33 p2 ∨ la33 p2 + 3 < la33 z) ∧ (la33 z < la33 p2 + 5 ∨ la33 p2 + 5 < la33 z) → c89_V1 z = (d33_V 1) z) ∧ (∀ z, (la33 z < la33 this ∨ la33 this < la33 z) ∧ (la33 z < la33 p2 ∨ la33 p2 + 3 < la33 z) ∧ (la33 z < la33 p2 + 5 ∨ la33 p2 + 5 < la33 z) → c89_V10 z = (d33_V 10) z) := hq89
                have tz89 : ∀ z, (z < cnt ∧ (la z < la this ∨ la this < la z) ∧ (la z < la p2 ∨ la p2 + 3 < la z) ∧ (la z < la p2 + 5 ∨ la p2 + 5 < la z)) → ((la33 z < la33 this ∨ la33 this < la33 z) ∧ (la33 z < la33 p2 ∨ la33 p2 + 3 < la33 z) ∧ (la33 z < la33 p2 + 5 ∨ la33 p2 + 5 < la33 z)) := fun z hz => by have q1 := hag33 z hz.1; have q2 := hB.2 z hz.1; omega
                have hf49 : ∀ z, (z < cnt ∧ (la z < la this ∨ la this < la z) ∧ (la z < la p2 ∨ la p2 + 3 < la z) ∧ (la z < la p2 + 5 ∨ la p2 + 5 < la z)) → c89_G80 z = (G 80) z := fun z hz => (q89_G80 z (tz89 z hz)).trans (hF33_G 80 z hz.1 (fun _ => hz.2))
                have hf50 : ∀ z, (z < cnt ∧ (la z < la this ∨ la this < la z) ∧ (la z < la p2 ∨ la p2 + 3 < la z) ∧ (la z < la p2 + 5 ∨ la p2 + 5 < la z)) → c89_G81 z = (G 81) z := fun z hz => (q89_G81 z (tz89 z hz)).trans (hF33_G 81 z hz.1 (fun _ => hz.2))
                have hf51 : ∀ z, (z < cnt ∧ (la z < la this ∨ la this < la z) ∧ (la z < la p2 ∨ la p2 + 3 < la z) ∧ (la z < la p2 + 5 ∨ la p2 + 5 < la z)) → c89_G84 z = (G 84) z := fun z hz => (q89_G84 z (tz89 z hz)).trans (hf19 z hz)
                have hf52 : ∀ z, (z < cnt ∧ (la z < la this ∨ la this < la z) ∧ (la z < la p2 ∨ la p2 + 3 < la z) ∧ (la z < la p2 + 5 ∨ la p2 + 5 < la z)) → c89_G85 z = (G 85) z := fun z hz => (q89_G85 z (tz89 z hz)).trans (hf20 z hz)
                have hf53 : ∀ z, (z < cnt ∧ (la z < la this ∨ la this < la z) ∧ (la z < la p2 ∨ la p2 + 3 < la z) ∧ (la z < la p2 + 5 ∨ la p2 + 5 < la z)) → c89_G86 z = (G 86) z := fun z hz => (q89_G86 z (tz89 z hz)).trans (hf21 z hz)
                have hf54 : ∀ z, (z < cnt ∧ (la z < la this ∨ la this < la z) ∧ (la z < la p2 ∨ la p2 + 3 < la z) ∧ (la z < la p2 + 5 ∨ la p2 + 5 < la z)) → c89_G87 z = (G 87) z := fun z hz => (q89_G87 z (tz89 z hz)).trans (hf22 z hz)
                have hf55 : ∀ z, (z < cnt ∧ (la z < la this ∨ la this < la z) ∧ (la z < la p2 ∨ la p2 + 3 < la z) ∧ (la z < la p2 + 5 ∨ la p2 + 5 < la z)) → c89_G88 z = (G 88) z := fun z hz => (q89_G88 z (tz89 z hz)).trans (hf23 z hz)
                have hf56 : ∀ z, (z < cnt ∧ (la z < la this ∨ la this < la z) ∧ (la z < la p2 ∨ la p2 + 3 < la z) ∧ (la z < la p2 + 5 ∨ la p2 + 5 < la z)) → c89_G107 z = (G 107) z := fun z hz => (q89_G107 z (tz89 z hz)).trans (hF33_G 107 z hz.1 (fun _ => hz.2))
                have hf57 : ∀ z, (z < cnt ∧ (la z < la this ∨ la this < la z) ∧ (la z < la p2 ∨ la p2 + 3 < la z) ∧ (la z < la p2 + 5 ∨ la p2 + 5 < la z)) → c89_G203 z = (G 203) z := fun z hz => (q89_G203 z (tz89 z hz)).trans (hF33_G 203 z hz.1 (fun _ => hz.2))
                have hf58 : ∀ z, (z < cnt ∧ (la z < la this ∨ la this < la z) ∧ (la z < la p2 ∨ la p2 + 3 < la z) ∧ (la z < la p2 + 5 ∨ la p2 + 5 < la z)) → c89_V0 z = (V 0) z := fun z hz => (q89_V0 z (tz89 z hz)).trans (hF33_V 0 z hz.1 (fun _ => hz.2))
                have hf59 : ∀ z, (z < cnt ∧ (la z < la this ∨ la this < la z) ∧ (la z < la p2 ∨ la p2 + 3 < la z) ∧ (la z < la p2 + 5 ∨ la p2 + 5 < la z)) → c89_V1 z = (V 1) z := fun z hz => (q89_V1 z (tz89 z hz)).trans (hF33_V 1 z hz.1 (fun _ => hz.2))
                have hf60 : ∀ z, (z < cnt ∧ (la z < la this ∨ la this < la z) ∧ (la z < la p2 ∨ la p2 + 3 < la z) ∧ (la z < la p2 + 5 ∨ la p2 + 5 < la z)) → c89_V10 z = (V 10) z := fun z hz => (q89_V10 z (tz89 z hz)).trans (hF33_V 10 z hz.1 (fun _ => hz.2))
                clear hc89
                exact Jj135 (va_up (va_up (va_up (va_up (va_up (va_up (va_up (va_up (va_up (va_up (va_up (va_up (va_up (va_up d33_G 84 c50_G84) 85 c50_G85) 86 c50_G86) 87 c50_G87) 88 c50_G88) 80 c89_G80) 81 c89_G81) 84 c89_G84) 85 c89_G85) 86 c89_G86) 87 c89_G87) 88 c89_G88) 107 c89_G107) 203 c89_G203) d33_P d33_U (va_up (va_up (va_up d33_V 0 c89_V0) 1 c89_V1) 10 c89_V10) d33_X d33_O d33_kd d33_ln d33_cnt la33 hag33 hB33 (by omega) (FRM_set (FRM_set (FRM_set (FRM_set (FRM_set (FRM_set (FRM_set (FRM_set (FRM_set (FRM_set (FRM_set (FRM_set (FRM_set (FRM_set hF33_G (by decide) (fun z h1 h2 => hf19 z ⟨h1, h2⟩)) (by decide) (fun z h1 h2 => hf20 z ⟨h1, h2⟩)) (by decide) (fun z h1 h2 => hf21 z ⟨h1, h2⟩)) (by decide) (fun z h1 h2 => hf22 z ⟨h1, h2⟩)) (by decide) (fun z h1 h2 => hf23 z ⟨h1, h2⟩)) (by decide) (fun z h1 h2 => hf49 z ⟨h1, h2⟩)) (by decide) (fun z h1 h2 => hf50 z ⟨h1, h2⟩)) (by decide) (fun z h1 h2 => hf51 z ⟨h1, h2⟩)) (by decide) (fun z h1 h2 => hf52 z ⟨h1, h2⟩)) (by decide) (fun z h1 h2 => hf53 z ⟨h1, h2⟩)) (by decide) (fun z h1 h2 => hf54 z ⟨h1, h2⟩)) (by decide) (fun z h1 h2 => hf55 z ⟨h1, h2⟩)) (by decide) (fun z h1 h2 => hf56 z ⟨h1, h2⟩)) (by decide) (fun z h1 h2 => hf57 z ⟨h1, h2⟩)) hF33_P hF33_U (FRM_set (FRM_set (FRM_set hF33_V (by decide) (fun z h1 h2 => hf58 z ⟨h1, h2⟩)) (by decide) (fun z h1 h2 => hf59 z ⟨h1, h2⟩)) (by decide) (fun z h1 h2 => hf60 z ⟨h1, h2⟩)) hF33_X hF33_O hln33
            · skip
              refine pw_b12 (fun c72_G80 c72_G81 c72_G84 c72_G85 c72_G86 c72_G87 c72_G88 c72_G107 c72_G203 c72_V0 c72_V1 c72_V10 hc72 => ?_)
              have hq72 := fr_X4_readKeep la33 (va_up (va_up (va_up (va_up (va_up d33_G 84 c50_G84) 85 c50_G85) 86 c50_G86) 87 c50_G87) 88 c50_G88) d33_P d33_U d33_V d33_X d33_O d33_kd d33_ln d33_cnt this p2 hB33 _ hc72
              obtain ⟨q72_G80, q72_G81, q72_G84, q72_G85, q72_G86, q72_G87, q72_G88, q72_G107, q72_G203, q72_V0, q72_V1, q72_V10⟩ : (∀ z, (la33 z < la33 this ∨ la33 this < la33 z) ∧ (la33 z < la33 p2 ∨ la33 p2 + 3 < la33 z) ∧ (la33 z < la33 p2 + 5 ∨ la33 p2 + 5 < la33 z) → c72_G80 z = (d33_G 80) z) ∧ (∀ z, (la33 z < la33 this ∨ la33 this < la33 z) ∧ (la33 z < la33 p2 ∨ la33 p2 + 3 < la33 z) ∧ (la33 z < la33 p2 + 5 ∨ la33 p2 + 5 < la33 z) → c72_G81 z = (d33_G 81) z) ∧ (∀ z, (la33 z < la33 this ∨ la33 this < la33 z) ∧ (la33 z < la33 p2 ∨ la33 p2 + 3 < la33 z) ∧ (la33 z < la33 p2 + 5 ∨ la33 p2 + 5 < la33 z) → c72_G84 z = c50_G84 z) ∧ (∀ z, (la33 z < la33 this ∨ la33 this < la33 z) ∧ (la33 z < la33 p2 ∨ la33 p2 + 3 < la33 z) ∧ (la33 z < la33 p2 + 5 ∨ la33 p2 + 5 < la33 z) → c72_G85 z = c50_G85 z) ∧ (∀ z, (la33 z < la33 this ∨ la33 this < la33 z) ∧ (la33 z < la33 p2 ∨ la33 p2 + 3 < la33 z) ∧ (la33 z < la33 p2 + 5 ∨ la33 p2 + 5 < la33 z) → c72_G86 z = c50_G86 z) ∧ (∀ z, (la33 z < la33 this ∨ la33 this < la33 z) ∧ (la33 z < la33 p2 ∨ la33 p2 + 3 < la33 z) ∧ (la33 z < la33 p2 + 5 ∨ la33 p2 + 5 < la33 z) → c72_G87 z = c50_G87 z) ∧ (∀ z, (la33 z < la33 this ∨ la33 this < la33 z) ∧ (la33 z < la33 p2 ∨ la33 p2 + 3 < la33 z) ∧ (la33 z < la33 p2 + 5 ∨ la33 p2 + 5 < la33 z) → c72_G88 z = c50_G88 z) ∧ (∀ z, (la33 z < la33 this ∨ la33 this < la33 z) ∧ (la33 z < la33 p2 ∨ la33 p2 + 3 < la33 z) ∧ (la33 z < la33 p2 + 5 ∨ la33 p2 + 5 < la33 z) → c72_G107 z = (d33_G 107) z) ∧ (∀ z, (la33 z < la33 this ∨ la33 this < la33 z) ∧ (la33 z < la33 p2 ∨ la33 p2 + 3 < la33 z) ∧ (la33 z < la33 p2 + 5 ∨ la33 p2 + 5 < la33 z) → c72_G203 z = (d33_G 203) z) ∧ (∀ z, (la33 z < la33 this ∨ la33 this < la33 z) ∧ (la33 z < la33 p2 ∨ la33 p2 + 3 < la33 z) ∧ (la33 z < la33 p2 + 5 ∨ la33 p2 + 5 < la33 z) → c72_V0 z = (d33_V 0) z) ∧ (∀ z, (la33 z < la33 this ∨ la33 this < la33 z) ∧ (la33 z < la33 p2 ∨ la33 p2 + 3 < la33 z) ∧ (la33 z < la33 p2 + 5 ∨ la33 p2 + 5 < la33 z) → c72_V1 z = (d33_V 1) z) ∧ (∀ z, (la33 z < la33 this ∨ la33 this < la33 z) ∧ (la33 z < la33 p2 ∨ la33 p2 + 3 < la33 z) ∧ (la33 z < la33 p2 + 5 ∨ la33 p2 + 5 < la33 z) → c72_V10 z = (d33_V 10) z) := hq72
              have tz72 : ∀ z, (z < cnt ∧ (la z < la this ∨ la this < la z) ∧ (la z < la p2 ∨ la p2 + 3 < la z) ∧ (la z < la p2 + 5 ∨ la p2 + 5 < la z)) → ((la33 z < la33 this ∨ la33 this < la33 z) ∧ (la33 z < la33 p2 ∨ la33 p2 + 3 < la33 z) ∧ (la33 z < la33 p2 + 5 ∨ la33 p2 + 5 < la33 z)) := fun z hz => by have q1 := hag33 z hz.1; have q2 := hB.2 z hz.1; omega
              have hf61 : ∀ z, (z < cnt ∧ (la z < la this ∨ la this < la z) ∧ (la z < la p2 ∨ la p2 + 3 < la z) ∧ (la z < la p2 + 5 ∨ la p2 + 5 < la z)) → c72_G80 z = (G 80) z := fun z hz => (q72_G80 z (tz72 z hz)).trans (hF33_G 80 z hz.1 (fun _ => hz.2))
              have hf62 : ∀ z, (z < cnt ∧ (la z < la this ∨ la this < la z) ∧ (la z < la p2 ∨ la p2 + 3 < la z) ∧ (la z < la p2 + 5 ∨ la p2 + 5 < la z)) → c72_G81 z = (G 81) z := fun z hz => (q72_G81 z (tz72 z hz)).trans (hF33_G 81 z hz.1 (fun _ => hz.2))
              have hf63 : ∀ z, (z < cnt ∧ (la z < la this ∨ la this < la z) ∧ (la z < la p2 ∨ la p2 + 3 < la z) ∧ (la z < la p2 + 5 ∨ la p2 + 5 < la z)) → c72_G84 z = (G 84) z := fun z hz => (q72_G84 z (tz72 z hz)).trans (hf19 z hz)
              have hf64 : ∀ z, (z < cnt ∧ (la z < la this ∨ la this < la z) ∧ (la z < la p2 ∨ la p2 + 3 < la z) ∧ (la z < la p2 + 5 ∨ la p2 + 5 < la z)) → c72_G85 z = (G 85) z := fun z hz => (q72_G85 z (tz72 z hz)).trans (hf20 z hz)
              have hf65 : ∀ z, (z < cnt ∧ (la z < la this ∨ la this < la z) ∧ (la z < la p2 ∨ la p2 + 3 < la z) ∧ (la z < la p2 + 5 ∨ la p2 + 5 < la z)) → c72_G86 z = (G 86) z := fun z hz => (q72_G86 z (tz72 z hz)).trans (hf21 z hz)
              have hf66 : ∀ z, (z < cnt ∧ (la z < la this ∨ la this < la z) ∧ (la z < la p2 ∨ la p2 + 3 < la z) ∧ (la z < la p2 + 5 ∨ la p2 + 5 < la z)) → c72_G87 z = (G 87) z := fun z hz => (q72_G87 z (tz72 z hz)).trans (hf22 z hz)
              have hf67 : ∀ z, (z < cnt ∧ (la z < la this ∨ la this < la z) ∧ (la z < la p2 ∨ la p2 + 3 < la z) ∧ (la z < la p2 + 5 ∨ la p2 + 5 < la z)) → c72_G88 z = (G 88) z := fun z hz => (q72_G88 z (tz72 z hz)).trans (hf23 z hz)
              have hf68 : ∀ z, (z < cnt ∧ (la z < la this ∨ la this < la z) ∧ (la z < la p2 ∨ la p2 + 3 < la z) ∧ (la z < la p2 + 5 ∨ la p2 + 5 < la z)) → c72_G107 z = (G 107) z := fun z hz => (q72_G107 z (tz72 z hz)).trans (hF33_G 107 z hz.1 (fun _ => hz.2))
              have hf69 : ∀ z, (z < cnt ∧ (la z < la this ∨ la this < la z) ∧ (la z < la p2 ∨ la p2 + 3 < la z) ∧ (la z < la p2 + 5 ∨ la p2 + 5 < la z)) → c72_G203 z = (G 203) z := fun z hz => (q72_G203 z (tz72 z hz)).trans (hF33_G 203 z hz.1 (fun _ => hz.2))
              have hf70 : ∀ z, (z < cnt ∧ (la z < la this ∨ la this < la z) ∧ (la z < la p2 ∨ la p2 + 3 < la z) ∧ (la z < la p2 + 5 ∨ la p2 + 5 < la z)) → c72_V0 z = (V 0) z := fun z hz => (q72_V0 z (tz72 z hz)).trans (hF33_V 0 z hz.1 (fun _ => hz.2))
              have hf71 : ∀ z, (z < cnt ∧ (la z < la this ∨ la this < la z) ∧ (la z < la p2 ∨ la p2 + 3 < la z) ∧ (la z < la p2 + 5 ∨ la p2 + 5 < la z)) → c72_V1 z = (V 1) z := fun z hz => (q72_V1 z (tz72 z hz)).trans (hF33_V 1 z hz.1 (fun _ => hz.2))
              have hf72 : ∀ z, (z < cnt ∧ (la z < la this ∨ la this < la z) ∧ (la z < la p2 ∨ la p2 + 3 < la z) ∧ (la z < la p2 + 5 ∨ la p2 + 5 < la z)) → c72_V10 z = (V 10) z := fun z hz => (q72_V10 z (tz72 z hz)).trans (hF33_V 10 z hz.1 (fun _ => hz.2))
              clear hc72
              exact Jj135 (va_up (va_up (va_up (va_up (va_up (va_up (va_up (va_up (va_up (va_up (va_up (va_up (va_up (va_up d33_G 84 c50_G84) 85 c50_G85) 86 c50_G86) 87 c50_G87) 88 c50_G88) 80 c72_G80) 81 c72_G81) 84 c72_G84) 85 c72_G85) 86 c72_G86) 87 c72_G87) 88 c72_G88) 107 c72_G107) 203 c72_G203) d33_P d33_U (va_up (va_up (va_up d33_V 0 c72_V0) 1 c72_V1) 10 c72_V10) d33_X d33_O d33_kd d33_ln d33_cnt la33 hag33 hB33 (by omega) (FRM_set (FRM_set (FRM_set (FRM_set (FRM_set (FRM_set (FRM_set (FRM_set (FRM_set (FRM_set (FRM_set (FRM_set (FRM_set (FRM_set hF33_G (by decide) (fun z h1 h2 => hf19 z ⟨h1, h2⟩)) (by decide) (fun z h1 h2 => hf20 z ⟨h1, h2⟩)) (by decide) (fun z h1 h2 => hf21 z ⟨h1, h2⟩)) (by decide) (fun z h1 h2 => hf22 z ⟨h1, h2⟩)) (by decide) (fun z h1 h2 => hf23 z ⟨h1, h2⟩)) (by decide) (fun z h1 h2 => hf61 z ⟨h1, h2⟩)) (by decide) (fun z h1 h2 => hf62 z ⟨h1, h2⟩)) (by decide) (fun z h1 h2 => hf63 z ⟨h1, h2⟩)) (by decide) (fun z h1 h2 => hf64 z ⟨h1, h2⟩)) (by decide) (fun z h1 h2 => hf65 z ⟨h1, h2⟩)) (by decide) (fun z h1 h2 => hf66 z ⟨h1, h2⟩)) (by decide) (fun z h1 h2 => hf67 z ⟨h1, h2⟩)) (by decide) (fun z h1 h2 => hf68 z ⟨h1, h2⟩)) (by decide) (fun z h1 h2 => hf69 z ⟨h1, h2⟩)) hF33_P hF33_U (FRM_set (FRM_set (FRM_set hF33_V (by decide) (fun z h1 h2 => hf70 z ⟨h1, h2⟩)) (by decide) (fun z h1 h2 => hf71 z ⟨h1, h2⟩)) (by decide) (fun z h1 h2 => hf72 z ⟨h1, h2⟩)) hF33_X hF33_O hln33
        · skip
          exact Jk141 d33_G d33_P d33_U d33_V d33_X d33_O d33_kd d33_ln d33_cnt la33 hag33 hB33 (by omega) hF33_G hF33_P hF33_U hF33_V hF33_X hF33_O hln33
  exact lp33 NN 0 (va_up (va_up (va_up (va_up G 83 m12) 84 m17) 80 m22) 81 m27) (va_up P 82 m2) U V X O kd ln cnt la (fun _ _ => rfl) (LB_set hB hl1) (Nat.le_refl _) (FRM_set (FRM_set (FRM_set (FRM_set FRM_refl (by decide) (fun z h1 h2 => hf3 z ⟨h1, h2⟩)) (by decide) (fun z h1 h2 => hf4 z ⟨h1, h2⟩)) (by decide) (fun z h1 h2 => hf5 z ⟨h1, h2⟩)) (by decide) (fun z h1 h2 => hf6 z ⟨h1, h2⟩)) (FRM_set FRM_refl (by decide) (fun z h1 h2 => hf2 z ⟨h1, h2⟩)) FRM_refl FRM_refl FRM_refl FRM_refl (fun _ _ => rfl)
abbrev RF_X11_reform (la : Nat → Nat) (G : Nat → Nat → Int32) (P : Nat → Nat → Option Nat) (U : Nat → Nat → Int64) (V : Nat → Nat → Nat → Int32) (X : Nat → Nat → Nat → Int64) (O : Nat → Nat → Nat → Option Nat) (kd : Nat → Nat) (ln : Nat → Nat) (cnt : Nat) (this : Nat) (p0 : Int32) (D : Nat) : (Int32 × (Nat → Nat → Int32) × (Nat → Nat → Option Nat) × (Nat → Nat → Int64) × (Nat → Nat → Nat → Int32) × (Nat → Nat → Nat → Int64) × (Nat → Nat → Nat → Option Nat) × (Nat → Nat) × (Nat → Nat) × Nat) → Prop := fun t => ∃ la1 : Nat → Nat, (∀ z, z < cnt → la1 z = la z) ∧ LB la1 (t.2.2.2.2.2.2.2.2.2) (t.2.2.1) ∧ cnt ≤ (t.2.2.2.2.2.2.2.2.2) ∧ FRM cnt [24, 25, 80, 81, 83, 84, 85, 86, 87, 88, 100, 102, 107, 141, 183, 203, 222, 223] (fun z => (la z < 10 ∨ 10 < la z) ∧ (la z < 300 ∨ 300 < la z) ∧ (la z < 90 ∨ 90 + 8 < la z) ∧ (la z < 200 ∨ 200 + 3 < la z) ∧ (la z < D ∨ D + 5 < la z)) G (t.2.1) ∧ FRM cnt [22, 23, 82, 181, 182, 224] (fun z => (la z < 10 ∨ 10 < la z) ∧ (la z < 300 ∨ 300 < la z) ∧ (la z < 90 ∨ 90 + 8 < la z) ∧ (la z < 200 ∨ 200 + 3 < la z) ∧ (la z < D ∨ D + 5 < la z)) P (t.2.2.1) ∧ FRM cnt [184] (fun z => (la z < 10 ∨ 10 < la z) ∧ (la z < 300 ∨ 300 < la z) ∧ (la z < 90 ∨ 90 + 8 < la z) ∧ (la z < 200 ∨ 200 + 3 < la z) ∧ (la z < D ∨ D + 5 < la z)) U (t.2.2.2.1) ∧ FRM cnt [0, 1, 10, 11] (fun z => (la z < 10 ∨ 10 < la z) ∧ (la z < 300 ∨ 300 < la z) ∧ (la z < 90 ∨ 90 + 8 < la z) ∧ (la z < 200 ∨ 200 + 3 < la z) ∧ (la z < D ∨ D + 5 < la z)) V (t.2.2.2.2.1) ∧ FRM cnt [0] (fun z => (la z < 10 ∨ 10 < la z) ∧ (la z < 300 ∨ 300 < la z) ∧ (la z < 90 ∨ 90 + 8 < la z) ∧ (la z < 200 ∨ 200 + 3 < la z) ∧ (la z < D ∨ D + 5 < la z)) X (t.2.2.2.2.2.1) ∧ FRM cnt [0, 2] (fun z => (la z < 10 ∨ 10 < la z) ∧ (la z < 300 ∨ 300 < la z) ∧ (la z < 90 ∨ 90 + 8 < la z) ∧ (la z < 200 ∨ 200 + 3 < la z) ∧ (la z < D ∨ D + 5 < la z)) O (t.2.2.2.2.2.2.1) ∧ (∀ z, z < cnt → (t.2.2.2.2.2.2.2.2.1) z = ln z) ∧ (∃ D1, (∀ b, (t.2.2.1) 224 this = some b → b < (t.2.2.2.2.2.2.2.2.2) ∧ la1 b = D1) ∧ (D1 = D ∨ 100000 + 10 * cnt ≤ D1))
set_option maxHeartbeats 4000000 in
set_option maxRecDepth 100000 in
theorem fr_X11_reform (la : Nat → Nat) (G : Nat → Nat → Int32) (P : Nat → Nat → Option Nat) (U : Nat → Nat → Int64) (V : Nat → Nat → Nat → Int32) (X : Nat → Nat → Nat → Int64) (O : Nat → Nat → Nat → Option Nat) (kd : Nat → Nat) (ln : Nat → Nat) (cnt : Nat) (this : Nat) (p0 : Int32) (D : Nat) (hB : LB la cnt P) (hlt_this : this < cnt) (hp0 : la this = 200) (hp1 : ∀ b, (P 224) this = some b → b < cnt ∧ la b = D) : pw (f_X11_reform G P U V X O kd ln cnt this p0) (sp1 (RF_X11_reform la G P U V X O kd ln cnt this p0 D)) := by
  unfold f_X11_reform
  refine pw_nn (fun a1 hn_a1 => ?_)
  have lt_a1 := ((hB.1 220 fl_220) this a1 hn_a1).2.1
  have lb_a1 : la a1 = 10 := lk_220.mp ((hB.1 220 fl_220) this a1 hn_a1).2.2
  refine pw_b2 (fun r4 c4_G141 hc4 => ?_)
  have hq4 := fr_X7_take la G P U V X O kd ln cnt a1 hB _ hc4
  have q4_G141 : (∀ z, (la z < la a1 ∨ la a1 < la z) → c4_G141 z = (G 141) z) := hq4
  have tz4 : ∀ z, (z < cnt ∧ (la z < 10 ∨ 10 < la z) ∧ (la z < 300 ∨ 300 < la z) ∧ (la z < 90 ∨ 90 + 8 < la z) ∧ (la z < 200 ∨ 200 + 3 < la z) ∧ (la z < D ∨ D + 5 < la z)) → ((la z < la a1 ∨ la a1 < la z)) := fun z hz => by omega
  have hf1 : ∀ z, (z < cnt ∧ (la z < 10 ∨ 10 < la z) ∧ (la z < 300 ∨ 300 < la z) ∧ (la z < 90 ∨ 90 + 8 < la z) ∧ (la z < 200 ∨ 200 + 3 < la z) ∧ (la z < D ∨ D + 5 < la z)) → c4_G141 z = (G 141) z := fun z hz => (q4_G141 z (tz4 z hz)).trans (rfl)
  clear hc4 hq4
  refine pw_jn (fun j22 => pw (j22 ()) (sp1 (RF_X11_reform la G P U V X O kd ln cnt this p0 D))) ?_ ?_
  · show pw _ _
    exact pw_some ⟨la, (fun _ _ => rfl), hB, (Nat.le_refl _), (FRM_set FRM_refl (by decide) (fun z h1 h2 => hf1 z ⟨h1, h2⟩)), FRM_refl, FRM_refl, FRM_refl, FRM_refl, FRM_refl, (fun _ _ => rfl), ⟨D, hp1, by omega⟩⟩
  intro j22 Jj22
  refine pw_ite (fun _ => ?_) (fun _ => ?_)
  · skip
    exact Jj22
  · skip
    refine pw_ite (fun _ => ?_) (fun _ => ?_)
    · skip
      refine pw_nn (fun a26 hn_a26 => ?_)
      obtain ⟨_, lt_a26, lb_a26⟩ := (hB.1 224 fl_224) this a26 hn_a26
      have ld_a26 := (hp1 a26 hn_a26).2
      refine pw_b4 (fun c30_G100 c30_G102 c30_G107 c30_G203 hc30 => ?_)
      have hq30 := fr_X5_clear la (va_up G 141 c4_G141) P U V X O kd ln cnt a26 p0 hB _ hc30
      obtain ⟨q30_G100, q30_G102, q30_G107, q30_G203⟩ : (∀ z, (la z < la a26 ∨ la a26 + 5 < la z) → c30_G100 z = (G 100) z) ∧ (∀ z, (la z < la a26 ∨ la a26 + 5 < la z) → c30_G102 z = (G 102) z) ∧ (∀ z, (la z < la a26 ∨ la a26 + 5 < la z) → c30_G107 z = (G 107) z) ∧ (∀ z, (la z < la a26 ∨ la a26 + 5 < la z) → c30_G203 z = (G 203) z) := hq30
      have tz30 : ∀ z, (z < cnt ∧ (la z < 10 ∨ 10 < la z) ∧ (la z < 300 ∨ 300 < la z) ∧ (la z < 90 ∨ 90 + 8 < la z) ∧ (la z < 200 ∨ 200 + 3 < la z) ∧ (la z < D ∨ D + 5 < la z)) → ((la z < la a26 ∨ la a26 + 5 < la z)) := fun z hz => by omega
      have hf2 : ∀ z, (z < cnt ∧ (la z < 10 ∨ 10 < la z) ∧ (la z < 300 ∨ 300 < la z) ∧ (la z < 90 ∨ 90 + 8 < la z) ∧ (la z < 200 ∨ 200 + 3 < la z) ∧ (la z < D ∨ D + 5 < la z)) → c30_G100 z = (G 100) z := fun z hz => (q30_G100 z (tz30 z hz)).trans (rfl)
      have hf3 : ∀ z, (z < cnt ∧ (la z < 10 ∨ 10 < la z) ∧ (la z < 300 ∨ 300 < la z) ∧ (la z < 90 ∨ 90 + 8 < la z) ∧ (la z < 200 ∨ 200 + 3 < la z) ∧ (la z < D ∨ D + 5 < la z)) → c30_G102 z = (G 102) z := fun z hz => (q30_G102 z (tz30 z hz)).trans (rfl)
      have hf4 : ∀ z, (z < cnt ∧ (la z < 10 ∨ 10 < la z) ∧ (la z < 300 ∨ 300 < la z) ∧ (la z < 90 ∨ 90 + 8 < la z) ∧ (la z < 200 ∨ 200 + 3 < la z) ∧ (la z < D ∨ D + 5 < la z)) → c30_G107 z = (G 107) z := fun z hz => (q30_G107 z (tz30 z hz)).trans (rfl)
      have hf5 : ∀ z, (z < cnt ∧ (la z < 10 ∨ 10 < la z) ∧ (la z < 300 ∨ 300 < la z) ∧ (la z < 90 ∨ 90 + 8 < la z) ∧ (la z < 200 ∨ 200 + 3 < la z) ∧ (la z < D ∨ D + 5 < la z)) → c30_G203 z = (G 203) z := fun z hz => (q30_G203 z (tz30 z hz)).trans (rfl)
      clear hc30
      refine pw_nn (fun a34 hn_a34 => ?_)
      have lt_a34 := ((hB.1 225 fl_225) this a34 hn_a34).2.1
      have lb_a34 : la a34 = 300 := lk_225.mp ((hB.1 225 fl_225) this a34 hn_a34).2.2
      refine pw_nn (fun a38 hn_a38 => ?_)
      have lt_a38 := ((hB.1 220 fl_220) this a38 hn_a38).2.1
      have lb_a38 : la a38 = 10 := lk_220.mp ((hB.1 220 fl_220) this a38 hn_a38).2.2
      refine pw_nn (fun a41 hn_a41 => ?_)
      have lt_a41 := ((hB.1 140 fl_140) a38 a41 hn_a41).2.1
      have lb_a41 : la a41 = la a38 + 1 := lk_140.mp ((hB.1 140 fl_140) a38 a41 hn_a41).2.2
      refine pw_nn (fun a46 hn_a46 => ?_)
      obtain ⟨_, lt_a46, lb_a46⟩ := (hB.1 224 fl_224) this a46 hn_a46
      have ld_a46 := (hp1 a46 hn_a46).2
      refine pw_bA9 (fun c49_G c49_P c49_U c49_V c49_X c49_O c49_kd c49_ln c49_cnt v1_49 v2_49 hc49 => ?_)
      have hq49 := fr_X4_read la (va_up (va_up (va_up (va_up (va_up G 141 c4_G141) 100 c30_G100) 102 c30_G102) 107 c30_G107) 203 c30_G203) P U V X O kd ln cnt a34 a41 r4 a46 hB lt_a34 lt_a41 lt_a46 _ hc49
      obtain ⟨la49_6, ag49, hB49, cc49, qG49, qP49, qU49, qV49, qX49, qO49, ql49⟩ : ∃ la9 : Nat → Nat, (∀ z, z < cnt → la9 z = la z) ∧ LB la9 c49_cnt c49_P ∧ cnt ≤ c49_cnt ∧ FRM cnt [24, 25, 80, 81, 83, 84, 85, 86, 87, 88, 102, 107, 203] (fun z => (la z < la a34 ∨ la a34 < la z) ∧ (la z < la a46 ∨ la a46 + 3 < la z) ∧ (la z < la a46 + 5 ∨ la a46 + 5 < la z)) (va_up (va_up (va_up (va_up (va_up G 141 c4_G141) 100 c30_G100) 102 c30_G102) 107 c30_G107) 203 c30_G203) c49_G ∧ FRM cnt [22, 23, 82] (fun z => (la z < la a34 ∨ la a34 < la z) ∧ (la z < la a46 ∨ la a46 + 3 < la z) ∧ (la z < la a46 + 5 ∨ la a46 + 5 < la z)) P c49_P ∧ FRM cnt [] (fun z => (la z < la a34 ∨ la a34 < la z) ∧ (la z < la a46 ∨ la a46 + 3 < la z) ∧ (la z < la a46 + 5 ∨ la a46 + 5 < la z)) U c49_U ∧ FRM cnt [0, 1, 10] (fun z => (la z < la a34 ∨ la a34 < la z) ∧ (la z < la a46 ∨ la a46 + 3 < la z) ∧ (la z < la a46 + 5 ∨ la a46 + 5 < la z)) V c49_V ∧ FRM cnt [] (fun z => (la z < la a34 ∨ la a34 < la z) ∧ (la z < la a46 ∨ la a46 + 3 < la z) ∧ (la z < la a46 + 5 ∨ la a46 + 5 < la z)) X c49_X ∧ FRM cnt [0] (fun z => (la z < la a34 ∨ la a34 < la z) ∧ (la z < la a46 ∨ la a46 + 3 < la z) ∧ (la z < la a46 + 5 ∨ la a46 + 5 < la z)) O c49_O ∧ (∀ z, z < cnt → c49_ln z = ln z) := hq49
      have hle49 : cnt ≤ cnt := Nat.le_refl _
      have hg49 : ∀ z, z < cnt → la49_6 z = la z := fun z hz => (ag49 z (Nat.lt_of_lt_of_le hz hle49)).trans (rfl)
      have hF49_G : FRM cnt [24, 25, 80, 81, 83, 84, 85, 86, 87, 88, 100, 102, 107, 141, 183, 203, 222, 223] (fun z => (la z < 10 ∨ 10 < la z) ∧ (la z < 300 ∨ 300 < la z) ∧ (la z < 90 ∨ 90 + 8 < la z) ∧ (la z < 200 ∨ 200 + 3 < la z) ∧ (la z < D ∨ D + 5 < la z)) G c49_G := FRM_trans (FRM_set (FRM_set (FRM_set (FRM_set (FRM_set FRM_refl (by decide) (fun z h1 h2 => hf1 z ⟨h1, h2⟩)) (by decide) (fun z h1 h2 => hf2 z ⟨h1, h2⟩)) (by decide) (fun z h1 h2 => hf3 z ⟨h1, h2⟩)) (by decide) (fun z h1 h2 => hf4 z ⟨h1, h2⟩)) (by decide) (fun z h1 h2 => hf5 z ⟨h1, h2⟩)) qG49 hle49 (by decide) (fun z h0 hz => (show (la z < la a34 ∨ la a34 < la z) ∧ (la z < la a46 ∨ la a46 + 3 < la z) ∧ (la z < la a46 + 5 ∨ la a46 + 5 < la z) from by have q2 := hB.2 z h0; omega))
      have hF49_P : FRM cnt [22, 23, 82, 181, 182, 224] (fun z => (la z < 10 ∨ 10 < la z) ∧ (la z < 300 ∨ 300 < la z) ∧ (la z < 90 ∨ 90 + 8 < la z) ∧ (la z < 200 ∨ 200 + 3 < la z) ∧ (la z < D ∨ D + 5 < la z)) P c49_P := FRM_trans FRM_refl qP49 hle49 (by decide) (fun z h0 hz => (show (la z < la a34 ∨ la a34 < la z) ∧ (la z < la a46 ∨ la a46 + 3 < la z) ∧ (la z < la a46 + 5 ∨ la a46 + 5 < la z) from by have q2 := hB.2 z h0; omega))
      have hF49_U : FRM cnt [184] (fun z => (la z < 10 ∨ 10 < la z) ∧ (la z < 300 ∨ 300 < la z) ∧ (la z < 90 ∨ 90 + 8 < la z) ∧ (la z < 200 ∨ 200 + 3 < la z) ∧ (la z < D ∨ D + 5 < la z)) U c49_U := FRM_trans FRM_refl qU49 hle49 (by decide) (fun z h0 hz => (show (la z < la a34 ∨ la a34 < la z) ∧ (la z < la a46 ∨ la a46 + 3 < la z) ∧ (la z < la a46 + 5 ∨ la a46 + 5 < la z) from by have q2 := hB.2 z h0; omega))
      have hF49_V : FRM cnt [0, 1, 10, 11] (fun z => (la z < 10 ∨ 10 < la z) ∧ (la z < 300 ∨ 300 < la z) ∧ (la z < 90 ∨ 90 + 8 < la z) ∧ (la z < 200 ∨ 200 + 3 < la z) ∧ (la z < D ∨ D + 5 < la z)) V c49_V := FRM_trans FRM_refl qV49 hle49 (by decide) (fun z h0 hz => (show (la z < la a34 ∨ la a34 < la z) ∧ (la z < la a46 ∨ la a46 + 3 < la z) ∧ (la z < la a46 + 5 ∨ la a46 + 5 < la z) from by have q2 := hB.2 z h0; omega))
      have hF49_X : FRM cnt [0] (fun z => (la z < 10 ∨ 10 < la z) ∧ (la z < 300 ∨ 300 < la z) ∧ (la z < 90 ∨ 90 + 8 < la z) ∧ (la z < 200 ∨ 200 + 3 < la z) ∧ (la z < D ∨ D + 5 < la z)) X c49_X := FRM_trans FRM_refl qX49 hle49 (by decide) (fun z h0 hz => (show (la z < la a34 ∨ la a34 < la z) ∧ (la z < la a46 ∨ la a46 + 3 < la z) ∧ (la z < la a46 + 5 ∨ la a46 + 5 < la z) from by have q2 := hB.2 z h0; omega))
      have hF49_O : FRM cnt [0, 2] (fun z => (la z < 10 ∨ 10 < la z) ∧ (la z < 300 ∨ 300 < la z) ∧ (la z < 90 ∨ 90 + 8 < la z) ∧ (la z < 200 ∨ 200 + 3 < la z) ∧ (la z < D ∨ D + 5 < la z)) O c49_O := FRM_trans FRM_refl qO49 hle49 (by decide) (fun z h0 hz => (show (la z < la a34 ∨ la a34 < la z) ∧ (la z < la a46 ∨ la a46 + 3 < la z) ∧ (la z < la a46 + 5 ∨ la a46 + 5 < la z) from by have q2 := hB.2 z h0; omega))
      have hln49 : ∀ z, z < cnt → c49_ln z = ln z := fun z hz => (ql49 z (Nat.lt_of_lt_of_le hz hle49)).trans (rfl)
      have g7 := ag49 this hlt_this
      have lt8 : this < c49_cnt := by omega
      have hdr49 : ∀ b, c49_P 224 this = some b → b < c49_cnt ∧ la49_6 b = D := by
        intro b hb
        rw [qP49 224 this hlt_this (fun q => absurd q (by decide))] at hb
        obtain ⟨h2, h3⟩ := hp1 b hb
        exact ⟨by omega, (ag49 b h2).trans h3⟩
      refine pw_nn (fun a53 hn_a53 => ?_)
      have lt_a53 := ((hB49.1 225 fl_225) this a53 hn_a53).2.1
      have lb_a53 : la49_6 a53 = 300 := lk_225.mp ((hB49.1 225 fl_225) this a53 hn_a53).2.2
      refine pw_ite (fun _ => ?_) (fun _ => ?_)
      · skip
        refine pw_ite (fun _ => ?_) (fun _ => ?_)
        · skip
          refine pw_nn (fun a77 hn_a77 => ?_)
          have lt_a77 := ((hB49.1 226 fl_226) this a77 hn_a77).2.1
          have lb_a77 : la49_6 a77 = 90 := lk_226.mp ((hB49.1 226 fl_226) this a77 hn_a77).2.2
          refine pw_nn (fun a81 hn_a81 => ?_)
          obtain ⟨_, lt_a81, lb_a81⟩ := (hB49.1 224 fl_224) this a81 hn_a81
          have ld_a81 := (hdr49 a81 hn_a81).2
          refine pw_b9 (fun c84_G183 c84_G203 c84_P181 c84_P182 c84_U184 c84_V0 c84_V1 c84_V11 c84_X0 hc84 => ?_)
          have hq84 := fr_X9_turnParts la49_6 c49_G c49_P c49_U c49_V c49_X c49_O c49_kd c49_ln c49_cnt a77 a81 hB49 lt_a77 _ hc84
          obtain ⟨q84_G183, q84_G203, q84_P181, q84_P182, q84_U184, q84_V0, q84_V1, q84_V11, q84_X0, ql84_181, ql84_182⟩ : (∀ z, (la49_6 z < la49_6 a77 ∨ la49_6 a77 + 8 < la49_6 z) ∧ (la49_6 z < la49_6 a81 ∨ la49_6 a81 + 5 < la49_6 z) → c84_G183 z = (c49_G 183) z) ∧ (∀ z, (la49_6 z < la49_6 a77 ∨ la49_6 a77 + 8 < la49_6 z) ∧ (la49_6 z < la49_6 a81 ∨ la49_6 a81 + 5 < la49_6 z) → c84_G203 z = (c49_G 203) z) ∧ (∀ z, (la49_6 z < la49_6 a77 ∨ la49_6 a77 + 8 < la49_6 z) ∧ (la49_6 z < la49_6 a81 ∨ la49_6 a81 + 5 < la49_6 z) → c84_P181 z = (c49_P 181) z) ∧ (∀ z, (la49_6 z < la49_6 a77 ∨ la49_6 a77 + 8 < la49_6 z) ∧ (la49_6 z < la49_6 a81 ∨ la49_6 a81 + 5 < la49_6 z) → c84_P182 z = (c49_P 182) z) ∧ (∀ z, (la49_6 z < la49_6 a77 ∨ la49_6 a77 + 8 < la49_6 z) ∧ (la49_6 z < la49_6 a81 ∨ la49_6 a81 + 5 < la49_6 z) → c84_U184 z = (c49_U 184) z) ∧ (∀ z, (la49_6 z < la49_6 a77 ∨ la49_6 a77 + 8 < la49_6 z) ∧ (la49_6 z < la49_6 a81 ∨ la49_6 a81 + 5 < la49_6 z) → c84_V0 z = (c49_V 0) z) ∧ (∀ z, (la49_6 z < la49_6 a77 ∨ la49_6 a77 + 8 < la49_6 z) ∧ (la49_6 z < la49_6 a81 ∨ la49_6 a81 + 5 < la49_6 z) → c84_V1 z = (c49_V 1) z) ∧ (∀ z, (la49_6 z < la49_6 a77 ∨ la49_6 a77 + 8 < la49_6 z) ∧ (la49_6 z < la49_6 a81 ∨ la49_6 a81 + 5 < la49_6 z) → c84_V11 z = (c49_V 11) z) ∧ (∀ z, (la49_6 z < la49_6 a77 ∨ la49_6 a77 + 8 < la49_6 z) ∧ (la49_6 z < la49_6 a81 ∨ la49_6 a81 + 5 < la49_6 z) → c84_X0 z = (c49_X 0) z) ∧ LC 181 la49_6 c49_cnt c84_P181 ∧ LC 182 la49_6 c49_cnt c84_P182 := hq84
          have tz84 : ∀ z, (z < cnt ∧ (la z < 10 ∨ 10 < la z) ∧ (la z < 300 ∨ 300 < la z) ∧ (la z < 90 ∨ 90 + 8 < la z) ∧ (la z < 200 ∨ 200 + 3 < la z) ∧ (la z < D ∨ D + 5 < la z)) → ((la49_6 z < la49_6 a77 ∨ la49_6 a77 + 8 < la49_6 z) ∧ (la49_6 z < la49_6 a81 ∨ la49_6 a81 + 5 < la49_6 z)) := fun z hz => by have q1 := hg49 z hz.1; have q2 := hB.2 z hz.1; omega
          have hf9 : ∀ z, (z < cnt ∧ (la z < 10 ∨ 10 < la z) ∧ (la z < 300 ∨ 300 < la z) ∧ (la z < 90 ∨ 90 + 8 < la z) ∧ (la z < 200 ∨ 200 + 3 < la z) ∧ (la z < D ∨ D + 5 < la z)) → c84_G183 z = (G 183) z := fun z hz => (q84_G183 z (tz84 z hz)).trans (hF49_G 183 z hz.1 (fun _ => hz.2))
          have hf10 : ∀ z, (z < cnt ∧ (la z < 10 ∨ 10 < la z) ∧ (la z < 300 ∨ 300 < la z) ∧ (la z < 90 ∨ 90 + 8 < la z) ∧ (la z < 200 ∨ 200 + 3 < la z) ∧ (la z < D ∨ D + 5 < la z)) → c84_G203 z = (G 203) z := fun z hz => (q84_G203 z (tz84 z hz)).trans (hF49_G 203 z hz.1 (fun _ => hz.2))
          have hf11 : ∀ z, (z < cnt ∧ (la z < 10 ∨ 10 < la z) ∧ (la z < 300 ∨ 300 < la z) ∧ (la z < 90 ∨ 90 + 8 < la z) ∧ (la z < 200 ∨ 200 + 3 < la z) ∧ (la z < D ∨ D + 5 < la z)) → c84_P181 z = (P 181) z := fun z hz => (q84_P181 z (tz84 z hz)).trans (hF49_P 181 z hz.1 (fun _ => hz.2))
          have hf12 : ∀ z, (z < cnt ∧ (la z < 10 ∨ 10 < la z) ∧ (la z < 300 ∨ 300 < la z) ∧ (la z < 90 ∨ 90 + 8 < la z) ∧ (la z < 200 ∨ 200 + 3 < la z) ∧ (la z < D ∨ D + 5 < la z)) → c84_P182 z = (P 182) z := fun z hz => (q84_P182 z (tz84 z hz)).trans (hF49_P 182 z hz.1 (fun _ => hz.2))
          have hf13 : ∀ z, (z < cnt ∧ (la z < 10 ∨ 10 < la z) ∧ (la z < 300 ∨ 300 < la z) ∧ (la z < 90 ∨ 90 + 8 < la z) ∧ (la z < 200 ∨ 200 + 3 < la z) ∧ (la z < D ∨ D + 5 < la z)) → c84_U184 z = (U 184) z := fun z hz => (q84_U184 z (tz84 z hz)).trans (hF49_U 184 z hz.1 (fun _ => hz.2))
          have hf14 : ∀ z, (z < cnt ∧ (la z < 10 ∨ 10 < la z) ∧ (la z < 300 ∨ 300 < la z) ∧ (la z < 90 ∨ 90 + 8 < la z) ∧ (la z < 200 ∨ 200 + 3 < la z) ∧ (la z < D ∨ D + 5 < la z)) → c84_V0 z = (V 0) z := fun z hz => (q84_V0 z (tz84 z hz)).trans (hF49_V 0 z hz.1 (fun _ => hz.2))
          have hf15 : ∀ z, (z < cnt ∧ (la z < 10 ∨ 10 < la z) ∧ (la z < 300 ∨ 300 < la z) ∧ (la z < 90 ∨ 90 + 8 < la z) ∧ (la z < 200 ∨ 200 + 3 < la z) ∧ (la z < D ∨ D + 5 < la z)) → c84_V1 z = (V 1) z := fun z hz => (q84_V1 z (tz84 z hz)).trans (hF49_V 1 z hz.1 (fun _ => hz.2))
          have hf16 : ∀ z, (z < cnt ∧ (la z < 10 ∨ 10 < la z) ∧ (la z < 300 ∨ 300 < la z) ∧ (la z < 90 ∨ 90 + 8 < la z) ∧ (la z < 200 ∨ 200 + 3 < la z) ∧ (la z < D ∨ D + 5 < la z)) → c84_V11 z = (V 11) z := fun z hz => (q84_V11 z (tz84 z hz)).trans (hF49_V 11 z hz.1 (fun _ => hz.2))
          have hf17 : ∀ z, (z < cnt ∧ (la z < 10 ∨ 10 < la z) ∧ (la z < 300 ∨ 300 < la z) ∧ (la z < 90 ∨ 90 + 8 < la z) ∧ (la z < 200 ∨ 200 + 3 < la z) ∧ (la z < D ∨ D + 5 < la z)) → c84_X0 z = (X 0) z := fun z hz => (q84_X0 z (tz84 z hz)).trans (hF49_X 0 z hz.1 (fun _ => hz.2))
          clear hc84
          refine pw_nn (fun a88 hn_a88 => ?_)
          have lt_a88 := ((hB49.1 221 fl_221) this a88 hn_a88).2.1
          have lb_a88 : la49_6 a88 = la49_6 this + 3 := lk_221.mp ((hB49.1 221 fl_221) this a88 hn_a88).2.2
          refine pw_nn (fun a96 hn_a96 => ?_)
          obtain ⟨_, lt_a96, lb_a96⟩ := (hB49.1 224 fl_224) this a96 hn_a96
          have ld_a96 := (hdr49 a96 hn_a96).2
          refine pw_if (fun _ => ?_)
          refine pw_vl (fun m99 em99 => ?_)
          have hf18 : ∀ z, (z < cnt ∧ (la z < 10 ∨ 10 < la z) ∧ (la z < 300 ∨ 300 < la z) ∧ (la z < 90 ∨ 90 + 8 < la z) ∧ (la z < 200 ∨ 200 + 3 < la z) ∧ (la z < D ∨ D + 5 < la z)) → m99 z = (O 2) z := fr_up (e0 := (O 2)) (fun z hz => hF49_O 2 z hz.1 (fun _ => hz.2)) em99 (show ¬ (a88 < cnt ∧ (la a88 < 10 ∨ 10 < la a88) ∧ (la a88 < 300 ∨ 300 < la a88) ∧ (la a88 < 90 ∨ 90 + 8 < la a88) ∧ (la a88 < 200 ∨ 200 + 3 < la a88) ∧ (la a88 < D ∨ D + 5 < la a88)) from fun hz => by have q1 := hg49 a88 hz.1; omega)
          refine pw_tk ?_
          refine pw_newc (la := la49_6) (L := 100000 + 10 * c49_cnt) (LB_set (LB_set hB49 ql84_181) ql84_182) (by have q19 := hB49.2 this lt8; omega) (fun la101 G101 P101 U101 V101 X101 O101 kd101 ln101 cnt101 hcn101 hB101 hL101 ag101 qG101 qP101 qU101 qV101 qX101 qO101 ql101 => ?_)
          have hle101 : cnt ≤ c49_cnt := by omega
          have hg101 : ∀ z, z < cnt → la101 z = la z := fun z hz => (ag101 z (Nat.lt_of_lt_of_le hz hle101)).trans (hg49 z hz)
          have hF101_G : FRM cnt [24, 25, 80, 81, 83, 84, 85, 86, 87, 88, 100, 102, 107, 141, 183, 203, 222, 223] (fun z => (la z < 10 ∨ 10 < la z) ∧ (la z < 300 ∨ 300 < la z) ∧ (la z < 90 ∨ 90 + 8 < la z) ∧ (la z < 200 ∨ 200 + 3 < la z) ∧ (la z < D ∨ D + 5 < la z)) G G101 := FRM_trans (FRM_set (FRM_set hF49_G (by decide) (fun z h1 h2 => hf9 z ⟨h1, h2⟩)) (by decide) (fun z h1 h2 => hf10 z ⟨h1, h2⟩)) qG101 hle101 (by decide) (fun _ _ _ => trivial)
          have hF101_P : FRM cnt [22, 23, 82, 181, 182, 224] (fun z => (la z < 10 ∨ 10 < la z) ∧ (la z < 300 ∨ 300 < la z) ∧ (la z < 90 ∨ 90 + 8 < la z) ∧ (la z < 200 ∨ 200 + 3 < la z) ∧ (la z < D ∨ D + 5 < la z)) P P101 := FRM_trans (FRM_set (FRM_set hF49_P (by decide) (fun z h1 h2 => hf11 z ⟨h1, h2⟩)) (by decide) (fun z h1 h2 => hf12 z ⟨h1, h2⟩)) qP101 hle101 (by decide) (fun _ _ _ => trivial)
          have hF101_U : FRM cnt [184] (fun z => (la z < 10 ∨ 10 < la z) ∧ (la z < 300 ∨ 300 < la z) ∧ (la z < 90 ∨ 90 + 8 < la z) ∧ (la z < 200 ∨ 200 + 3 < la z) ∧ (la z < D ∨ D + 5 < la z)) U U101 := FRM_trans (FRM_set hF49_U (by decide) (fun z h1 h2 => hf13 z ⟨h1, h2⟩)) qU101 hle101 (by decide) (fun _ _ _ => trivial)
          have hF101_V : FRM cnt [0, 1, 10, 11] (fun z => (la z < 10 ∨ 10 < la z) ∧ (la z < 300 ∨ 300 < la z) ∧ (la z < 90 ∨ 90 + 8 < la z) ∧ (la z < 200 ∨ 200 + 3 < la z) ∧ (la z < D ∨ D + 5 < la z)) V V101 := FRM_trans (FRM_set (FRM_set (FRM_set hF49_V (by decide) (fun z h1 h2 => hf14 z ⟨h1, h2⟩)) (by decide) (fun z h1 h2 => hf15 z ⟨h1, h2⟩)) (by decide) (fun z h1 h2 => hf16 z ⟨h1, h2⟩)) qV101 hle101 (by decide) (fun _ _ _ => trivial)
          have hF101_X : FRM cnt [0] (fun z => (la z < 10 ∨ 10 < la z) ∧ (la z < 300 ∨ 300 < la z) ∧ (la z < 90 ∨ 90 + 8 < la z) ∧ (la z < 200 ∨ 200 + 3 < la z) ∧ (la z < D ∨ D + 5 < la z)) X X101 := FRM_trans (FRM_set hF49_X (by decide) (fun z h1 h2 => hf17 z ⟨h1, h2⟩)) qX101 hle101 (by decide) (fun _ _ _ => trivial)
          have hF101_O : FRM cnt [0, 2] (fun z => (la z < 10 ∨ 10 < la z) ∧ (la z < 300 ∨ 300 < la z) ∧ (la z < 90 ∨ 90 + 8 < la z) ∧ (la z < 200 ∨ 200 + 3 < la z) ∧ (la z < D ∨ D + 5 < la z)) O O101 := FRM_trans (FRM_set hF49_O (by decide) (fun z h1 h2 => hf18 z ⟨h1, h2⟩)) qO101 hle101 (by decide) (fun _ _ _ => trivial)
          have hln101 : ∀ z, z < cnt → ln101 z = ln z := fun z hz => (ql101 z (Nat.lt_of_lt_of_le hz hle101)).trans (hln49 z hz)
          have g20 := ag101 this lt8
          have lt21 : this < cnt101 := by omega
          have hdr101 : ∀ b, P101 224 this = some b → b < cnt101 ∧ la101 b = D := by
            intro b hb
            rw [qP101 224 this lt8 (fun q => absurd q (by decide))] at hb
            obtain ⟨h2, h3⟩ := hdr49 b hb
            exact ⟨by omega, (ag101 b h2).trans h3⟩
          have ltn101 : c49_cnt < cnt101 := by omega
          refine pw_bA9 (fun c105_G c105_P c105_U c105_V c105_X c105_O c105_kd c105_ln c105_cnt v1_105 v2_105 hc105 => ?_)
          have hq105 := fr_X5_init la101 G101 P101 U101 V101 X101 O101 kd101 ln101 cnt101 c49_cnt hB101 ltn101 _ hc105
          obtain ⟨la105_22, ag105, hB105, cc105, qG105, qP105, qU105, qV105, qX105, qO105, ql105⟩ : ∃ la9 : Nat → Nat, (∀ z, z < cnt101 → la9 z = la101 z) ∧ LB la9 c105_cnt c105_P ∧ cnt101 ≤ c105_cnt ∧ FRM cnt101 [100, 102, 107, 200, 203] (fun z => z ≠ c49_cnt) G101 c105_G ∧ FRM cnt101 [101, 103, 104, 105, 106, 108, 109, 110, 201, 202] (fun z => z ≠ c49_cnt) P101 c105_P ∧ FRM cnt101 [] (fun z => z ≠ c49_cnt) U101 c105_U ∧ FRM cnt101 [] (fun z => z ≠ c49_cnt) V101 c105_V ∧ FRM cnt101 [] (fun z => z ≠ c49_cnt) X101 c105_X ∧ FRM cnt101 [] (fun z => z ≠ c49_cnt) O101 c105_O ∧ (∀ z, z < cnt101 → c105_ln z = ln101 z) := hq105
          have hle105 : cnt ≤ cnt101 := by omega
          have hg105 : ∀ z, z < cnt → la105_22 z = la z := fun z hz => (ag105 z (Nat.lt_of_lt_of_le hz hle105)).trans (hg101 z hz)
          have hF105_G : FRM cnt [24, 25, 80, 81, 83, 84, 85, 86, 87, 88, 100, 102, 107, 141, 183, 203, 222, 223] (fun z => (la z < 10 ∨ 10 < la z) ∧ (la z < 300 ∨ 300 < la z) ∧ (la z < 90 ∨ 90 + 8 < la z) ∧ (la z < 200 ∨ 200 + 3 < la z) ∧ (la z < D ∨ D + 5 < la z)) G c105_G := FRM_tri hF101_G qG105 hle105 (show cnt ≤ c49_cnt from by omega)
          have hF105_P : FRM cnt [22, 23, 82, 181, 182, 224] (fun z => (la z < 10 ∨ 10 < la z) ∧ (la z < 300 ∨ 300 < la z) ∧ (la z < 90 ∨ 90 + 8 < la z) ∧ (la z < 200 ∨ 200 + 3 < la z) ∧ (la z < D ∨ D + 5 < la z)) P c105_P := FRM_tri hF101_P qP105 hle105 (show cnt ≤ c49_cnt from by omega)
          have hF105_U : FRM cnt [184] (fun z => (la z < 10 ∨ 10 < la z) ∧ (la z < 300 ∨ 300 < la z) ∧ (la z < 90 ∨ 90 + 8 < la z) ∧ (la z < 200 ∨ 200 + 3 < la z) ∧ (la z < D ∨ D + 5 < la z)) U c105_U := FRM_tri hF101_U qU105 hle105 (show cnt ≤ c49_cnt from by omega)
          have hF105_V : FRM cnt [0, 1, 10, 11] (fun z => (la z < 10 ∨ 10 < la z) ∧ (la z < 300 ∨ 300 < la z) ∧ (la z < 90 ∨ 90 + 8 < la z) ∧ (la z < 200 ∨ 200 + 3 < la z) ∧ (la z < D ∨ D + 5 < la z)) V c105_V := FRM_tri hF101_V qV105 hle105 (show cnt ≤ c49_cnt from by omega)
          have hF105_X : FRM cnt [0] (fun z => (la z < 10 ∨ 10 < la z) ∧ (la z < 300 ∨ 300 < la z) ∧ (la z < 90 ∨ 90 + 8 < la z) ∧ (la z < 200 ∨ 200 + 3 < la z) ∧ (la z < D ∨ D + 5 < la z)) X c105_X := FRM_tri hF101_X qX105 hle105 (show cnt ≤ c49_cnt from by omega)
          have hF105_O : FRM cnt [0, 2] (fun z => (la z < 10 ∨ 10 < la z) ∧ (la z < 300 ∨ 300 < la z) ∧ (la z < 90 ∨ 90 + 8 < la z) ∧ (la z < 200 ∨ 200 + 3 < la z) ∧ (la z < D ∨ D + 5 < la z)) O c105_O := FRM_tri hF101_O qO105 hle105 (show cnt ≤ c49_cnt from by omega)
          have hln105 : ∀ z, z < cnt → c105_ln z = ln z := fun z hz => (ql105 z (Nat.lt_of_lt_of_le hz hle105)).trans (hln101 z hz)
          have g23 := ag105 this lt21
          have lt24 : this < c105_cnt := by omega
          have g25 := ag105 c49_cnt ltn101
          have lt26 : c49_cnt < c105_cnt := by omega
          have hdr105 : ∀ b, c105_P 224 this = some b → b < c105_cnt ∧ la105_22 b = D := by
            intro b hb
            rw [qP105 224 this lt21 (fun q => absurd q (by decide))] at hb
            obtain ⟨h2, h3⟩ := hdr101 b hb
            exact ⟨by omega, (ag105 b h2).trans h3⟩
          refine pw_vl (fun m108 em108 => ?_)
          have hl27 : LC 224 la105_22 c105_cnt m108 := LC_up (hB105.1 224 fl_224) em108 (by omega) (by omega) (lk_224 _ _)
          have hdr108 : ∀ b, m108 this = some b → b < c105_cnt ∧ la105_22 b = 100000 + 10 * c49_cnt := fun b hb => by rw [em108, va_up_self] at hb; cases hb; exact ⟨by omega, by omega⟩
          have hf28 : ∀ z, (z < cnt ∧ (la z < 10 ∨ 10 < la z) ∧ (la z < 300 ∨ 300 < la z) ∧ (la z < 90 ∨ 90 + 8 < la z) ∧ (la z < 200 ∨ 200 + 3 < la z) ∧ (la z < D ∨ D + 5 < la z)) → m108 z = (P 224) z := fr_up (e0 := (P 224)) (fun z hz => hF105_P 224 z hz.1 (fun _ => hz.2)) em108 (show ¬ (this < cnt ∧ (la this < 10 ∨ 10 < la this) ∧ (la this < 300 ∨ 300 < la this) ∧ (la this < 90 ∨ 90 + 8 < la this) ∧ (la this < 200 ∨ 200 + 3 < la this) ∧ (la this < D ∨ D + 5 < la this)) from fun hz => by have q1 := hg105 this hz.1; omega)
          refine pw_vl (fun m113 em113 => ?_)
          have hf29 : ∀ z, (z < cnt ∧ (la z < 10 ∨ 10 < la z) ∧ (la z < 300 ∨ 300 < la z) ∧ (la z < 90 ∨ 90 + 8 < la z) ∧ (la z < 200 ∨ 200 + 3 < la z) ∧ (la z < D ∨ D + 5 < la z)) → m113 z = (G 223) z := fr_up (e0 := (G 223)) (fun z hz => hF105_G 223 z hz.1 (fun _ => hz.2)) em113 (show ¬ (this < cnt ∧ (la this < 10 ∨ 10 < la this) ∧ (la this < 300 ∨ 300 < la this) ∧ (la this < 90 ∨ 90 + 8 < la this) ∧ (la this < 200 ∨ 200 + 3 < la this) ∧ (la this < D ∨ D + 5 < la this)) from fun hz => by have q1 := hg105 this hz.1; omega)
          refine pw_vl (fun x123 _ => ?_)
          refine pw_vl (fun m123 em123 => ?_)
          have hf30 : ∀ z, (z < cnt ∧ (la z < 10 ∨ 10 < la z) ∧ (la z < 300 ∨ 300 < la z) ∧ (la z < 90 ∨ 90 + 8 < la z) ∧ (la z < 200 ∨ 200 + 3 < la z) ∧ (la z < D ∨ D + 5 < la z)) → m123 z = (G 222) z := fr_up (e0 := (G 222)) (fun z hz => hF105_G 222 z hz.1 (fun _ => hz.2)) em123 (show ¬ (this < cnt ∧ (la this < 10 ∨ 10 < la this) ∧ (la this < 300 ∨ 300 < la this) ∧ (la this < 90 ∨ 90 + 8 < la this) ∧ (la this < 200 ∨ 200 + 3 < la this) ∧ (la this < D ∨ D + 5 < la this)) from fun hz => by have q1 := hg105 this hz.1; omega)
          exact pw_some ⟨la105_22, hg105, (LB_set hB105 hl27), (show cnt ≤ c105_cnt from by omega), (FRM_set (FRM_set hF105_G (by decide) (fun z h1 h2 => hf29 z ⟨h1, h2⟩)) (by decide) (fun z h1 h2 => hf30 z ⟨h1, h2⟩)), (FRM_set hF105_P (by decide) (fun z h1 h2 => hf28 z ⟨h1, h2⟩)), hF105_U, hF105_V, hF105_X, hF105_O, hln105, ⟨(100000 + 10 * c49_cnt), hdr108, by omega⟩⟩
        · skip
          exact pw_some ⟨la49_6, hg49, hB49, (show cnt ≤ c49_cnt from by omega), hF49_G, hF49_P, hF49_U, hF49_V, hF49_X, hF49_O, hln49, ⟨D, hdr49, by omega⟩⟩
      · skip
        exact pw_some ⟨la49_6, hg49, hB49, (show cnt ≤ c49_cnt from by omega), hF49_G, hF49_P, hF49_U, hF49_V, hF49_X, hF49_O, hln49, ⟨D, hdr49, by omega⟩⟩
    · skip
      exact Jj22
abbrev RF_X0_fill (la : Nat → Nat) (G : Nat → Nat → Int32) (P : Nat → Nat → Option Nat) (U : Nat → Nat → Int64) (V : Nat → Nat → Nat → Int32) (X : Nat → Nat → Nat → Int64) (O : Nat → Nat → Nat → Option Nat) (kd : Nat → Nat) (ln : Nat → Nat) (cnt : Nat) (this : Nat) (p0 : Int32) (p1 : Nat) (p2 : Nat) : ((Nat → Nat → Int32) × (Nat → Nat → Option Nat) × (Nat → Nat → Int64) × (Nat → Nat → Nat → Int32) × (Nat → Nat → Nat → Int64) × (Nat → Nat → Nat → Option Nat) × (Nat → Nat) × (Nat → Nat) × Nat) → Prop := fun t => ∃ la1 : Nat → Nat, (∀ z, z < cnt → la1 z = la z) ∧ LB la1 (t.2.2.2.2.2.2.2.2) (t.2.1) ∧ cnt ≤ (t.2.2.2.2.2.2.2.2) ∧ FRM cnt [60, 183, 203] (fun z => (la z < la this ∨ la this + 2 < la z) ∧ (la z < la p2 ∨ la p2 + 8 < la z)) G (t.1) ∧ FRM cnt [66, 181, 182] (fun z => (la z < la this ∨ la this + 2 < la z) ∧ (la z < la p2 ∨ la p2 + 8 < la z)) P (t.2.1) ∧ FRM cnt [184] (fun z => (la z < la this ∨ la this + 2 < la z) ∧ (la z < la p2 ∨ la p2 + 8 < la z)) U (t.2.2.1) ∧ FRM cnt [0, 1, 2, 3, 12] (fun z => (la z < la this ∨ la this + 2 < la z) ∧ (la z < la p2 ∨ la p2 + 8 < la z)) V (t.2.2.2.1) ∧ FRM cnt [1] (fun z => (la z < la this ∨ la this + 2 < la z) ∧ (la z < la p2 ∨ la p2 + 8 < la z)) X (t.2.2.2.2.1) ∧ FRM cnt [1] (fun z => (la z < la this ∨ la this + 2 < la z) ∧ (la z < la p2 ∨ la p2 + 8 < la z)) O (t.2.2.2.2.2.1) ∧ (∀ z, z < cnt → (t.2.2.2.2.2.2.2.1) z = ln z)
set_option maxHeartbeats 4000000 in
set_option maxRecDepth 100000 in
theorem fr_X0_fill (la : Nat → Nat) (G : Nat → Nat → Int32) (P : Nat → Nat → Option Nat) (U : Nat → Nat → Int64) (V : Nat → Nat → Nat → Int32) (X : Nat → Nat → Nat → Int64) (O : Nat → Nat → Nat → Option Nat) (kd : Nat → Nat) (ln : Nat → Nat) (cnt : Nat) (this : Nat) (p0 : Int32) (p1 : Nat) (p2 : Nat) (hB : LB la cnt P) (hlt_this : this < cnt) (hlt_p1 : p1 < cnt) (hlt_p2 : p2 < cnt) : pw (f_X0_fill G P U V X O kd ln cnt this p0 p1 p2) (sp1 (RF_X0_fill la G P U V X O kd ln cnt this p0 p1 p2)) := by
  unfold f_X0_fill
  refine pw_jn (fun k194 => ∀ (c194_G : Nat → Nat → Int32) (c194_P : Nat → Nat → Option Nat) (c194_U : Nat → Nat → Int64) (c194_V : Nat → Nat → Nat → Int32) (c194_X : Nat → Nat → Nat → Int64) (c194_O : Nat → Nat → Nat → Option Nat) (c194_kd : Nat → Nat) (c194_ln : Nat → Nat) (c194_cnt : Nat) (la194 : Nat → Nat), (∀ z, z < cnt → la194 z = la z) → LB la194 c194_cnt c194_P → cnt ≤ c194_cnt → FRM cnt [60, 183, 203] (fun z => (la z < la this ∨ la this + 2 < la z) ∧ (la z < la p2 ∨ la p2 + 8 < la z)) G c194_G → FRM cnt [66, 181, 182] (fun z => (la z < la this ∨ la this + 2 < la z) ∧ (la z < la p2 ∨ la p2 + 8 < la z)) P c194_P → FRM cnt [184] (fun z => (la z < la this ∨ la this + 2 < la z) ∧ (la z < la p2 ∨ la p2 + 8 < la z)) U c194_U → FRM cnt [0, 1, 2, 3, 12] (fun z => (la z < la this ∨ la this + 2 < la z) ∧ (la z < la p2 ∨ la p2 + 8 < la z)) V c194_V → FRM cnt [1] (fun z => (la z < la this ∨ la this + 2 < la z) ∧ (la z < la p2 ∨ la p2 + 8 < la z)) X c194_X → FRM cnt [1] (fun z => (la z < la this ∨ la this + 2 < la z) ∧ (la z < la p2 ∨ la p2 + 8 < la z)) O c194_O → (∀ z, z < cnt → c194_ln z = ln z) → pw (k194 c194_G c194_P c194_U c194_V c194_X c194_O c194_kd c194_ln c194_cnt) (sp1 (RF_X0_fill la G P U V X O kd ln cnt this p0 p1 p2))) ?_ ?_
  · intro c194_G c194_P c194_U c194_V c194_X c194_O c194_kd c194_ln c194_cnt la194 hag194 hB194 hcc194 hF194_G hF194_P hF194_U hF194_V hF194_X hF194_O hln194
    show pw _ _
    have g1 := hag194 this hlt_this
    have lt2 : this < c194_cnt := by omega
    have g3 := hag194 p1 hlt_p1
    have lt4 : p1 < c194_cnt := by omega
    have g5 := hag194 p2 hlt_p2
    have lt6 : p2 < c194_cnt := by omega
    exact pw_some ⟨la194, hag194, hB194, (show cnt ≤ c194_cnt from by omega), hF194_G, hF194_P, hF194_U, hF194_V, hF194_X, hF194_O, hln194⟩
  intro k194 Jk194
  have lp3 : ∀ (n3 : Nat) (y3_4 : Int32) (d3_G : Nat → Nat → Int32) (d3_P : Nat → Nat → Option Nat) (d3_U : Nat → Nat → Int64) (d3_V : Nat → Nat → Nat → Int32) (d3_X : Nat → Nat → Nat → Int64) (d3_O : Nat → Nat → Nat → Option Nat) (d3_kd : Nat → Nat) (d3_ln : Nat → Nat) (d3_cnt : Nat) (la3 : Nat → Nat), (∀ z, z < cnt → la3 z = la z) → LB la3 d3_cnt d3_P → cnt ≤ d3_cnt → FRM cnt [60, 183, 203] (fun z => (la z < la this ∨ la this + 2 < la z) ∧ (la z < la p2 ∨ la p2 + 8 < la z)) G d3_G → FRM cnt [66, 181, 182] (fun z => (la z < la this ∨ la this + 2 < la z) ∧ (la z < la p2 ∨ la p2 + 8 < la z)) P d3_P → FRM cnt [184] (fun z => (la z < la this ∨ la this + 2 < la z) ∧ (la z < la p2 ∨ la p2 + 8 < la z)) U d3_U → FRM cnt [0, 1, 2, 3, 12] (fun z => (la z < la this ∨ la this + 2 < la z) ∧ (la z < la p2 ∨ la p2 + 8 < la z)) V d3_V → FRM cnt [1] (fun z => (la z < la this ∨ la this + 2 < la z) ∧ (la z < la p2 ∨ la p2 + 8 < la z)) X d3_X → FRM cnt [1] (fun z => (la z < la this ∨ la this + 2 < la z) ∧ (la z < la p2 ∨ la p2 + 8 < la z)) O d3_O → (∀ z, z < cnt → d3_ln z = ln z) → pw (L_X0_fill_3 this p0 p1 p2 k194 n3 y3_4 d3_G d3_P d3_U d3_V d3_X d3_O d3_kd d3_ln d3_cnt) (sp1 (RF_X0_fill la G P U V X O kd ln cnt this p0 p1 p2)) := by
    intro n3
    induction n3 with
    | zero => intros; exact pw_none
    | succ n3 ih3 =>
      intro y3_4 d3_G d3_P d3_U d3_V d3_X d3_O d3_kd d3_ln d3_cnt la3 hag3 hB3 hcc3 hF3_G hF3_P hF3_U hF3_V hF3_X hF3_O hln3
      show pw (B_X0_fill_3 this p0 p1 p2 k194 (L_X0_fill_3 this p0 p1 p2 k194 n3) y3_4 d3_G d3_P d3_U d3_V d3_X d3_O d3_kd d3_ln d3_cnt) _
      unfold B_X0_fill_3
      have g7 := hag3 this hlt_this
      have lt8 : this < d3_cnt := by omega
      have g9 := hag3 p1 hlt_p1
      have lt10 : p1 < d3_cnt := by omega
      have g11 := hag3 p2 hlt_p2
      have lt12 : p2 < d3_cnt := by omega
      refine pw_ite (fun _ => ?_) (fun _ => ?_)
      · skip
        exact Jk194 d3_G d3_P d3_U d3_V d3_X d3_O d3_kd d3_ln d3_cnt la3 hag3 hB3 (by omega) hF3_G hF3_P hF3_U hF3_V hF3_X hF3_O hln3
      · skip
        refine pw_ite (fun _ => ?_) (fun _ => ?_)
        · skip
          exact Jk194 d3_G d3_P d3_U d3_V d3_X d3_O d3_kd d3_ln d3_cnt la3 hag3 hB3 (by omega) hF3_G hF3_P hF3_U hF3_V hF3_X hF3_O hln3
        · skip
          refine pw_nn (fun a17 hn_a17 => ?_)
          have lt_a17 := ((hB3.1 3 fl_3) this a17 hn_a17).2.1
          have lb_a17 : la3 a17 = la3 this + 0 := lk_3.mp ((hB3.1 3 fl_3) this a17 hn_a17).2.2
          refine pw_if (fun _ => ?_)
          refine pw_vl (fun x23 _ => ?_)
          refine pw_jn (fun k174 => ∀ (c174_G : Nat → Nat → Int32) (c174_P : Nat → Nat → Option Nat) (c174_U : Nat → Nat → Int64) (c174_V : Nat → Nat → Nat → Int32) (c174_X : Nat → Nat → Nat → Int64) (c174_O : Nat → Nat → Nat → Option Nat) (c174_kd : Nat → Nat) (c174_ln : Nat → Nat) (c174_cnt : Nat) (la174 : Nat → Nat), (∀ z, z < cnt → la174 z = la z) → LB la174 c174_cnt c174_P → cnt ≤ c174_cnt → FRM cnt [60, 183, 203] (fun z => (la z < la this ∨ la this + 2 < la z) ∧ (la z < la p2 ∨ la p2 + 8 < la z)) G c174_G → FRM cnt [66, 181, 182] (fun z => (la z < la this ∨ la this + 2 < la z) ∧ (la z < la p2 ∨ la p2 + 8 < la z)) P c174_P → FRM cnt [184] (fun z => (la z < la this ∨ la this + 2 < la z) ∧ (la z < la p2 ∨ la p2 + 8 < la z)) U c174_U → FRM cnt [0, 1, 2, 3, 12] (fun z => (la z < la this ∨ la this + 2 < la z) ∧ (la z < la p2 ∨ la p2 + 8 < la z)) V c174_V → FRM cnt [1] (fun z => (la z < la this ∨ la this + 2 < la z) ∧ (la z < la p2 ∨ la p2 + 8 < la z)) X c174_X → FRM cnt [1] (fun z => (la z < la this ∨ la this + 2 < la z) ∧ (la z < la p2 ∨ la p2 + 8 < la z)) O c174_O → (∀ z, z < cnt → c174_ln z = ln z) → pw (k174 c174_G c174_P c174_U c174_V c174_X c174_O c174_kd c174_ln c174_cnt) (sp1 (RF_X0_fill la G P U V X O kd ln cnt this p0 p1 p2))) ?_ ?_
          · intro c174_G c174_P c174_U c174_V c174_X c174_O c174_kd c174_ln c174_cnt la174 hag174 hB174 hcc174 hF174_G hF174_P hF174_U hF174_V hF174_X hF174_O hln174
            show pw _ _
            have g13 := hag174 this hlt_this
            have lt14 : this < c174_cnt := by omega
            have g15 := hag174 p1 hlt_p1
            have lt16 : p1 < c174_cnt := by omega
            have g17 := hag174 p2 hlt_p2
            have lt18 : p2 < c174_cnt := by omega
            refine pw_nn (fun a175 hn_a175 => ?_)
            have lt_a175 := ((hB174.1 3 fl_3) this a175 hn_a175).2.1
            have lb_a175 : la174 a175 = la174 this + 0 := lk_3.mp ((hB174.1 3 fl_3) this a175 hn_a175).2.2
            refine pw_nn (fun a181 hn_a181 => ?_)
            have lt_a181 := ((hB174.1 0 fl_0) this a181 hn_a181).2.1
            have lb_a181 : la174 a181 = 20 := lk_0.mp ((hB174.1 0 fl_0) this a181 hn_a181).2.2
            refine pw_if (fun _ => ?_)
            refine pw_vl (fun m187 em187 => ?_)
            have hf19 : ∀ z, (z < cnt ∧ (la z < la this ∨ la this + 2 < la z) ∧ (la z < la p2 ∨ la p2 + 8 < la z)) → m187 z = (V 3) z := fr_up (e0 := (V 3)) (fun z hz => hF174_V 3 z hz.1 (fun _ => hz.2)) em187 (show ¬ (a175 < cnt ∧ (la a175 < la this ∨ la this + 2 < la a175) ∧ (la a175 < la p2 ∨ la p2 + 8 < la a175)) from fun hz => by have q1 := hag174 a175 hz.1; omega)
            exact ih3 (y3_4 + 1) c174_G c174_P c174_U (va_up c174_V 3 m187) c174_X c174_O c174_kd c174_ln c174_cnt la174 hag174 hB174 (by omega) hF174_G hF174_P hF174_U (FRM_set hF174_V (by decide) (fun z h1 h2 => hf19 z ⟨h1, h2⟩)) hF174_X hF174_O hln174
          intro k174 Jk174
          have lp25 : ∀ (n25 : Nat) (y25_5 : Int32) (d25_G : Nat → Nat → Int32) (d25_P : Nat → Nat → Option Nat) (d25_U : Nat → Nat → Int64) (d25_V : Nat → Nat → Nat → Int32) (d25_X : Nat → Nat → Nat → Int64) (d25_O : Nat → Nat → Nat → Option Nat) (d25_kd : Nat → Nat) (d25_ln : Nat → Nat) (d25_cnt : Nat) (la25 : Nat → Nat), (∀ z, z < cnt → la25 z = la z) → LB la25 d25_cnt d25_P → cnt ≤ d25_cnt → FRM cnt [60, 183, 203] (fun z => (la z < la this ∨ la this + 2 < la z) ∧ (la z < la p2 ∨ la p2 + 8 < la z)) G d25_G → FRM cnt [66, 181, 182] (fun z => (la z < la this ∨ la this + 2 < la z) ∧ (la z < la p2 ∨ la p2 + 8 < la z)) P d25_P → FRM cnt [184] (fun z => (la z < la this ∨ la this + 2 < la z) ∧ (la z < la p2 ∨ la p2 + 8 < la z)) U d25_U → FRM cnt [0, 1, 2, 3, 12] (fun z => (la z < la this ∨ la this + 2 < la z) ∧ (la z < la p2 ∨ la p2 + 8 < la z)) V d25_V → FRM cnt [1] (fun z => (la z < la this ∨ la this + 2 < la z) ∧ (la z < la p2 ∨ la p2 + 8 < la z)) X d25_X → FRM cnt [1] (fun z => (la z < la this ∨ la this + 2 < la z) ∧ (la z < la p2 ∨ la p2 + 8 < la z)) O d25_O → (∀ z, z < cnt → d25_ln z = ln z) → pw (L_X0_fill_25 this p1 p2 y3_4 k174 n25 y25_5 d25_G d25_P d25_U d25_V d25_X d25_O d25_kd d25_ln d25_cnt) (sp1 (RF_X0_fill la G P U V X O kd ln cnt this p0 p1 p2)) := by
            intro n25
            induction n25 with
            | zero => intros; exact pw_none
            | succ n25 ih25 =>
              intro y25_5 d25_G d25_P d25_U d25_V d25_X d25_O d25_kd d25_ln d25_cnt la25 hag25 hB25 hcc25 hF25_G hF25_P hF25_U hF25_V hF25_X hF25_O hln25
              show pw (B_X0_fill_25 this p1 p2 y3_4 k174 (L_X0_fill_25 this p1 p2 y3_4 k174 n25) y25_5 d25_G d25_P d25_U d25_V d25_X d25_O d25_kd d25_ln d25_cnt) _
              unfold B_X0_fill_25
              have g20 := hag25 this hlt_this
              have lt21 : this < d25_cnt := by omega
              have g22 := hag25 p1 hlt_p1
              have lt23 : p1 < d25_cnt := by omega
              have g24 := hag25 p2 hlt_p2
              have lt25 : p2 < d25_cnt := by omega
              refine pw_nn (fun a28 hn_a28 => ?_)
              have lt_a28 := ((hB25.1 0 fl_0) this a28 hn_a28).2.1
              have lb_a28 : la25 a28 = 20 := lk_0.mp ((hB25.1 0 fl_0) this a28 hn_a28).2.2
              refine pw_ite (fun _ => ?_) (fun _ => ?_)
              · skip
                exact Jk174 d25_G d25_P d25_U d25_V d25_X d25_O d25_kd d25_ln d25_cnt la25 hag25 hB25 (by omega) hF25_G hF25_P hF25_U hF25_V hF25_X hF25_O hln25
              · skip
                refine pw_nn (fun a38 hn_a38 => ?_)
                have lt_a38 := ((hB25.1 4 fl_4) this a38 hn_a38).2.1
                have lb_a38 : la25 a38 = la25 this + 1 := lk_4.mp ((hB25.1 4 fl_4) this a38 hn_a38).2.2
                refine pw_vl (fun m42 em42 => ?_)
                have hf26 : ∀ z, (z < cnt ∧ (la z < la this ∨ la this + 2 < la z) ∧ (la z < la p2 ∨ la p2 + 8 < la z)) → m42 z = (G 203) z := fr_up (e0 := (G 203)) (fun z hz => hF25_G 203 z hz.1 (fun _ => hz.2)) em42 (show ¬ (a38 < cnt ∧ (la a38 < la this ∨ la this + 2 < la a38) ∧ (la a38 < la p2 ∨ la p2 + 8 < la a38)) from fun hz => by have q1 := hag25 a38 hz.1; omega)
                refine pw_jn (fun j126 => ∀ (c126_G60 : Nat → Int32) (c126_G183 : Nat → Int32) (c126_G203 : Nat → Int32) (c126_P66 : Nat → Option Nat) (c126_P181 : Nat → Option Nat) (c126_P182 : Nat → Option Nat) (c126_U184 : Nat → Int64) (c126_V0 : Nat → Nat → Int32) (c126_V1 : Nat → Nat → Int32) (c126_V2 : Nat → Nat → Int32) (c126_V12 : Nat → Nat → Int32) (c126_X1 : Nat → Nat → Int64), (∀ z, (z < cnt ∧ (la z < la this ∨ la this + 2 < la z) ∧ (la z < la p2 ∨ la p2 + 8 < la z)) → c126_G60 z = (G 60) z) → (∀ z, (z < cnt ∧ (la z < la this ∨ la this + 2 < la z) ∧ (la z < la p2 ∨ la p2 + 8 < la z)) → c126_G183 z = (G 183) z) → (∀ z, (z < cnt ∧ (la z < la this ∨ la this + 2 < la z) ∧ (la z < la p2 ∨ la p2 + 8 < la z)) → c126_G203 z = (G 203) z) → (∀ z, (z < cnt ∧ (la z < la this ∨ la this + 2 < la z) ∧ (la z < la p2 ∨ la p2 + 8 < la z)) → c126_P66 z = (P 66) z) → LC 66 la25 d25_cnt c126_P66 → (∀ z, (z < cnt ∧ (la z < la this ∨ la this + 2 < la z) ∧ (la z < la p2 ∨ la p2 + 8 < la z)) → c126_P181 z = (P 181) z) → LC 181 la25 d25_cnt c126_P181 → (∀ z, (z < cnt ∧ (la z < la this ∨ la this + 2 < la z) ∧ (la z < la p2 ∨ la p2 + 8 < la z)) → c126_P182 z = (P 182) z) → LC 182 la25 d25_cnt c126_P182 → (∀ z, (z < cnt ∧ (la z < la this ∨ la this + 2 < la z) ∧ (la z < la p2 ∨ la p2 + 8 < la z)) → c126_U184 z = (U 184) z) → (∀ z, (z < cnt ∧ (la z < la this ∨ la this + 2 < la z) ∧ (la z < la p2 ∨ la p2 + 8 < la z)) → c126_V0 z = (V 0) z) → (∀ z, (z < cnt ∧ (la z < la this ∨ la this + 2 < la z) ∧ (la z < la p2 ∨ la p2 + 8 < la z)) → c126_V1 z = (V 1) z) → (∀ z, (z < cnt ∧ (la z < la this ∨ la this + 2 < la z) ∧ (la z < la p2 ∨ la p2 + 8 < la z)) → c126_V2 z = (V 2) z) → (∀ z, (z < cnt ∧ (la z < la this ∨ la this + 2 < la z) ∧ (la z < la p2 ∨ la p2 + 8 < la z)) → c126_V12 z = (V 12) z) → (∀ z, (z < cnt ∧ (la z < la this ∨ la this + 2 < la z) ∧ (la z < la p2 ∨ la p2 + 8 < la z)) → c126_X1 z = (X 1) z) → pw (j126 c126_G60 c126_G183 c126_G203 c126_P66 c126_P181 c126_P182 c126_U184 c126_V0 c126_V1 c126_V2 c126_V12 c126_X1) (sp1 (RF_X0_fill la G P U V X O kd ln cnt this p0 p1 p2))) ?_ ?_
                · intro c126_G60 c126_G183 c126_G203 c126_P66 c126_P181 c126_P182 c126_U184 c126_V0 c126_V1 c126_V2 c126_V12 c126_X1 hf27 hf28 hf29 hf30 hl31 hf32 hl33 hf34 hl35 hf36 hf37 hf38 hf39 hf40 hf41
                  show pw _ _
                  refine pw_tk ?_
                  refine pw_newc (la := la25) (L := 100000 + 10 * d25_cnt) (LB_set (LB_set (LB_set hB25 hl31) hl33) hl35) (by have q42 := hB25.2 this lt21; omega) (fun la126 G126 P126 U126 V126 X126 O126 kd126 ln126 cnt126 hcn126 hB126 hL126 ag126 qG126 qP126 qU126 qV126 qX126 qO126 ql126 => ?_)
                  have hle126 : cnt ≤ d25_cnt := by omega
                  have hg126 : ∀ z, z < cnt → la126 z = la z := fun z hz => (ag126 z (Nat.lt_of_lt_of_le hz hle126)).trans (hag25 z hz)
                  have hF126_G : FRM cnt [60, 183, 203] (fun z => (la z < la this ∨ la this + 2 < la z) ∧ (la z < la p2 ∨ la p2 + 8 < la z)) G G126 := FRM_trans (FRM_set (FRM_set (FRM_set hF25_G (by decide) (fun z h1 h2 => hf27 z ⟨h1, h2⟩)) (by decide) (fun z h1 h2 => hf28 z ⟨h1, h2⟩)) (by decide) (fun z h1 h2 => hf29 z ⟨h1, h2⟩)) qG126 hle126 (by decide) (fun _ _ _ => trivial)
                  have hF126_P : FRM cnt [66, 181, 182] (fun z => (la z < la this ∨ la this + 2 < la z) ∧ (la z < la p2 ∨ la p2 + 8 < la z)) P P126 := FRM_trans (FRM_set (FRM_set (FRM_set hF25_P (by decide) (fun z h1 h2 => hf30 z ⟨h1, h2⟩)) (by decide) (fun z h1 h2 => hf32 z ⟨h1, h2⟩)) (by decide) (fun z h1 h2 => hf34 z ⟨h1, h2⟩)) qP126 hle126 (by decide) (fun _ _ _ => trivial)
                  have hF126_U : FRM cnt [184] (fun z => (la z < la this ∨ la this + 2 < la z) ∧ (la z < la p2 ∨ la p2 + 8 < la z)) U U126 := FRM_trans (FRM_set hF25_U (by decide) (fun z h1 h2 => hf36 z ⟨h1, h2⟩)) qU126 hle126 (by decide) (fun _ _ _ => trivial)
                  have hF126_V : FRM cnt [0, 1, 2, 3, 12] (fun z => (la z < la this ∨ la this + 2 < la z) ∧ (la z < la p2 ∨ la p2 + 8 < la z)) V V126 := FRM_trans (FRM_set (FRM_set (FRM_set (FRM_set hF25_V (by decide) (fun z h1 h2 => hf37 z ⟨h1, h2⟩)) (by decide) (fun z h1 h2 => hf38 z ⟨h1, h2⟩)) (by decide) (fun z h1 h2 => hf39 z ⟨h1, h2⟩)) (by decide) (fun z h1 h2 => hf40 z ⟨h1, h2⟩)) qV126 hle126 (by decide) (fun _ _ _ => trivial)
                  have hF126_X : FRM cnt [1] (fun z => (la z < la this ∨ la this + 2 < la z) ∧ (la z < la p2 ∨ la p2 + 8 < la z)) X X126 := FRM_trans (FRM_set hF25_X (by decide) (fun z h1 h2 => hf41 z ⟨h1, h2⟩)) qX126 hle126 (by decide) (fun _ _ _ => trivial)
                  have hF126_O : FRM cnt [1] (fun z => (la z < la this ∨ la this + 2 < la z) ∧ (la z < la p2 ∨ la p2 + 8 < la z)) O O126 := FRM_trans hF25_O qO126 hle126 (by decide) (fun _ _ _ => trivial)
                  have hln126 : ∀ z, z < cnt → ln126 z = ln z := fun z hz => (ql126 z (Nat.lt_of_lt_of_le hz hle126)).trans (hln25 z hz)
                  have g43 := ag126 this lt21
                  have lt44 : this < cnt126 := by omega
                  have g45 := ag126 p1 lt23
                  have lt46 : p1 < cnt126 := by omega
                  have g47 := ag126 p2 lt25
                  have lt48 : p2 < cnt126 := by omega
                  have ltn126 : d25_cnt < cnt126 := by omega
                  refine pw_nn (fun a131 hn_a131 => ?_)
                  have lt_a131 := ((hB126.1 4 fl_4) this a131 hn_a131).2.1
                  have lb_a131 : la126 a131 = la126 this + 1 := lk_4.mp ((hB126.1 4 fl_4) this a131 hn_a131).2.2
                  refine pw_bA9 (fun c139_G c139_P c139_U c139_V c139_X c139_O c139_kd c139_ln c139_cnt v1_139 v2_139 hc139 => ?_)
                  have hq139 := fr_X10_init la126 G126 P126 U126 V126 X126 O126 kd126 ln126 cnt126 d25_cnt ((G126 203) a131) (24 : Int32) hB126 ltn126 _ hc139
                  obtain ⟨la139_49, ag139, hB139, cc139, qG139, qP139, qU139, qV139, qX139, qO139, ql139⟩ : ∃ la9 : Nat → Nat, (∀ z, z < cnt126 → la9 z = la126 z) ∧ LB la9 c139_cnt c139_P ∧ cnt126 ≤ c139_cnt ∧ FRM cnt126 [200, 203] (fun z => z ≠ d25_cnt) G126 c139_G ∧ FRM cnt126 [201, 202] (fun z => z ≠ d25_cnt) P126 c139_P ∧ FRM cnt126 [] (fun z => z ≠ d25_cnt) U126 c139_U ∧ FRM cnt126 [] (fun z => z ≠ d25_cnt) V126 c139_V ∧ FRM cnt126 [] (fun z => z ≠ d25_cnt) X126 c139_X ∧ FRM cnt126 [] (fun z => z ≠ d25_cnt) O126 c139_O ∧ (∀ z, z < cnt126 → c139_ln z = ln126 z) := hq139
                  have hle139 : cnt ≤ cnt126 := by omega
                  have hg139 : ∀ z, z < cnt → la139_49 z = la z := fun z hz => (ag139 z (Nat.lt_of_lt_of_le hz hle139)).trans (hg126 z hz)
                  have hF139_G : FRM cnt [60, 183, 203] (fun z => (la z < la this ∨ la this + 2 < la z) ∧ (la z < la p2 ∨ la p2 + 8 < la z)) G c139_G := FRM_tri hF126_G qG139 hle139 (show cnt ≤ d25_cnt from by omega)
                  have hF139_P : FRM cnt [66, 181, 182] (fun z => (la z < la this ∨ la this + 2 < la z) ∧ (la z < la p2 ∨ la p2 + 8 < la z)) P c139_P := FRM_tri hF126_P qP139 hle139 (show cnt ≤ d25_cnt from by omega)
                  have hF139_U : FRM cnt [184] (fun z => (la z < la this ∨ la this + 2 < la z) ∧ (la z < la p2 ∨ la p2 + 8 < la z)) U c139_U := FRM_tri hF126_U qU139 hle139 (show cnt ≤ d25_cnt from by omega)
                  have hF139_V : FRM cnt [0, 1, 2, 3, 12] (fun z => (la z < la this ∨ la this + 2 < la z) ∧ (la z < la p2 ∨ la p2 + 8 < la z)) V c139_V := FRM_tri hF126_V qV139 hle139 (show cnt ≤ d25_cnt from by omega)
                  have hF139_X : FRM cnt [1] (fun z => (la z < la this ∨ la this + 2 < la z) ∧ (la z < la p2 ∨ la p2 + 8 < la z)) X c139_X := FRM_tri hF126_X qX139 hle139 (show cnt ≤ d25_cnt from by omega)
                  have hF139_O : FRM cnt [1] (fun z => (la z < la this ∨ la this + 2 < la z) ∧ (la z < la p2 ∨ la p2 + 8 < la z)) O c139_O := FRM_tri hF126_O qO139 hle139 (show cnt ≤ d25_cnt from by omega)
                  have hln139 : ∀ z, z < cnt → c139_ln z = ln z := fun z hz => (ql139 z (Nat.lt_of_lt_of_le hz hle139)).trans (hln126 z hz)
                  have g50 := ag139 this lt44
                  have lt51 : this < c139_cnt := by omega
                  have g52 := ag139 p1 lt46
                  have lt53 : p1 < c139_cnt := by omega
                  have g54 := ag139 p2 lt48
                  have lt55 : p2 < c139_cnt := by omega
                  have g56 := ag139 d25_cnt ltn126
                  have lt57 : d25_cnt < c139_cnt := by omega
                  refine pw_nn (fun a147 hn_a147 => ?_)
                  have lt_a147 := ((hB139.1 4 fl_4) this a147 hn_a147).2.1
                  have lb_a147 : la139_49 a147 = la139_49 this + 1 := lk_4.mp ((hB139.1 4 fl_4) this a147 hn_a147).2.2
                  refine pw_b3 (fun c150_G203 c150_V0 c150_V1 hc150 => ?_)
                  have hq150 := fr_X10_copy la139_49 c139_G c139_P c139_U c139_V c139_X c139_O c139_kd c139_ln c139_cnt d25_cnt a147 hB139 _ hc150
                  obtain ⟨q150_G203, q150_V0, q150_V1⟩ : (∀ z, (la139_49 z < la139_49 d25_cnt ∨ la139_49 d25_cnt < la139_49 z) → c150_G203 z = (c139_G 203) z) ∧ (∀ z, (la139_49 z < la139_49 d25_cnt ∨ la139_49 d25_cnt < la139_49 z) → c150_V0 z = (c139_V 0) z) ∧ (∀ z, (la139_49 z < la139_49 d25_cnt ∨ la139_49 d25_cnt < la139_49 z) → c150_V1 z = (c139_V 1) z) := hq150
                  have tz150 : ∀ z, (z < cnt ∧ (la z < la this ∨ la this + 2 < la z) ∧ (la z < la p2 ∨ la p2 + 8 < la z)) → ((la139_49 z < la139_49 d25_cnt ∨ la139_49 d25_cnt < la139_49 z)) := fun z hz => by have q1 := hg139 z hz.1; have q2 := hB.2 z hz.1; omega
                  have hf58 : ∀ z, (z < cnt ∧ (la z < la this ∨ la this + 2 < la z) ∧ (la z < la p2 ∨ la p2 + 8 < la z)) → c150_G203 z = (G 203) z := fun z hz => (q150_G203 z (tz150 z hz)).trans (hF139_G 203 z hz.1 (fun _ => hz.2))
                  have hf59 : ∀ z, (z < cnt ∧ (la z < la this ∨ la this + 2 < la z) ∧ (la z < la p2 ∨ la p2 + 8 < la z)) → c150_V0 z = (V 0) z := fun z hz => (q150_V0 z (tz150 z hz)).trans (hF139_V 0 z hz.1 (fun _ => hz.2))
                  have hf60 : ∀ z, (z < cnt ∧ (la z < la this ∨ la this + 2 < la z) ∧ (la z < la p2 ∨ la p2 + 8 < la z)) → c150_V1 z = (V 1) z := fun z hz => (q150_V1 z (tz150 z hz)).trans (hF139_V 1 z hz.1 (fun _ => hz.2))
                  clear hc150
                  refine pw_nn (fun a154 hn_a154 => ?_)
                  have lt_a154 := ((hB139.1 1 fl_1) this a154 hn_a154).2.1
                  have lb_a154 : la139_49 a154 = la139_49 this + 0 := lk_1.mp ((hB139.1 1 fl_1) this a154 hn_a154).2.2
                  refine pw_if (fun _ => ?_)
                  refine pw_vl (fun m167 em167 => ?_)
                  have hf61 : ∀ z, (z < cnt ∧ (la z < la this ∨ la this + 2 < la z) ∧ (la z < la p2 ∨ la p2 + 8 < la z)) → m167 z = (O 1) z := fr_up (e0 := (O 1)) (fun z hz => hF139_O 1 z hz.1 (fun _ => hz.2)) em167 (show ¬ (a154 < cnt ∧ (la a154 < la this ∨ la this + 2 < la a154) ∧ (la a154 < la p2 ∨ la p2 + 8 < la a154)) from fun hz => by have q1 := hg139 a154 hz.1; omega)
                  exact ih25 (y25_5 + 1) (va_up c139_G 203 c150_G203) c139_P c139_U (va_up (va_up c139_V 0 c150_V0) 1 c150_V1) c139_X (va_up c139_O 1 m167) c139_kd c139_ln c139_cnt la139_49 hg139 hB139 (by omega) (FRM_set hF139_G (by decide) (fun z h1 h2 => hf58 z ⟨h1, h2⟩)) hF139_P hF139_U (FRM_set (FRM_set hF139_V (by decide) (fun z h1 h2 => hf59 z ⟨h1, h2⟩)) (by decide) (fun z h1 h2 => hf60 z ⟨h1, h2⟩)) hF139_X (FRM_set hF139_O (by decide) (fun z h1 h2 => hf61 z ⟨h1, h2⟩)) hln139
                intro j126 Jj126
                refine pw_ite (fun _ => ?_) (fun _ => ?_)
                · skip
                  refine pw_nn (fun a51 hn_a51 => ?_)
                  have lt_a51 := ((hB25.1 4 fl_4) this a51 hn_a51).2.1
                  have lb_a51 : la25 a51 = la25 this + 1 := lk_4.mp ((hB25.1 4 fl_4) this a51 hn_a51).2.2
                  refine pw_nn (fun a55 hn_a55 => ?_)
                  have lt_a55 := ((hB25.1 0 fl_0) this a55 hn_a55).2.1
                  have lb_a55 : la25 a55 = 20 := lk_0.mp ((hB25.1 0 fl_0) this a55 hn_a55).2.2
                  refine pw_nn (fun a58 hn_a58 => ?_)
                  have lt_a58 := ((hB25.1 201 fl_201) a55 a58 hn_a58).2.1
                  have lb_a58 : la25 a58 = la25 a55 + 0 := lk_201.mp ((hB25.1 201 fl_201) a55 a58 hn_a58).2.2
                  refine pw_nn (fun a64 hn_a64 => ?_)
                  have lt_a64 := ((hB25.1 0 fl_0) this a64 hn_a64).2.1
                  have lb_a64 : la25 a64 = 20 := lk_0.mp ((hB25.1 0 fl_0) this a64 hn_a64).2.2
                  refine pw_nn (fun a72 hn_a72 => ?_)
                  have lt_a72 := ((hB25.1 0 fl_0) this a72 hn_a72).2.1
                  have lb_a72 : la25 a72 = 20 := lk_0.mp ((hB25.1 0 fl_0) this a72 hn_a72).2.2
                  refine pw_nn (fun a75 hn_a75 => ?_)
                  have lt_a75 := ((hB25.1 202 fl_202) a72 a75 hn_a75).2.1
                  have lb_a75 : la25 a75 = la25 a72 + 0 := lk_202.mp ((hB25.1 202 fl_202) a72 a75 hn_a75).2.2
                  refine pw_if (fun _ => ?_)
                  refine pw_b3 (fun c81_G203 c81_V0 c81_V1 hc81 => ?_)
                  have hq81 := fr_X10_add la25 (va_up d25_G 203 m42) d25_P d25_U d25_V d25_X d25_O d25_kd d25_ln d25_cnt a51 a58 (y25_5 * ((d25_G 200) a64)) (((d25_V 1) a75) (Int32.toNatClampNeg y25_5)) hB25 _ hc81
                  obtain ⟨q81_G203, q81_V0, q81_V1⟩ : (∀ z, (la25 z < la25 a51 ∨ la25 a51 < la25 z) → c81_G203 z = m42 z) ∧ (∀ z, (la25 z < la25 a51 ∨ la25 a51 < la25 z) → c81_V0 z = (d25_V 0) z) ∧ (∀ z, (la25 z < la25 a51 ∨ la25 a51 < la25 z) → c81_V1 z = (d25_V 1) z) := hq81
                  have tz81 : ∀ z, (z < cnt ∧ (la z < la this ∨ la this + 2 < la z) ∧ (la z < la p2 ∨ la p2 + 8 < la z)) → ((la25 z < la25 a51 ∨ la25 a51 < la25 z)) := fun z hz => by have q1 := hag25 z hz.1; have q2 := hB.2 z hz.1; omega
                  have hf62 : ∀ z, (z < cnt ∧ (la z < la this ∨ la this + 2 < la z) ∧ (la z < la p2 ∨ la p2 + 8 < la z)) → c81_G203 z = (G 203) z := fun z hz => (q81_G203 z (tz81 z hz)).trans (hf26 z hz)
                  have hf63 : ∀ z, (z < cnt ∧ (la z < la this ∨ la this + 2 < la z) ∧ (la z < la p2 ∨ la p2 + 8 < la z)) → c81_V0 z = (V 0) z := fun z hz => (q81_V0 z (tz81 z hz)).trans (hF25_V 0 z hz.1 (fun _ => hz.2))
                  have hf64 : ∀ z, (z < cnt ∧ (la z < la this ∨ la this + 2 < la z) ∧ (la z < la p2 ∨ la p2 + 8 < la z)) → c81_V1 z = (V 1) z := fun z hz => (q81_V1 z (tz81 z hz)).trans (hF25_V 1 z hz.1 (fun _ => hz.2))
                  clear hc81
                  exact Jj126 (d25_G 60) (d25_G 183) c81_G203 (d25_P 66) (d25_P 181) (d25_P 182) (d25_U 184) c81_V0 c81_V1 (d25_V 2) (d25_V 12) (d25_X 1) (fun z hz => hF25_G 60 z hz.1 (fun _ => hz.2)) (fun z hz => hF25_G 183 z hz.1 (fun _ => hz.2)) hf62 (fun z hz => hF25_P 66 z hz.1 (fun _ => hz.2)) (hB25.1 66 fl_66) (fun z hz => hF25_P 181 z hz.1 (fun _ => hz.2)) (hB25.1 181 fl_181) (fun z hz => hF25_P 182 z hz.1 (fun _ => hz.2)) (hB25.1 182 fl_182) (fun z hz => hF25_U 184 z hz.1 (fun _ => hz.2)) hf63 hf64 (fun z hz => hF25_V 2 z hz.1 (fun _ => hz.2)) (fun z hz => hF25_V 12 z hz.1 (fun _ => hz.2)) (fun z hz => hF25_X 1 z hz.1 (fun _ => hz.2))
                · skip
                  refine pw_nn (fun a88 hn_a88 => ?_)
                  have lt_a88 := ((hB25.1 2 fl_2) this a88 hn_a88).2.1
                  have lb_a88 : la25 a88 = la25 this + 0 := lk_2.mp ((hB25.1 2 fl_2) this a88 hn_a88).2.2
                  refine pw_if (fun _ => ?_)
                  refine pw_vl (fun o107 _ => ?_)
                  refine pw_b1 (fun r115 hc115 => ?_)
                  clear hc115
                  refine pw_nn (fun a119 hn_a119 => ?_)
                  have lt_a119 := ((hB25.1 4 fl_4) this a119 hn_a119).2.1
                  have lb_a119 : la25 a119 = la25 this + 1 := lk_4.mp ((hB25.1 4 fl_4) this a119 hn_a119).2.2
                  refine pw_b12 (fun r122 c122_G60 c122_G183 c122_G203 c122_P66 c122_P181 c122_P182 c122_U184 c122_V0 c122_V1 c122_V2 c122_V12 hc122 => ?_)
                  have hq122 := fr_X9_turnForms la25 (va_up d25_G 203 m42) d25_P d25_U d25_V d25_X d25_O d25_kd d25_ln d25_cnt p2 o107 r115 a119 hB25 lt25 _ hc122
                  obtain ⟨q122_G60, q122_G183, q122_G203, q122_P66, q122_P181, q122_P182, q122_U184, q122_V0, q122_V1, q122_V2, q122_V12, ql122_66, ql122_181, ql122_182⟩ : (∀ z, (la25 z < la25 p2 ∨ la25 p2 + 8 < la25 z) ∧ (la25 z < la25 a119 ∨ la25 a119 < la25 z) → c122_G60 z = (d25_G 60) z) ∧ (∀ z, (la25 z < la25 p2 ∨ la25 p2 + 8 < la25 z) ∧ (la25 z < la25 a119 ∨ la25 a119 < la25 z) → c122_G183 z = (d25_G 183) z) ∧ (∀ z, (la25 z < la25 p2 ∨ la25 p2 + 8 < la25 z) ∧ (la25 z < la25 a119 ∨ la25 a119 < la25 z) → c122_G203 z = m42 z) ∧ (∀ z, (la25 z < la25 p2 ∨ la25 p2 + 8 < la25 z) ∧ (la25 z < la25 a119 ∨ la25 a119 < la25 z) → c122_P66 z = (d25_P 66) z) ∧ (∀ z, (la25 z < la25 p2 ∨ la25 p2 + 8 < la25 z) ∧ (la25 z < la25 a119 ∨ la25 a119 < la25 z) → c122_P181 z = (d25_P 181) z) ∧ (∀ z, (la25 z < la25 p2 ∨ la25 p2 + 8 < la25 z) ∧ (la25 z < la25 a119 ∨ la25 a119 < la25 z) → c122_P182 z = (d25_P 182) z) ∧ (∀ z, (la25 z < la25 p2 ∨ la25 p2 + 8 < la25 z) ∧ (la25 z < la25 a119 ∨ la25 a119 < la25 z) → c122_U184 z = (d25_U 184) z) ∧ (∀ z, (la25 z < la25 p2 ∨ la25 p2 + 8 < la25 z) ∧ (la25 z < la25 a119 ∨ la25 a119 < la25 z) → c122_V0 z = (d25_V 0) z) ∧ (∀ z, (la25 z < la25 p2 ∨ la25 p2 + 8 < la25 z) ∧ (la25 z < la25 a119 ∨ la25 a119 < la25 z) → c122_V1 z = (d25_V 1) z) ∧ (∀ z, (la25 z < la25 p2 ∨ la25 p2 + 8 < la25 z) ∧ (la25 z < la25 a119 ∨ la25 a119 < la25 z) → c122_V2 z = (d25_V 2) z) ∧ (∀ z, (la25 z < la25 p2 ∨ la25 p2 + 8 < la25 z) ∧ (la25 z < la25 a119 ∨ la25 a119 < la25 z) → c122_V12 z = (d25_V 12) z) ∧ LC 66 la25 d25_cnt c122_P66 ∧ LC 181 la25 d25_cnt c122_P181 ∧ LC 182 la25 d25_cnt c122_P182 := hq122
                  have tz122 : ∀ z, (z < cnt ∧ (la z < la this ∨ la this + 2 < la z) ∧ (la z < la p2 ∨ la p2 + 8 < la z)) → ((la25 z < la25 p2 ∨ la25 p2 + 8 < la25 z) ∧ (la25 z < la25 a119 ∨ la25 a119 < la25 z)) := fun z hz => by have q1 := hag25 z hz.1; have q2 := hB.2 z hz.1; omega
                  have hf65 : ∀ z, (z < cnt ∧ (la z < la this ∨ la this + 2 < la z) ∧ (la z < la p2 ∨ la p2 + 8 < la z)) → c122_G60 z = (G 60) z := fun z hz => (q122_G60 z (tz122 z hz)).trans (hF25_G 60 z hz.1 (fun _ => hz.2))
                  have hf66 : ∀ z, (z < cnt ∧ (la z < la this ∨ la this + 2 < la z) ∧ (la z < la p2 ∨ la p2 + 8 < la z)) → c122_G183 z = (G 183) z := fun z hz => (q122_G183 z (tz122 z hz)).trans (hF25_G 183 z hz.1 (fun _ => hz.2))
                  have hf67 : ∀ z, (z < cnt ∧ (la z < la this ∨ la this + 2 < la z) ∧ (la z < la p2 ∨ la p2 + 8 < la z)) → c122_G203 z = (G 203) z := fun z hz => (q122_G203 z (tz122 z hz)).trans (hf26 z hz)
                  have hf68 : ∀ z, (z < cnt ∧ (la z < la this ∨ la this + 2 < la z) ∧ (la z < la p2 ∨ la p2 + 8 < la z)) → c122_P66 z = (P 66) z := fun z hz => (q122_P66 z (tz122 z hz)).trans (hF25_P 66 z hz.1 (fun _ => hz.2))
                  have hf69 : ∀ z, (z < cnt ∧ (la z < la this ∨ la this + 2 < la z) ∧ (la z < la p2 ∨ la p2 + 8 < la z)) → c122_P181 z = (P 181) z := fun z hz => (q122_P181 z (tz122 z hz)).trans (hF25_P 181 z hz.1 (fun _ => hz.2))
                  have hf70 : ∀ z, (z < cnt ∧ (la z < la this ∨ la this + 2 < la z) ∧ (la z < la p2 ∨ la p2 + 8 < la z)) → c122_P182 z = (P 182) z := fun z hz => (q122_P182 z (tz122 z hz)).trans (hF25_P 182 z hz.1 (fun _ => hz.2))
                  have hf71 : ∀ z, (z < cnt ∧ (la z < la this ∨ la this + 2 < la z) ∧ (la z < la p2 ∨ la p2 + 8 < la z)) → c122_U184 z = (U 184) z := fun z hz => (q122_U184 z (tz122 z hz)).trans (hF25_U 184 z hz.1 (fun _ => hz.2))
                  have hf72 : ∀ z, (z < cnt ∧ (la z < la this ∨ la this + 2 < la z) ∧ (la z < la p2 ∨ la p2 + 8 < la z)) → c122_V0 z = (V 0) z := fun z hz => (q122_V0 z (tz122 z hz)).trans (hF25_V 0 z hz.1 (fun _ => hz.2))
                  have hf73 : ∀ z, (z < cnt ∧ (la z < la this ∨ la this + 2 < la z) ∧ (la z < la p2 ∨ la p2 + 8 < la z)) → c122_V1 z = (V 1) z := fun z hz => (q122_V1 z (tz122 z hz)).trans (hF25_V 1 z hz.1 (fun _ => hz.2))
                  have hf74 : ∀ z, (z < cnt ∧ (la z < la this ∨ la this + 2 < la z) ∧ (la z < la p2 ∨ la p2 + 8 < la z)) → c122_V2 z = (V 2) z := fun z hz => (q122_V2 z (tz122 z hz)).trans (hF25_V 2 z hz.1 (fun _ => hz.2))
                  have hf75 : ∀ z, (z < cnt ∧ (la z < la this ∨ la this + 2 < la z) ∧ (la z < la p2 ∨ la p2 + 8 < la z)) → c122_V12 z = (V 12) z := fun z hz => (q122_V12 z (tz122 z hz)).trans (hF25_V 12 z hz.1 (fun _ => hz.2))
                  clear hc122
                  refine pw_if (fun _ => ?_)
                  refine pw_vl (fun m125 em125 => ?_)
                  have hf76 : ∀ z, (z < cnt ∧ (la z < la this ∨ la this + 2 < la z) ∧ (la z < la p2 ∨ la p2 + 8 < la z)) → m125 z = (X 1) z := fr_up (e0 := (X 1)) (fun z hz => hF25_X 1 z hz.1 (fun _ => hz.2)) em125 (show ¬ (a88 < cnt ∧ (la a88 < la this ∨ la this + 2 < la a88) ∧ (la a88 < la p2 ∨ la p2 + 8 < la a88)) from fun hz => by have q1 := hag25 a88 hz.1; omega)
                  exact Jj126 c122_G60 c122_G183 c122_G203 c122_P66 c122_P181 c122_P182 c122_U184 c122_V0 c122_V1 c122_V2 c122_V12 m125 hf65 hf66 hf67 hf68 ql122_66 hf69 ql122_181 hf70 ql122_182 hf71 hf72 hf73 hf74 hf75 hf76
          exact lp25 NN x23 d3_G d3_P d3_U d3_V d3_X d3_O d3_kd d3_ln d3_cnt la3 hag3 hB3 (by omega) hF3_G hF3_P hF3_U hF3_V hF3_X hF3_O hln3
  exact lp3 NN 0 G P U V X O kd ln cnt la (fun _ _ => rfl) hB (Nat.le_refl _) FRM_refl FRM_refl FRM_refl FRM_refl FRM_refl FRM_refl (fun _ _ => rfl)
abbrev RF_X11_back (la : Nat → Nat) (G : Nat → Nat → Int32) (P : Nat → Nat → Option Nat) (U : Nat → Nat → Int64) (V : Nat → Nat → Nat → Int32) (X : Nat → Nat → Nat → Int64) (O : Nat → Nat → Nat → Option Nat) (kd : Nat → Nat) (ln : Nat → Nat) (cnt : Nat) (this : Nat) (p0 : Int32) : (Int32 × (Nat → Nat → Int32) × (Nat → Nat → Option Nat) × (Nat → Nat → Int64) × (Nat → Nat → Nat → Int32) × (Nat → Nat → Nat → Int64) × (Nat → Nat → Nat → Option Nat) × (Nat → Nat) × (Nat → Nat) × Nat) → Prop := fun t => ∃ la1 : Nat → Nat, (∀ z, z < cnt → la1 z = la z) ∧ LB la1 (t.2.2.2.2.2.2.2.2.2) (t.2.2.1) ∧ cnt ≤ (t.2.2.2.2.2.2.2.2.2) ∧ FRM cnt [60, 141, 183, 203, 231] (fun z => (la z < 10 ∨ 10 < la z) ∧ (la z < 70 ∨ 70 + 2 < la z) ∧ (la z < 90 ∨ 90 + 8 < la z) ∧ (la z < 200 ∨ 200 + 3 < la z)) G (t.2.1) ∧ FRM cnt [66, 181, 182] (fun z => (la z < 10 ∨ 10 < la z) ∧ (la z < 70 ∨ 70 + 2 < la z) ∧ (la z < 90 ∨ 90 + 8 < la z) ∧ (la z < 200 ∨ 200 + 3 < la z)) P (t.2.2.1) ∧ FRM cnt [184] (fun z => (la z < 10 ∨ 10 < la z) ∧ (la z < 70 ∨ 70 + 2 < la z) ∧ (la z < 90 ∨ 90 + 8 < la z) ∧ (la z < 200 ∨ 200 + 3 < la z)) U (t.2.2.2.1) ∧ FRM cnt [0, 1, 2, 3, 4, 12] (fun z => (la z < 10 ∨ 10 < la z) ∧ (la z < 70 ∨ 70 + 2 < la z) ∧ (la z < 90 ∨ 90 + 8 < la z) ∧ (la z < 200 ∨ 200 + 3 < la z)) V (t.2.2.2.2.1) ∧ FRM cnt [1] (fun z => (la z < 10 ∨ 10 < la z) ∧ (la z < 70 ∨ 70 + 2 < la z) ∧ (la z < 90 ∨ 90 + 8 < la z) ∧ (la z < 200 ∨ 200 + 3 < la z)) X (t.2.2.2.2.2.1) ∧ FRM cnt [1] (fun z => (la z < 10 ∨ 10 < la z) ∧ (la z < 70 ∨ 70 + 2 < la z) ∧ (la z < 90 ∨ 90 + 8 < la z) ∧ (la z < 200 ∨ 200 + 3 < la z)) O (t.2.2.2.2.2.2.1) ∧ (∀ z, z < cnt → (t.2.2.2.2.2.2.2.2.1) z = ln z)
set_option maxHeartbeats 4000000 in
set_option maxRecDepth 100000 in
theorem fr_X11_back (la : Nat → Nat) (G : Nat → Nat → Int32) (P : Nat → Nat → Option Nat) (U : Nat → Nat → Int64) (V : Nat → Nat → Nat → Int32) (X : Nat → Nat → Nat → Int64) (O : Nat → Nat → Nat → Option Nat) (kd : Nat → Nat) (ln : Nat → Nat) (cnt : Nat) (this : Nat) (p0 : Int32) (hB : LB la cnt P) (hlt_this : this < cnt) (hp0 : la this = 200) : pw (f_X11_back G P U V X O kd ln cnt this p0) (sp1 (RF_X11_back la G P U V X O kd ln cnt this p0)) := by
  unfold f_X11_back
  refine pw_nn (fun a1 hn_a1 => ?_)
  have lt_a1 := ((hB.1 220 fl_220) this a1 hn_a1).2.1
  have lb_a1 : la a1 = 10 := lk_220.mp ((hB.1 220 fl_220) this a1 hn_a1).2.2
  refine pw_b2 (fun r4 c4_G141 hc4 => ?_)
  have hq4 := fr_X7_take la G P U V X O kd ln cnt a1 hB _ hc4
  have q4_G141 : (∀ z, (la z < la a1 ∨ la a1 < la z) → c4_G141 z = (G 141) z) := hq4
  have tz4 : ∀ z, (z < cnt ∧ (la z < 10 ∨ 10 < la z) ∧ (la z < 70 ∨ 70 + 2 < la z) ∧ (la z < 90 ∨ 90 + 8 < la z) ∧ (la z < 200 ∨ 200 + 3 < la z)) → ((la z < la a1 ∨ la a1 < la z)) := fun z hz => by omega
  have hf1 : ∀ z, (z < cnt ∧ (la z < 10 ∨ 10 < la z) ∧ (la z < 70 ∨ 70 + 2 < la z) ∧ (la z < 90 ∨ 90 + 8 < la z) ∧ (la z < 200 ∨ 200 + 3 < la z)) → c4_G141 z = (G 141) z := fun z hz => (q4_G141 z (tz4 z hz)).trans (rfl)
  clear hc4 hq4
  refine pw_b1 (fun r10 hc10 => ?_)
  clear hc10
  refine pw_jn (fun j27 => pw (j27 ()) (sp1 (RF_X11_back la G P U V X O kd ln cnt this p0))) ?_ ?_
  · show pw _ _
    exact pw_some ⟨la, (fun _ _ => rfl), hB, (Nat.le_refl _), (FRM_set FRM_refl (by decide) (fun z h1 h2 => hf1 z ⟨h1, h2⟩)), FRM_refl, FRM_refl, FRM_refl, FRM_refl, FRM_refl, (fun _ _ => rfl)⟩
  intro j27 Jj27
  refine pw_ite (fun _ => ?_) (fun _ => ?_)
  · skip
    exact Jj27
  · skip
    refine pw_nn (fun a17 hn_a17 => ?_)
    have lt_a17 := ((hB.1 220 fl_220) this a17 hn_a17).2.1
    have lb_a17 : la a17 = 10 := lk_220.mp ((hB.1 220 fl_220) this a17 hn_a17).2.2
    refine pw_b1 (fun r21 hc21 => ?_)
    clear hc21
    refine pw_ite (fun _ => ?_) (fun _ => ?_)
    · skip
      exact Jj27
    · skip
      refine pw_nn (fun a31 hn_a31 => ?_)
      have lt_a31 := ((hB.1 229 fl_229) this a31 hn_a31).2.1
      have lb_a31 : la a31 = 70 := lk_229.mp ((hB.1 229 fl_229) this a31 hn_a31).2.2
      refine pw_nn (fun a36 hn_a36 => ?_)
      have lt_a36 := ((hB.1 221 fl_221) this a36 hn_a36).2.1
      have lb_a36 : la a36 = la this + 3 := lk_221.mp ((hB.1 221 fl_221) this a36 hn_a36).2.2
      refine pw_nn (fun a40 hn_a40 => ?_)
      have lt_a40 := ((hB.1 226 fl_226) this a40 hn_a40).2.1
      have lb_a40 : la a40 = 90 := lk_226.mp ((hB.1 226 fl_226) this a40 hn_a40).2.2
      refine pw_bA9 (fun c43_G c43_P c43_U c43_V c43_X c43_O c43_kd c43_ln c43_cnt v1_43 v2_43 hc43 => ?_)
      have hq43 := fr_X0_fill la (va_up G 141 c4_G141) P U V X O kd ln cnt a31 p0 a36 a40 hB lt_a31 lt_a36 lt_a40 _ hc43
      obtain ⟨la43_2, ag43, hB43, cc43, qG43, qP43, qU43, qV43, qX43, qO43, ql43⟩ : ∃ la9 : Nat → Nat, (∀ z, z < cnt → la9 z = la z) ∧ LB la9 c43_cnt c43_P ∧ cnt ≤ c43_cnt ∧ FRM cnt [60, 183, 203] (fun z => (la z < la a31 ∨ la a31 + 2 < la z) ∧ (la z < la a40 ∨ la a40 + 8 < la z)) (va_up G 141 c4_G141) c43_G ∧ FRM cnt [66, 181, 182] (fun z => (la z < la a31 ∨ la a31 + 2 < la z) ∧ (la z < la a40 ∨ la a40 + 8 < la z)) P c43_P ∧ FRM cnt [184] (fun z => (la z < la a31 ∨ la a31 + 2 < la z) ∧ (la z < la a40 ∨ la a40 + 8 < la z)) U c43_U ∧ FRM cnt [0, 1, 2, 3, 12] (fun z => (la z < la a31 ∨ la a31 + 2 < la z) ∧ (la z < la a40 ∨ la a40 + 8 < la z)) V c43_V ∧ FRM cnt [1] (fun z => (la z < la a31 ∨ la a31 + 2 < la z) ∧ (la z < la a40 ∨ la a40 + 8 < la z)) X c43_X ∧ FRM cnt [1] (fun z => (la z < la a31 ∨ la a31 + 2 < la z) ∧ (la z < la a40 ∨ la a40 + 8 < la z)) O c43_O ∧ (∀ z, z < cnt → c43_ln z = ln z) := hq43
      have hle43 : cnt ≤ cnt := Nat.le_refl _
      have hg43 : ∀ z, z < cnt → la43_2 z = la z := fun z hz => (ag43 z (Nat.lt_of_lt_of_le hz hle43)).trans (rfl)
      have hF43_G : FRM cnt [60, 141, 183, 203, 231] (fun z => (la z < 10 ∨ 10 < la z) ∧ (la z < 70 ∨ 70 + 2 < la z) ∧ (la z < 90 ∨ 90 + 8 < la z) ∧ (la z < 200 ∨ 200 + 3 < la z)) G c43_G := FRM_trans (FRM_set FRM_refl (by decide) (fun z h1 h2 => hf1 z ⟨h1, h2⟩)) qG43 hle43 (by decide) (fun z h0 hz => (show (la z < la a31 ∨ la a31 + 2 < la z) ∧ (la z < la a40 ∨ la a40 + 8 < la z) from by have q2 := hB.2 z h0; omega))
      have hF43_P : FRM cnt [66, 181, 182] (fun z => (la z < 10 ∨ 10 < la z) ∧ (la z < 70 ∨ 70 + 2 < la z) ∧ (la z < 90 ∨ 90 + 8 < la z) ∧ (la z < 200 ∨ 200 + 3 < la z)) P c43_P := FRM_trans FRM_refl qP43 hle43 (by decide) (fun z h0 hz => (show (la z < la a31 ∨ la a31 + 2 < la z) ∧ (la z < la a40 ∨ la a40 + 8 < la z) from by have q2 := hB.2 z h0; omega))
      have hF43_U : FRM cnt [184] (fun z => (la z < 10 ∨ 10 < la z) ∧ (la z < 70 ∨ 70 + 2 < la z) ∧ (la z < 90 ∨ 90 + 8 < la z) ∧ (la z < 200 ∨ 200 + 3 < la z)) U c43_U := FRM_trans FRM_refl qU43 hle43 (by decide) (fun z h0 hz => (show (la z < la a31 ∨ la a31 + 2 < la z) ∧ (la z < la a40 ∨ la a40 + 8 < la z) from by have q2 := hB.2 z h0; omega))
      have hF43_V : FRM cnt [0, 1, 2, 3, 4, 12] (fun z => (la z < 10 ∨ 10 < la z) ∧ (la z < 70 ∨ 70 + 2 < la z) ∧ (la z < 90 ∨ 90 + 8 < la z) ∧ (la z < 200 ∨ 200 + 3 < la z)) V c43_V := FRM_trans FRM_refl qV43 hle43 (by decide) (fun z h0 hz => (show (la z < la a31 ∨ la a31 + 2 < la z) ∧ (la z < la a40 ∨ la a40 + 8 < la z) from by have q2 := hB.2 z h0; omega))
      have hF43_X : FRM cnt [1] (fun z => (la z < 10 ∨ 10 < la z) ∧ (la z < 70 ∨ 70 + 2 < la z) ∧ (la z < 90 ∨ 90 + 8 < la z) ∧ (la z < 200 ∨ 200 + 3 < la z)) X c43_X := FRM_trans FRM_refl qX43 hle43 (by decide) (fun z h0 hz => (show (la z < la a31 ∨ la a31 + 2 < la z) ∧ (la z < la a40 ∨ la a40 + 8 < la z) from by have q2 := hB.2 z h0; omega))
      have hF43_O : FRM cnt [1] (fun z => (la z < 10 ∨ 10 < la z) ∧ (la z < 70 ∨ 70 + 2 < la z) ∧ (la z < 90 ∨ 90 + 8 < la z) ∧ (la z < 200 ∨ 200 + 3 < la z)) O c43_O := FRM_trans FRM_refl qO43 hle43 (by decide) (fun z h0 hz => (show (la z < la a31 ∨ la a31 + 2 < la z) ∧ (la z < la a40 ∨ la a40 + 8 < la z) from by have q2 := hB.2 z h0; omega))
      have hln43 : ∀ z, z < cnt → c43_ln z = ln z := fun z hz => (ql43 z (Nat.lt_of_lt_of_le hz hle43)).trans (rfl)
      have g3 := ag43 this hlt_this
      have lt4 : this < c43_cnt := by omega
      refine pw_vl (fun m48 em48 => ?_)
      have hf5 : ∀ z, (z < cnt ∧ (la z < 10 ∨ 10 < la z) ∧ (la z < 70 ∨ 70 + 2 < la z) ∧ (la z < 90 ∨ 90 + 8 < la z) ∧ (la z < 200 ∨ 200 + 3 < la z)) → m48 z = (G 231) z := fr_up (e0 := (G 231)) (fun z hz => hF43_G 231 z hz.1 (fun _ => hz.2)) em48 (show ¬ (this < cnt ∧ (la this < 10 ∨ 10 < la this) ∧ (la this < 70 ∨ 70 + 2 < la this) ∧ (la this < 90 ∨ 90 + 8 < la this) ∧ (la this < 200 ∨ 200 + 3 < la this)) from fun hz => by have q1 := hg43 this hz.1; omega)
      have lp53 : ∀ (n53 : Nat) (y53_3 : Int32) (d53_G231 : Nat → Int32) (d53_V4 : Nat → Nat → Int32), (∀ z, (z < cnt ∧ (la z < 10 ∨ 10 < la z) ∧ (la z < 70 ∨ 70 + 2 < la z) ∧ (la z < 90 ∨ 90 + 8 < la z) ∧ (la z < 200 ∨ 200 + 3 < la z)) → d53_G231 z = (G 231) z) → (∀ z, (z < cnt ∧ (la z < 10 ∨ 10 < la z) ∧ (la z < 70 ∨ 70 + 2 < la z) ∧ (la z < 90 ∨ 90 + 8 < la z) ∧ (la z < 200 ∨ 200 + 3 < la z)) → d53_V4 z = (V 4) z) → pw (L_X11_back_53 this p0 r4 c43_G c43_P c43_U c43_V c43_X c43_O c43_kd c43_ln c43_cnt n53 y53_3 d53_G231 d53_V4) (sp1 (RF_X11_back la G P U V X O kd ln cnt this p0)) := by
        intro n53
        induction n53 with
        | zero => intros; exact pw_none
        | succ n53 ih53 =>
          intro y53_3 d53_G231 d53_V4 hf6 hf7
          show pw (B_X11_back_53 this p0 r4 c43_G c43_P c43_U c43_V c43_X c43_O c43_kd c43_ln c43_cnt (L_X11_back_53 this p0 r4 c43_G c43_P c43_U c43_V c43_X c43_O c43_kd c43_ln c43_cnt n53) y53_3 d53_G231 d53_V4) _
          unfold B_X11_back_53
          refine pw_nn (fun a55 hn_a55 => ?_)
          have lt_a55 := ((hB43.1 229 fl_229) this a55 hn_a55).2.1
          have lb_a55 : la43_2 a55 = 70 := lk_229.mp ((hB43.1 229 fl_229) this a55 hn_a55).2.2
          refine pw_nn (fun a58 hn_a58 => ?_)
          have lt_a58 := ((hB43.1 0 fl_0) a55 a58 hn_a58).2.1
          have lb_a58 : la43_2 a58 = 20 := lk_0.mp ((hB43.1 0 fl_0) a55 a58 hn_a58).2.2
          refine pw_ite (fun _ => ?_) (fun _ => ?_)
          · skip
            exact pw_some ⟨la43_2, hg43, hB43, (show cnt ≤ c43_cnt from by omega), (FRM_set hF43_G (by decide) (fun z h1 h2 => hf6 z ⟨h1, h2⟩)), hF43_P, hF43_U, (FRM_set hF43_V (by decide) (fun z h1 h2 => hf7 z ⟨h1, h2⟩)), hF43_X, hF43_O, hln43⟩
          · skip
            refine pw_nn (fun a68 hn_a68 => ?_)
            have lt_a68 := ((hB43.1 229 fl_229) this a68 hn_a68).2.1
            have lb_a68 : la43_2 a68 = 70 := lk_229.mp ((hB43.1 229 fl_229) this a68 hn_a68).2.2
            refine pw_b1 (fun r73 hc73 => ?_)
            clear hc73
            refine pw_nn (fun a77 hn_a77 => ?_)
            have lt_a77 := ((hB43.1 220 fl_220) this a77 hn_a77).2.1
            have lb_a77 : la43_2 a77 = 10 := lk_220.mp ((hB43.1 220 fl_220) this a77 hn_a77).2.2
            refine pw_nn (fun a80 hn_a80 => ?_)
            have lt_a80 := ((hB43.1 140 fl_140) a77 a80 hn_a80).2.1
            have lb_a80 : la43_2 a80 = la43_2 a77 + 1 := lk_140.mp ((hB43.1 140 fl_140) a77 a80 hn_a80).2.2
            refine pw_b1 (fun r85 hc85 => ?_)
            clear hc85
            refine pw_jn (fun j112 => ∀ (c112_G231 : Nat → Int32) (c112_V4 : Nat → Nat → Int32), (∀ z, (z < cnt ∧ (la z < 10 ∨ 10 < la z) ∧ (la z < 70 ∨ 70 + 2 < la z) ∧ (la z < 90 ∨ 90 + 8 < la z) ∧ (la z < 200 ∨ 200 + 3 < la z)) → c112_G231 z = (G 231) z) → (∀ z, (z < cnt ∧ (la z < 10 ∨ 10 < la z) ∧ (la z < 70 ∨ 70 + 2 < la z) ∧ (la z < 90 ∨ 90 + 8 < la z) ∧ (la z < 200 ∨ 200 + 3 < la z)) → c112_V4 z = (V 4) z) → pw (j112 c112_G231 c112_V4) (sp1 (RF_X11_back la G P U V X O kd ln cnt this p0))) ?_ ?_
            · intro c112_G231 c112_V4 hf8 hf9
              show pw _ _
              exact ih53 (y53_3 + 1) c112_G231 c112_V4 hf8 hf9
            intro j112 Jj112
            refine pw_ite (fun _ => ?_) (fun _ => ?_)
            · skip
              exact Jj112 d53_G231 d53_V4 hf6 hf7
            · skip
              refine pw_nn (fun a93 hn_a93 => ?_)
              have lt_a93 := ((hB43.1 230 fl_230) this a93 hn_a93).2.1
              have lb_a93 : la43_2 a93 = la43_2 this + 1 := lk_230.mp ((hB43.1 230 fl_230) this a93 hn_a93).2.2
              refine pw_if (fun _ => ?_)
              refine pw_vl (fun m101 em101 => ?_)
              have hf10 : ∀ z, (z < cnt ∧ (la z < 10 ∨ 10 < la z) ∧ (la z < 70 ∨ 70 + 2 < la z) ∧ (la z < 90 ∨ 90 + 8 < la z) ∧ (la z < 200 ∨ 200 + 3 < la z)) → m101 z = (V 4) z := fr_up (e0 := (V 4)) hf7 em101 (show ¬ (a93 < cnt ∧ (la a93 < 10 ∨ 10 < la a93) ∧ (la a93 < 70 ∨ 70 + 2 < la a93) ∧ (la a93 < 90 ∨ 90 + 8 < la a93) ∧ (la a93 < 200 ∨ 200 + 3 < la a93)) from fun hz => by have q1 := hg43 a93 hz.1; omega)
              refine pw_vl (fun x109 _ => ?_)
              refine pw_vl (fun m109 em109 => ?_)
              have hf11 : ∀ z, (z < cnt ∧ (la z < 10 ∨ 10 < la z) ∧ (la z < 70 ∨ 70 + 2 < la z) ∧ (la z < 90 ∨ 90 + 8 < la z) ∧ (la z < 200 ∨ 200 + 3 < la z)) → m109 z = (G 231) z := fr_up (e0 := (G 231)) hf6 em109 (show ¬ (this < cnt ∧ (la this < 10 ∨ 10 < la this) ∧ (la this < 70 ∨ 70 + 2 < la this) ∧ (la this < 90 ∨ 90 + 8 < la this) ∧ (la this < 200 ∨ 200 + 3 < la this)) from fun hz => by have q1 := hg43 this hz.1; omega)
              exact Jj112 m109 m101 hf11 hf10
      exact lp53 NN 0 m48 (c43_V 4) hf5 (fun z hz => hF43_V 4 z hz.1 (fun _ => hz.2))
abbrev RF_X11_collisions (la : Nat → Nat) (G : Nat → Nat → Int32) (P : Nat → Nat → Option Nat) (U : Nat → Nat → Int64) (V : Nat → Nat → Nat → Int32) (X : Nat → Nat → Nat → Int64) (O : Nat → Nat → Nat → Option Nat) (kd : Nat → Nat) (ln : Nat → Nat) (cnt : Nat) (this : Nat) (p0 : Int32) : (Int32 × (Nat → Nat → Int32) × (Nat → Nat → Option Nat) × (Nat → Nat → Int64) × (Nat → Nat → Nat → Int32) × (Nat → Nat → Nat → Int64) × (Nat → Nat → Nat → Option Nat) × (Nat → Nat) × (Nat → Nat) × Nat) → Prop := fun t => ∃ la1 : Nat → Nat, (∀ z, z < cnt → la1 z = la z) ∧ LB la1 (t.2.2.2.2.2.2.2.2.2) (t.2.2.1) ∧ cnt ≤ (t.2.2.2.2.2.2.2.2.2) ∧ FRM cnt [60, 183, 203, 233] (fun z => (la z < 70 ∨ 70 + 2 < la z) ∧ (la z < 90 ∨ 90 + 8 < la z) ∧ (la z < 200 ∨ 200 + 3 < la z)) G (t.2.1) ∧ FRM cnt [66, 181, 182] (fun z => (la z < 70 ∨ 70 + 2 < la z) ∧ (la z < 90 ∨ 90 + 8 < la z) ∧ (la z < 200 ∨ 200 + 3 < la z)) P (t.2.2.1) ∧ FRM cnt [184] (fun z => (la z < 70 ∨ 70 + 2 < la z) ∧ (la z < 90 ∨ 90 + 8 < la z) ∧ (la z < 200 ∨ 200 + 3 < la z)) U (t.2.2.2.1) ∧ FRM cnt [0, 1, 2, 3, 5, 12] (fun z => (la z < 70 ∨ 70 + 2 < la z) ∧ (la z < 90 ∨ 90 + 8 < la z) ∧ (la z < 200 ∨ 200 + 3 < la z)) V (t.2.2.2.2.1) ∧ FRM cnt [1] (fun z => (la z < 70 ∨ 70 + 2 < la z) ∧ (la z < 90 ∨ 90 + 8 < la z) ∧ (la z < 200 ∨ 200 + 3 < la z)) X (t.2.2.2.2.2.1) ∧ FRM cnt [1] (fun z => (la z < 70 ∨ 70 + 2 < la z) ∧ (la z < 90 ∨ 90 + 8 < la z) ∧ (la z < 200 ∨ 200 + 3 < la z)) O (t.2.2.2.2.2.2.1) ∧ (∀ z, z < cnt → (t.2.2.2.2.2.2.2.2.1) z = ln z)
set_option maxHeartbeats 4000000 in
set_option maxRecDepth 100000 in
theorem fr_X11_collisions (la : Nat → Nat) (G : Nat → Nat → Int32) (P : Nat → Nat → Option Nat) (U : Nat → Nat → Int64) (V : Nat → Nat → Nat → Int32) (X : Nat → Nat → Nat → Int64) (O : Nat → Nat → Nat → Option Nat) (kd : Nat → Nat) (ln : Nat → Nat) (cnt : Nat) (this : Nat) (p0 : Int32) (hB : LB la cnt P) (hlt_this : this < cnt) (hp0 : la this = 200) : pw (f_X11_collisions G P U V X O kd ln cnt this p0) (sp1 (RF_X11_collisions la G P U V X O kd ln cnt this p0)) := by
  unfold f_X11_collisions
  refine pw_vl (fun m2 em2 => ?_)
  have hf1 : ∀ z, (z < cnt ∧ (la z < 70 ∨ 70 + 2 < la z) ∧ (la z < 90 ∨ 90 + 8 < la z) ∧ (la z < 200 ∨ 200 + 3 < la z)) → m2 z = (G 233) z := fr_up (e0 := (G 233)) (fun _ _ => rfl) em2 (show ¬ (this < cnt ∧ (la this < 70 ∨ 70 + 2 < la this) ∧ (la this < 90 ∨ 90 + 8 < la this) ∧ (la this < 200 ∨ 200 + 3 < la this)) from fun hz => by omega)
  refine pw_b1 (fun r7 hc7 => ?_)
  clear hc7
  refine pw_ite (fun _ => ?_) (fun _ => ?_)
  · skip
    exact pw_some ⟨la, (fun _ _ => rfl), hB, (Nat.le_refl _), (FRM_set FRM_refl (by decide) (fun z h1 h2 => hf1 z ⟨h1, h2⟩)), FRM_refl, FRM_refl, FRM_refl, FRM_refl, FRM_refl, (fun _ _ => rfl)⟩
  · skip
    refine pw_nn (fun a17 hn_a17 => ?_)
    have lt_a17 := ((hB.1 229 fl_229) this a17 hn_a17).2.1
    have lb_a17 : la a17 = 70 := lk_229.mp ((hB.1 229 fl_229) this a17 hn_a17).2.2
    refine pw_nn (fun a22 hn_a22 => ?_)
    have lt_a22 := ((hB.1 221 fl_221) this a22 hn_a22).2.1
    have lb_a22 : la a22 = la this + 3 := lk_221.mp ((hB.1 221 fl_221) this a22 hn_a22).2.2
    refine pw_nn (fun a26 hn_a26 => ?_)
    have lt_a26 := ((hB.1 226 fl_226) this a26 hn_a26).2.1
    have lb_a26 : la a26 = 90 := lk_226.mp ((hB.1 226 fl_226) this a26 hn_a26).2.2
    refine pw_bA9 (fun c29_G c29_P c29_U c29_V c29_X c29_O c29_kd c29_ln c29_cnt v1_29 v2_29 hc29 => ?_)
    have hq29 := fr_X0_fill la (va_up G 233 m2) P U V X O kd ln cnt a17 p0 a22 a26 hB lt_a17 lt_a22 lt_a26 _ hc29
    obtain ⟨la29_2, ag29, hB29, cc29, qG29, qP29, qU29, qV29, qX29, qO29, ql29⟩ : ∃ la9 : Nat → Nat, (∀ z, z < cnt → la9 z = la z) ∧ LB la9 c29_cnt c29_P ∧ cnt ≤ c29_cnt ∧ FRM cnt [60, 183, 203] (fun z => (la z < la a17 ∨ la a17 + 2 < la z) ∧ (la z < la a26 ∨ la a26 + 8 < la z)) (va_up G 233 m2) c29_G ∧ FRM cnt [66, 181, 182] (fun z => (la z < la a17 ∨ la a17 + 2 < la z) ∧ (la z < la a26 ∨ la a26 + 8 < la z)) P c29_P ∧ FRM cnt [184] (fun z => (la z < la a17 ∨ la a17 + 2 < la z) ∧ (la z < la a26 ∨ la a26 + 8 < la z)) U c29_U ∧ FRM cnt [0, 1, 2, 3, 12] (fun z => (la z < la a17 ∨ la a17 + 2 < la z) ∧ (la z < la a26 ∨ la a26 + 8 < la z)) V c29_V ∧ FRM cnt [1] (fun z => (la z < la a17 ∨ la a17 + 2 < la z) ∧ (la z < la a26 ∨ la a26 + 8 < la z)) X c29_X ∧ FRM cnt [1] (fun z => (la z < la a17 ∨ la a17 + 2 < la z) ∧ (la z < la a26 ∨ la a26 + 8 < la z)) O c29_O ∧ (∀ z, z < cnt → c29_ln z = ln z) := hq29
    have hle29 : cnt ≤ cnt := Nat.le_refl _
    have hg29 : ∀ z, z < cnt → la29_2 z = la z := fun z hz => (ag29 z (Nat.lt_of_lt_of_le hz hle29)).trans (rfl)
    have hF29_G : FRM cnt [60, 183, 203, 233] (fun z => (la z < 70 ∨ 70 + 2 < la z) ∧ (la z < 90 ∨ 90 + 8 < la z) ∧ (la z < 200 ∨ 200 + 3 < la z)) G c29_G := FRM_trans (FRM_set FRM_refl (by decide) (fun z h1 h2 => hf1 z ⟨h1, h2⟩)) qG29 hle29 (by decide) (fun z h0 hz => (show (la z < la a17 ∨ la a17 + 2 < la z) ∧ (la z < la a26 ∨ la a26 + 8 < la z) from by have q2 := hB.2 z h0; omega))
    have hF29_P : FRM cnt [66, 181, 182] (fun z => (la z < 70 ∨ 70 + 2 < la z) ∧ (la z < 90 ∨ 90 + 8 < la z) ∧ (la z < 200 ∨ 200 + 3 < la z)) P c29_P := FRM_trans FRM_refl qP29 hle29 (by decide) (fun z h0 hz => (show (la z < la a17 ∨ la a17 + 2 < la z) ∧ (la z < la a26 ∨ la a26 + 8 < la z) from by have q2 := hB.2 z h0; omega))
    have hF29_U : FRM cnt [184] (fun z => (la z < 70 ∨ 70 + 2 < la z) ∧ (la z < 90 ∨ 90 + 8 < la z) ∧ (la z < 200 ∨ 200 + 3 < la z)) U c29_U := FRM_trans FRM_refl qU29 hle29 (by decide) (fun z h0 hz => (show (la z < la a17 ∨ la a17 + 2 < la z) ∧ (la z < la a26 ∨ la a26 + 8 < la z) from by have q2 := hB.2 z h0; omega))
    have hF29_V : FRM cnt [0, 1, 2, 3, 5, 12] (fun z => (la z < 70 ∨ 70 + 2 < la z) ∧ (la z < 90 ∨ 90 + 8 < la z) ∧ (la z < 200 ∨ 200 + 3 < la z)) V c29_V := FRM_trans FRM_refl qV29 hle29 (by decide) (fun z h0 hz => (show (la z < la a17 ∨ la a17 + 2 < la z) ∧ (la z < la a26 ∨ la a26 + 8 < la z) from by have q2 := hB.2 z h0; omega))
    have hF29_X : FRM cnt [1] (fun z => (la z < 70 ∨ 70 + 2 < la z) ∧ (la z < 90 ∨ 90 + 8 < la z) ∧ (la z < 200 ∨ 200 + 3 < la z)) X c29_X := FRM_trans FRM_refl qX29 hle29 (by decide) (fun z h0 hz => (show (la z < la a17 ∨ la a17 + 2 < la z) ∧ (la z < la a26 ∨ la a26 + 8 < la z) from by have q2 := hB.2 z h0; omega))
    have hF29_O : FRM cnt [1] (fun z => (la z < 70 ∨ 70 + 2 < la z) ∧ (la z < 90 ∨ 90 + 8 < la z) ∧ (la z < 200 ∨ 200 + 3 < la z)) O c29_O := FRM_trans FRM_refl qO29 hle29 (by decide) (fun z h0 hz => (show (la z < la a17 ∨ la a17 + 2 < la z) ∧ (la z < la a26 ∨ la a26 + 8 < la z) from by have q2 := hB.2 z h0; omega))
    have hln29 : ∀ z, z < cnt → c29_ln z = ln z := fun z hz => (ql29 z (Nat.lt_of_lt_of_le hz hle29)).trans (rfl)
    have g3 := ag29 this hlt_this
    have lt4 : this < c29_cnt := by omega
    have lp36 : ∀ (n36 : Nat) (y36_2 : Int32) (y36_3 : Int32) (d36_G233 : Nat → Int32) (d36_V5 : Nat → Nat → Int32), (∀ z, (z < cnt ∧ (la z < 70 ∨ 70 + 2 < la z) ∧ (la z < 90 ∨ 90 + 8 < la z) ∧ (la z < 200 ∨ 200 + 3 < la z)) → d36_G233 z = (G 233) z) → (∀ z, (z < cnt ∧ (la z < 70 ∨ 70 + 2 < la z) ∧ (la z < 90 ∨ 90 + 8 < la z) ∧ (la z < 200 ∨ 200 + 3 < la z)) → d36_V5 z = (V 5) z) → pw (L_X11_collisions_36 this p0 c29_G c29_P c29_U c29_V c29_X c29_O c29_kd c29_ln c29_cnt n36 y36_2 y36_3 d36_G233 d36_V5) (sp1 (RF_X11_collisions la G P U V X O kd ln cnt this p0)) := by
      intro n36
      induction n36 with
      | zero => intros; exact pw_none
      | succ n36 ih36 =>
        intro y36_2 y36_3 d36_G233 d36_V5 hf5 hf6
        show pw (B_X11_collisions_36 this p0 c29_G c29_P c29_U c29_V c29_X c29_O c29_kd c29_ln c29_cnt (L_X11_collisions_36 this p0 c29_G c29_P c29_U c29_V c29_X c29_O c29_kd c29_ln c29_cnt n36) y36_2 y36_3 d36_G233 d36_V5) _
        unfold B_X11_collisions_36
        refine pw_nn (fun a38 hn_a38 => ?_)
        have lt_a38 := ((hB29.1 229 fl_229) this a38 hn_a38).2.1
        have lb_a38 : la29_2 a38 = 70 := lk_229.mp ((hB29.1 229 fl_229) this a38 hn_a38).2.2
        refine pw_nn (fun a41 hn_a41 => ?_)
        have lt_a41 := ((hB29.1 0 fl_0) a38 a41 hn_a41).2.1
        have lb_a41 : la29_2 a41 = 20 := lk_0.mp ((hB29.1 0 fl_0) a38 a41 hn_a41).2.2
        refine pw_ite (fun _ => ?_) (fun _ => ?_)
        · skip
          exact pw_some ⟨la29_2, hg29, hB29, (show cnt ≤ c29_cnt from by omega), (FRM_set hF29_G (by decide) (fun z h1 h2 => hf5 z ⟨h1, h2⟩)), hF29_P, hF29_U, (FRM_set hF29_V (by decide) (fun z h1 h2 => hf6 z ⟨h1, h2⟩)), hF29_X, hF29_O, hln29⟩
        · skip
          refine pw_vl (fun x53 _ => ?_)
          refine pw_jn (fun k105 => ∀ (x105_2 : Int32) (c105_G233 : Nat → Int32) (c105_V5 : Nat → Nat → Int32), (∀ z, (z < cnt ∧ (la z < 70 ∨ 70 + 2 < la z) ∧ (la z < 90 ∨ 90 + 8 < la z) ∧ (la z < 200 ∨ 200 + 3 < la z)) → c105_G233 z = (G 233) z) → (∀ z, (z < cnt ∧ (la z < 70 ∨ 70 + 2 < la z) ∧ (la z < 90 ∨ 90 + 8 < la z) ∧ (la z < 200 ∨ 200 + 3 < la z)) → c105_V5 z = (V 5) z) → pw (k105 x105_2 c105_G233 c105_V5) (sp1 (RF_X11_collisions la G P U V X O kd ln cnt this p0))) ?_ ?_
          · intro x105_2 c105_G233 c105_V5 hf7 hf8
            show pw _ _
            exact ih36 x105_2 (y36_3 + 1) c105_G233 c105_V5 hf7 hf8
          intro k105 Jk105
          have lp55 : ∀ (n55 : Nat) (y55_2 : Int32) (y55_4 : Int32) (d55_G233 : Nat → Int32) (d55_V5 : Nat → Nat → Int32), (∀ z, (z < cnt ∧ (la z < 70 ∨ 70 + 2 < la z) ∧ (la z < 90 ∨ 90 + 8 < la z) ∧ (la z < 200 ∨ 200 + 3 < la z)) → d55_G233 z = (G 233) z) → (∀ z, (z < cnt ∧ (la z < 70 ∨ 70 + 2 < la z) ∧ (la z < 90 ∨ 90 + 8 < la z) ∧ (la z < 200 ∨ 200 + 3 < la z)) → d55_V5 z = (V 5) z) → pw (L_X11_collisions_55 this p0 c29_G c29_P c29_U c29_V c29_X c29_O c29_kd c29_ln c29_cnt y36_3 k105 n55 y55_2 y55_4 d55_G233 d55_V5) (sp1 (RF_X11_collisions la G P U V X O kd ln cnt this p0)) := by
            intro n55
            induction n55 with
            | zero => intros; exact pw_none
            | succ n55 ih55 =>
              intro y55_2 y55_4 d55_G233 d55_V5 hf9 hf10
              show pw (B_X11_collisions_55 this p0 c29_G c29_P c29_U c29_V c29_X c29_O c29_kd c29_ln c29_cnt y36_3 k105 (L_X11_collisions_55 this p0 c29_G c29_P c29_U c29_V c29_X c29_O c29_kd c29_ln c29_cnt y36_3 k105 n55) y55_2 y55_4 d55_G233 d55_V5) _
              unfold B_X11_collisions_55
              refine pw_nn (fun a58 hn_a58 => ?_)
              have lt_a58 := ((hB29.1 229 fl_229) this a58 hn_a58).2.1
              have lb_a58 : la29_2 a58 = 70 := lk_229.mp ((hB29.1 229 fl_229) this a58 hn_a58).2.2
              refine pw_nn (fun a61 hn_a61 => ?_)
              have lt_a61 := ((hB29.1 0 fl_0) a58 a61 hn_a61).2.1
              have lb_a61 : la29_2 a61 = 20 := lk_0.mp ((hB29.1 0 fl_0) a58 a61 hn_a61).2.2
              refine pw_ite (fun _ => ?_) (fun _ => ?_)
              · skip
                exact Jk105 y55_2 d55_G233 d55_V5 hf9 hf10
              · skip
                refine pw_nn (fun a71 hn_a71 => ?_)
                have lt_a71 := ((hB29.1 229 fl_229) this a71 hn_a71).2.1
                have lb_a71 : la29_2 a71 = 70 := lk_229.mp ((hB29.1 229 fl_229) this a71 hn_a71).2.2
                refine pw_b1 (fun r78 hc78 => ?_)
                clear hc78
                refine pw_jn (fun j99 => ∀ (x99_2 : Int32) (c99_G233 : Nat → Int32) (c99_V5 : Nat → Nat → Int32), (∀ z, (z < cnt ∧ (la z < 70 ∨ 70 + 2 < la z) ∧ (la z < 90 ∨ 90 + 8 < la z) ∧ (la z < 200 ∨ 200 + 3 < la z)) → c99_G233 z = (G 233) z) → (∀ z, (z < cnt ∧ (la z < 70 ∨ 70 + 2 < la z) ∧ (la z < 90 ∨ 90 + 8 < la z) ∧ (la z < 200 ∨ 200 + 3 < la z)) → c99_V5 z = (V 5) z) → pw (j99 x99_2 c99_G233 c99_V5) (sp1 (RF_X11_collisions la G P U V X O kd ln cnt this p0))) ?_ ?_
                · intro x99_2 c99_G233 c99_V5 hf11 hf12
                  show pw _ _
                  exact ih55 x99_2 (y55_4 + 1) c99_G233 c99_V5 hf11 hf12
                intro j99 Jj99
                refine pw_ite (fun _ => ?_) (fun _ => ?_)
                · skip
                  exact Jj99 y55_2 d55_G233 d55_V5 hf9 hf10
                · skip
                  refine pw_b2 (fun c93_G233 c93_V5 hc93 => ?_)
                  have hq93 := fr_X11_notePair la29_2 (va_up c29_G 233 d55_G233) c29_P c29_U (va_up c29_V 5 d55_V5) c29_X c29_O c29_kd c29_ln c29_cnt this ((1000 * y36_3) + y55_4) hB29 (show la29_2 this = 200 from by omega) _ hc93
                  obtain ⟨q93_G233, q93_V5⟩ : (∀ z, (la29_2 z < la29_2 this ∨ la29_2 this + 3 < la29_2 z) → c93_G233 z = d55_G233 z) ∧ (∀ z, (la29_2 z < la29_2 this ∨ la29_2 this + 3 < la29_2 z) → c93_V5 z = d55_V5 z) := hq93
                  have tz93 : ∀ z, (z < cnt ∧ (la z < 70 ∨ 70 + 2 < la z) ∧ (la z < 90 ∨ 90 + 8 < la z) ∧ (la z < 200 ∨ 200 + 3 < la z)) → ((la29_2 z < la29_2 this ∨ la29_2 this + 3 < la29_2 z)) := fun z hz => by have q1 := hg29 z hz.1; have q2 := hB.2 z hz.1; omega
                  have hf13 : ∀ z, (z < cnt ∧ (la z < 70 ∨ 70 + 2 < la z) ∧ (la z < 90 ∨ 90 + 8 < la z) ∧ (la z < 200 ∨ 200 + 3 < la z)) → c93_G233 z = (G 233) z := fun z hz => (q93_G233 z (tz93 z hz)).trans (hf9 z hz)
                  have hf14 : ∀ z, (z < cnt ∧ (la z < 70 ∨ 70 + 2 < la z) ∧ (la z < 90 ∨ 90 + 8 < la z) ∧ (la z < 200 ∨ 200 + 3 < la z)) → c93_V5 z = (V 5) z := fun z hz => (q93_V5 z (tz93 z hz)).trans (hf10 z hz)
                  clear hc93
                  exact Jj99 (y55_2 + 1) c93_G233 c93_V5 hf13 hf14
          exact lp55 NN y36_2 x53 d36_G233 d36_V5 hf5 hf6
    exact lp36 NN 0 0 (c29_G 233) (c29_V 5) (fun z hz => hF29_G 233 z hz.1 (fun _ => hz.2)) (fun z hz => hF29_V 5 z hz.1 (fun _ => hz.2))
abbrev RF_X11_rhymes (la : Nat → Nat) (G : Nat → Nat → Int32) (P : Nat → Nat → Option Nat) (U : Nat → Nat → Int64) (V : Nat → Nat → Nat → Int32) (X : Nat → Nat → Nat → Int64) (O : Nat → Nat → Nat → Option Nat) (kd : Nat → Nat) (ln : Nat → Nat) (cnt : Nat) (this : Nat) (p0 : Int32) : (Int32 × (Nat → Nat → Int32) × (Nat → Nat → Option Nat) × (Nat → Nat → Int64) × (Nat → Nat → Nat → Int32) × (Nat → Nat → Nat → Int64) × (Nat → Nat → Nat → Option Nat) × (Nat → Nat) × (Nat → Nat) × Nat) → Prop := fun t => ∃ la1 : Nat → Nat, (∀ z, z < cnt → la1 z = la z) ∧ LB la1 (t.2.2.2.2.2.2.2.2.2) (t.2.2.1) ∧ cnt ≤ (t.2.2.2.2.2.2.2.2.2) ∧ FRM cnt [60, 183, 203] (fun z => (la z < 70 ∨ 70 + 2 < la z) ∧ (la z < 90 ∨ 90 + 8 < la z)) G (t.2.1) ∧ FRM cnt [66, 181, 182] (fun z => (la z < 70 ∨ 70 + 2 < la z) ∧ (la z < 90 ∨ 90 + 8 < la z)) P (t.2.2.1) ∧ FRM cnt [184] (fun z => (la z < 70 ∨ 70 + 2 < la z) ∧ (la z < 90 ∨ 90 + 8 < la z)) U (t.2.2.2.1) ∧ FRM cnt [0, 1, 2, 3, 12] (fun z => (la z < 70 ∨ 70 + 2 < la z) ∧ (la z < 90 ∨ 90 + 8 < la z)) V (t.2.2.2.2.1) ∧ FRM cnt [1] (fun z => (la z < 70 ∨ 70 + 2 < la z) ∧ (la z < 90 ∨ 90 + 8 < la z)) X (t.2.2.2.2.2.1) ∧ FRM cnt [1] (fun z => (la z < 70 ∨ 70 + 2 < la z) ∧ (la z < 90 ∨ 90 + 8 < la z)) O (t.2.2.2.2.2.2.1) ∧ (∀ z, z < cnt → (t.2.2.2.2.2.2.2.2.1) z = ln z)
set_option maxHeartbeats 4000000 in
set_option maxRecDepth 100000 in
theorem fr_X11_rhymes (la : Nat → Nat) (G : Nat → Nat → Int32) (P : Nat → Nat → Option Nat) (U : Nat → Nat → Int64) (V : Nat → Nat → Nat → Int32) (X : Nat → Nat → Nat → Int64) (O : Nat → Nat → Nat → Option Nat) (kd : Nat → Nat) (ln : Nat → Nat) (cnt : Nat) (this : Nat) (p0 : Int32) (hB : LB la cnt P) (hlt_this : this < cnt) (hp0 : la this = 200) : pw (f_X11_rhymes G P U V X O kd ln cnt this p0) (sp1 (RF_X11_rhymes la G P U V X O kd ln cnt this p0)) := by
  unfold f_X11_rhymes
  refine pw_b1 (fun r2 hc2 => ?_)
  clear hc2
  refine pw_ite (fun _ => ?_) (fun _ => ?_)
  · skip
    exact pw_some ⟨la, (fun _ _ => rfl), hB, (Nat.le_refl _), FRM_refl, FRM_refl, FRM_refl, FRM_refl, FRM_refl, FRM_refl, (fun _ _ => rfl)⟩
  · skip
    refine pw_nn (fun a12 hn_a12 => ?_)
    have lt_a12 := ((hB.1 229 fl_229) this a12 hn_a12).2.1
    have lb_a12 : la a12 = 70 := lk_229.mp ((hB.1 229 fl_229) this a12 hn_a12).2.2
    refine pw_nn (fun a17 hn_a17 => ?_)
    have lt_a17 := ((hB.1 221 fl_221) this a17 hn_a17).2.1
    have lb_a17 : la a17 = la this + 3 := lk_221.mp ((hB.1 221 fl_221) this a17 hn_a17).2.2
    refine pw_nn (fun a21 hn_a21 => ?_)
    have lt_a21 := ((hB.1 226 fl_226) this a21 hn_a21).2.1
    have lb_a21 : la a21 = 90 := lk_226.mp ((hB.1 226 fl_226) this a21 hn_a21).2.2
    refine pw_bA9 (fun c24_G c24_P c24_U c24_V c24_X c24_O c24_kd c24_ln c24_cnt v1_24 v2_24 hc24 => ?_)
    have hq24 := fr_X0_fill la G P U V X O kd ln cnt a12 p0 a17 a21 hB lt_a12 lt_a17 lt_a21 _ hc24
    obtain ⟨la24_1, ag24, hB24, cc24, qG24, qP24, qU24, qV24, qX24, qO24, ql24⟩ : ∃ la9 : Nat → Nat, (∀ z, z < cnt → la9 z = la z) ∧ LB la9 c24_cnt c24_P ∧ cnt ≤ c24_cnt ∧ FRM cnt [60, 183, 203] (fun z => (la z < la a12 ∨ la a12 + 2 < la z) ∧ (la z < la a21 ∨ la a21 + 8 < la z)) G c24_G ∧ FRM cnt [66, 181, 182] (fun z => (la z < la a12 ∨ la a12 + 2 < la z) ∧ (la z < la a21 ∨ la a21 + 8 < la z)) P c24_P ∧ FRM cnt [184] (fun z => (la z < la a12 ∨ la a12 + 2 < la z) ∧ (la z < la a21 ∨ la a21 + 8 < la z)) U c24_U ∧ FRM cnt [0, 1, 2, 3, 12] (fun z => (la z < la a12 ∨ la a12 + 2 < la z) ∧ (la z < la a21 ∨ la a21 + 8 < la z)) V c24_V ∧ FRM cnt [1] (fun z => (la z < la a12 ∨ la a12 + 2 < la z) ∧ (la z < la a21 ∨ la a21 + 8 < la z)) X c24_X ∧ FRM cnt [1] (fun z => (la z < la a12 ∨ la a12 + 2 < la z) ∧ (la z < la a21 ∨ la a21 + 8 < la z)) O c24_O ∧ (∀ z, z < cnt → c24_ln z = ln z) := hq24
    have hle24 : cnt ≤ cnt := Nat.le_refl _
    have hg24 : ∀ z, z < cnt → la24_1 z = la z := fun z hz => (ag24 z (Nat.lt_of_lt_of_le hz hle24)).trans (rfl)
    have hF24_G : FRM cnt [60, 183, 203] (fun z => (la z < 70 ∨ 70 + 2 < la z) ∧ (la z < 90 ∨ 90 + 8 < la z)) G c24_G := FRM_trans FRM_refl qG24 hle24 (by decide) (fun z h0 hz => (show (la z < la a12 ∨ la a12 + 2 < la z) ∧ (la z < la a21 ∨ la a21 + 8 < la z) from by have q2 := hB.2 z h0; omega))
    have hF24_P : FRM cnt [66, 181, 182] (fun z => (la z < 70 ∨ 70 + 2 < la z) ∧ (la z < 90 ∨ 90 + 8 < la z)) P c24_P := FRM_trans FRM_refl qP24 hle24 (by decide) (fun z h0 hz => (show (la z < la a12 ∨ la a12 + 2 < la z) ∧ (la z < la a21 ∨ la a21 + 8 < la z) from by have q2 := hB.2 z h0; omega))
    have hF24_U : FRM cnt [184] (fun z => (la z < 70 ∨ 70 + 2 < la z) ∧ (la z < 90 ∨ 90 + 8 < la z)) U c24_U := FRM_trans FRM_refl qU24 hle24 (by decide) (fun z h0 hz => (show (la z < la a12 ∨ la a12 + 2 < la z) ∧ (la z < la a21 ∨ la a21 + 8 < la z) from by have q2 := hB.2 z h0; omega))
    have hF24_V : FRM cnt [0, 1, 2, 3, 12] (fun z => (la z < 70 ∨ 70 + 2 < la z) ∧ (la z < 90 ∨ 90 + 8 < la z)) V c24_V := FRM_trans FRM_refl qV24 hle24 (by decide) (fun z h0 hz => (show (la z < la a12 ∨ la a12 + 2 < la z) ∧ (la z < la a21 ∨ la a21 + 8 < la z) from by have q2 := hB.2 z h0; omega))
    have hF24_X : FRM cnt [1] (fun z => (la z < 70 ∨ 70 + 2 < la z) ∧ (la z < 90 ∨ 90 + 8 < la z)) X c24_X := FRM_trans FRM_refl qX24 hle24 (by decide) (fun z h0 hz => (show (la z < la a12 ∨ la a12 + 2 < la z) ∧ (la z < la a21 ∨ la a21 + 8 < la z) from by have q2 := hB.2 z h0; omega))
    have hF24_O : FRM cnt [1] (fun z => (la z < 70 ∨ 70 + 2 < la z) ∧ (la z < 90 ∨ 90 + 8 < la z)) O c24_O := FRM_trans FRM_refl qO24 hle24 (by decide) (fun z h0 hz => (show (la z < la a12 ∨ la a12 + 2 < la z) ∧ (la z < la a21 ∨ la a21 + 8 < la z) from by have q2 := hB.2 z h0; omega))
    have hln24 : ∀ z, z < cnt → c24_ln z = ln z := fun z hz => (ql24 z (Nat.lt_of_lt_of_le hz hle24)).trans (rfl)
    have g2 := ag24 this hlt_this
    have lt3 : this < c24_cnt := by omega
    have lp31 : ∀ (n31 : Nat) (y31_2 : Int32) (y31_3 : Int32), pw (L_X11_rhymes_31 this p0 c24_G c24_P c24_U c24_V c24_X c24_O c24_kd c24_ln c24_cnt n31 y31_2 y31_3) (sp1 (RF_X11_rhymes la G P U V X O kd ln cnt this p0)) := by
      intro n31
      induction n31 with
      | zero => intros; exact pw_none
      | succ n31 ih31 =>
        intro y31_2 y31_3
        show pw (B_X11_rhymes_31 this p0 c24_G c24_P c24_U c24_V c24_X c24_O c24_kd c24_ln c24_cnt (L_X11_rhymes_31 this p0 c24_G c24_P c24_U c24_V c24_X c24_O c24_kd c24_ln c24_cnt n31) y31_2 y31_3) _
        unfold B_X11_rhymes_31
        refine pw_nn (fun a33 hn_a33 => ?_)
        have lt_a33 := ((hB24.1 229 fl_229) this a33 hn_a33).2.1
        have lb_a33 : la24_1 a33 = 70 := lk_229.mp ((hB24.1 229 fl_229) this a33 hn_a33).2.2
        refine pw_nn (fun a36 hn_a36 => ?_)
        have lt_a36 := ((hB24.1 0 fl_0) a33 a36 hn_a36).2.1
        have lb_a36 : la24_1 a36 = 20 := lk_0.mp ((hB24.1 0 fl_0) a33 a36 hn_a36).2.2
        refine pw_ite (fun _ => ?_) (fun _ => ?_)
        · skip
          exact pw_some ⟨la24_1, hg24, hB24, (show cnt ≤ c24_cnt from by omega), hF24_G, hF24_P, hF24_U, hF24_V, hF24_X, hF24_O, hln24⟩
        · skip
          refine pw_vl (fun x48 _ => ?_)
          refine pw_jn (fun k111 => ∀ (x111_2 : Int32), pw (k111 x111_2) (sp1 (RF_X11_rhymes la G P U V X O kd ln cnt this p0))) ?_ ?_
          · intro x111_2
            show pw _ _
            exact ih31 x111_2 (y31_3 + 1)
          intro k111 Jk111
          have lp50 : ∀ (n50 : Nat) (y50_2 : Int32) (y50_4 : Int32), pw (L_X11_rhymes_50 this p0 c24_G c24_P c24_U c24_V c24_X c24_O c24_kd c24_ln c24_cnt y31_3 k111 n50 y50_2 y50_4) (sp1 (RF_X11_rhymes la G P U V X O kd ln cnt this p0)) := by
            intro n50
            induction n50 with
            | zero => intros; exact pw_none
            | succ n50 ih50 =>
              intro y50_2 y50_4
              show pw (B_X11_rhymes_50 this p0 c24_G c24_P c24_U c24_V c24_X c24_O c24_kd c24_ln c24_cnt y31_3 k111 (L_X11_rhymes_50 this p0 c24_G c24_P c24_U c24_V c24_X c24_O c24_kd c24_ln c24_cnt y31_3 k111 n50) y50_2 y50_4) _
              unfold B_X11_rhymes_50
              refine pw_nn (fun a53 hn_a53 => ?_)
              have lt_a53 := ((hB24.1 229 fl_229) this a53 hn_a53).2.1
              have lb_a53 : la24_1 a53 = 70 := lk_229.mp ((hB24.1 229 fl_229) this a53 hn_a53).2.2
              refine pw_nn (fun a56 hn_a56 => ?_)
              have lt_a56 := ((hB24.1 0 fl_0) a53 a56 hn_a56).2.1
              have lb_a56 : la24_1 a56 = 20 := lk_0.mp ((hB24.1 0 fl_0) a53 a56 hn_a56).2.2
              refine pw_ite (fun _ => ?_) (fun _ => ?_)
              · skip
                exact Jk111 y50_2
              · skip
                refine pw_nn (fun a66 hn_a66 => ?_)
                have lt_a66 := ((hB24.1 229 fl_229) this a66 hn_a66).2.1
                have lb_a66 : la24_1 a66 = 70 := lk_229.mp ((hB24.1 229 fl_229) this a66 hn_a66).2.2
                refine pw_nn (fun a69 hn_a69 => ?_)
                have lt_a69 := ((hB24.1 0 fl_0) a66 a69 hn_a69).2.1
                have lb_a69 : la24_1 a69 = 20 := lk_0.mp ((hB24.1 0 fl_0) a66 a69 hn_a69).2.2
                refine pw_nn (fun a74 hn_a74 => ?_)
                have lt_a74 := ((hB24.1 229 fl_229) this a74 hn_a74).2.1
                have lb_a74 : la24_1 a74 = 70 := lk_229.mp ((hB24.1 229 fl_229) this a74 hn_a74).2.2
                refine pw_nn (fun a77 hn_a77 => ?_)
                have lt_a77 := ((hB24.1 0 fl_0) a74 a77 hn_a77).2.1
                have lb_a77 : la24_1 a77 = 20 := lk_0.mp ((hB24.1 0 fl_0) a74 a77 hn_a77).2.2
                refine pw_b1 (fun r82 hc82 => ?_)
                clear hc82
                refine pw_jn (fun j105 => ∀ (x105_2 : Int32), pw (j105 x105_2) (sp1 (RF_X11_rhymes la G P U V X O kd ln cnt this p0))) ?_ ?_
                · intro x105_2
                  show pw _ _
                  exact ih50 x105_2 (y50_4 + 1)
                intro j105 Jj105
                refine pw_ite (fun _ => ?_) (fun _ => ?_)
                · skip
                  exact Jj105 y50_2
                · skip
                  refine pw_nn (fun a89 hn_a89 => ?_)
                  have lt_a89 := ((hB24.1 229 fl_229) this a89 hn_a89).2.1
                  have lb_a89 : la24_1 a89 = 70 := lk_229.mp ((hB24.1 229 fl_229) this a89 hn_a89).2.2
                  refine pw_b1 (fun r96 hc96 => ?_)
                  clear hc96
                  refine pw_ite (fun _ => ?_) (fun _ => ?_)
                  · skip
                    exact Jj105 (y50_2 + 1)
                  · skip
                    exact Jj105 y50_2
          exact lp50 NN y31_2 x48
    exact lp31 NN 0 0
abbrev RF_X11_tell (la : Nat → Nat) (G : Nat → Nat → Int32) (P : Nat → Nat → Option Nat) (U : Nat → Nat → Int64) (V : Nat → Nat → Nat → Int32) (X : Nat → Nat → Nat → Int64) (O : Nat → Nat → Nat → Option Nat) (kd : Nat → Nat) (ln : Nat → Nat) (cnt : Nat) (this : Nat) (p0 : Int32) (p1 : Int32) : (Int32 × (Nat → Nat → Int32) × (Nat → Nat → Option Nat) × (Nat → Nat → Int64) × (Nat → Nat → Nat → Int32) × (Nat → Nat → Nat → Int64) × (Nat → Nat → Nat → Option Nat) × (Nat → Nat) × (Nat → Nat) × Nat) → Prop := fun t => ∃ la1 : Nat → Nat, (∀ z, z < cnt → la1 z = la z) ∧ LB la1 (t.2.2.2.2.2.2.2.2.2) (t.2.2.1) ∧ cnt ≤ (t.2.2.2.2.2.2.2.2.2) ∧ FRM cnt [60, 183, 203] (fun z => (la z < 70 ∨ 70 + 2 < la z) ∧ (la z < 90 ∨ 90 + 8 < la z)) G (t.2.1) ∧ FRM cnt [66, 181, 182] (fun z => (la z < 70 ∨ 70 + 2 < la z) ∧ (la z < 90 ∨ 90 + 8 < la z)) P (t.2.2.1) ∧ FRM cnt [184] (fun z => (la z < 70 ∨ 70 + 2 < la z) ∧ (la z < 90 ∨ 90 + 8 < la z)) U (t.2.2.2.1) ∧ FRM cnt [0, 1, 2, 3, 12] (fun z => (la z < 70 ∨ 70 + 2 < la z) ∧ (la z < 90 ∨ 90 + 8 < la z)) V (t.2.2.2.2.1) ∧ FRM cnt [1] (fun z => (la z < 70 ∨ 70 + 2 < la z) ∧ (la z < 90 ∨ 90 + 8 < la z)) X (t.2.2.2.2.2.1) ∧ FRM cnt [1] (fun z => (la z < 70 ∨ 70 + 2 < la z) ∧ (la z < 90 ∨ 90 + 8 < la z)) O (t.2.2.2.2.2.2.1) ∧ (∀ z, z < cnt → (t.2.2.2.2.2.2.2.2.1) z = ln z)
set_option maxHeartbeats 4000000 in
set_option maxRecDepth 100000 in
theorem fr_X11_tell (la : Nat → Nat) (G : Nat → Nat → Int32) (P : Nat → Nat → Option Nat) (U : Nat → Nat → Int64) (V : Nat → Nat → Nat → Int32) (X : Nat → Nat → Nat → Int64) (O : Nat → Nat → Nat → Option Nat) (kd : Nat → Nat) (ln : Nat → Nat) (cnt : Nat) (this : Nat) (p0 : Int32) (p1 : Int32) (hB : LB la cnt P) (hlt_this : this < cnt) (hp0 : la this = 200) : pw (f_X11_tell G P U V X O kd ln cnt this p0 p1) (sp1 (RF_X11_tell la G P U V X O kd ln cnt this p0 p1)) := by
  unfold f_X11_tell
  refine pw_b1 (fun r2 hc2 => ?_)
  clear hc2
  refine pw_jn (fun j17 => pw (j17 ()) (sp1 (RF_X11_tell la G P U V X O kd ln cnt this p0 p1))) ?_ ?_
  · show pw _ _
    exact pw_some ⟨la, (fun _ _ => rfl), hB, (Nat.le_refl _), FRM_refl, FRM_refl, FRM_refl, FRM_refl, FRM_refl, FRM_refl, (fun _ _ => rfl)⟩
  intro j17 Jj17
  refine pw_ite (fun _ => ?_) (fun _ => ?_)
  · skip
    exact Jj17
  · skip
    refine pw_ite (fun _ => ?_) (fun _ => ?_)
    · skip
      exact Jj17
    · skip
      refine pw_ite (fun _ => ?_) (fun _ => ?_)
      · skip
        refine pw_nn (fun a21 hn_a21 => ?_)
        have lt_a21 := ((hB.1 229 fl_229) this a21 hn_a21).2.1
        have lb_a21 : la a21 = 70 := lk_229.mp ((hB.1 229 fl_229) this a21 hn_a21).2.2
        refine pw_nn (fun a26 hn_a26 => ?_)
        have lt_a26 := ((hB.1 221 fl_221) this a26 hn_a26).2.1
        have lb_a26 : la a26 = la this + 3 := lk_221.mp ((hB.1 221 fl_221) this a26 hn_a26).2.2
        refine pw_nn (fun a30 hn_a30 => ?_)
        have lt_a30 := ((hB.1 226 fl_226) this a30 hn_a30).2.1
        have lb_a30 : la a30 = 90 := lk_226.mp ((hB.1 226 fl_226) this a30 hn_a30).2.2
        refine pw_bA9 (fun c33_G c33_P c33_U c33_V c33_X c33_O c33_kd c33_ln c33_cnt v1_33 v2_33 hc33 => ?_)
        have hq33 := fr_X0_fill la G P U V X O kd ln cnt a21 p0 a26 a30 hB lt_a21 lt_a26 lt_a30 _ hc33
        obtain ⟨la33_1, ag33, hB33, cc33, qG33, qP33, qU33, qV33, qX33, qO33, ql33⟩ : ∃ la9 : Nat → Nat, (∀ z, z < cnt → la9 z = la z) ∧ LB la9 c33_cnt c33_P ∧ cnt ≤ c33_cnt ∧ FRM cnt [60, 183, 203] (fun z => (la z < la a21 ∨ la a21 + 2 < la z) ∧ (la z < la a30 ∨ la a30 + 8 < la z)) G c33_G ∧ FRM cnt [66, 181, 182] (fun z => (la z < la a21 ∨ la a21 + 2 < la z) ∧ (la z < la a30 ∨ la a30 + 8 < la z)) P c33_P ∧ FRM cnt [184] (fun z => (la z < la a21 ∨ la a21 + 2 < la z) ∧ (la z < la a30 ∨ la a30 + 8 < la z)) U c33_U ∧ FRM cnt [0, 1, 2, 3, 12] (fun z => (la z < la a21 ∨ la a21 + 2 < la z) ∧ (la z < la a30 ∨ la a30 + 8 < la z)) V c33_V ∧ FRM cnt [1] (fun z => (la z < la a21 ∨ la a21 + 2 < la z) ∧ (la z < la a30 ∨ la a30 + 8 < la z)) X c33_X ∧ FRM cnt [1] (fun z => (la z < la a21 ∨ la a21 + 2 < la z) ∧ (la z < la a30 ∨ la a30 + 8 < la z)) O c33_O ∧ (∀ z, z < cnt → c33_ln z = ln z) := hq33
        have hle33 : cnt ≤ cnt := Nat.le_refl _
        have hg33 : ∀ z, z < cnt → la33_1 z = la z := fun z hz => (ag33 z (Nat.lt_of_lt_of_le hz hle33)).trans (rfl)
        have hF33_G : FRM cnt [60, 183, 203] (fun z => (la z < 70 ∨ 70 + 2 < la z) ∧ (la z < 90 ∨ 90 + 8 < la z)) G c33_G := FRM_trans FRM_refl qG33 hle33 (by decide) (fun z h0 hz => (show (la z < la a21 ∨ la a21 + 2 < la z) ∧ (la z < la a30 ∨ la a30 + 8 < la z) from by have q2 := hB.2 z h0; omega))
        have hF33_P : FRM cnt [66, 181, 182] (fun z => (la z < 70 ∨ 70 + 2 < la z) ∧ (la z < 90 ∨ 90 + 8 < la z)) P c33_P := FRM_trans FRM_refl qP33 hle33 (by decide) (fun z h0 hz => (show (la z < la a21 ∨ la a21 + 2 < la z) ∧ (la z < la a30 ∨ la a30 + 8 < la z) from by have q2 := hB.2 z h0; omega))
        have hF33_U : FRM cnt [184] (fun z => (la z < 70 ∨ 70 + 2 < la z) ∧ (la z < 90 ∨ 90 + 8 < la z)) U c33_U := FRM_trans FRM_refl qU33 hle33 (by decide) (fun z h0 hz => (show (la z < la a21 ∨ la a21 + 2 < la z) ∧ (la z < la a30 ∨ la a30 + 8 < la z) from by have q2 := hB.2 z h0; omega))
        have hF33_V : FRM cnt [0, 1, 2, 3, 12] (fun z => (la z < 70 ∨ 70 + 2 < la z) ∧ (la z < 90 ∨ 90 + 8 < la z)) V c33_V := FRM_trans FRM_refl qV33 hle33 (by decide) (fun z h0 hz => (show (la z < la a21 ∨ la a21 + 2 < la z) ∧ (la z < la a30 ∨ la a30 + 8 < la z) from by have q2 := hB.2 z h0; omega))
        have hF33_X : FRM cnt [1] (fun z => (la z < 70 ∨ 70 + 2 < la z) ∧ (la z < 90 ∨ 90 + 8 < la z)) X c33_X := FRM_trans FRM_refl qX33 hle33 (by decide) (fun z h0 hz => (show (la z < la a21 ∨ la a21 + 2 < la z) ∧ (la z < la a30 ∨ la a30 + 8 < la z) from by have q2 := hB.2 z h0; omega))
        have hF33_O : FRM cnt [1] (fun z => (la z < 70 ∨ 70 + 2 < la z) ∧ (la z < 90 ∨ 90 + 8 < la z)) O c33_O := FRM_trans FRM_refl qO33 hle33 (by decide) (fun z h0 hz => (show (la z < la a21 ∨ la a21 + 2 < la z) ∧ (la z < la a30 ∨ la a30 + 8 < la z) from by have q2 := hB.2 z h0; omega))
        have hln33 : ∀ z, z < cnt → c33_ln z = ln z := fun z hz => (ql33 z (Nat.lt_of_lt_of_le hz hle33)).trans (rfl)
        have g2 := ag33 this hlt_this
        have lt3 : this < c33_cnt := by omega
        have lp41 : ∀ (n41 : Nat) (y41_3 : Int32) (y41_4 : Int32), pw (L_X11_tell_41 this p0 p1 c33_G c33_P c33_U c33_V c33_X c33_O c33_kd c33_ln c33_cnt n41 y41_3 y41_4) (sp1 (RF_X11_tell la G P U V X O kd ln cnt this p0 p1)) := by
          intro n41
          induction n41 with
          | zero => intros; exact pw_none
          | succ n41 ih41 =>
            intro y41_3 y41_4
            show pw (B_X11_tell_41 this p0 p1 c33_G c33_P c33_U c33_V c33_X c33_O c33_kd c33_ln c33_cnt (L_X11_tell_41 this p0 p1 c33_G c33_P c33_U c33_V c33_X c33_O c33_kd c33_ln c33_cnt n41) y41_3 y41_4) _
            unfold B_X11_tell_41
            refine pw_nn (fun a44 hn_a44 => ?_)
            have lt_a44 := ((hB33.1 229 fl_229) this a44 hn_a44).2.1
            have lb_a44 : la33_1 a44 = 70 := lk_229.mp ((hB33.1 229 fl_229) this a44 hn_a44).2.2
            refine pw_nn (fun a47 hn_a47 => ?_)
            have lt_a47 := ((hB33.1 0 fl_0) a44 a47 hn_a47).2.1
            have lb_a47 : la33_1 a47 = 20 := lk_0.mp ((hB33.1 0 fl_0) a44 a47 hn_a47).2.2
            refine pw_ite (fun _ => ?_) (fun _ => ?_)
            · skip
              exact pw_some ⟨la33_1, hg33, hB33, (show cnt ≤ c33_cnt from by omega), hF33_G, hF33_P, hF33_U, hF33_V, hF33_X, hF33_O, hln33⟩
            · skip
              refine pw_nn (fun a57 hn_a57 => ?_)
              have lt_a57 := ((hB33.1 229 fl_229) this a57 hn_a57).2.1
              have lb_a57 : la33_1 a57 = 70 := lk_229.mp ((hB33.1 229 fl_229) this a57 hn_a57).2.2
              refine pw_b1 (fun r64 hc64 => ?_)
              clear hc64
              refine pw_jn (fun j73 => ∀ (x73_3 : Int32), pw (j73 x73_3) (sp1 (RF_X11_tell la G P U V X O kd ln cnt this p0 p1))) ?_ ?_
              · intro x73_3
                show pw _ _
                exact ih41 x73_3 (y41_4 + 1)
              intro j73 Jj73
              refine pw_ite (fun _ => ?_) (fun _ => ?_)
              · skip
                exact Jj73 y41_3
              · skip
                exact Jj73 (y41_3 + 1)
        exact lp41 NN 0 0
      · skip
        exact Jj17
abbrev RF_X11_uses (la : Nat → Nat) (G : Nat → Nat → Int32) (P : Nat → Nat → Option Nat) (U : Nat → Nat → Int64) (V : Nat → Nat → Nat → Int32) (X : Nat → Nat → Nat → Int64) (O : Nat → Nat → Nat → Option Nat) (kd : Nat → Nat) (ln : Nat → Nat) (cnt : Nat) (this : Nat) (p0 : Int32) (p1 : Int32) : (Int32 × (Nat → Nat → Int32) × (Nat → Nat → Option Nat) × (Nat → Nat → Int64) × (Nat → Nat → Nat → Int32) × (Nat → Nat → Nat → Int64) × (Nat → Nat → Nat → Option Nat) × (Nat → Nat) × (Nat → Nat) × Nat) → Prop := fun t => ∃ la1 : Nat → Nat, (∀ z, z < cnt → la1 z = la z) ∧ LB la1 (t.2.2.2.2.2.2.2.2.2) (t.2.2.1) ∧ cnt ≤ (t.2.2.2.2.2.2.2.2.2) ∧ FRM cnt [60, 183, 203] (fun z => (la z < 70 ∨ 70 + 2 < la z) ∧ (la z < 90 ∨ 90 + 8 < la z)) G (t.2.1) ∧ FRM cnt [66, 181, 182] (fun z => (la z < 70 ∨ 70 + 2 < la z) ∧ (la z < 90 ∨ 90 + 8 < la z)) P (t.2.2.1) ∧ FRM cnt [184] (fun z => (la z < 70 ∨ 70 + 2 < la z) ∧ (la z < 90 ∨ 90 + 8 < la z)) U (t.2.2.2.1) ∧ FRM cnt [0, 1, 2, 3, 12] (fun z => (la z < 70 ∨ 70 + 2 < la z) ∧ (la z < 90 ∨ 90 + 8 < la z)) V (t.2.2.2.2.1) ∧ FRM cnt [1] (fun z => (la z < 70 ∨ 70 + 2 < la z) ∧ (la z < 90 ∨ 90 + 8 < la z)) X (t.2.2.2.2.2.1) ∧ FRM cnt [1] (fun z => (la z < 70 ∨ 70 + 2 < la z) ∧ (la z < 90 ∨ 90 + 8 < la z)) O (t.2.2.2.2.2.2.1) ∧ (∀ z, z < cnt → (t.2.2.2.2.2.2.2.2.1) z = ln z)
set_option maxHeartbeats 4000000 in
set_option maxRecDepth 100000 in
theorem fr_X11_uses (la : Nat → Nat) (G : Nat → Nat → Int32) (P : Nat → Nat → Option Nat) (U : Nat → Nat → Int64) (V : Nat → Nat → Nat → Int32) (X : Nat → Nat → Nat → Int64) (O : Nat → Nat → Nat → Option Nat) (kd : Nat → Nat) (ln : Nat → Nat) (cnt : Nat) (this : Nat) (p0 : Int32) (p1 : Int32) (hB : LB la cnt P) (hlt_this : this < cnt) (hp0 : la this = 200) : pw (f_X11_uses G P U V X O kd ln cnt this p0 p1) (sp1 (RF_X11_uses la G P U V X O kd ln cnt this p0 p1)) := by
  unfold f_X11_uses
  refine pw_b1 (fun r2 hc2 => ?_)
  clear hc2
  refine pw_jn (fun j22 => pw (j22 ()) (sp1 (RF_X11_uses la G P U V X O kd ln cnt this p0 p1))) ?_ ?_
  · show pw _ _
    exact pw_some ⟨la, (fun _ _ => rfl), hB, (Nat.le_refl _), FRM_refl, FRM_refl, FRM_refl, FRM_refl, FRM_refl, FRM_refl, (fun _ _ => rfl)⟩
  intro j22 Jj22
  refine pw_oc (fun _ => ?_) (fun b7 _ => ?_)
  · skip
    exact Jj22
  · skip
    refine pw_ite (fun _ => ?_) (fun _ => ?_)
    · skip
      exact Jj22
    · skip
      refine pw_ite (fun _ => ?_) (fun _ => ?_)
      · skip
        refine pw_nn (fun a26 hn_a26 => ?_)
        have lt_a26 := ((hB.1 229 fl_229) this a26 hn_a26).2.1
        have lb_a26 : la a26 = 70 := lk_229.mp ((hB.1 229 fl_229) this a26 hn_a26).2.2
        refine pw_nn (fun a33 hn_a33 => ?_)
        have lt_a33 := ((hB.1 221 fl_221) this a33 hn_a33).2.1
        have lb_a33 : la a33 = la this + 3 := lk_221.mp ((hB.1 221 fl_221) this a33 hn_a33).2.2
        refine pw_nn (fun a37 hn_a37 => ?_)
        have lt_a37 := ((hB.1 226 fl_226) this a37 hn_a37).2.1
        have lb_a37 : la a37 = 90 := lk_226.mp ((hB.1 226 fl_226) this a37 hn_a37).2.2
        refine pw_bA9 (fun c40_G c40_P c40_U c40_V c40_X c40_O c40_kd c40_ln c40_cnt v1_40 v2_40 hc40 => ?_)
        have hq40 := fr_X0_fill la G P U V X O kd ln cnt a26 (p0 + 1) a33 a37 hB lt_a26 lt_a33 lt_a37 _ hc40
        obtain ⟨la40_1, ag40, hB40, cc40, qG40, qP40, qU40, qV40, qX40, qO40, ql40⟩ : ∃ la9 : Nat → Nat, (∀ z, z < cnt → la9 z = la z) ∧ LB la9 c40_cnt c40_P ∧ cnt ≤ c40_cnt ∧ FRM cnt [60, 183, 203] (fun z => (la z < la a26 ∨ la a26 + 2 < la z) ∧ (la z < la a37 ∨ la a37 + 8 < la z)) G c40_G ∧ FRM cnt [66, 181, 182] (fun z => (la z < la a26 ∨ la a26 + 2 < la z) ∧ (la z < la a37 ∨ la a37 + 8 < la z)) P c40_P ∧ FRM cnt [184] (fun z => (la z < la a26 ∨ la a26 + 2 < la z) ∧ (la z < la a37 ∨ la a37 + 8 < la z)) U c40_U ∧ FRM cnt [0, 1, 2, 3, 12] (fun z => (la z < la a26 ∨ la a26 + 2 < la z) ∧ (la z < la a37 ∨ la a37 + 8 < la z)) V c40_V ∧ FRM cnt [1] (fun z => (la z < la a26 ∨ la a26 + 2 < la z) ∧ (la z < la a37 ∨ la a37 + 8 < la z)) X c40_X ∧ FRM cnt [1] (fun z => (la z < la a26 ∨ la a26 + 2 < la z) ∧ (la z < la a37 ∨ la a37 + 8 < la z)) O c40_O ∧ (∀ z, z < cnt → c40_ln z = ln z) := hq40
        have hle40 : cnt ≤ cnt := Nat.le_refl _
        have hg40 : ∀ z, z < cnt → la40_1 z = la z := fun z hz => (ag40 z (Nat.lt_of_lt_of_le hz hle40)).trans (rfl)
        have hF40_G : FRM cnt [60, 183, 203] (fun z => (la z < 70 ∨ 70 + 2 < la z) ∧ (la z < 90 ∨ 90 + 8 < la z)) G c40_G := FRM_trans FRM_refl qG40 hle40 (by decide) (fun z h0 hz => (show (la z < la a26 ∨ la a26 + 2 < la z) ∧ (la z < la a37 ∨ la a37 + 8 < la z) from by have q2 := hB.2 z h0; omega))
        have hF40_P : FRM cnt [66, 181, 182] (fun z => (la z < 70 ∨ 70 + 2 < la z) ∧ (la z < 90 ∨ 90 + 8 < la z)) P c40_P := FRM_trans FRM_refl qP40 hle40 (by decide) (fun z h0 hz => (show (la z < la a26 ∨ la a26 + 2 < la z) ∧ (la z < la a37 ∨ la a37 + 8 < la z) from by have q2 := hB.2 z h0; omega))
        have hF40_U : FRM cnt [184] (fun z => (la z < 70 ∨ 70 + 2 < la z) ∧ (la z < 90 ∨ 90 + 8 < la z)) U c40_U := FRM_trans FRM_refl qU40 hle40 (by decide) (fun z h0 hz => (show (la z < la a26 ∨ la a26 + 2 < la z) ∧ (la z < la a37 ∨ la a37 + 8 < la z) from by have q2 := hB.2 z h0; omega))
        have hF40_V : FRM cnt [0, 1, 2, 3, 12] (fun z => (la z < 70 ∨ 70 + 2 < la z) ∧ (la z < 90 ∨ 90 + 8 < la z)) V c40_V := FRM_trans FRM_refl qV40 hle40 (by decide) (fun z h0 hz => (show (la z < la a26 ∨ la a26 + 2 < la z) ∧ (la z < la a37 ∨ la a37 + 8 < la z) from by have q2 := hB.2 z h0; omega))
        have hF40_X : FRM cnt [1] (fun z => (la z < 70 ∨ 70 + 2 < la z) ∧ (la z < 90 ∨ 90 + 8 < la z)) X c40_X := FRM_trans FRM_refl qX40 hle40 (by decide) (fun z h0 hz => (show (la z < la a26 ∨ la a26 + 2 < la z) ∧ (la z < la a37 ∨ la a37 + 8 < la z) from by have q2 := hB.2 z h0; omega))
        have hF40_O : FRM cnt [1] (fun z => (la z < 70 ∨ 70 + 2 < la z) ∧ (la z < 90 ∨ 90 + 8 < la z)) O c40_O := FRM_trans FRM_refl qO40 hle40 (by decide) (fun z h0 hz => (show (la z < la a26 ∨ la a26 + 2 < la z) ∧ (la z < la a37 ∨ la a37 + 8 < la z) from by have q2 := hB.2 z h0; omega))
        have hln40 : ∀ z, z < cnt → c40_ln z = ln z := fun z hz => (ql40 z (Nat.lt_of_lt_of_le hz hle40)).trans (rfl)
        have g2 := ag40 this hlt_this
        have lt3 : this < c40_cnt := by omega
        have lp49 : ∀ (n49 : Nat) (y49_4 : Int32) (y49_5 : Int32), pw (L_X11_uses_49 this p0 p1 c40_G c40_P c40_U c40_V c40_X c40_O c40_kd c40_ln c40_cnt n49 y49_4 y49_5) (sp1 (RF_X11_uses la G P U V X O kd ln cnt this p0 p1)) := by
          intro n49
          induction n49 with
          | zero => intros; exact pw_none
          | succ n49 ih49 =>
            intro y49_4 y49_5
            show pw (B_X11_uses_49 this p0 p1 c40_G c40_P c40_U c40_V c40_X c40_O c40_kd c40_ln c40_cnt (L_X11_uses_49 this p0 p1 c40_G c40_P c40_U c40_V c40_X c40_O c40_kd c40_ln c40_cnt n49) y49_4 y49_5) _
            unfold B_X11_uses_49
            refine pw_nn (fun a52 hn_a52 => ?_)
            have lt_a52 := ((hB40.1 229 fl_229) this a52 hn_a52).2.1
            have lb_a52 : la40_1 a52 = 70 := lk_229.mp ((hB40.1 229 fl_229) this a52 hn_a52).2.2
            refine pw_nn (fun a55 hn_a55 => ?_)
            have lt_a55 := ((hB40.1 0 fl_0) a52 a55 hn_a55).2.1
            have lb_a55 : la40_1 a55 = 20 := lk_0.mp ((hB40.1 0 fl_0) a52 a55 hn_a55).2.2
            refine pw_ite (fun _ => ?_) (fun _ => ?_)
            · skip
              exact pw_some ⟨la40_1, hg40, hB40, (show cnt ≤ c40_cnt from by omega), hF40_G, hF40_P, hF40_U, hF40_V, hF40_X, hF40_O, hln40⟩
            · skip
              refine pw_nn (fun a65 hn_a65 => ?_)
              have lt_a65 := ((hB40.1 229 fl_229) this a65 hn_a65).2.1
              have lb_a65 : la40_1 a65 = 70 := lk_229.mp ((hB40.1 229 fl_229) this a65 hn_a65).2.2
              refine pw_b1 (fun r72 hc72 => ?_)
              clear hc72
              refine pw_jn (fun j81 => ∀ (x81_4 : Int32), pw (j81 x81_4) (sp1 (RF_X11_uses la G P U V X O kd ln cnt this p0 p1))) ?_ ?_
              · intro x81_4
                show pw _ _
                exact ih49 x81_4 (y49_5 + 1)
              intro j81 Jj81
              refine pw_ite (fun _ => ?_) (fun _ => ?_)
              · skip
                exact Jj81 y49_4
              · skip
                exact Jj81 (y49_4 + 1)
        exact lp49 NN 0 0
      · skip
        exact Jj22
abbrev RF_X11_mixed (la : Nat → Nat) (G : Nat → Nat → Int32) (P : Nat → Nat → Option Nat) (U : Nat → Nat → Int64) (V : Nat → Nat → Nat → Int32) (X : Nat → Nat → Nat → Int64) (O : Nat → Nat → Nat → Option Nat) (kd : Nat → Nat) (ln : Nat → Nat) (cnt : Nat) (this : Nat) (p0 : Int32) : (Int32 × (Nat → Nat → Int32) × (Nat → Nat → Option Nat) × (Nat → Nat → Int64) × (Nat → Nat → Nat → Int32) × (Nat → Nat → Nat → Int64) × (Nat → Nat → Nat → Option Nat) × (Nat → Nat) × (Nat → Nat) × Nat) → Prop := fun t => ∃ la1 : Nat → Nat, (∀ z, z < cnt → la1 z = la z) ∧ LB la1 (t.2.2.2.2.2.2.2.2.2) (t.2.2.1) ∧ cnt ≤ (t.2.2.2.2.2.2.2.2.2) ∧ FRM cnt [43, 44, 45, 60, 141, 160, 161, 162, 163, 165, 166, 167, 183, 203] (fun z => (la z < 10 ∨ 10 < la z) ∧ (la z < 70 ∨ 70 + 2 < la z) ∧ (la z < 90 ∨ 90 + 8 < la z) ∧ (la z < 310 ∨ 310 < la z) ∧ (la z < 330 ∨ 330 < la z)) G (t.2.1) ∧ FRM cnt [66, 164, 181, 182] (fun z => (la z < 10 ∨ 10 < la z) ∧ (la z < 70 ∨ 70 + 2 < la z) ∧ (la z < 90 ∨ 90 + 8 < la z) ∧ (la z < 310 ∨ 310 < la z) ∧ (la z < 330 ∨ 330 < la z)) P (t.2.2.1) ∧ FRM cnt [184] (fun z => (la z < 10 ∨ 10 < la z) ∧ (la z < 70 ∨ 70 + 2 < la z) ∧ (la z < 90 ∨ 90 + 8 < la z) ∧ (la z < 310 ∨ 310 < la z) ∧ (la z < 330 ∨ 330 < la z)) U (t.2.2.2.1) ∧ FRM cnt [0, 1, 2, 3, 7, 8, 9, 12] (fun z => (la z < 10 ∨ 10 < la z) ∧ (la z < 70 ∨ 70 + 2 < la z) ∧ (la z < 90 ∨ 90 + 8 < la z) ∧ (la z < 310 ∨ 310 < la z) ∧ (la z < 330 ∨ 330 < la z)) V (t.2.2.2.2.1) ∧ FRM cnt [1] (fun z => (la z < 10 ∨ 10 < la z) ∧ (la z < 70 ∨ 70 + 2 < la z) ∧ (la z < 90 ∨ 90 + 8 < la z) ∧ (la z < 310 ∨ 310 < la z) ∧ (la z < 330 ∨ 330 < la z)) X (t.2.2.2.2.2.1) ∧ FRM cnt [1] (fun z => (la z < 10 ∨ 10 < la z) ∧ (la z < 70 ∨ 70 + 2 < la z) ∧ (la z < 90 ∨ 90 + 8 < la z) ∧ (la z < 310 ∨ 310 < la z) ∧ (la z < 330 ∨ 330 < la z)) O (t.2.2.2.2.2.2.1) ∧ (∀ z, z < cnt → (t.2.2.2.2.2.2.2.2.1) z = ln z)
set_option maxHeartbeats 4000000 in
set_option maxRecDepth 100000 in
theorem fr_X11_mixed (la : Nat → Nat) (G : Nat → Nat → Int32) (P : Nat → Nat → Option Nat) (U : Nat → Nat → Int64) (V : Nat → Nat → Nat → Int32) (X : Nat → Nat → Nat → Int64) (O : Nat → Nat → Nat → Option Nat) (kd : Nat → Nat) (ln : Nat → Nat) (cnt : Nat) (this : Nat) (p0 : Int32) (hB : LB la cnt P) (hlt_this : this < cnt) (hp0 : la this = 200) : pw (f_X11_mixed G P U V X O kd ln cnt this p0) (sp1 (RF_X11_mixed la G P U V X O kd ln cnt this p0)) := by
  unfold f_X11_mixed
  refine pw_nn (fun a1 hn_a1 => ?_)
  have lt_a1 := ((hB.1 220 fl_220) this a1 hn_a1).2.1
  have lb_a1 : la a1 = 10 := lk_220.mp ((hB.1 220 fl_220) this a1 hn_a1).2.2
  refine pw_b2 (fun r4 c4_G141 hc4 => ?_)
  have hq4 := fr_X7_take la G P U V X O kd ln cnt a1 hB _ hc4
  have q4_G141 : (∀ z, (la z < la a1 ∨ la a1 < la z) → c4_G141 z = (G 141) z) := hq4
  have tz4 : ∀ z, (z < cnt ∧ (la z < 10 ∨ 10 < la z) ∧ (la z < 70 ∨ 70 + 2 < la z) ∧ (la z < 90 ∨ 90 + 8 < la z) ∧ (la z < 310 ∨ 310 < la z) ∧ (la z < 330 ∨ 330 < la z)) → ((la z < la a1 ∨ la a1 < la z)) := fun z hz => by omega
  have hf1 : ∀ z, (z < cnt ∧ (la z < 10 ∨ 10 < la z) ∧ (la z < 70 ∨ 70 + 2 < la z) ∧ (la z < 90 ∨ 90 + 8 < la z) ∧ (la z < 310 ∨ 310 < la z) ∧ (la z < 330 ∨ 330 < la z)) → c4_G141 z = (G 141) z := fun z hz => (q4_G141 z (tz4 z hz)).trans (rfl)
  clear hc4 hq4
  refine pw_jn (fun j18 => pw (j18 ()) (sp1 (RF_X11_mixed la G P U V X O kd ln cnt this p0))) ?_ ?_
  · show pw _ _
    exact pw_some ⟨la, (fun _ _ => rfl), hB, (Nat.le_refl _), (FRM_set FRM_refl (by decide) (fun z h1 h2 => hf1 z ⟨h1, h2⟩)), FRM_refl, FRM_refl, FRM_refl, FRM_refl, FRM_refl, (fun _ _ => rfl)⟩
  intro j18 Jj18
  refine pw_ite (fun _ => ?_) (fun _ => ?_)
  · skip
    exact Jj18
  · skip
    refine pw_ite (fun _ => ?_) (fun _ => ?_)
    · skip
      refine pw_nn (fun a22 hn_a22 => ?_)
      have lt_a22 := ((hB.1 220 fl_220) this a22 hn_a22).2.1
      have lb_a22 : la a22 = 10 := lk_220.mp ((hB.1 220 fl_220) this a22 hn_a22).2.2
      refine pw_b1 (fun r26 hc26 => ?_)
      clear hc26
      refine pw_nn (fun a31 hn_a31 => ?_)
      have lt_a31 := ((hB.1 220 fl_220) this a31 hn_a31).2.1
      have lb_a31 : la a31 = 10 := lk_220.mp ((hB.1 220 fl_220) this a31 hn_a31).2.2
      refine pw_b1 (fun r35 hc35 => ?_)
      clear hc35
      refine pw_jn (fun j47 => pw (j47 ()) (sp1 (RF_X11_mixed la G P U V X O kd ln cnt this p0))) ?_ ?_
      · show pw _ _
        exact pw_some ⟨la, (fun _ _ => rfl), hB, (Nat.le_refl _), (FRM_set FRM_refl (by decide) (fun z h1 h2 => hf1 z ⟨h1, h2⟩)), FRM_refl, FRM_refl, FRM_refl, FRM_refl, FRM_refl, (fun _ _ => rfl)⟩
      intro j47 Jj47
      refine pw_ite (fun _ => ?_) (fun _ => ?_)
      · skip
        refine pw_ite (fun _ => ?_) (fun _ => ?_)
        · skip
          refine pw_nn (fun a50 hn_a50 => ?_)
          have lt_a50 := ((hB.1 229 fl_229) this a50 hn_a50).2.1
          have lb_a50 : la a50 = 70 := lk_229.mp ((hB.1 229 fl_229) this a50 hn_a50).2.2
          refine pw_nn (fun a58 hn_a58 => ?_)
          have lt_a58 := ((hB.1 221 fl_221) this a58 hn_a58).2.1
          have lb_a58 : la a58 = la this + 3 := lk_221.mp ((hB.1 221 fl_221) this a58 hn_a58).2.2
          refine pw_nn (fun a62 hn_a62 => ?_)
          have lt_a62 := ((hB.1 226 fl_226) this a62 hn_a62).2.1
          have lb_a62 : la a62 = 90 := lk_226.mp ((hB.1 226 fl_226) this a62 hn_a62).2.2
          refine pw_bA9 (fun c65_G c65_P c65_U c65_V c65_X c65_O c65_kd c65_ln c65_cnt v1_65 v2_65 hc65 => ?_)
          have hq65 := fr_X0_fill la (va_up G 141 c4_G141) P U V X O kd ln cnt a50 ((G 222) this) a58 a62 hB lt_a50 lt_a58 lt_a62 _ hc65
          obtain ⟨la65_2, ag65, hB65, cc65, qG65, qP65, qU65, qV65, qX65, qO65, ql65⟩ : ∃ la9 : Nat → Nat, (∀ z, z < cnt → la9 z = la z) ∧ LB la9 c65_cnt c65_P ∧ cnt ≤ c65_cnt ∧ FRM cnt [60, 183, 203] (fun z => (la z < la a50 ∨ la a50 + 2 < la z) ∧ (la z < la a62 ∨ la a62 + 8 < la z)) (va_up G 141 c4_G141) c65_G ∧ FRM cnt [66, 181, 182] (fun z => (la z < la a50 ∨ la a50 + 2 < la z) ∧ (la z < la a62 ∨ la a62 + 8 < la z)) P c65_P ∧ FRM cnt [184] (fun z => (la z < la a50 ∨ la a50 + 2 < la z) ∧ (la z < la a62 ∨ la a62 + 8 < la z)) U c65_U ∧ FRM cnt [0, 1, 2, 3, 12] (fun z => (la z < la a50 ∨ la a50 + 2 < la z) ∧ (la z < la a62 ∨ la a62 + 8 < la z)) V c65_V ∧ FRM cnt [1] (fun z => (la z < la a50 ∨ la a50 + 2 < la z) ∧ (la z < la a62 ∨ la a62 + 8 < la z)) X c65_X ∧ FRM cnt [1] (fun z => (la z < la a50 ∨ la a50 + 2 < la z) ∧ (la z < la a62 ∨ la a62 + 8 < la z)) O c65_O ∧ (∀ z, z < cnt → c65_ln z = ln z) := hq65
          have hle65 : cnt ≤ cnt := Nat.le_refl _
          have hg65 : ∀ z, z < cnt → la65_2 z = la z := fun z hz => (ag65 z (Nat.lt_of_lt_of_le hz hle65)).trans (rfl)
          have hF65_G : FRM cnt [43, 44, 45, 60, 141, 160, 161, 162, 163, 165, 166, 167, 183, 203] (fun z => (la z < 10 ∨ 10 < la z) ∧ (la z < 70 ∨ 70 + 2 < la z) ∧ (la z < 90 ∨ 90 + 8 < la z) ∧ (la z < 310 ∨ 310 < la z) ∧ (la z < 330 ∨ 330 < la z)) G c65_G := FRM_trans (FRM_set FRM_refl (by decide) (fun z h1 h2 => hf1 z ⟨h1, h2⟩)) qG65 hle65 (by decide) (fun z h0 hz => (show (la z < la a50 ∨ la a50 + 2 < la z) ∧ (la z < la a62 ∨ la a62 + 8 < la z) from by have q2 := hB.2 z h0; omega))
          have hF65_P : FRM cnt [66, 164, 181, 182] (fun z => (la z < 10 ∨ 10 < la z) ∧ (la z < 70 ∨ 70 + 2 < la z) ∧ (la z < 90 ∨ 90 + 8 < la z) ∧ (la z < 310 ∨ 310 < la z) ∧ (la z < 330 ∨ 330 < la z)) P c65_P := FRM_trans FRM_refl qP65 hle65 (by decide) (fun z h0 hz => (show (la z < la a50 ∨ la a50 + 2 < la z) ∧ (la z < la a62 ∨ la a62 + 8 < la z) from by have q2 := hB.2 z h0; omega))
          have hF65_U : FRM cnt [184] (fun z => (la z < 10 ∨ 10 < la z) ∧ (la z < 70 ∨ 70 + 2 < la z) ∧ (la z < 90 ∨ 90 + 8 < la z) ∧ (la z < 310 ∨ 310 < la z) ∧ (la z < 330 ∨ 330 < la z)) U c65_U := FRM_trans FRM_refl qU65 hle65 (by decide) (fun z h0 hz => (show (la z < la a50 ∨ la a50 + 2 < la z) ∧ (la z < la a62 ∨ la a62 + 8 < la z) from by have q2 := hB.2 z h0; omega))
          have hF65_V : FRM cnt [0, 1, 2, 3, 7, 8, 9, 12] (fun z => (la z < 10 ∨ 10 < la z) ∧ (la z < 70 ∨ 70 + 2 < la z) ∧ (la z < 90 ∨ 90 + 8 < la z) ∧ (la z < 310 ∨ 310 < la z) ∧ (la z < 330 ∨ 330 < la z)) V c65_V := FRM_trans FRM_refl qV65 hle65 (by decide) (fun z h0 hz => (show (la z < la a50 ∨ la a50 + 2 < la z) ∧ (la z < la a62 ∨ la a62 + 8 < la z) from by have q2 := hB.2 z h0; omega))
          have hF65_X : FRM cnt [1] (fun z => (la z < 10 ∨ 10 < la z) ∧ (la z < 70 ∨ 70 + 2 < la z) ∧ (la z < 90 ∨ 90 + 8 < la z) ∧ (la z < 310 ∨ 310 < la z) ∧ (la z < 330 ∨ 330 < la z)) X c65_X := FRM_trans FRM_refl qX65 hle65 (by decide) (fun z h0 hz => (show (la z < la a50 ∨ la a50 + 2 < la z) ∧ (la z < la a62 ∨ la a62 + 8 < la z) from by have q2 := hB.2 z h0; omega))
          have hF65_O : FRM cnt [1] (fun z => (la z < 10 ∨ 10 < la z) ∧ (la z < 70 ∨ 70 + 2 < la z) ∧ (la z < 90 ∨ 90 + 8 < la z) ∧ (la z < 310 ∨ 310 < la z) ∧ (la z < 330 ∨ 330 < la z)) O c65_O := FRM_trans FRM_refl qO65 hle65 (by decide) (fun z h0 hz => (show (la z < la a50 ∨ la a50 + 2 < la z) ∧ (la z < la a62 ∨ la a62 + 8 < la z) from by have q2 := hB.2 z h0; omega))
          have hln65 : ∀ z, z < cnt → c65_ln z = ln z := fun z hz => (ql65 z (Nat.lt_of_lt_of_le hz hle65)).trans (rfl)
          have g3 := ag65 this hlt_this
          have lt4 : this < c65_cnt := by omega
          refine pw_nn (fun a69 hn_a69 => ?_)
          have lt_a69 := ((hB65.1 236 fl_236) this a69 hn_a69).2.1
          have lb_a69 : la65_2 a69 = 330 := lk_236.mp ((hB65.1 236 fl_236) this a69 hn_a69).2.2
          refine pw_b3 (fun c79_G44 c79_G45 c79_V7 hc79 => ?_)
          have hq79 := fr_X2_begin la65_2 c65_G c65_P c65_U c65_V c65_X c65_O c65_kd c65_ln c65_cnt a69 r26 (((c65_G 222) this) + 1) hB65 _ hc79
          obtain ⟨q79_G44, q79_G45, q79_V7⟩ : (∀ z, (la65_2 z < la65_2 a69 ∨ la65_2 a69 < la65_2 z) → c79_G44 z = (c65_G 44) z) ∧ (∀ z, (la65_2 z < la65_2 a69 ∨ la65_2 a69 < la65_2 z) → c79_G45 z = (c65_G 45) z) ∧ (∀ z, (la65_2 z < la65_2 a69 ∨ la65_2 a69 < la65_2 z) → c79_V7 z = (c65_V 7) z) := hq79
          have tz79 : ∀ z, (z < cnt ∧ (la z < 10 ∨ 10 < la z) ∧ (la z < 70 ∨ 70 + 2 < la z) ∧ (la z < 90 ∨ 90 + 8 < la z) ∧ (la z < 310 ∨ 310 < la z) ∧ (la z < 330 ∨ 330 < la z)) → ((la65_2 z < la65_2 a69 ∨ la65_2 a69 < la65_2 z)) := fun z hz => by have q1 := hg65 z hz.1; have q2 := hB.2 z hz.1; omega
          have hf5 : ∀ z, (z < cnt ∧ (la z < 10 ∨ 10 < la z) ∧ (la z < 70 ∨ 70 + 2 < la z) ∧ (la z < 90 ∨ 90 + 8 < la z) ∧ (la z < 310 ∨ 310 < la z) ∧ (la z < 330 ∨ 330 < la z)) → c79_G44 z = (G 44) z := fun z hz => (q79_G44 z (tz79 z hz)).trans (hF65_G 44 z hz.1 (fun _ => hz.2))
          have hf6 : ∀ z, (z < cnt ∧ (la z < 10 ∨ 10 < la z) ∧ (la z < 70 ∨ 70 + 2 < la z) ∧ (la z < 90 ∨ 90 + 8 < la z) ∧ (la z < 310 ∨ 310 < la z) ∧ (la z < 330 ∨ 330 < la z)) → c79_G45 z = (G 45) z := fun z hz => (q79_G45 z (tz79 z hz)).trans (hF65_G 45 z hz.1 (fun _ => hz.2))
          have hf7 : ∀ z, (z < cnt ∧ (la z < 10 ∨ 10 < la z) ∧ (la z < 70 ∨ 70 + 2 < la z) ∧ (la z < 90 ∨ 90 + 8 < la z) ∧ (la z < 310 ∨ 310 < la z) ∧ (la z < 330 ∨ 330 < la z)) → c79_V7 z = (V 7) z := fun z hz => (q79_V7 z (tz79 z hz)).trans (hF65_V 7 z hz.1 (fun _ => hz.2))
          clear hc79
          refine pw_nn (fun a83 hn_a83 => ?_)
          have lt_a83 := ((hB65.1 234 fl_234) this a83 hn_a83).2.1
          have lb_a83 : la65_2 a83 = 310 := lk_234.mp ((hB65.1 234 fl_234) this a83 hn_a83).2.2
          refine pw_nn (fun a87 hn_a87 => ?_)
          have lt_a87 := ((hB65.1 220 fl_220) this a87 hn_a87).2.1
          have lb_a87 : la65_2 a87 = 10 := lk_220.mp ((hB65.1 220 fl_220) this a87 hn_a87).2.2
          refine pw_nn (fun a90 hn_a90 => ?_)
          have lt_a90 := ((hB65.1 140 fl_140) a87 a90 hn_a90).2.1
          have lb_a90 : la65_2 a90 = la65_2 a87 + 1 := lk_140.mp ((hB65.1 140 fl_140) a87 a90 hn_a90).2.2
          refine pw_b5 (fun c94_G162 c94_G165 c94_G166 c94_G167 c94_P164 hc94 => ?_)
          have hq94 := fr_X8_begin la65_2 (va_up (va_up c65_G 44 c79_G44) 45 c79_G45) c65_P c65_U (va_up c65_V 7 c79_V7) c65_X c65_O c65_kd c65_ln c65_cnt a83 a90 r4 hB65 lt_a83 lt_a90 _ hc94
          obtain ⟨q94_G162, q94_G165, q94_G166, q94_G167, q94_P164, ql94_164⟩ : (∀ z, (la65_2 z < la65_2 a83 ∨ la65_2 a83 < la65_2 z) → c94_G162 z = (c65_G 162) z) ∧ (∀ z, (la65_2 z < la65_2 a83 ∨ la65_2 a83 < la65_2 z) → c94_G165 z = (c65_G 165) z) ∧ (∀ z, (la65_2 z < la65_2 a83 ∨ la65_2 a83 < la65_2 z) → c94_G166 z = (c65_G 166) z) ∧ (∀ z, (la65_2 z < la65_2 a83 ∨ la65_2 a83 < la65_2 z) → c94_G167 z = (c65_G 167) z) ∧ (∀ z, (la65_2 z < la65_2 a83 ∨ la65_2 a83 < la65_2 z) → c94_P164 z = (c65_P 164) z) ∧ LC 164 la65_2 c65_cnt c94_P164 := hq94
          have tz94 : ∀ z, (z < cnt ∧ (la z < 10 ∨ 10 < la z) ∧ (la z < 70 ∨ 70 + 2 < la z) ∧ (la z < 90 ∨ 90 + 8 < la z) ∧ (la z < 310 ∨ 310 < la z) ∧ (la z < 330 ∨ 330 < la z)) → ((la65_2 z < la65_2 a83 ∨ la65_2 a83 < la65_2 z)) := fun z hz => by have q1 := hg65 z hz.1; have q2 := hB.2 z hz.1; omega
          have hf8 : ∀ z, (z < cnt ∧ (la z < 10 ∨ 10 < la z) ∧ (la z < 70 ∨ 70 + 2 < la z) ∧ (la z < 90 ∨ 90 + 8 < la z) ∧ (la z < 310 ∨ 310 < la z) ∧ (la z < 330 ∨ 330 < la z)) → c94_G162 z = (G 162) z := fun z hz => (q94_G162 z (tz94 z hz)).trans (hF65_G 162 z hz.1 (fun _ => hz.2))
          have hf9 : ∀ z, (z < cnt ∧ (la z < 10 ∨ 10 < la z) ∧ (la z < 70 ∨ 70 + 2 < la z) ∧ (la z < 90 ∨ 90 + 8 < la z) ∧ (la z < 310 ∨ 310 < la z) ∧ (la z < 330 ∨ 330 < la z)) → c94_G165 z = (G 165) z := fun z hz => (q94_G165 z (tz94 z hz)).trans (hF65_G 165 z hz.1 (fun _ => hz.2))
          have hf10 : ∀ z, (z < cnt ∧ (la z < 10 ∨ 10 < la z) ∧ (la z < 70 ∨ 70 + 2 < la z) ∧ (la z < 90 ∨ 90 + 8 < la z) ∧ (la z < 310 ∨ 310 < la z) ∧ (la z < 330 ∨ 330 < la z)) → c94_G166 z = (G 166) z := fun z hz => (q94_G166 z (tz94 z hz)).trans (hF65_G 166 z hz.1 (fun _ => hz.2))
          have hf11 : ∀ z, (z < cnt ∧ (la z < 10 ∨ 10 < la z) ∧ (la z < 70 ∨ 70 + 2 < la z) ∧ (la z < 90 ∨ 90 + 8 < la z) ∧ (la z < 310 ∨ 310 < la z) ∧ (la z < 330 ∨ 330 < la z)) → c94_G167 z = (G 167) z := fun z hz => (q94_G167 z (tz94 z hz)).trans (hF65_G 167 z hz.1 (fun _ => hz.2))
          have hf12 : ∀ z, (z < cnt ∧ (la z < 10 ∨ 10 < la z) ∧ (la z < 70 ∨ 70 + 2 < la z) ∧ (la z < 90 ∨ 90 + 8 < la z) ∧ (la z < 310 ∨ 310 < la z) ∧ (la z < 330 ∨ 330 < la z)) → c94_P164 z = (P 164) z := fun z hz => (q94_P164 z (tz94 z hz)).trans (hF65_P 164 z hz.1 (fun _ => hz.2))
          clear hc94
          refine pw_jn (fun k136 => ∀ (c136_G160 : Nat → Int32) (c136_G161 : Nat → Int32) (c136_G162 : Nat → Int32) (c136_G163 : Nat → Int32) (c136_G166 : Nat → Int32) (c136_G167 : Nat → Int32) (c136_V7 : Nat → Nat → Int32), (∀ z, (z < cnt ∧ (la z < 10 ∨ 10 < la z) ∧ (la z < 70 ∨ 70 + 2 < la z) ∧ (la z < 90 ∨ 90 + 8 < la z) ∧ (la z < 310 ∨ 310 < la z) ∧ (la z < 330 ∨ 330 < la z)) → c136_G160 z = (G 160) z) → (∀ z, (z < cnt ∧ (la z < 10 ∨ 10 < la z) ∧ (la z < 70 ∨ 70 + 2 < la z) ∧ (la z < 90 ∨ 90 + 8 < la z) ∧ (la z < 310 ∨ 310 < la z) ∧ (la z < 330 ∨ 330 < la z)) → c136_G161 z = (G 161) z) → (∀ z, (z < cnt ∧ (la z < 10 ∨ 10 < la z) ∧ (la z < 70 ∨ 70 + 2 < la z) ∧ (la z < 90 ∨ 90 + 8 < la z) ∧ (la z < 310 ∨ 310 < la z) ∧ (la z < 330 ∨ 330 < la z)) → c136_G162 z = (G 162) z) → (∀ z, (z < cnt ∧ (la z < 10 ∨ 10 < la z) ∧ (la z < 70 ∨ 70 + 2 < la z) ∧ (la z < 90 ∨ 90 + 8 < la z) ∧ (la z < 310 ∨ 310 < la z) ∧ (la z < 330 ∨ 330 < la z)) → c136_G163 z = (G 163) z) → (∀ z, (z < cnt ∧ (la z < 10 ∨ 10 < la z) ∧ (la z < 70 ∨ 70 + 2 < la z) ∧ (la z < 90 ∨ 90 + 8 < la z) ∧ (la z < 310 ∨ 310 < la z) ∧ (la z < 330 ∨ 330 < la z)) → c136_G166 z = (G 166) z) → (∀ z, (z < cnt ∧ (la z < 10 ∨ 10 < la z) ∧ (la z < 70 ∨ 70 + 2 < la z) ∧ (la z < 90 ∨ 90 + 8 < la z) ∧ (la z < 310 ∨ 310 < la z) ∧ (la z < 330 ∨ 330 < la z)) → c136_G167 z = (G 167) z) → (∀ z, (z < cnt ∧ (la z < 10 ∨ 10 < la z) ∧ (la z < 70 ∨ 70 + 2 < la z) ∧ (la z < 90 ∨ 90 + 8 < la z) ∧ (la z < 310 ∨ 310 < la z) ∧ (la z < 330 ∨ 330 < la z)) → c136_V7 z = (V 7) z) → pw (k136 c136_G160 c136_G161 c136_G162 c136_G163 c136_G166 c136_G167 c136_V7) (sp1 (RF_X11_mixed la G P U V X O kd ln cnt this p0))) ?_ ?_
          · intro c136_G160 c136_G161 c136_G162 c136_G163 c136_G166 c136_G167 c136_V7 hf13 hf14 hf15 hf16 hf17 hf18 hf19
            show pw _ _
            refine pw_nn (fun a137 hn_a137 => ?_)
            have lt_a137 := ((hB65.1 236 fl_236) this a137 hn_a137).2.1
            have lb_a137 : la65_2 a137 = 330 := lk_236.mp ((hB65.1 236 fl_236) this a137 hn_a137).2.2
            refine pw_b4 (fun r141 c141_G43 c141_V8 c141_V9 hc141 => ?_)
            have hq141 := fr_X2_settle la65_2 (va_up (va_up (va_up (va_up (va_up (va_up (va_up (va_up (va_up c65_G 44 c79_G44) 45 c79_G45) 160 c136_G160) 161 c136_G161) 162 c136_G162) 163 c136_G163) 165 c94_G165) 166 c136_G166) 167 c136_G167) (va_up c65_P 164 c94_P164) c65_U (va_up c65_V 7 c136_V7) c65_X c65_O c65_kd c65_ln c65_cnt a137 p0 (LB_set hB65 ql94_164) _ hc141
            obtain ⟨q141_G43, q141_V8, q141_V9⟩ : (∀ z, (la65_2 z < la65_2 a137 ∨ la65_2 a137 < la65_2 z) → c141_G43 z = (c65_G 43) z) ∧ (∀ z, (la65_2 z < la65_2 a137 ∨ la65_2 a137 < la65_2 z) → c141_V8 z = (c65_V 8) z) ∧ (∀ z, (la65_2 z < la65_2 a137 ∨ la65_2 a137 < la65_2 z) → c141_V9 z = (c65_V 9) z) := hq141
            have tz141 : ∀ z, (z < cnt ∧ (la z < 10 ∨ 10 < la z) ∧ (la z < 70 ∨ 70 + 2 < la z) ∧ (la z < 90 ∨ 90 + 8 < la z) ∧ (la z < 310 ∨ 310 < la z) ∧ (la z < 330 ∨ 330 < la z)) → ((la65_2 z < la65_2 a137 ∨ la65_2 a137 < la65_2 z)) := fun z hz => by have q1 := hg65 z hz.1; have q2 := hB.2 z hz.1; omega
            have hf20 : ∀ z, (z < cnt ∧ (la z < 10 ∨ 10 < la z) ∧ (la z < 70 ∨ 70 + 2 < la z) ∧ (la z < 90 ∨ 90 + 8 < la z) ∧ (la z < 310 ∨ 310 < la z) ∧ (la z < 330 ∨ 330 < la z)) → c141_G43 z = (G 43) z := fun z hz => (q141_G43 z (tz141 z hz)).trans (hF65_G 43 z hz.1 (fun _ => hz.2))
            have hf21 : ∀ z, (z < cnt ∧ (la z < 10 ∨ 10 < la z) ∧ (la z < 70 ∨ 70 + 2 < la z) ∧ (la z < 90 ∨ 90 + 8 < la z) ∧ (la z < 310 ∨ 310 < la z) ∧ (la z < 330 ∨ 330 < la z)) → c141_V8 z = (V 8) z := fun z hz => (q141_V8 z (tz141 z hz)).trans (hF65_V 8 z hz.1 (fun _ => hz.2))
            have hf22 : ∀ z, (z < cnt ∧ (la z < 10 ∨ 10 < la z) ∧ (la z < 70 ∨ 70 + 2 < la z) ∧ (la z < 90 ∨ 90 + 8 < la z) ∧ (la z < 310 ∨ 310 < la z) ∧ (la z < 330 ∨ 330 < la z)) → c141_V9 z = (V 9) z := fun z hz => (q141_V9 z (tz141 z hz)).trans (hF65_V 9 z hz.1 (fun _ => hz.2))
            clear hc141
            exact pw_some ⟨la65_2, hg65, (LB_set hB65 ql94_164), (show cnt ≤ c65_cnt from by omega), (FRM_set (FRM_set (FRM_set (FRM_set (FRM_set (FRM_set (FRM_set (FRM_set (FRM_set (FRM_set hF65_G (by decide) (fun z h1 h2 => hf5 z ⟨h1, h2⟩)) (by decide) (fun z h1 h2 => hf6 z ⟨h1, h2⟩)) (by decide) (fun z h1 h2 => hf13 z ⟨h1, h2⟩)) (by decide) (fun z h1 h2 => hf14 z ⟨h1, h2⟩)) (by decide) (fun z h1 h2 => hf15 z ⟨h1, h2⟩)) (by decide) (fun z h1 h2 => hf16 z ⟨h1, h2⟩)) (by decide) (fun z h1 h2 => hf9 z ⟨h1, h2⟩)) (by decide) (fun z h1 h2 => hf17 z ⟨h1, h2⟩)) (by decide) (fun z h1 h2 => hf18 z ⟨h1, h2⟩)) (by decide) (fun z h1 h2 => hf20 z ⟨h1, h2⟩)), (FRM_set hF65_P (by decide) (fun z h1 h2 => hf12 z ⟨h1, h2⟩)), hF65_U, (FRM_set (FRM_set (FRM_set hF65_V (by decide) (fun z h1 h2 => hf19 z ⟨h1, h2⟩)) (by decide) (fun z h1 h2 => hf21 z ⟨h1, h2⟩)) (by decide) (fun z h1 h2 => hf22 z ⟨h1, h2⟩)), hF65_X, hF65_O, hln65⟩
          intro k136 Jk136
          have lp100 : ∀ (n100 : Nat) (y100_4 : Int32) (d100_G160 : Nat → Int32) (d100_G161 : Nat → Int32) (d100_G162 : Nat → Int32) (d100_G163 : Nat → Int32) (d100_G166 : Nat → Int32) (d100_G167 : Nat → Int32) (d100_V7 : Nat → Nat → Int32), (∀ z, (z < cnt ∧ (la z < 10 ∨ 10 < la z) ∧ (la z < 70 ∨ 70 + 2 < la z) ∧ (la z < 90 ∨ 90 + 8 < la z) ∧ (la z < 310 ∨ 310 < la z) ∧ (la z < 330 ∨ 330 < la z)) → d100_G160 z = (G 160) z) → (∀ z, (z < cnt ∧ (la z < 10 ∨ 10 < la z) ∧ (la z < 70 ∨ 70 + 2 < la z) ∧ (la z < 90 ∨ 90 + 8 < la z) ∧ (la z < 310 ∨ 310 < la z) ∧ (la z < 330 ∨ 330 < la z)) → d100_G161 z = (G 161) z) → (∀ z, (z < cnt ∧ (la z < 10 ∨ 10 < la z) ∧ (la z < 70 ∨ 70 + 2 < la z) ∧ (la z < 90 ∨ 90 + 8 < la z) ∧ (la z < 310 ∨ 310 < la z) ∧ (la z < 330 ∨ 330 < la z)) → d100_G162 z = (G 162) z) → (∀ z, (z < cnt ∧ (la z < 10 ∨ 10 < la z) ∧ (la z < 70 ∨ 70 + 2 < la z) ∧ (la z < 90 ∨ 90 + 8 < la z) ∧ (la z < 310 ∨ 310 < la z) ∧ (la z < 330 ∨ 330 < la z)) → d100_G163 z = (G 163) z) → (∀ z, (z < cnt ∧ (la z < 10 ∨ 10 < la z) ∧ (la z < 70 ∨ 70 + 2 < la z) ∧ (la z < 90 ∨ 90 + 8 < la z) ∧ (la z < 310 ∨ 310 < la z) ∧ (la z < 330 ∨ 330 < la z)) → d100_G166 z = (G 166) z) → (∀ z, (z < cnt ∧ (la z < 10 ∨ 10 < la z) ∧ (la z < 70 ∨ 70 + 2 < la z) ∧ (la z < 90 ∨ 90 + 8 < la z) ∧ (la z < 310 ∨ 310 < la z) ∧ (la z < 330 ∨ 330 < la z)) → d100_G167 z = (G 167) z) → (∀ z, (z < cnt ∧ (la z < 10 ∨ 10 < la z) ∧ (la z < 70 ∨ 70 + 2 < la z) ∧ (la z < 90 ∨ 90 + 8 < la z) ∧ (la z < 310 ∨ 310 < la z) ∧ (la z < 330 ∨ 330 < la z)) → d100_V7 z = (V 7) z) → pw (L_X11_mixed_100 this r4 c65_G c65_P c65_U c65_V c65_X c65_O c65_kd c65_ln c65_cnt c79_G44 c79_G45 c94_G165 c94_P164 k136 n100 y100_4 d100_G160 d100_G161 d100_G162 d100_G163 d100_G166 d100_G167 d100_V7) (sp1 (RF_X11_mixed la G P U V X O kd ln cnt this p0)) := by
            intro n100
            induction n100 with
            | zero => intros; exact pw_none
            | succ n100 ih100 =>
              intro y100_4 d100_G160 d100_G161 d100_G162 d100_G163 d100_G166 d100_G167 d100_V7 hf23 hf24 hf25 hf26 hf27 hf28 hf29
              show pw (B_X11_mixed_100 this r4 c65_G c65_P c65_U c65_V c65_X c65_O c65_kd c65_ln c65_cnt c79_G44 c79_G45 c94_G165 c94_P164 k136 (L_X11_mixed_100 this r4 c65_G c65_P c65_U c65_V c65_X c65_O c65_kd c65_ln c65_cnt c79_G44 c79_G45 c94_G165 c94_P164 k136 n100) y100_4 d100_G160 d100_G161 d100_G162 d100_G163 d100_G166 d100_G167 d100_V7) _
              unfold B_X11_mixed_100
              refine pw_ite (fun _ => ?_) (fun _ => ?_)
              · skip
                exact Jk136 d100_G160 d100_G161 d100_G162 d100_G163 d100_G166 d100_G167 d100_V7 hf23 hf24 hf25 hf26 hf27 hf28 hf29
              · skip
                refine pw_nn (fun a107 hn_a107 => ?_)
                have lt_a107 := ((hB65.1 234 fl_234) this a107 hn_a107).2.1
                have lb_a107 : la65_2 a107 = 310 := lk_234.mp ((hB65.1 234 fl_234) this a107 hn_a107).2.2
                refine pw_b7 (fun r110 c110_G160 c110_G161 c110_G162 c110_G163 c110_G166 c110_G167 hc110 => ?_)
                have hq110 := fr_X8_next la65_2 (va_up (va_up (va_up (va_up (va_up (va_up (va_up (va_up (va_up c65_G 44 c79_G44) 45 c79_G45) 160 d100_G160) 161 d100_G161) 162 d100_G162) 163 d100_G163) 165 c94_G165) 166 d100_G166) 167 d100_G167) (va_up c65_P 164 c94_P164) c65_U (va_up c65_V 7 d100_V7) c65_X c65_O c65_kd c65_ln c65_cnt a107 (LB_set hB65 ql94_164) _ hc110
                obtain ⟨q110_G160, q110_G161, q110_G162, q110_G163, q110_G166, q110_G167⟩ : (∀ z, (la65_2 z < la65_2 a107 ∨ la65_2 a107 < la65_2 z) → c110_G160 z = d100_G160 z) ∧ (∀ z, (la65_2 z < la65_2 a107 ∨ la65_2 a107 < la65_2 z) → c110_G161 z = d100_G161 z) ∧ (∀ z, (la65_2 z < la65_2 a107 ∨ la65_2 a107 < la65_2 z) → c110_G162 z = d100_G162 z) ∧ (∀ z, (la65_2 z < la65_2 a107 ∨ la65_2 a107 < la65_2 z) → c110_G163 z = d100_G163 z) ∧ (∀ z, (la65_2 z < la65_2 a107 ∨ la65_2 a107 < la65_2 z) → c110_G166 z = d100_G166 z) ∧ (∀ z, (la65_2 z < la65_2 a107 ∨ la65_2 a107 < la65_2 z) → c110_G167 z = d100_G167 z) := hq110
                have tz110 : ∀ z, (z < cnt ∧ (la z < 10 ∨ 10 < la z) ∧ (la z < 70 ∨ 70 + 2 < la z) ∧ (la z < 90 ∨ 90 + 8 < la z) ∧ (la z < 310 ∨ 310 < la z) ∧ (la z < 330 ∨ 330 < la z)) → ((la65_2 z < la65_2 a107 ∨ la65_2 a107 < la65_2 z)) := fun z hz => by have q1 := hg65 z hz.1; have q2 := hB.2 z hz.1; omega
                have hf30 : ∀ z, (z < cnt ∧ (la z < 10 ∨ 10 < la z) ∧ (la z < 70 ∨ 70 + 2 < la z) ∧ (la z < 90 ∨ 90 + 8 < la z) ∧ (la z < 310 ∨ 310 < la z) ∧ (la z < 330 ∨ 330 < la z)) → c110_G160 z = (G 160) z := fun z hz => (q110_G160 z (tz110 z hz)).trans (hf23 z hz)
                have hf31 : ∀ z, (z < cnt ∧ (la z < 10 ∨ 10 < la z) ∧ (la z < 70 ∨ 70 + 2 < la z) ∧ (la z < 90 ∨ 90 + 8 < la z) ∧ (la z < 310 ∨ 310 < la z) ∧ (la z < 330 ∨ 330 < la z)) → c110_G161 z = (G 161) z := fun z hz => (q110_G161 z (tz110 z hz)).trans (hf24 z hz)
                have hf32 : ∀ z, (z < cnt ∧ (la z < 10 ∨ 10 < la z) ∧ (la z < 70 ∨ 70 + 2 < la z) ∧ (la z < 90 ∨ 90 + 8 < la z) ∧ (la z < 310 ∨ 310 < la z) ∧ (la z < 330 ∨ 330 < la z)) → c110_G162 z = (G 162) z := fun z hz => (q110_G162 z (tz110 z hz)).trans (hf25 z hz)
                have hf33 : ∀ z, (z < cnt ∧ (la z < 10 ∨ 10 < la z) ∧ (la z < 70 ∨ 70 + 2 < la z) ∧ (la z < 90 ∨ 90 + 8 < la z) ∧ (la z < 310 ∨ 310 < la z) ∧ (la z < 330 ∨ 330 < la z)) → c110_G163 z = (G 163) z := fun z hz => (q110_G163 z (tz110 z hz)).trans (hf26 z hz)
                have hf34 : ∀ z, (z < cnt ∧ (la z < 10 ∨ 10 < la z) ∧ (la z < 70 ∨ 70 + 2 < la z) ∧ (la z < 90 ∨ 90 + 8 < la z) ∧ (la z < 310 ∨ 310 < la z) ∧ (la z < 330 ∨ 330 < la z)) → c110_G166 z = (G 166) z := fun z hz => (q110_G166 z (tz110 z hz)).trans (hf27 z hz)
                have hf35 : ∀ z, (z < cnt ∧ (la z < 10 ∨ 10 < la z) ∧ (la z < 70 ∨ 70 + 2 < la z) ∧ (la z < 90 ∨ 90 + 8 < la z) ∧ (la z < 310 ∨ 310 < la z) ∧ (la z < 330 ∨ 330 < la z)) → c110_G167 z = (G 167) z := fun z hz => (q110_G167 z (tz110 z hz)).trans (hf28 z hz)
                clear hc110
                refine pw_ite (fun _ => ?_) (fun _ => ?_)
                · skip
                  exact Jk136 c110_G160 c110_G161 c110_G162 c110_G163 c110_G166 c110_G167 d100_V7 hf30 hf31 hf32 hf33 hf34 hf35 hf29
                · skip
                  refine pw_nn (fun a117 hn_a117 => ?_)
                  have lt_a117 := ((hB65.1 234 fl_234) this a117 hn_a117).2.1
                  have lb_a117 : la65_2 a117 = 310 := lk_234.mp ((hB65.1 234 fl_234) this a117 hn_a117).2.2
                  refine pw_jn (fun j130 => ∀ (c130_V7 : Nat → Nat → Int32), (∀ z, (z < cnt ∧ (la z < 10 ∨ 10 < la z) ∧ (la z < 70 ∨ 70 + 2 < la z) ∧ (la z < 90 ∨ 90 + 8 < la z) ∧ (la z < 310 ∨ 310 < la z) ∧ (la z < 330 ∨ 330 < la z)) → c130_V7 z = (V 7) z) → pw (j130 c130_V7) (sp1 (RF_X11_mixed la G P U V X O kd ln cnt this p0))) ?_ ?_
                  · intro c130_V7 hf36
                    show pw _ _
                    exact ih100 (y100_4 + 1) c110_G160 c110_G161 c110_G162 c110_G163 c110_G166 c110_G167 c130_V7 hf30 hf31 hf32 hf33 hf34 hf35 hf36
                  intro j130 Jj130
                  refine pw_ite (fun _ => ?_) (fun _ => ?_)
                  · skip
                    refine pw_b1 (fun c127_V7 hc127 => ?_)
                    have hq127 := fr_X11_chargeWord la65_2 (va_up (va_up (va_up (va_up (va_up (va_up (va_up (va_up (va_up (va_up (va_up (va_up (va_up (va_up (va_up c65_G 44 c79_G44) 45 c79_G45) 160 d100_G160) 161 d100_G161) 162 d100_G162) 163 d100_G163) 165 c94_G165) 166 d100_G166) 167 d100_G167) 160 c110_G160) 161 c110_G161) 162 c110_G162) 163 c110_G163) 166 c110_G166) 167 c110_G167) (va_up c65_P 164 c94_P164) c65_U (va_up c65_V 7 d100_V7) c65_X c65_O c65_kd c65_ln c65_cnt this (LB_set hB65 ql94_164) (show la65_2 this = 200 from by omega) _ hc127
                    have q127_V7 : (∀ z, (la65_2 z < 330 ∨ 330 < la65_2 z) → c127_V7 z = d100_V7 z) := hq127
                    have tz127 : ∀ z, (z < cnt ∧ (la z < 10 ∨ 10 < la z) ∧ (la z < 70 ∨ 70 + 2 < la z) ∧ (la z < 90 ∨ 90 + 8 < la z) ∧ (la z < 310 ∨ 310 < la z) ∧ (la z < 330 ∨ 330 < la z)) → ((la65_2 z < 330 ∨ 330 < la65_2 z)) := fun z hz => by have q1 := hg65 z hz.1; have q2 := hB.2 z hz.1; omega
                    have hf37 : ∀ z, (z < cnt ∧ (la z < 10 ∨ 10 < la z) ∧ (la z < 70 ∨ 70 + 2 < la z) ∧ (la z < 90 ∨ 90 + 8 < la z) ∧ (la z < 310 ∨ 310 < la z) ∧ (la z < 330 ∨ 330 < la z)) → c127_V7 z = (V 7) z := fun z hz => (q127_V7 z (tz127 z hz)).trans (hf29 z hz)
                    clear hc127 hq127
                    exact Jj130 c127_V7 hf37
                  · skip
                    exact Jj130 d100_V7 hf29
          exact lp100 NN 0 (c65_G 160) (c65_G 161) c94_G162 (c65_G 163) c94_G166 c94_G167 c79_V7 (fun z hz => hF65_G 160 z hz.1 (fun _ => hz.2)) (fun z hz => hF65_G 161 z hz.1 (fun _ => hz.2)) hf8 (fun z hz => hF65_G 163 z hz.1 (fun _ => hz.2)) hf10 hf11 hf7
        · skip
          exact Jj47
      · skip
        exact Jj47
    · skip
      exact Jj18
