
set_option maxHeartbeats 4000000 in
set_option maxRecDepth 100000 in
theorem bm_X7_init {p : Program} {l : Launch} {e : Env} {s : State} {m : MethodId} {args : Array Value} {below : List Frame} {meth : Method} {c : Code} {Q : State → Prop} {A : Nat → Prop} {dC : Nat → ClassId} {dI : Nat → Nat → Nat} {kk : Nat → ClassId} {ad : Nat → Nat} {ws : va_W} {G : Nat → Nat → Int32} {P : Nat → Nat → Option Nat} {U : Nat → Nat → Int64} {V : Nat → Nat → Nat → Int32} {X : Nat → Nat → Nat → Int64} {O : Nat → Nat → Nat → Option Nat} {kd : Nat → Nat} {ln : Nat → Nat} {cnt : Nat} {H : Heap} {locs : List Loc} {ls : Array Slot} (this : Nat) (hk_this : kd this = 8) (c_G : Nat → Nat → Int32) (c_P : Nat → Nat → Option Nat) (c_U : Nat → Nat → Int64) (c_V : Nat → Nat → Nat → Int32) (c_X : Nat → Nat → Nat → Int64) (c_O : Nat → Nat → Nat → Option Nat) (c_kd : Nat → Nat) (c_ln : Nat → Nat) (c_cnt : Nat) (uc us : Nat) (hr : f_X7_init G P U V X O kd ln cnt this = some ((c_G, c_P, c_U, c_V, c_X, c_O, c_kd, c_ln, c_cnt), uc, us)) (hx : p.tables.exec = Jvm.exec) (hb : c.code = cX7_init) (hml : c.maxLocals = 1) (hown : s.vm.findClass RX7 = some m.cls) (hts : ∀ w ∈ vmX7_init, w.before args s = true) (hin : meth.name = "<init>") (hA : ∀ q : Nat, s.heap.size ≤ q → A q) (hK : va_K (dC, dI) vwCl (cT kk) s) (hW : LW ws ad kk kd ln G P U V X O) (hT : TYP kd P O (V 0) cnt) (hP : va_P (dC, dI) vwCl ws H) (hD : va_D A ws) (hS : va_S A s.heap H locs) (hl : lv_has ls 1 [(0, .ref (ad this))])
    (K : ∀ (pc : Nat) (ls : Array Slot) (c_Gz : Nat → Nat → Int32) (c_Pz : Nat → Nat → Option Nat) (c_Uz : Nat → Nat → Int64) (c_Vz : Nat → Nat → Nat → Int32) (c_Xz : Nat → Nat → Nat → Int64) (c_Oz : Nat → Nat → Nat → Option Nat) (c_kdz : Nat → Nat) (c_lnz : Nat → Nat) (c_cntz : Nat) (adz : Nat → Nat) (ws : va_W) (H : Heap) (locs : List Loc), some (c_Gz, c_Pz, c_Uz, c_Vz, c_Xz, c_Oz, c_kdz, c_lnz, c_cntz) = some (c_G, c_P, c_U, c_V, c_X, c_O, c_kd, c_ln, c_cnt) → decode cX7_init pc = .ok (.return_, 1) → adEx kd ad c_kdz adz → LW ws adz kk c_kdz c_lnz c_Gz c_Pz c_Uz c_Vz c_Xz c_Oz → TYP c_kdz c_Pz c_Oz (c_Vz 0) c_cntz → va_P (dC, dI) vwCl ws H → va_D A ws → va_S A s.heap H locs → W p l e ({ frames := 3, cells := uc, slots := us, locals := 90 } : Room) s m args below meth c H locs uc us Q (F0 m pc ls [])) : W p l e ({ frames := 3, cells := uc, slots := us, locals := 90 } : Room) s m args below meth c H locs 0 0 Q (F0 m 0 ls []) := by
  have hu1 : 0 + uc = uc := Nat.zero_add _
  have hu2 : 0 + us = us := Nat.zero_add _
  have hE : adEx kd ad kd ad := ⟨fun _ _ => rfl, fun _ _ => rfl⟩
  unfold f_X7_init at hr
  refine lv_aload_n hx hb dX7_init_0 rfl (lv_at hl 0 rfl) ?_
  refine W.objInit hx hb hown (hts (.methodLink RX7 3 objectInit) ic_620) (hts (.instanceMethod objectInit) ic_494) (hts (.code objectInit ⟨#[0xb1]⟩ 1 none) ic_495) rfl (by rw [hml]; exact hl.1) rfl dX7_init_1 (Nat.le_of_ble_eq_true rfl) (Nat.le_of_ble_eq_true rfl) ?_
  refine W.eq (g2 := F0 m 4 ls []) rfl ?_
  refine lv_aload_n hx hb dX7_init_4 rfl (lv_at hl 0 rfl) ?_
  refine lv_sipush (v := 2000) hx hb dX7_init_5 (by decide +kernel) ?_
  replace hr := iteS hr
  obtain ⟨hi8, hr⟩ := hr
  replace hr := tkS hr
  obtain ⟨zw1, zw2, hr, hq1, hq2⟩ := hr
  refine va_newa (atype := .byte) (a0 := ((Int32.toNatClampNeg 2000), .inl (fun _ => 0))) (ty := .byte) (N' := (Int32.toNatClampNeg 2000)) hx hb (hts (.arrayClass .byte) ic_496) rfl hK hP hD hS hA (fun _ => rfl) (nabS hi8).1 rfl (nabB hi8 (by decide)) (by show _ ≤ uc; omega) (by show _ ≤ us; omega) dX7_init_8 (fun q8 cA H hK2 hP2 hD2 hS => ?_)
  obtain rfl : cA = kk 0 := kA_byte hK2
  clear hK2
  replace hr := newcS hr hW hT hD2 (by decide) (fun _ => rfl)
  obtain ⟨G8, P8, U8, V8, X8, O8, kd8, ln8, cnt8, ad8, hr, hW, hT, hE2, hk_n8, hqa⟩ := hr
  subst hqa
  obtain ⟨w1, hP, hD, hW⟩ : ∃ w : va_W, va_P (dC, dI) vwCl w H ∧ va_D A w ∧ LW w ad8 kk kd8 ln8 G8 P8 U8 V8 X8 O8 := ⟨_, hP2, hD2, hW⟩
  clear hP2 hD2
  have ea_this : ad this = ad8 this := (hE2.1 this (by rw [hk_this]; decide)).symm
  have hk1_this := (hE2.2 this (by rw [hk_this]; decide)).trans hk_this
  rw [ea_this] at hl
  rw [ea_this]
  clear ea_this
  replace hE := adE hE hE2
  clear hE2
  obtain ⟨ccn2, eccn2⟩ : ∃ y : Nat, y = (0 + 1) := ⟨_, rfl⟩
  obtain ⟨csn2, ecsn2⟩ : ∃ y : Nat, y = (0 + (Int32.toNatClampNeg 2000)) := ⟨_, rfl⟩
  refine W.widen (k := ccn2) (n := csn2) (Nat.le_of_eq eccn2.symm) (Nat.le_of_eq ecsn2.symm) ?_
  replace hu1 : ccn2 + zw1 = uc := by omega
  replace hu2 : csn2 + zw2 = us := by omega
  clear eccn2 ecsn2
  obtain ⟨i3, hi3⟩ := hW.o7 hk1_this
  refine va_putF (D := (dC, dI)) (ci := 7) (v := .ref (ad8 cnt)) (ty := (.array .byte)) (C := RX7) (T := TX7) (N := 2) hx hb hts inX7 tyX7 tyX7_ok nmX7 hown hK hP hD hS i3 hi3 rfl 0 (by decide) (hts (.fieldLink RX7 9 "SpellTurner$Tape" "bytes" "[B") ic_36) (fun _ h9 => h9) rfl hin rfl (by decide +kernel) rfl rfl (Nat.le_of_ble_eq_true rfl) dX7_init_10 (fun H locs hP2 hD2 hS => ?_)
  obtain ⟨m10, w4, em10, hP, hD, hW⟩ : ∃ (z : Nat → Option Nat) (w : va_W), z = (va_up (P8 140) this (some cnt)) ∧ va_P (dC, dI) vwCl w H ∧ va_D A w ∧ LW w ad8 kk kd8 ln8 G8 (va_up P8 140 z) U8 V8 X8 O8 := ⟨_, _, rfl, hP2, hD2, hW.setP hD hi3 (by rw [hk1_this]; decide) 140 (some cnt) (by rw [hk1_this]; rfl)⟩
  replace hT : TYP kd8 (va_up P8 140 m10) O8 (V8 0) cnt8 := by rw [em10]; exact hT.setP 140 this cnt hk_n8
  replace hr := vlS hr m10 em10
  clear em10
  refine lv_aload_n hx hb dX7_init_13 rfl (lv_at hl 0 rfl) ?_
  refine lv_iconst (v := 0) hx hb dX7_init_14 (by decide +kernel) ?_
  obtain ⟨i5, hi5⟩ := hW.o7 hk1_this
  refine va_put (D := (dC, dI)) (ci := 7) (v := .int 0) (ty := .int) (C := RX7) (T := TX7) (N := 2) hx hb hts inX7 tyX7 tyX7_ok nmX7 hown hK hP hD hS i5 hi5 rfl 1 (by decide) (hts (.fieldLink RX7 15 "SpellTurner$Tape" "length" "I") ic_34) (fun _ h9 => h9) rfl (by decide +kernel) rfl rfl (Nat.le_of_ble_eq_true rfl) dX7_init_15 (fun H locs hP2 hD2 hS => ?_)
  obtain ⟨m15, w6, em15, hP, hD, hW⟩ : ∃ (z : Nat → Int32) (w : va_W), z = (va_up (G8 141) this 0) ∧ va_P (dC, dI) vwCl w H ∧ va_D A w ∧ LW w ad8 kk kd8 ln8 (va_up G8 141 z) (va_up P8 140 m10) U8 V8 X8 O8 := ⟨_, _, rfl, hP2, hD2, hW.setG hD hi5 (by rw [hk1_this]; decide) 141 0 (by rw [hk1_this]; rfl)⟩
  replace hr := vlS hr m15 em15
  clear em15
  replace hr := retS hr
  obtain ⟨hr, hv1, hv2⟩ := hr
  refine W.widen (k := uc) (n := us) (by omega) (by omega) ?_
  exact K 18 ls _ _ _ _ _ _ _ _ _ ad8 w6 H _ hr dX7_init_18 hE hW hT hP hD hS
set_option maxHeartbeats 4000000 in
set_option maxRecDepth 100000 in
theorem m_X7_init (l : Launch) (dC : Nat → ClassId) (dI : Nat → Nat → Nat) (kk : Nat → ClassId) (ad : Nat → Nat) (sz : Nat) (ws : va_W) (G : Nat → Nat → Int32) (P : Nat → Nat → Option Nat) (U : Nat → Nat → Int64) (V : Nat → Nat → Nat → Int32) (X : Nat → Nat → Nat → Int64) (O : Nat → Nat → Nat → Option Nat) (kd : Nat → Nat) (ln : Nat → Nat) (cnt : Nat) (this : Nat) (hk_this : kd this = 8) (hW : LW ws ad kk kd ln G P U V X O) (hT : TYP kd P O (V 0) cnt) (c_G : Nat → Nat → Int32) (c_P : Nat → Nat → Option Nat) (c_U : Nat → Nat → Int64) (c_V : Nat → Nat → Nat → Int32) (c_X : Nat → Nat → Nat → Int64) (c_O : Nat → Nat → Nat → Option Nat) (c_kd : Nat → Nat) (c_ln : Nat → Nat) (c_cnt : Nat) (uc us : Nat) (hr : f_X7_init G P U V X O kd ln cnt this = some ((c_G, c_P, c_U, c_V, c_X, c_O, c_kd, c_ln, c_cnt), uc, us)) : Met l yX7_init vmX7_init ({ frames := 3, cells := uc, slots := us, locals := 90 } : Room) (va_Pc [.ref (ad this)] (fun U => U.heap.size = sz ∧ va_P (dC, dI) vwCl ws U.heap ∧ va_K (dC, dI) vwCl (cT kk) U ∧ va_D (fun _ => True) ws)) (va_Qv (fun (x : (va_W × (Nat → Nat))) => LW x.1 x.2 kk c_kd c_ln c_G c_P c_U c_V c_X c_O ∧ TYP c_kd c_P c_O (c_V 0) c_cnt ∧ adEx kd ad c_kd x.2) (fun x t => va_P (dC, dI) vwCl x.1 t.heap ∧ va_K (dC, dI) vwCl (cT kk) t ∧ va_D (va_A ws sz) x.1) (va_A ws sz)) uc us (va_A ws sz) := by
  refine Met.ofW (cc := cX7_init) (maxL := 1) (ret := none) (by decide) rfl ?_
  intro p e s m args below meth c s₁ B hml hv
  obtain ⟨rfl, hsz, hP, hK, hD0⟩ := hv
  have hx := B.exec
  have hb := B.bytes
  have hrt := B.returns
  have hts := atoms_spec (ws := vmX7_init) B.pre
  have hown : s.vm.findClass RX7 = some m.cls := findClass_of_methodNamed B.named
  subst hsz
  have hD := hD0.self (sz := s.heap.size)
  generalize hAe : va_A ws s.heap.size = A at hD ⊢
  have hA : ∀ q : Nat, s.heap.size ≤ q → A q := fun q h => by rw [← hAe]; exact Or.inr h
  have hS : va_S A s.heap s.heap [] := va_S.rf
  have hl := lv_entry ([.ref (ad this)]) (n := 1) (Nat.le_of_ble_eq_true rfl)
  rw [lg_entry_eq]
  generalize (lg_sl ([.ref (ad this)]) ++ List.replicate (1 - (lg_sl ([.ref (ad this)])).length) Slot.unset).toArray = ls at hl ⊢
  have hin : meth.name = "<init>" := (name_of_methodNamed B.named B.method).1
  exact bm_X7_init this hk_this c_G c_P c_U c_V c_X c_O c_kd c_ln c_cnt uc us hr hx hb hml hown hts hin hA hK hW hT hP hD hS hl (fun pc ls c_Gz c_Pz c_Uz c_Vz c_Xz c_Oz c_kdz c_lnz c_cntz adz ws H locs he hd hE hW hT hP hD hS => by cases he; exact W.vret hx hb hrt (fun t ht hW9 => ⟨⟨(ws, adz), rfl, ⟨hW, hT, hE⟩, by rw [ht]; exact hP, va_K.moved hW9.alike hK, hD⟩, hS.F ht⟩) hS.2.2 hd)
set_option maxHeartbeats 4000000 in
set_option maxRecDepth 100000 in
theorem bm_X4_init {p : Program} {l : Launch} {e : Env} {s : State} {m : MethodId} {args : Array Value} {below : List Frame} {meth : Method} {c : Code} {Q : State → Prop} {A : Nat → Prop} {dC : Nat → ClassId} {dI : Nat → Nat → Nat} {kk : Nat → ClassId} {ad : Nat → Nat} {ws : va_W} {G : Nat → Nat → Int32} {P : Nat → Nat → Option Nat} {U : Nat → Nat → Int64} {V : Nat → Nat → Nat → Int32} {X : Nat → Nat → Nat → Int64} {O : Nat → Nat → Nat → Option Nat} {kd : Nat → Nat} {ln : Nat → Nat} {cnt : Nat} {H : Heap} {locs : List Loc} {ls : Array Slot} (this : Nat) (hk_this : kd this = 5) (c_G : Nat → Nat → Int32) (c_P : Nat → Nat → Option Nat) (c_U : Nat → Nat → Int64) (c_V : Nat → Nat → Nat → Int32) (c_X : Nat → Nat → Nat → Int64) (c_O : Nat → Nat → Nat → Option Nat) (c_kd : Nat → Nat) (c_ln : Nat → Nat) (c_cnt : Nat) (uc us : Nat) (hr : f_X4_init G P U V X O kd ln cnt this = some ((c_G, c_P, c_U, c_V, c_X, c_O, c_kd, c_ln, c_cnt), uc, us)) (hx : p.tables.exec = Jvm.exec) (hb : c.code = cX4_init) (hml : c.maxLocals = 1) (hown : s.vm.findClass RX4 = some m.cls) (hts : ∀ w ∈ vmX4_init, w.before args s = true) (hin : meth.name = "<init>") (hA : ∀ q : Nat, s.heap.size ≤ q → A q) (hK : va_K (dC, dI) vwCl (cT kk) s) (hW : LW ws ad kk kd ln G P U V X O) (hT : TYP kd P O (V 0) cnt) (hP : va_P (dC, dI) vwCl ws H) (hD : va_D A ws) (hS : va_S A s.heap H locs) (hl : lv_has ls 1 [(0, .ref (ad this))])
    (K : ∀ (pc : Nat) (ls : Array Slot) (c_Gz : Nat → Nat → Int32) (c_Pz : Nat → Nat → Option Nat) (c_Uz : Nat → Nat → Int64) (c_Vz : Nat → Nat → Nat → Int32) (c_Xz : Nat → Nat → Nat → Int64) (c_Oz : Nat → Nat → Nat → Option Nat) (c_kdz : Nat → Nat) (c_lnz : Nat → Nat) (c_cntz : Nat) (adz : Nat → Nat) (ws : va_W) (H : Heap) (locs : List Loc), some (c_Gz, c_Pz, c_Uz, c_Vz, c_Xz, c_Oz, c_kdz, c_lnz, c_cntz) = some (c_G, c_P, c_U, c_V, c_X, c_O, c_kd, c_ln, c_cnt) → decode cX4_init pc = .ok (.return_, 1) → adEx kd ad c_kdz adz → LW ws adz kk c_kdz c_lnz c_Gz c_Pz c_Uz c_Vz c_Xz c_Oz → TYP c_kdz c_Pz c_Oz (c_Vz 0) c_cntz → va_P (dC, dI) vwCl ws H → va_D A ws → va_S A s.heap H locs → W p l e ({ frames := 3, cells := uc, slots := us, locals := 90 } : Room) s m args below meth c H locs uc us Q (F0 m pc ls [])) : W p l e ({ frames := 3, cells := uc, slots := us, locals := 90 } : Room) s m args below meth c H locs 0 0 Q (F0 m 0 ls []) := by
  have hu1 : 0 + uc = uc := Nat.zero_add _
  have hu2 : 0 + us = us := Nat.zero_add _
  have hE : adEx kd ad kd ad := ⟨fun _ _ => rfl, fun _ _ => rfl⟩
  unfold f_X4_init at hr
  refine lv_aload_n hx hb dX4_init_0 rfl (lv_at hl 0 rfl) ?_
  refine W.objInit hx hb hown (hts (.methodLink RX4 3 objectInit) ic_622) (hts (.instanceMethod objectInit) ic_494) (hts (.code objectInit ⟨#[0xb1]⟩ 1 none) ic_495) rfl (by rw [hml]; exact hl.1) rfl dX4_init_1 (Nat.le_of_ble_eq_true rfl) (Nat.le_of_ble_eq_true rfl) ?_
  refine W.eq (g2 := F0 m 4 ls []) rfl ?_
  refine lv_aload_n hx hb dX4_init_4 rfl (lv_at hl 0 rfl) ?_
  refine lv_iconst (v := 0) hx hb dX4_init_5 (by decide +kernel) ?_
  obtain ⟨i1, hi1⟩ := hW.o4 hk_this
  refine va_put (D := (dC, dI)) (ci := 4) (v := .int 0) (ty := .int) (C := RX4) (T := TX4) (N := 9) hx hb hts inX4 tyX4 tyX4_ok nmX4 hown hK hP hD hS i1 hi1 rfl 0 (by decide) (hts (.fieldLink RX4 9 "SpellTurner$Reader" "faultKind" "I") ic_370) (fun _ h9 => h9) rfl (by decide +kernel) rfl rfl (Nat.le_of_ble_eq_true rfl) dX4_init_6 (fun H locs hP2 hD2 hS => ?_)
  obtain ⟨m6, w2, em6, hP, hD, hW⟩ : ∃ (z : Nat → Int32) (w : va_W), z = (va_up (G 80) this 0) ∧ va_P (dC, dI) vwCl w H ∧ va_D A w ∧ LW w ad kk kd ln (va_up G 80 z) P U V X O := ⟨_, _, rfl, hP2, hD2, hW.setG hD hi1 (by rw [hk_this]; decide) 80 0 (by rw [hk_this]; rfl)⟩
  replace hr := vlS hr m6 em6
  clear em6
  refine lv_aload_n hx hb dX4_init_9 rfl (lv_at hl 0 rfl) ?_
  refine lv_iconst (v := (-1)) hx hb dX4_init_10 (by decide +kernel) ?_
  obtain ⟨i3, hi3⟩ := hW.o4 hk_this
  refine va_put (D := (dC, dI)) (ci := 4) (v := .int (-1)) (ty := .int) (C := RX4) (T := TX4) (N := 9) hx hb hts inX4 tyX4 tyX4_ok nmX4 hown hK hP hD hS i3 hi3 rfl 1 (by decide) (hts (.fieldLink RX4 15 "SpellTurner$Reader" "faultPlace" "I") ic_371) (fun _ h9 => h9) rfl (by decide +kernel) rfl rfl (Nat.le_of_ble_eq_true rfl) dX4_init_11 (fun H locs hP2 hD2 hS => ?_)
  obtain ⟨m11, w4, em11, hP, hD, hW⟩ : ∃ (z : Nat → Int32) (w : va_W), z = (va_up (G 81) this (-1)) ∧ va_P (dC, dI) vwCl w H ∧ va_D A w ∧ LW w ad kk kd ln (va_up (va_up G 80 m6) 81 z) P U V X O := ⟨_, _, rfl, hP2, hD2, hW.setG hD hi3 (by rw [hk_this]; decide) 81 (-1) (by rw [hk_this]; rfl)⟩
  replace hr := vlS hr m11 em11
  clear em11
  refine lv_aload_n hx hb dX4_init_14 rfl (lv_at hl 0 rfl) ?_
  refine lv_iconst (v := 0) hx hb dX4_init_15 (by decide +kernel) ?_
  replace hr := iteS hr
  obtain ⟨hi16, hr⟩ := hr
  replace hr := tkS hr
  obtain ⟨zw1, zw2, hr, hq1, hq2⟩ := hr
  refine va_newa (atype := .byte) (a0 := ((Int32.toNatClampNeg 0), .inl (fun _ => 0))) (ty := .byte) (N' := (Int32.toNatClampNeg 0)) hx hb (hts (.arrayClass .byte) ic_496) rfl hK hP hD hS hA (fun _ => rfl) (nabS hi16).1 rfl (nabB hi16 (by decide)) (by show _ ≤ uc; omega) (by show _ ≤ us; omega) dX4_init_16 (fun q16 cA H hK2 hP2 hD2 hS => ?_)
  obtain rfl : cA = kk 0 := kA_byte hK2
  clear hK2
  replace hr := newcS hr hW hT hD2 (by decide) (fun _ => rfl)
  obtain ⟨G16, P16, U16, V16, X16, O16, kd16, ln16, cnt16, ad16, hr, hW, hT, hE2, hk_n16, hqa⟩ := hr
  subst hqa
  obtain ⟨w5, hP, hD, hW⟩ : ∃ w : va_W, va_P (dC, dI) vwCl w H ∧ va_D A w ∧ LW w ad16 kk kd16 ln16 G16 P16 U16 V16 X16 O16 := ⟨_, hP2, hD2, hW⟩
  clear hP2 hD2
  have ea_this : ad this = ad16 this := (hE2.1 this (by rw [hk_this]; decide)).symm
  have hk5_this := (hE2.2 this (by rw [hk_this]; decide)).trans hk_this
  rw [ea_this] at hl
  rw [ea_this]
  clear ea_this
  replace hE := adE hE hE2
  clear hE2
  obtain ⟨ccn6, eccn6⟩ : ∃ y : Nat, y = (0 + 1) := ⟨_, rfl⟩
  obtain ⟨csn6, ecsn6⟩ : ∃ y : Nat, y = (0 + (Int32.toNatClampNeg 0)) := ⟨_, rfl⟩
  refine W.widen (k := ccn6) (n := csn6) (Nat.le_of_eq eccn6.symm) (Nat.le_of_eq ecsn6.symm) ?_
  replace hu1 : ccn6 + zw1 = uc := by omega
  replace hu2 : csn6 + zw2 = us := by omega
  clear eccn6 ecsn6
  obtain ⟨i7, hi7⟩ := hW.o4 hk5_this
  refine va_put (D := (dC, dI)) (ci := 4) (v := .ref (ad16 cnt)) (ty := (.array .byte)) (C := RX4) (T := TX4) (N := 9) hx hb hts inX4 tyX4 tyX4_ok nmX4 hown hK hP hD hS i7 hi7 rfl 2 (by decide) (hts (.fieldLink RX4 18 "SpellTurner$Reader" "text" "[B") ic_352) (fun _ h9 => h9) rfl (by decide +kernel) rfl rfl (Nat.le_of_ble_eq_true rfl) dX4_init_18 (fun H locs hP2 hD2 hS => ?_)
  obtain ⟨m18, w8, em18, hP, hD, hW⟩ : ∃ (z : Nat → Option Nat) (w : va_W), z = (va_up (P16 82) this (some cnt)) ∧ va_P (dC, dI) vwCl w H ∧ va_D A w ∧ LW w ad16 kk kd16 ln16 G16 (va_up P16 82 z) U16 V16 X16 O16 := ⟨_, _, rfl, hP2, hD2, hW.setP hD hi7 (by rw [hk5_this]; decide) 82 (some cnt) (by rw [hk5_this]; rfl)⟩
  replace hT : TYP kd16 (va_up P16 82 m18) O16 (V16 0) cnt16 := by rw [em18]; exact hT.setP 82 this cnt hk_n16
  replace hr := vlS hr m18 em18
  clear em18
  refine lv_aload_n hx hb dX4_init_21 rfl (lv_at hl 0 rfl) ?_
  refine lv_iconst (v := 0) hx hb dX4_init_22 (by decide +kernel) ?_
  obtain ⟨i9, hi9⟩ := hW.o4 hk5_this
  refine va_put (D := (dC, dI)) (ci := 4) (v := .int 0) (ty := .int) (C := RX4) (T := TX4) (N := 9) hx hb hts inX4 tyX4 tyX4_ok nmX4 hown hK hP hD hS i9 hi9 rfl 3 (by decide) (hts (.fieldLink RX4 22 "SpellTurner$Reader" "size" "I") ic_350) (fun _ h9 => h9) rfl (by decide +kernel) rfl rfl (Nat.le_of_ble_eq_true rfl) dX4_init_23 (fun H locs hP2 hD2 hS => ?_)
  obtain ⟨m23, w10, em23, hP, hD, hW⟩ : ∃ (z : Nat → Int32) (w : va_W), z = (va_up (G16 83) this 0) ∧ va_P (dC, dI) vwCl w H ∧ va_D A w ∧ LW w ad16 kk kd16 ln16 (va_up G16 83 z) (va_up P16 82 m18) U16 V16 X16 O16 := ⟨_, _, rfl, hP2, hD2, hW.setG hD hi9 (by rw [hk5_this]; decide) 83 0 (by rw [hk5_this]; rfl)⟩
  replace hr := vlS hr m23 em23
  clear em23
  refine lv_aload_n hx hb dX4_init_26 rfl (lv_at hl 0 rfl) ?_
  refine lv_iconst (v := 0) hx hb dX4_init_27 (by decide +kernel) ?_
  obtain ⟨i11, hi11⟩ := hW.o4 hk5_this
  refine va_put (D := (dC, dI)) (ci := 4) (v := .int 0) (ty := .int) (C := RX4) (T := TX4) (N := 9) hx hb hts inX4 tyX4 tyX4_ok nmX4 hown hK hP hD hS i11 hi11 rfl 4 (by decide) (hts (.fieldLink RX4 25 "SpellTurner$Reader" "at" "I") ic_348) (fun _ h9 => h9) rfl (by decide +kernel) rfl rfl (Nat.le_of_ble_eq_true rfl) dX4_init_28 (fun H locs hP2 hD2 hS => ?_)
  obtain ⟨m28, w12, em28, hP, hD, hW⟩ : ∃ (z : Nat → Int32) (w : va_W), z = (va_up (G16 84) this 0) ∧ va_P (dC, dI) vwCl w H ∧ va_D A w ∧ LW w ad16 kk kd16 ln16 (va_up (va_up G16 83 m23) 84 z) (va_up P16 82 m18) U16 V16 X16 O16 := ⟨_, _, rfl, hP2, hD2, hW.setG hD hi11 (by rw [hk5_this]; decide) 84 0 (by rw [hk5_this]; rfl)⟩
  replace hr := vlS hr m28 em28
  clear em28
  refine lv_aload_n hx hb dX4_init_31 rfl (lv_at hl 0 rfl) ?_
  refine lv_iconst (v := 0) hx hb dX4_init_32 (by decide +kernel) ?_
  obtain ⟨i13, hi13⟩ := hW.o4 hk5_this
  refine va_put (D := (dC, dI)) (ci := 4) (v := .int 0) (ty := .int) (C := RX4) (T := TX4) (N := 9) hx hb hts inX4 tyX4 tyX4_ok nmX4 hown hK hP hD hS i13 hi13 rfl 5 (by decide) (hts (.fieldLink RX4 28 "SpellTurner$Reader" "token" "I") ic_360) (fun _ h9 => h9) rfl (by decide +kernel) rfl rfl (Nat.le_of_ble_eq_true rfl) dX4_init_33 (fun H locs hP2 hD2 hS => ?_)
  obtain ⟨m33, w14, em33, hP, hD, hW⟩ : ∃ (z : Nat → Int32) (w : va_W), z = (va_up (G16 85) this 0) ∧ va_P (dC, dI) vwCl w H ∧ va_D A w ∧ LW w ad16 kk kd16 ln16 (va_up (va_up (va_up G16 83 m23) 84 m28) 85 z) (va_up P16 82 m18) U16 V16 X16 O16 := ⟨_, _, rfl, hP2, hD2, hW.setG hD hi13 (by rw [hk5_this]; decide) 85 0 (by rw [hk5_this]; rfl)⟩
  replace hr := vlS hr m33 em33
  clear em33
  refine lv_aload_n hx hb dX4_init_36 rfl (lv_at hl 0 rfl) ?_
  refine lv_iconst (v := 0) hx hb dX4_init_37 (by decide +kernel) ?_
  obtain ⟨i15, hi15⟩ := hW.o4 hk5_this
  refine va_put (D := (dC, dI)) (ci := 4) (v := .int 0) (ty := .int) (C := RX4) (T := TX4) (N := 9) hx hb hts inX4 tyX4 tyX4_ok nmX4 hown hK hP hD hS i15 hi15 rfl 6 (by decide) (hts (.fieldLink RX4 31 "SpellTurner$Reader" "place" "I") ic_355) (fun _ h9 => h9) rfl (by decide +kernel) rfl rfl (Nat.le_of_ble_eq_true rfl) dX4_init_38 (fun H locs hP2 hD2 hS => ?_)
  obtain ⟨m38, w16, em38, hP, hD, hW⟩ : ∃ (z : Nat → Int32) (w : va_W), z = (va_up (G16 86) this 0) ∧ va_P (dC, dI) vwCl w H ∧ va_D A w ∧ LW w ad16 kk kd16 ln16 (va_up (va_up (va_up (va_up G16 83 m23) 84 m28) 85 m33) 86 z) (va_up P16 82 m18) U16 V16 X16 O16 := ⟨_, _, rfl, hP2, hD2, hW.setG hD hi15 (by rw [hk5_this]; decide) 86 0 (by rw [hk5_this]; rfl)⟩
  replace hr := vlS hr m38 em38
  clear em38
  refine lv_aload_n hx hb dX4_init_41 rfl (lv_at hl 0 rfl) ?_
  refine lv_iconst (v := 0) hx hb dX4_init_42 (by decide +kernel) ?_
  obtain ⟨i17, hi17⟩ := hW.o4 hk5_this
  refine va_put (D := (dC, dI)) (ci := 4) (v := .int 0) (ty := .int) (C := RX4) (T := TX4) (N := 9) hx hb hts inX4 tyX4 tyX4_ok nmX4 hown hK hP hD hS i17 hi17 rfl 7 (by decide) (hts (.fieldLink RX4 34 "SpellTurner$Reader" "start" "I") ic_349) (fun _ h9 => h9) rfl (by decide +kernel) rfl rfl (Nat.le_of_ble_eq_true rfl) dX4_init_43 (fun H locs hP2 hD2 hS => ?_)
  obtain ⟨m43, w18, em43, hP, hD, hW⟩ : ∃ (z : Nat → Int32) (w : va_W), z = (va_up (G16 87) this 0) ∧ va_P (dC, dI) vwCl w H ∧ va_D A w ∧ LW w ad16 kk kd16 ln16 (va_up (va_up (va_up (va_up (va_up G16 83 m23) 84 m28) 85 m33) 86 m38) 87 z) (va_up P16 82 m18) U16 V16 X16 O16 := ⟨_, _, rfl, hP2, hD2, hW.setG hD hi17 (by rw [hk5_this]; decide) 87 0 (by rw [hk5_this]; rfl)⟩
  replace hr := vlS hr m43 em43
  clear em43
  refine lv_aload_n hx hb dX4_init_46 rfl (lv_at hl 0 rfl) ?_
  refine lv_iconst (v := 0) hx hb dX4_init_47 (by decide +kernel) ?_
  obtain ⟨i19, hi19⟩ := hW.o4 hk5_this
  refine va_put (D := (dC, dI)) (ci := 4) (v := .int 0) (ty := .int) (C := RX4) (T := TX4) (N := 9) hx hb hts inX4 tyX4 tyX4_ok nmX4 hown hK hP hD hS i19 hi19 rfl 8 (by decide) (hts (.fieldLink RX4 37 "SpellTurner$Reader" "length" "I") ic_351) (fun _ h9 => h9) rfl (by decide +kernel) rfl rfl (Nat.le_of_ble_eq_true rfl) dX4_init_48 (fun H locs hP2 hD2 hS => ?_)
  obtain ⟨m48, w20, em48, hP, hD, hW⟩ : ∃ (z : Nat → Int32) (w : va_W), z = (va_up (G16 88) this 0) ∧ va_P (dC, dI) vwCl w H ∧ va_D A w ∧ LW w ad16 kk kd16 ln16 (va_up (va_up (va_up (va_up (va_up (va_up G16 83 m23) 84 m28) 85 m33) 86 m38) 87 m43) 88 z) (va_up P16 82 m18) U16 V16 X16 O16 := ⟨_, _, rfl, hP2, hD2, hW.setG hD hi19 (by rw [hk5_this]; decide) 88 0 (by rw [hk5_this]; rfl)⟩
  replace hr := vlS hr m48 em48
  clear em48
  replace hr := retS hr
  obtain ⟨hr, hv1, hv2⟩ := hr
  refine W.widen (k := uc) (n := us) (by omega) (by omega) ?_
  exact K 51 ls _ _ _ _ _ _ _ _ _ ad16 w20 H _ hr dX4_init_51 hE hW hT hP hD hS
set_option maxHeartbeats 4000000 in
set_option maxRecDepth 100000 in
theorem m_X4_init (l : Launch) (dC : Nat → ClassId) (dI : Nat → Nat → Nat) (kk : Nat → ClassId) (ad : Nat → Nat) (sz : Nat) (ws : va_W) (G : Nat → Nat → Int32) (P : Nat → Nat → Option Nat) (U : Nat → Nat → Int64) (V : Nat → Nat → Nat → Int32) (X : Nat → Nat → Nat → Int64) (O : Nat → Nat → Nat → Option Nat) (kd : Nat → Nat) (ln : Nat → Nat) (cnt : Nat) (this : Nat) (hk_this : kd this = 5) (hW : LW ws ad kk kd ln G P U V X O) (hT : TYP kd P O (V 0) cnt) (c_G : Nat → Nat → Int32) (c_P : Nat → Nat → Option Nat) (c_U : Nat → Nat → Int64) (c_V : Nat → Nat → Nat → Int32) (c_X : Nat → Nat → Nat → Int64) (c_O : Nat → Nat → Nat → Option Nat) (c_kd : Nat → Nat) (c_ln : Nat → Nat) (c_cnt : Nat) (uc us : Nat) (hr : f_X4_init G P U V X O kd ln cnt this = some ((c_G, c_P, c_U, c_V, c_X, c_O, c_kd, c_ln, c_cnt), uc, us)) : Met l yX4_init vmX4_init ({ frames := 3, cells := uc, slots := us, locals := 90 } : Room) (va_Pc [.ref (ad this)] (fun U => U.heap.size = sz ∧ va_P (dC, dI) vwCl ws U.heap ∧ va_K (dC, dI) vwCl (cT kk) U ∧ va_D (fun _ => True) ws)) (va_Qv (fun (x : (va_W × (Nat → Nat))) => LW x.1 x.2 kk c_kd c_ln c_G c_P c_U c_V c_X c_O ∧ TYP c_kd c_P c_O (c_V 0) c_cnt ∧ adEx kd ad c_kd x.2) (fun x t => va_P (dC, dI) vwCl x.1 t.heap ∧ va_K (dC, dI) vwCl (cT kk) t ∧ va_D (va_A ws sz) x.1) (va_A ws sz)) uc us (va_A ws sz) := by
  refine Met.ofW (cc := cX4_init) (maxL := 1) (ret := none) (by decide) rfl ?_
  intro p e s m args below meth c s₁ B hml hv
  obtain ⟨rfl, hsz, hP, hK, hD0⟩ := hv
  have hx := B.exec
  have hb := B.bytes
  have hrt := B.returns
  have hts := atoms_spec (ws := vmX4_init) B.pre
  have hown : s.vm.findClass RX4 = some m.cls := findClass_of_methodNamed B.named
  subst hsz
  have hD := hD0.self (sz := s.heap.size)
  generalize hAe : va_A ws s.heap.size = A at hD ⊢
  have hA : ∀ q : Nat, s.heap.size ≤ q → A q := fun q h => by rw [← hAe]; exact Or.inr h
  have hS : va_S A s.heap s.heap [] := va_S.rf
  have hl := lv_entry ([.ref (ad this)]) (n := 1) (Nat.le_of_ble_eq_true rfl)
  rw [lg_entry_eq]
  generalize (lg_sl ([.ref (ad this)]) ++ List.replicate (1 - (lg_sl ([.ref (ad this)])).length) Slot.unset).toArray = ls at hl ⊢
  have hin : meth.name = "<init>" := (name_of_methodNamed B.named B.method).1
  exact bm_X4_init this hk_this c_G c_P c_U c_V c_X c_O c_kd c_ln c_cnt uc us hr hx hb hml hown hts hin hA hK hW hT hP hD hS hl (fun pc ls c_Gz c_Pz c_Uz c_Vz c_Xz c_Oz c_kdz c_lnz c_cntz adz ws H locs he hd hE hW hT hP hD hS => by cases he; exact W.vret hx hb hrt (fun t ht hW9 => ⟨⟨(ws, adz), rfl, ⟨hW, hT, hE⟩, by rw [ht]; exact hP, va_K.moved hW9.alike hK, hD⟩, hS.F ht⟩) hS.2.2 hd)
set_option maxHeartbeats 4000000 in
set_option maxRecDepth 100000 in
theorem bm_X3_init {p : Program} {l : Launch} {e : Env} {s : State} {m : MethodId} {args : Array Value} {below : List Frame} {meth : Method} {c : Code} {Q : State → Prop} {A : Nat → Prop} {dC : Nat → ClassId} {dI : Nat → Nat → Nat} {kk : Nat → ClassId} {ad : Nat → Nat} {ws : va_W} {G : Nat → Nat → Int32} {P : Nat → Nat → Option Nat} {U : Nat → Nat → Int64} {V : Nat → Nat → Nat → Int32} {X : Nat → Nat → Nat → Int64} {O : Nat → Nat → Nat → Option Nat} {kd : Nat → Nat} {ln : Nat → Nat} {cnt : Nat} {H : Heap} {locs : List Loc} {ls : Array Slot} (this : Nat) (hk_this : kd this = 4) (c_G : Nat → Nat → Int32) (c_P : Nat → Nat → Option Nat) (c_U : Nat → Nat → Int64) (c_V : Nat → Nat → Nat → Int32) (c_X : Nat → Nat → Nat → Int64) (c_O : Nat → Nat → Nat → Option Nat) (c_kd : Nat → Nat) (c_ln : Nat → Nat) (c_cnt : Nat) (uc us : Nat) (hr : f_X3_init G P U V X O kd ln cnt this = some ((c_G, c_P, c_U, c_V, c_X, c_O, c_kd, c_ln, c_cnt), uc, us)) (hx : p.tables.exec = Jvm.exec) (hb : c.code = cX3_init) (hml : c.maxLocals = 1) (hown : s.vm.findClass RX3 = some m.cls) (hts : ∀ w ∈ vmX3_init, w.before args s = true) (hin : meth.name = "<init>") (hA : ∀ q : Nat, s.heap.size ≤ q → A q) (hK : va_K (dC, dI) vwCl (cT kk) s) (hW : LW ws ad kk kd ln G P U V X O) (hT : TYP kd P O (V 0) cnt) (hP : va_P (dC, dI) vwCl ws H) (hD : va_D A ws) (hS : va_S A s.heap H locs) (hl : lv_has ls 1 [(0, .ref (ad this))])
    (K : ∀ (pc : Nat) (ls : Array Slot) (c_Gz : Nat → Nat → Int32) (c_Pz : Nat → Nat → Option Nat) (c_Uz : Nat → Nat → Int64) (c_Vz : Nat → Nat → Nat → Int32) (c_Xz : Nat → Nat → Nat → Int64) (c_Oz : Nat → Nat → Nat → Option Nat) (c_kdz : Nat → Nat) (c_lnz : Nat → Nat) (c_cntz : Nat) (adz : Nat → Nat) (ws : va_W) (H : Heap) (locs : List Loc), some (c_Gz, c_Pz, c_Uz, c_Vz, c_Xz, c_Oz, c_kdz, c_lnz, c_cntz) = some (c_G, c_P, c_U, c_V, c_X, c_O, c_kd, c_ln, c_cnt) → decode cX3_init pc = .ok (.return_, 1) → adEx kd ad c_kdz adz → LW ws adz kk c_kdz c_lnz c_Gz c_Pz c_Uz c_Vz c_Xz c_Oz → TYP c_kdz c_Pz c_Oz (c_Vz 0) c_cntz → va_P (dC, dI) vwCl ws H → va_D A ws → va_S A s.heap H locs → W p l e ({ frames := 4, cells := uc, slots := us, locals := 112 } : Room) s m args below meth c H locs uc us Q (F0 m pc ls [])) : W p l e ({ frames := 4, cells := uc, slots := us, locals := 112 } : Room) s m args below meth c H locs 0 0 Q (F0 m 0 ls []) := by
  have hu1 : 0 + uc = uc := Nat.zero_add _
  have hu2 : 0 + us = us := Nat.zero_add _
  have hE : adEx kd ad kd ad := ⟨fun _ _ => rfl, fun _ _ => rfl⟩
  unfold f_X3_init at hr
  refine lv_aload_n hx hb dX3_init_0 rfl (lv_at hl 0 rfl) ?_
  refine W.objInit hx hb hown (hts (.methodLink RX3 3 objectInit) ic_624) (hts (.instanceMethod objectInit) ic_494) (hts (.code objectInit ⟨#[0xb1]⟩ 1 none) ic_495) rfl (by rw [hml]; exact hl.1) rfl dX3_init_1 (Nat.le_of_ble_eq_true rfl) (Nat.le_of_ble_eq_true rfl) ?_
  refine W.eq (g2 := F0 m 4 ls []) rfl ?_
  refine lv_aload_n hx hb dX3_init_4 rfl (lv_at hl 0 rfl) ?_
  refine lv_iconst (v := 0) hx hb dX3_init_5 (by decide +kernel) ?_
  obtain ⟨i1, hi1⟩ := hW.o3 hk_this
  refine va_put (D := (dC, dI)) (ci := 3) (v := .int 0) (ty := .int) (C := RX3) (T := TX3) (N := 7) hx hb hts inX3 tyX3 tyX3_ok nmX3 hown hK hP hD hS i1 hi1 rfl 0 (by decide) (hts (.fieldLink RX3 9 "SpellTurner$Partings" "count" "I") ic_161) (fun _ h9 => h9) rfl (by decide +kernel) rfl rfl (Nat.le_of_ble_eq_true rfl) dX3_init_6 (fun H locs hP2 hD2 hS => ?_)
  obtain ⟨m6, w2, em6, hP, hD, hW⟩ : ∃ (z : Nat → Int32) (w : va_W), z = (va_up (G 60) this 0) ∧ va_P (dC, dI) vwCl w H ∧ va_D A w ∧ LW w ad kk kd ln (va_up G 60 z) P U V X O := ⟨_, _, rfl, hP2, hD2, hW.setG hD hi1 (by rw [hk_this]; decide) 60 0 (by rw [hk_this]; rfl)⟩
  replace hr := vlS hr m6 em6
  clear em6
  refine lv_aload_n hx hb dX3_init_9 rfl (lv_at hl 0 rfl) ?_
  refine lv_bipush (v := 30) hx hb dX3_init_10 (by decide +kernel) ?_
  replace hr := iteS hr
  obtain ⟨hi12, hr⟩ := hr
  replace hr := tkS hr
  obtain ⟨zw1, zw2, hr, hq1, hq2⟩ := hr
  refine va_newa (atype := .int) (a0 := ((Int32.toNatClampNeg 30), .inl (fun _ => 0))) (ty := .int) (N' := (Int32.toNatClampNeg 30)) hx hb (hts (.arrayClass .int) ic_497) rfl hK hP hD hS hA (fun _ => rfl) (nabS hi12).1 rfl (nabB hi12 (by decide)) (by show _ ≤ uc; omega) (by show _ ≤ us; omega) dX3_init_12 (fun q12 cA H hK2 hP2 hD2 hS => ?_)
  obtain rfl : cA = kk 1 := kA_int hK2
  clear hK2
  replace hr := newcS hr hW hT hD2 (by decide) (fun _ => rfl)
  obtain ⟨G12, P12, U12, V12, X12, O12, kd12, ln12, cnt12, ad12, hr, hW, hT, hE2, hk_n12, hqa⟩ := hr
  subst hqa
  obtain ⟨w3, hP, hD, hW⟩ : ∃ w : va_W, va_P (dC, dI) vwCl w H ∧ va_D A w ∧ LW w ad12 kk kd12 ln12 G12 P12 U12 V12 X12 O12 := ⟨_, hP2, hD2, hW⟩
  clear hP2 hD2
  have ea_this : ad this = ad12 this := (hE2.1 this (by rw [hk_this]; decide)).symm
  have hk3_this := (hE2.2 this (by rw [hk_this]; decide)).trans hk_this
  rw [ea_this] at hl
  rw [ea_this]
  clear ea_this
  replace hE := adE hE hE2
  clear hE2
  obtain ⟨ccn4, eccn4⟩ : ∃ y : Nat, y = (0 + 1) := ⟨_, rfl⟩
  obtain ⟨csn4, ecsn4⟩ : ∃ y : Nat, y = (0 + (Int32.toNatClampNeg 30)) := ⟨_, rfl⟩
  refine W.widen (k := ccn4) (n := csn4) (Nat.le_of_eq eccn4.symm) (Nat.le_of_eq ecsn4.symm) ?_
  replace hu1 : ccn4 + zw1 = uc := by omega
  replace hu2 : csn4 + zw2 = us := by omega
  clear eccn4 ecsn4
  obtain ⟨i5, hi5⟩ := hW.o3 hk3_this
  refine va_putF (D := (dC, dI)) (ci := 3) (v := .ref (ad12 cnt)) (ty := (.array .int)) (C := RX3) (T := TX3) (N := 7) hx hb hts inX3 tyX3 tyX3_ok nmX3 hown hK hP hD hS i5 hi5 rfl 1 (by decide) (hts (.fieldLink RX3 15 "SpellTurner$Partings" "sizes" "[I") ic_162) (fun _ h9 => h9) rfl hin rfl (by decide +kernel) rfl rfl (Nat.le_of_ble_eq_true rfl) dX3_init_14 (fun H locs hP2 hD2 hS => ?_)
  obtain ⟨m14, w6, em14, hP, hD, hW⟩ : ∃ (z : Nat → Option Nat) (w : va_W), z = (va_up (P12 61) this (some cnt)) ∧ va_P (dC, dI) vwCl w H ∧ va_D A w ∧ LW w ad12 kk kd12 ln12 G12 (va_up P12 61 z) U12 V12 X12 O12 := ⟨_, _, rfl, hP2, hD2, hW.setP hD hi5 (by rw [hk3_this]; decide) 61 (some cnt) (by rw [hk3_this]; rfl)⟩
  replace hT : TYP kd12 (va_up P12 61 m14) O12 (V12 0) cnt12 := by rw [em14]; exact hT.setP 61 this cnt hk_n12
  replace hr := vlS hr m14 em14
  clear em14
  refine lv_aload_n hx hb dX3_init_17 rfl (lv_at hl 0 rfl) ?_
  refine lv_sipush (v := 720) hx hb dX3_init_18 (by decide +kernel) ?_
  replace hr := iteS hr
  obtain ⟨hi21, hr⟩ := hr
  replace hr := tkS hr
  obtain ⟨zw1, zw2, hr, hq1, hq2⟩ := hr
  refine va_newa (atype := .byte) (a0 := ((Int32.toNatClampNeg 720), .inl (fun _ => 0))) (ty := .byte) (N' := (Int32.toNatClampNeg 720)) hx hb (hts (.arrayClass .byte) ic_496) rfl hK hP hD hS hA (fun _ => rfl) (nabS hi21).1 rfl (nabB hi21 (by decide)) (by show _ ≤ uc; omega) (by show _ ≤ us; omega) dX3_init_21 (fun q21 cA H hK2 hP2 hD2 hS => ?_)
  obtain rfl : cA = kk 0 := kA_byte hK2
  clear hK2
  replace hr := newcS hr hW hT hD2 (by decide) (fun _ => rfl)
  obtain ⟨G21, P21, U21, V21, X21, O21, kd21, ln21, cnt21, ad21, hr, hW, hT, hE2, hk_n21, hqa⟩ := hr
  subst hqa
  obtain ⟨w7, hP, hD, hW⟩ : ∃ w : va_W, va_P (dC, dI) vwCl w H ∧ va_D A w ∧ LW w ad21 kk kd21 ln21 G21 P21 U21 V21 X21 O21 := ⟨_, hP2, hD2, hW⟩
  clear hP2 hD2
  have ea_this : ad12 this = ad21 this := (hE2.1 this (by rw [hk3_this]; decide)).symm
  have hk7_this := (hE2.2 this (by rw [hk3_this]; decide)).trans hk3_this
  rw [ea_this] at hl
  rw [ea_this]
  clear ea_this
  replace hE := adE hE hE2
  clear hE2
  obtain ⟨ccn8, eccn8⟩ : ∃ y : Nat, y = (ccn4 + 1) := ⟨_, rfl⟩
  obtain ⟨csn8, ecsn8⟩ : ∃ y : Nat, y = (csn4 + (Int32.toNatClampNeg 720)) := ⟨_, rfl⟩
  refine W.widen (k := ccn8) (n := csn8) (Nat.le_of_eq eccn8.symm) (Nat.le_of_eq ecsn8.symm) ?_
  replace hu1 : ccn8 + zw1 = uc := by omega
  replace hu2 : csn8 + zw2 = us := by omega
  clear eccn8 ecsn8
  obtain ⟨i9, hi9⟩ := hW.o3 hk7_this
  refine va_putF (D := (dC, dI)) (ci := 3) (v := .ref (ad21 cnt12)) (ty := (.array .byte)) (C := RX3) (T := TX3) (N := 7) hx hb hts inX3 tyX3 tyX3_ok nmX3 hown hK hP hD hS i9 hi9 rfl 2 (by decide) (hts (.fieldLink RX3 19 "SpellTurner$Partings" "picks" "[B") ic_163) (fun _ h9 => h9) rfl hin rfl (by decide +kernel) rfl rfl (Nat.le_of_ble_eq_true rfl) dX3_init_23 (fun H locs hP2 hD2 hS => ?_)
  obtain ⟨m23, w10, em23, hP, hD, hW⟩ : ∃ (z : Nat → Option Nat) (w : va_W), z = (va_up (P21 62) this (some cnt12)) ∧ va_P (dC, dI) vwCl w H ∧ va_D A w ∧ LW w ad21 kk kd21 ln21 G21 (va_up P21 62 z) U21 V21 X21 O21 := ⟨_, _, rfl, hP2, hD2, hW.setP hD hi9 (by rw [hk7_this]; decide) 62 (some cnt12) (by rw [hk7_this]; rfl)⟩
  replace hT : TYP kd21 (va_up P21 62 m23) O21 (V21 0) cnt21 := by rw [em23]; exact hT.setP 62 this cnt12 hk_n21
  replace hr := vlS hr m23 em23
  clear em23
  refine lv_aload_n hx hb dX3_init_26 rfl (lv_at hl 0 rfl) ?_
  refine lv_sipush (v := 408) hx hb dX3_init_27 (by decide +kernel) ?_
  replace hr := iteS hr
  obtain ⟨hi30, hr⟩ := hr
  replace hr := tkS hr
  obtain ⟨zw1, zw2, hr, hq1, hq2⟩ := hr
  refine va_newa (atype := .byte) (a0 := ((Int32.toNatClampNeg 408), .inl (fun _ => 0))) (ty := .byte) (N' := (Int32.toNatClampNeg 408)) hx hb (hts (.arrayClass .byte) ic_496) rfl hK hP hD hS hA (fun _ => rfl) (nabS hi30).1 rfl (nabB hi30 (by decide)) (by show _ ≤ uc; omega) (by show _ ≤ us; omega) dX3_init_30 (fun q30 cA H hK2 hP2 hD2 hS => ?_)
  obtain rfl : cA = kk 0 := kA_byte hK2
  clear hK2
  replace hr := newcS hr hW hT hD2 (by decide) (fun _ => rfl)
  obtain ⟨G30, P30, U30, V30, X30, O30, kd30, ln30, cnt30, ad30, hr, hW, hT, hE2, hk_n30, hqa⟩ := hr
  subst hqa
  obtain ⟨w11, hP, hD, hW⟩ : ∃ w : va_W, va_P (dC, dI) vwCl w H ∧ va_D A w ∧ LW w ad30 kk kd30 ln30 G30 P30 U30 V30 X30 O30 := ⟨_, hP2, hD2, hW⟩
  clear hP2 hD2
  have ea_this : ad21 this = ad30 this := (hE2.1 this (by rw [hk7_this]; decide)).symm
  have hk11_this := (hE2.2 this (by rw [hk7_this]; decide)).trans hk7_this
  rw [ea_this] at hl
  rw [ea_this]
  clear ea_this
  replace hE := adE hE hE2
  clear hE2
  obtain ⟨ccn12, eccn12⟩ : ∃ y : Nat, y = (ccn8 + 1) := ⟨_, rfl⟩
  obtain ⟨csn12, ecsn12⟩ : ∃ y : Nat, y = (csn8 + (Int32.toNatClampNeg 408)) := ⟨_, rfl⟩
  refine W.widen (k := ccn12) (n := csn12) (Nat.le_of_eq eccn12.symm) (Nat.le_of_eq ecsn12.symm) ?_
  replace hu1 : ccn12 + zw1 = uc := by omega
  replace hu2 : csn12 + zw2 = us := by omega
  clear eccn12 ecsn12
  obtain ⟨i13, hi13⟩ := hW.o3 hk11_this
  refine va_putF (D := (dC, dI)) (ci := 3) (v := .ref (ad30 cnt21)) (ty := (.array .byte)) (C := RX3) (T := TX3) (N := 7) hx hb hts inX3 tyX3 tyX3_ok nmX3 hown hK hP hD hS i13 hi13 rfl 3 (by decide) (hts (.fieldLink RX3 23 "SpellTurner$Partings" "fitting" "[B") ic_219) (fun _ h9 => h9) rfl hin rfl (by decide +kernel) rfl rfl (Nat.le_of_ble_eq_true rfl) dX3_init_32 (fun H locs hP2 hD2 hS => ?_)
  obtain ⟨m32, w14, em32, hP, hD, hW⟩ : ∃ (z : Nat → Option Nat) (w : va_W), z = (va_up (P30 63) this (some cnt21)) ∧ va_P (dC, dI) vwCl w H ∧ va_D A w ∧ LW w ad30 kk kd30 ln30 G30 (va_up P30 63 z) U30 V30 X30 O30 := ⟨_, _, rfl, hP2, hD2, hW.setP hD hi13 (by rw [hk11_this]; decide) 63 (some cnt21) (by rw [hk11_this]; rfl)⟩
  replace hT : TYP kd30 (va_up P30 63 m32) O30 (V30 0) cnt30 := by rw [em32]; exact hT.setP 63 this cnt21 hk_n30
  replace hr := vlS hr m32 em32
  clear em32
  refine lv_aload_n hx hb dX3_init_35 rfl (lv_at hl 0 rfl) ?_
  refine lv_bipush (v := 25) hx hb dX3_init_36 (by decide +kernel) ?_
  replace hr := iteS hr
  obtain ⟨hi38, hr⟩ := hr
  replace hr := tkS hr
  obtain ⟨zw1, zw2, hr, hq1, hq2⟩ := hr
  refine va_newa (atype := .boolean) (a0 := ((Int32.toNatClampNeg 25), .inl (fun _ => 0))) (ty := .boolean) (N' := (Int32.toNatClampNeg 25)) hx hb (hts (.arrayClass .boolean) ic_508) rfl hK hP hD hS hA (fun _ => rfl) (nabS hi38).1 rfl (nabB hi38 (by decide)) (by show _ ≤ uc; omega) (by show _ ≤ us; omega) dX3_init_38 (fun q38 cA H hK2 hP2 hD2 hS => ?_)
  obtain rfl : cA = kk 2 := kA_boolean hK2
  clear hK2
  replace hr := newcS hr hW hT hD2 (by decide) (fun _ => rfl)
  obtain ⟨G38, P38, U38, V38, X38, O38, kd38, ln38, cnt38, ad38, hr, hW, hT, hE2, hk_n38, hqa⟩ := hr
  subst hqa
  obtain ⟨w15, hP, hD, hW⟩ : ∃ w : va_W, va_P (dC, dI) vwCl w H ∧ va_D A w ∧ LW w ad38 kk kd38 ln38 G38 P38 U38 V38 X38 O38 := ⟨_, hP2, hD2, hW⟩
  clear hP2 hD2
  have ea_this : ad30 this = ad38 this := (hE2.1 this (by rw [hk11_this]; decide)).symm
  have hk15_this := (hE2.2 this (by rw [hk11_this]; decide)).trans hk11_this
  rw [ea_this] at hl
  rw [ea_this]
  clear ea_this
  replace hE := adE hE hE2
  clear hE2
  obtain ⟨ccn16, eccn16⟩ : ∃ y : Nat, y = (ccn12 + 1) := ⟨_, rfl⟩
  obtain ⟨csn16, ecsn16⟩ : ∃ y : Nat, y = (csn12 + (Int32.toNatClampNeg 25)) := ⟨_, rfl⟩
  refine W.widen (k := ccn16) (n := csn16) (Nat.le_of_eq eccn16.symm) (Nat.le_of_eq ecsn16.symm) ?_
  replace hu1 : ccn16 + zw1 = uc := by omega
  replace hu2 : csn16 + zw2 = us := by omega
  clear eccn16 ecsn16
  obtain ⟨i17, hi17⟩ := hW.o3 hk15_this
  refine va_putF (D := (dC, dI)) (ci := 3) (v := .ref (ad38 cnt30)) (ty := (.array .boolean)) (C := RX3) (T := TX3) (N := 7) hx hb hts inX3 tyX3 tyX3_ok nmX3 hown hK hP hD hS i17 hi17 rfl 4 (by decide) (hts (.fieldLink RX3 26 "SpellTurner$Partings" "closes" "[Z") ic_218) (fun _ h9 => h9) rfl hin rfl (by decide +kernel) rfl rfl (Nat.le_of_ble_eq_true rfl) dX3_init_40 (fun H locs hP2 hD2 hS => ?_)
  obtain ⟨m40, w18, em40, hP, hD, hW⟩ : ∃ (z : Nat → Option Nat) (w : va_W), z = (va_up (P38 64) this (some cnt30)) ∧ va_P (dC, dI) vwCl w H ∧ va_D A w ∧ LW w ad38 kk kd38 ln38 G38 (va_up P38 64 z) U38 V38 X38 O38 := ⟨_, _, rfl, hP2, hD2, hW.setP hD hi17 (by rw [hk15_this]; decide) 64 (some cnt30) (by rw [hk15_this]; rfl)⟩
  replace hT : TYP kd38 (va_up P38 64 m40) O38 (V38 0) cnt38 := by rw [em40]; exact hT.setP 64 this cnt30 hk_n38
  replace hr := vlS hr m40 em40
  clear em40
  refine lv_aload_n hx hb dX3_init_43 rfl (lv_at hl 0 rfl) ?_
  refine lv_bipush (v := 24) hx hb dX3_init_44 (by decide +kernel) ?_
  replace hr := iteS hr
  obtain ⟨hi46, hr⟩ := hr
  replace hr := tkS hr
  obtain ⟨zw1, zw2, hr, hq1, hq2⟩ := hr
  refine va_newa (atype := .byte) (a0 := ((Int32.toNatClampNeg 24), .inl (fun _ => 0))) (ty := .byte) (N' := (Int32.toNatClampNeg 24)) hx hb (hts (.arrayClass .byte) ic_496) rfl hK hP hD hS hA (fun _ => rfl) (nabS hi46).1 rfl (nabB hi46 (by decide)) (by show _ ≤ uc; omega) (by show _ ≤ us; omega) dX3_init_46 (fun q46 cA H hK2 hP2 hD2 hS => ?_)
  obtain rfl : cA = kk 0 := kA_byte hK2
  clear hK2
  replace hr := newcS hr hW hT hD2 (by decide) (fun _ => rfl)
  obtain ⟨G46, P46, U46, V46, X46, O46, kd46, ln46, cnt46, ad46, hr, hW, hT, hE2, hk_n46, hqa⟩ := hr
  subst hqa
  obtain ⟨w19, hP, hD, hW⟩ : ∃ w : va_W, va_P (dC, dI) vwCl w H ∧ va_D A w ∧ LW w ad46 kk kd46 ln46 G46 P46 U46 V46 X46 O46 := ⟨_, hP2, hD2, hW⟩
  clear hP2 hD2
  have ea_this : ad38 this = ad46 this := (hE2.1 this (by rw [hk15_this]; decide)).symm
  have hk19_this := (hE2.2 this (by rw [hk15_this]; decide)).trans hk15_this
  rw [ea_this] at hl
  rw [ea_this]
  clear ea_this
  replace hE := adE hE hE2
  clear hE2
  obtain ⟨ccn20, eccn20⟩ : ∃ y : Nat, y = (ccn16 + 1) := ⟨_, rfl⟩
  obtain ⟨csn20, ecsn20⟩ : ∃ y : Nat, y = (csn16 + (Int32.toNatClampNeg 24)) := ⟨_, rfl⟩
  refine W.widen (k := ccn20) (n := csn20) (Nat.le_of_eq eccn20.symm) (Nat.le_of_eq ecsn20.symm) ?_
  replace hu1 : ccn20 + zw1 = uc := by omega
  replace hu2 : csn20 + zw2 = us := by omega
  clear eccn20 ecsn20
  obtain ⟨i21, hi21⟩ := hW.o3 hk19_this
  refine va_putF (D := (dC, dI)) (ci := 3) (v := .ref (ad46 cnt38)) (ty := (.array .byte)) (C := RX3) (T := TX3) (N := 7) hx hb hts inX3 tyX3 tyX3_ok nmX3 hown hK hP hD hS i21 hi21 rfl 5 (by decide) (hts (.fieldLink RX3 30 "SpellTurner$Partings" "path" "[B") ic_226) (fun _ h9 => h9) rfl hin rfl (by decide +kernel) rfl rfl (Nat.le_of_ble_eq_true rfl) dX3_init_48 (fun H locs hP2 hD2 hS => ?_)
  obtain ⟨m48, w22, em48, hP, hD, hW⟩ : ∃ (z : Nat → Option Nat) (w : va_W), z = (va_up (P46 65) this (some cnt38)) ∧ va_P (dC, dI) vwCl w H ∧ va_D A w ∧ LW w ad46 kk kd46 ln46 G46 (va_up P46 65 z) U46 V46 X46 O46 := ⟨_, _, rfl, hP2, hD2, hW.setP hD hi21 (by rw [hk19_this]; decide) 65 (some cnt38) (by rw [hk19_this]; rfl)⟩
  replace hT : TYP kd46 (va_up P46 65 m48) O46 (V46 0) cnt46 := by rw [em48]; exact hT.setP 65 this cnt38 hk_n46
  replace hr := vlS hr m48 em48
  clear em48
  refine lv_aload_n hx hb dX3_init_51 rfl (lv_at hl 0 rfl) ?_
  replace hr := tkS hr
  obtain ⟨zw1, zw2, hr, hq1, hq2⟩ := hr
  refine va_new (ci := 10) (fs := [.int 0, .null, .null, .int 0]) (C := RX10) (T := TX10) (N := 4) hx hb hts inX10 tyX10 tyX10_ok hown (hts (.classLink RX3 33 RX10) ic_625) (hts (.instantiable RX10 4) ic_505) (hts (.initialized RX10) ic_12) hK hP hD hS hA rfl (fun j hj => match j, hj with | 0, _ => rfl | 1, _ => rfl | 2, _ => rfl | 3, _ => rfl | j + 4, hj => absurd hj (by omega)) (by show _ ≤ uc; omega) (by show _ ≤ us; omega) dX3_init_52 (fun q52 H hP2 hD2 hS => ?_)
  replace hr := newcS hr hW hT hD2 (by decide) (fun _ => rfl)
  obtain ⟨G52, P52, U52, V52, X52, O52, kd52, ln52, cnt52, ad52, hr, hW, hT, hE2, hk_n52, hqa⟩ := hr
  subst hqa
  obtain ⟨w23, hP, hD, hW⟩ : ∃ w : va_W, va_P (dC, dI) vwCl w H ∧ va_D A w ∧ LW w ad52 kk kd52 ln52 G52 P52 U52 V52 X52 O52 := ⟨_, hP2, hD2, hW⟩
  clear hP2 hD2
  have ea_this : ad46 this = ad52 this := (hE2.1 this (by rw [hk19_this]; decide)).symm
  have hk23_this := (hE2.2 this (by rw [hk19_this]; decide)).trans hk19_this
  rw [ea_this] at hl
  rw [ea_this]
  clear ea_this
  replace hE := adE hE hE2
  clear hE2
  obtain ⟨ccn24, eccn24⟩ : ∃ y : Nat, y = (ccn20 + 1) := ⟨_, rfl⟩
  obtain ⟨csn24, ecsn24⟩ : ∃ y : Nat, y = (csn20 + 4) := ⟨_, rfl⟩
  refine W.widen (k := ccn24) (n := csn24) (Nat.le_of_eq eccn24.symm) (Nat.le_of_eq ecsn24.symm) ?_
  replace hu1 : ccn24 + zw1 = uc := by omega
  replace hu2 : csn24 + zw2 = us := by omega
  clear eccn24 ecsn24
  refine lv_dup hx hb dX3_init_55 rfl ?_
  refine lv_iconst (v := 0) hx hb dX3_init_56 (by decide +kernel) ?_
  refine lv_iconst (v := 0) hx hb dX3_init_57 (by decide +kernel) ?_
  replace hr := bA9S hr
  obtain ⟨c58_G, c58_P, c58_U, c58_V, c58_X, c58_O, c58_kd, c58_ln, c58_cnt, zv1, zv2, zw1, zw2, hc58, hr, hq1, hq2⟩ := hr
  have hFc := fr_all hD hS hA
  refine va_callv (va_runI (As := [.int 0, .int 0]) (rest := [.ref (ad52 cnt46), .ref (ad52 this)]) ⟨hx, hb, hml, hown, hts⟩ (m_X10_init l dC dI kk ad52 H.size w23 G52 P52 U52 V52 X52 O52 kd52 ln52 cnt52 cnt46 0 0 hk_n52 hW hT c58_G c58_P c58_U c58_V c58_X c58_O c58_kd c58_ln c58_cnt zv1 zv2 hc58) (cwI 2 hts (lwC_code ic_492) rfl rfl rfl (hts (.initialized RX10) ic_12) (hts (.methodLink RX3 35 yX10_init) ic_626) (hts (.instanceMethod yX10_init) ic_507) rfl (by decide +kernel) ⟨Nat.le_of_ble_eq_true rfl, Nat.le_of_ble_eq_true rfl⟩) ⟨fun a U g mk q => by obtain ⟨q0, q1, qP, qK, qD⟩ := q; exact ⟨q0, q1, qP, va_K.moved (u := U) (U := U.calling g mk a) (Vm.Alike.refl U.vm) qK, qD⟩, fun U hU hW => ⟨rfl, by rw [hU], by rw [hU]; exact hP, va_K.moved hW.alike hK, hD.weaken (fun _ _ _ _ => trivial)⟩⟩ rfl rfl hl.1 rfl (lv_room (Nat.le_of_ble_eq_true rfl)) dX3_init_58 ⟨(by show _ ≤ uc; omega), (by show _ ≤ us; omega)⟩) hS (fun q _ h => hFc q h) hFc (fun w25 t H1 locs ht hvm hw hB hz1 hk1 hS => ?_)
  obtain ⟨w25, ad58_25⟩ := w25
  dsimp only at hw hB
  obtain ⟨hW, hT, hE2⟩ := hw
  obtain ⟨hP1, hK1, hD1⟩ := hB
  rw [ht] at hP1
  obtain ⟨hP, hD⟩ := jn_all (w1 := w25) hFc hP1 hD1
  replace hP : va_P (dC, dI) vwCl w25 H1 := hP
  replace hD : va_D A w25 := hD
  clear hFc hP1 hK1 hD1 hk1 hz1 ht hvm
  generalize H1 = H at hP hS ⊢
  have ea_this : ad52 this = ad58_25 this := (hE2.1 this (by rw [hk23_this]; decide)).symm
  have hk25_this := (hE2.2 this (by rw [hk23_this]; decide)).trans hk23_this
  have ea_cnt46 : ad52 cnt46 = ad58_25 cnt46 := (hE2.1 cnt46 (by rw [hk_n52]; decide)).symm
  have hk25_cnt46 := (hE2.2 cnt46 (by rw [hk_n52]; decide)).trans hk_n52
  rw [ea_this] at hl
  rw [ea_this, ea_cnt46]
  clear ea_this ea_cnt46
  replace hE := adE hE hE2
  clear hE2
  obtain ⟨ccn26, eccn26⟩ : ∃ y : Nat, y = (ccn24 + zv1) := ⟨_, rfl⟩
  obtain ⟨csn26, ecsn26⟩ : ∃ y : Nat, y = (csn24 + zv2) := ⟨_, rfl⟩
  refine W.widen (k := ccn26) (n := csn26) (Nat.le_of_eq eccn26.symm) (Nat.le_of_eq ecsn26.symm) ?_
  replace hu1 : ccn26 + zw1 = uc := by omega
  replace hu2 : csn26 + zw2 = us := by omega
  clear eccn26 ecsn26
  obtain ⟨i27, hi27⟩ := hW.o3 hk25_this
  refine va_put (D := (dC, dI)) (ci := 3) (v := .ref (ad58_25 cnt46)) (ty := (.object "SpellTurner$WordRow")) (C := RX3) (T := TX3) (N := 7) hx hb hts inX3 tyX3 tyX3_ok nmX3 hown hK hP hD hS i27 hi27 rfl 6 (by decide) (hts (.fieldLink RX3 38 "SpellTurner$Partings" "parts" "LSpellTurner$WordRow;") ic_169) (fun _ h9 => h9) rfl (by decide +kernel) rfl rfl (Nat.le_of_ble_eq_true rfl) dX3_init_61 (fun H locs hP2 hD2 hS => ?_)
  obtain ⟨m61, w28, em61, hP, hD, hW⟩ : ∃ (z : Nat → Option Nat) (w : va_W), z = (va_up (c58_P 66) this (some cnt46)) ∧ va_P (dC, dI) vwCl w H ∧ va_D A w ∧ LW w ad58_25 kk c58_kd c58_ln c58_G (va_up c58_P 66 z) c58_U c58_V c58_X c58_O := ⟨_, _, rfl, hP2, hD2, hW.setP hD hi27 (by rw [hk25_this]; decide) 66 (some cnt46) (by rw [hk25_this]; rfl)⟩
  replace hT : TYP c58_kd (va_up c58_P 66 m61) c58_O (c58_V 0) c58_cnt := by rw [em61]; exact hT.setP 66 this cnt46 hk25_cnt46
  replace hr := vlS hr m61 em61
  clear em61
  replace hr := retS hr
  obtain ⟨hr, hv1, hv2⟩ := hr
  refine W.widen (k := uc) (n := us) (by omega) (by omega) ?_
  exact K 64 ls _ _ _ _ _ _ _ _ _ ad58_25 w28 H _ hr dX3_init_64 hE hW hT hP hD hS
set_option maxHeartbeats 4000000 in
set_option maxRecDepth 100000 in
theorem m_X3_init (l : Launch) (dC : Nat → ClassId) (dI : Nat → Nat → Nat) (kk : Nat → ClassId) (ad : Nat → Nat) (sz : Nat) (ws : va_W) (G : Nat → Nat → Int32) (P : Nat → Nat → Option Nat) (U : Nat → Nat → Int64) (V : Nat → Nat → Nat → Int32) (X : Nat → Nat → Nat → Int64) (O : Nat → Nat → Nat → Option Nat) (kd : Nat → Nat) (ln : Nat → Nat) (cnt : Nat) (this : Nat) (hk_this : kd this = 4) (hW : LW ws ad kk kd ln G P U V X O) (hT : TYP kd P O (V 0) cnt) (c_G : Nat → Nat → Int32) (c_P : Nat → Nat → Option Nat) (c_U : Nat → Nat → Int64) (c_V : Nat → Nat → Nat → Int32) (c_X : Nat → Nat → Nat → Int64) (c_O : Nat → Nat → Nat → Option Nat) (c_kd : Nat → Nat) (c_ln : Nat → Nat) (c_cnt : Nat) (uc us : Nat) (hr : f_X3_init G P U V X O kd ln cnt this = some ((c_G, c_P, c_U, c_V, c_X, c_O, c_kd, c_ln, c_cnt), uc, us)) : Met l yX3_init vmX3_init ({ frames := 4, cells := uc, slots := us, locals := 112 } : Room) (va_Pc [.ref (ad this)] (fun U => U.heap.size = sz ∧ va_P (dC, dI) vwCl ws U.heap ∧ va_K (dC, dI) vwCl (cT kk) U ∧ va_D (fun _ => True) ws)) (va_Qv (fun (x : (va_W × (Nat → Nat))) => LW x.1 x.2 kk c_kd c_ln c_G c_P c_U c_V c_X c_O ∧ TYP c_kd c_P c_O (c_V 0) c_cnt ∧ adEx kd ad c_kd x.2) (fun x t => va_P (dC, dI) vwCl x.1 t.heap ∧ va_K (dC, dI) vwCl (cT kk) t ∧ va_D (va_A ws sz) x.1) (va_A ws sz)) uc us (va_A ws sz) := by
  refine Met.ofW (cc := cX3_init) (maxL := 1) (ret := none) (by decide) rfl ?_
  intro p e s m args below meth c s₁ B hml hv
  obtain ⟨rfl, hsz, hP, hK, hD0⟩ := hv
  have hx := B.exec
  have hb := B.bytes
  have hrt := B.returns
  have hts := atoms_spec (ws := vmX3_init) B.pre
  have hown : s.vm.findClass RX3 = some m.cls := findClass_of_methodNamed B.named
  subst hsz
  have hD := hD0.self (sz := s.heap.size)
  generalize hAe : va_A ws s.heap.size = A at hD ⊢
  have hA : ∀ q : Nat, s.heap.size ≤ q → A q := fun q h => by rw [← hAe]; exact Or.inr h
  have hS : va_S A s.heap s.heap [] := va_S.rf
  have hl := lv_entry ([.ref (ad this)]) (n := 1) (Nat.le_of_ble_eq_true rfl)
  rw [lg_entry_eq]
  generalize (lg_sl ([.ref (ad this)]) ++ List.replicate (1 - (lg_sl ([.ref (ad this)])).length) Slot.unset).toArray = ls at hl ⊢
  have hin : meth.name = "<init>" := (name_of_methodNamed B.named B.method).1
  exact bm_X3_init this hk_this c_G c_P c_U c_V c_X c_O c_kd c_ln c_cnt uc us hr hx hb hml hown hts hin hA hK hW hT hP hD hS hl (fun pc ls c_Gz c_Pz c_Uz c_Vz c_Xz c_Oz c_kdz c_lnz c_cntz adz ws H locs he hd hE hW hT hP hD hS => by cases he; exact W.vret hx hb hrt (fun t ht hW9 => ⟨⟨(ws, adz), rfl, ⟨hW, hT, hE⟩, by rw [ht]; exact hP, va_K.moved hW9.alike hK, hD⟩, hS.F ht⟩) hS.2.2 hd)
set_option maxHeartbeats 4000000 in
set_option maxRecDepth 100000 in
theorem bm_X9_init {p : Program} {l : Launch} {e : Env} {s : State} {m : MethodId} {args : Array Value} {below : List Frame} {meth : Method} {c : Code} {Q : State → Prop} {A : Nat → Prop} {dC : Nat → ClassId} {dI : Nat → Nat → Nat} {kk : Nat → ClassId} {ad : Nat → Nat} {ws : va_W} {G : Nat → Nat → Int32} {P : Nat → Nat → Option Nat} {U : Nat → Nat → Int64} {V : Nat → Nat → Nat → Int32} {X : Nat → Nat → Nat → Int64} {O : Nat → Nat → Nat → Option Nat} {kd : Nat → Nat} {ln : Nat → Nat} {cnt : Nat} {H : Heap} {locs : List Loc} {ls : Array Slot} (this : Nat) (hk_this : kd this = 10) (c_G : Nat → Nat → Int32) (c_P : Nat → Nat → Option Nat) (c_U : Nat → Nat → Int64) (c_V : Nat → Nat → Nat → Int32) (c_X : Nat → Nat → Nat → Int64) (c_O : Nat → Nat → Nat → Option Nat) (c_kd : Nat → Nat) (c_ln : Nat → Nat) (c_cnt : Nat) (uc us : Nat) (hr : f_X9_init G P U V X O kd ln cnt this = some ((c_G, c_P, c_U, c_V, c_X, c_O, c_kd, c_ln, c_cnt), uc, us)) (hx : p.tables.exec = Jvm.exec) (hb : c.code = cX9_init) (hml : c.maxLocals = 1) (hown : s.vm.findClass RX9 = some m.cls) (hts : ∀ w ∈ vmX9_init, w.before args s = true) (hin : meth.name = "<init>") (hA : ∀ q : Nat, s.heap.size ≤ q → A q) (hK : va_K (dC, dI) vwCl (cT kk) s) (hEn : EnvOK s) (hW : LW ws ad kk kd ln G P U V X O) (hT : TYP kd P O (V 0) cnt) (hP : va_P (dC, dI) vwCl ws H) (hD : va_D A ws) (hS : va_S A s.heap H locs) (hl : lv_has ls 1 [(0, .ref (ad this))])
    (K : ∀ (pc : Nat) (ls : Array Slot) (c_Gz : Nat → Nat → Int32) (c_Pz : Nat → Nat → Option Nat) (c_Uz : Nat → Nat → Int64) (c_Vz : Nat → Nat → Nat → Int32) (c_Xz : Nat → Nat → Nat → Int64) (c_Oz : Nat → Nat → Nat → Option Nat) (c_kdz : Nat → Nat) (c_lnz : Nat → Nat) (c_cntz : Nat) (adz : Nat → Nat) (ws : va_W) (H : Heap) (locs : List Loc), some (c_Gz, c_Pz, c_Uz, c_Vz, c_Xz, c_Oz, c_kdz, c_lnz, c_cntz) = some (c_G, c_P, c_U, c_V, c_X, c_O, c_kd, c_ln, c_cnt) → decode cX9_init pc = .ok (.return_, 1) → adEx kd ad c_kdz adz → LW ws adz kk c_kdz c_lnz c_Gz c_Pz c_Uz c_Vz c_Xz c_Oz → TYP c_kdz c_Pz c_Oz (c_Vz 0) c_cntz → va_P (dC, dI) vwCl ws H → va_D A ws → va_S A s.heap H locs → W p l e ({ frames := 5, cells := uc, slots := us, locals := 132 } : Room) s m args below meth c H locs uc us Q (F0 m pc ls [])) : W p l e ({ frames := 5, cells := uc, slots := us, locals := 132 } : Room) s m args below meth c H locs 0 0 Q (F0 m 0 ls []) := by
  have hu1 : 0 + uc = uc := Nat.zero_add _
  have hu2 : 0 + us = us := Nat.zero_add _
  have hE : adEx kd ad kd ad := ⟨fun _ _ => rfl, fun _ _ => rfl⟩
  unfold f_X9_init at hr
  refine lv_aload_n hx hb dX9_init_0 rfl (lv_at hl 0 rfl) ?_
  refine W.objInit hx hb hown (hts (.methodLink RX9 3 objectInit) ic_628) (hts (.instanceMethod objectInit) ic_494) (hts (.code objectInit ⟨#[0xb1]⟩ 1 none) ic_495) rfl (by rw [hml]; exact hl.1) rfl dX9_init_1 (Nat.le_of_ble_eq_true rfl) (Nat.le_of_ble_eq_true rfl) ?_
  refine W.eq (g2 := F0 m 4 ls []) rfl ?_
  refine lv_aload_n hx hb dX9_init_4 rfl (lv_at hl 0 rfl) ?_
  replace hr := tkS hr
  obtain ⟨zw1, zw2, hr, hq1, hq2⟩ := hr
  refine va_new (ci := 3) (fs := [.int 0, .null, .null, .null, .null, .null, .null]) (C := RX3) (T := TX3) (N := 7) hx hb hts inX3 tyX3 tyX3_ok hown (hts (.classLink RX9 9 RX3) ic_629) (hts (.instantiable RX3 7) ic_630) (hts (.initialized RX3) ic_168) hK hP hD hS hA rfl (fun j hj => match j, hj with | 0, _ => rfl | 1, _ => rfl | 2, _ => rfl | 3, _ => rfl | 4, _ => rfl | 5, _ => rfl | 6, _ => rfl | j + 7, hj => absurd hj (by omega)) (by show _ ≤ uc; omega) (by show _ ≤ us; omega) dX9_init_5 (fun q5 H hP2 hD2 hS => ?_)
  replace hr := newcS hr hW hT hD2 (by decide) (fun _ => rfl)
  obtain ⟨G5, P5, U5, V5, X5, O5, kd5, ln5, cnt5, ad5, hr, hW, hT, hE2, hk_n5, hqa⟩ := hr
  subst hqa
  obtain ⟨w1, hP, hD, hW⟩ : ∃ w : va_W, va_P (dC, dI) vwCl w H ∧ va_D A w ∧ LW w ad5 kk kd5 ln5 G5 P5 U5 V5 X5 O5 := ⟨_, hP2, hD2, hW⟩
  clear hP2 hD2
  have ea_this : ad this = ad5 this := (hE2.1 this (by rw [hk_this]; decide)).symm
  have hk1_this := (hE2.2 this (by rw [hk_this]; decide)).trans hk_this
  rw [ea_this] at hl
  rw [ea_this]
  clear ea_this
  replace hE := adE hE hE2
  clear hE2
  obtain ⟨ccn2, eccn2⟩ : ∃ y : Nat, y = (0 + 1) := ⟨_, rfl⟩
  obtain ⟨csn2, ecsn2⟩ : ∃ y : Nat, y = (0 + 7) := ⟨_, rfl⟩
  refine W.widen (k := ccn2) (n := csn2) (Nat.le_of_eq eccn2.symm) (Nat.le_of_eq ecsn2.symm) ?_
  replace hu1 : ccn2 + zw1 = uc := by omega
  replace hu2 : csn2 + zw2 = us := by omega
  clear eccn2 ecsn2
  refine lv_dup hx hb dX9_init_8 rfl ?_
  replace hr := bA9S hr
  obtain ⟨c9_G, c9_P, c9_U, c9_V, c9_X, c9_O, c9_kd, c9_ln, c9_cnt, zv1, zv2, zw1, zw2, hc9, hr, hq1, hq2⟩ := hr
  have hFc := fr_all hD hS hA
  refine va_callv (va_runIN (As := []) (rest := [.ref (ad5 cnt), .ref (ad5 this)]) ⟨hx, hb, hml, hown, hts⟩ (m_X3_init l dC dI kk ad5 H.size w1 G5 P5 U5 V5 X5 O5 kd5 ln5 cnt5 cnt hk_n5 hW hT c9_G c9_P c9_U c9_V c9_X c9_O c9_kd c9_ln c9_cnt zv1 zv2 hc9) ⟨va_cnB 0 hts (lwC_code ic_623) rfl rfl rfl (en_nRX9_11 hEn) (hts (.initialized RX3) ic_168) (by decide +kernel) ⟨Nat.le_of_ble_eq_true rfl, Nat.le_of_ble_eq_true rfl⟩, rfl, (hts (.instanceMethod yX3_init) ic_631)⟩ ⟨fun a U g mk q => by obtain ⟨q0, q1, qP, qK, qD⟩ := q; exact ⟨q0, q1, qP, va_K.moved (u := U) (U := U.calling g mk a) (Vm.Alike.refl U.vm) qK, qD⟩, fun U hU hW => ⟨rfl, by rw [hU], by rw [hU]; exact hP, va_K.moved hW.alike hK, hD.weaken (fun _ _ _ _ => trivial)⟩⟩ rfl rfl hl.1 rfl (lv_room (Nat.le_of_ble_eq_true rfl)) dX9_init_9 ⟨(by show _ ≤ uc; omega), (by show _ ≤ us; omega)⟩) hS (fun q _ h => hFc q h) hFc (fun w3 t H1 locs ht hvm hw hB hz1 hk1 hS => ?_)
  obtain ⟨w3, ad9_3⟩ := w3
  dsimp only at hw hB
  obtain ⟨hW, hT, hE2⟩ := hw
  obtain ⟨hP1, hK1, hD1⟩ := hB
  rw [ht] at hP1
  obtain ⟨hP, hD⟩ := jn_all (w1 := w3) hFc hP1 hD1
  replace hP : va_P (dC, dI) vwCl w3 H1 := hP
  replace hD : va_D A w3 := hD
  clear hFc hP1 hK1 hD1 hk1 hz1 ht hvm
  generalize H1 = H at hP hS ⊢
  have ea_this : ad5 this = ad9_3 this := (hE2.1 this (by rw [hk1_this]; decide)).symm
  have hk3_this := (hE2.2 this (by rw [hk1_this]; decide)).trans hk1_this
  have ea_cnt : ad5 cnt = ad9_3 cnt := (hE2.1 cnt (by rw [hk_n5]; decide)).symm
  have hk3_cnt := (hE2.2 cnt (by rw [hk_n5]; decide)).trans hk_n5
  rw [ea_this] at hl
  rw [ea_this, ea_cnt]
  clear ea_this ea_cnt
  replace hE := adE hE hE2
  clear hE2
  obtain ⟨ccn4, eccn4⟩ : ∃ y : Nat, y = (ccn2 + zv1) := ⟨_, rfl⟩
  obtain ⟨csn4, ecsn4⟩ : ∃ y : Nat, y = (csn2 + zv2) := ⟨_, rfl⟩
  refine W.widen (k := ccn4) (n := csn4) (Nat.le_of_eq eccn4.symm) (Nat.le_of_eq ecsn4.symm) ?_
  replace hu1 : ccn4 + zw1 = uc := by omega
  replace hu2 : csn4 + zw2 = us := by omega
  clear eccn4 ecsn4
  obtain ⟨i5, hi5⟩ := hW.o9 hk3_this
  refine va_putF (D := (dC, dI)) (ci := 9) (v := .ref (ad9_3 cnt)) (ty := (.object "SpellTurner$Partings")) (C := RX9) (T := TX9) (N := 8) hx hb hts inX9 tyX9 tyX9_ok nmX9 hown hK hP hD hS i5 hi5 rfl 0 (by decide) (hts (.fieldLink RX9 12 "SpellTurner$Turner" "partings" "LSpellTurner$Partings;") ic_305) (fun _ h9 => h9) rfl hin rfl (by decide +kernel) rfl rfl (Nat.le_of_ble_eq_true rfl) dX9_init_12 (fun H locs hP2 hD2 hS => ?_)
  obtain ⟨m12, w6, em12, hP, hD, hW⟩ : ∃ (z : Nat → Option Nat) (w : va_W), z = (va_up (c9_P 180) this (some cnt)) ∧ va_P (dC, dI) vwCl w H ∧ va_D A w ∧ LW w ad9_3 kk c9_kd c9_ln c9_G (va_up c9_P 180 z) c9_U c9_V c9_X c9_O := ⟨_, _, rfl, hP2, hD2, hW.setP hD hi5 (by rw [hk3_this]; decide) 180 (some cnt) (by rw [hk3_this]; rfl)⟩
  replace hT : TYP c9_kd (va_up c9_P 180 m12) c9_O (c9_V 0) c9_cnt := by rw [em12]; exact hT.setP 180 this cnt hk3_cnt
  replace hr := vlS hr m12 em12
  clear em12
  refine lv_aload_n hx hb dX9_init_15 rfl (lv_at hl 0 rfl) ?_
  refine lv_bipush (v := 40) hx hb dX9_init_16 (by decide +kernel) ?_
  replace hr := iteS hr
  obtain ⟨hi18, hr⟩ := hr
  replace hr := tkS hr
  obtain ⟨zw1, zw2, hr, hq1, hq2⟩ := hr
  refine va_newa (atype := .byte) (a0 := ((Int32.toNatClampNeg 40), .inl (fun _ => 0))) (ty := .byte) (N' := (Int32.toNatClampNeg 40)) hx hb (hts (.arrayClass .byte) ic_496) rfl hK hP hD hS hA (fun _ => rfl) (nabS hi18).1 rfl (nabB hi18 (by decide)) (by show _ ≤ uc; omega) (by show _ ≤ us; omega) dX9_init_18 (fun q18 cA H hK2 hP2 hD2 hS => ?_)
  obtain rfl : cA = kk 0 := kA_byte hK2
  clear hK2
  replace hr := newcS hr hW hT hD2 (by decide) (fun _ => rfl)
  obtain ⟨G18, P18, U18, V18, X18, O18, kd18, ln18, cnt18, ad18, hr, hW, hT, hE2, hk_n18, hqa⟩ := hr
  subst hqa
  obtain ⟨w7, hP, hD, hW⟩ : ∃ w : va_W, va_P (dC, dI) vwCl w H ∧ va_D A w ∧ LW w ad18 kk kd18 ln18 G18 P18 U18 V18 X18 O18 := ⟨_, hP2, hD2, hW⟩
  clear hP2 hD2
  have ea_this : ad9_3 this = ad18 this := (hE2.1 this (by rw [hk3_this]; decide)).symm
  have hk7_this := (hE2.2 this (by rw [hk3_this]; decide)).trans hk3_this
  rw [ea_this] at hl
  rw [ea_this]
  clear ea_this
  replace hE := adE hE hE2
  clear hE2
  obtain ⟨ccn8, eccn8⟩ : ∃ y : Nat, y = (ccn4 + 1) := ⟨_, rfl⟩
  obtain ⟨csn8, ecsn8⟩ : ∃ y : Nat, y = (csn4 + (Int32.toNatClampNeg 40)) := ⟨_, rfl⟩
  refine W.widen (k := ccn8) (n := csn8) (Nat.le_of_eq eccn8.symm) (Nat.le_of_eq ecsn8.symm) ?_
  replace hu1 : ccn8 + zw1 = uc := by omega
  replace hu2 : csn8 + zw2 = us := by omega
  clear eccn8 ecsn8
  obtain ⟨i9, hi9⟩ := hW.o9 hk7_this
  refine va_put (D := (dC, dI)) (ci := 9) (v := .ref (ad18 c9_cnt)) (ty := (.array .byte)) (C := RX9) (T := TX9) (N := 8) hx hb hts inX9 tyX9 tyX9_ok nmX9 hown hK hP hD hS i9 hi9 rfl 1 (by decide) (hts (.fieldLink RX9 18 "SpellTurner$Turner" "now" "[B") ic_280) (fun _ h9 => h9) rfl (by decide +kernel) rfl rfl (Nat.le_of_ble_eq_true rfl) dX9_init_20 (fun H locs hP2 hD2 hS => ?_)
  obtain ⟨m20, w10, em20, hP, hD, hW⟩ : ∃ (z : Nat → Option Nat) (w : va_W), z = (va_up (P18 181) this (some c9_cnt)) ∧ va_P (dC, dI) vwCl w H ∧ va_D A w ∧ LW w ad18 kk kd18 ln18 G18 (va_up P18 181 z) U18 V18 X18 O18 := ⟨_, _, rfl, hP2, hD2, hW.setP hD hi9 (by rw [hk7_this]; decide) 181 (some c9_cnt) (by rw [hk7_this]; rfl)⟩
  replace hT : TYP kd18 (va_up P18 181 m20) O18 (V18 0) cnt18 := by rw [em20]; exact hT.setP 181 this c9_cnt hk_n18
  replace hr := vlS hr m20 em20
  clear em20
  refine lv_aload_n hx hb dX9_init_23 rfl (lv_at hl 0 rfl) ?_
  refine lv_bipush (v := 40) hx hb dX9_init_24 (by decide +kernel) ?_
  replace hr := iteS hr
  obtain ⟨hi26, hr⟩ := hr
  replace hr := tkS hr
  obtain ⟨zw1, zw2, hr, hq1, hq2⟩ := hr
  refine va_newa (atype := .byte) (a0 := ((Int32.toNatClampNeg 40), .inl (fun _ => 0))) (ty := .byte) (N' := (Int32.toNatClampNeg 40)) hx hb (hts (.arrayClass .byte) ic_496) rfl hK hP hD hS hA (fun _ => rfl) (nabS hi26).1 rfl (nabB hi26 (by decide)) (by show _ ≤ uc; omega) (by show _ ≤ us; omega) dX9_init_26 (fun q26 cA H hK2 hP2 hD2 hS => ?_)
  obtain rfl : cA = kk 0 := kA_byte hK2
  clear hK2
  replace hr := newcS hr hW hT hD2 (by decide) (fun _ => rfl)
  obtain ⟨G26, P26, U26, V26, X26, O26, kd26, ln26, cnt26, ad26, hr, hW, hT, hE2, hk_n26, hqa⟩ := hr
  subst hqa
  obtain ⟨w11, hP, hD, hW⟩ : ∃ w : va_W, va_P (dC, dI) vwCl w H ∧ va_D A w ∧ LW w ad26 kk kd26 ln26 G26 P26 U26 V26 X26 O26 := ⟨_, hP2, hD2, hW⟩
  clear hP2 hD2
  have ea_this : ad18 this = ad26 this := (hE2.1 this (by rw [hk7_this]; decide)).symm
  have hk11_this := (hE2.2 this (by rw [hk7_this]; decide)).trans hk7_this
  rw [ea_this] at hl
  rw [ea_this]
  clear ea_this
  replace hE := adE hE hE2
  clear hE2
  obtain ⟨ccn12, eccn12⟩ : ∃ y : Nat, y = (ccn8 + 1) := ⟨_, rfl⟩
  obtain ⟨csn12, ecsn12⟩ : ∃ y : Nat, y = (csn8 + (Int32.toNatClampNeg 40)) := ⟨_, rfl⟩
  refine W.widen (k := ccn12) (n := csn12) (Nat.le_of_eq eccn12.symm) (Nat.le_of_eq ecsn12.symm) ?_
  replace hu1 : ccn12 + zw1 = uc := by omega
  replace hu2 : csn12 + zw2 = us := by omega
  clear eccn12 ecsn12
  obtain ⟨i13, hi13⟩ := hW.o9 hk11_this
  refine va_put (D := (dC, dI)) (ci := 9) (v := .ref (ad26 cnt18)) (ty := (.array .byte)) (C := RX9) (T := TX9) (N := 8) hx hb hts inX9 tyX9 tyX9_ok nmX9 hown hK hP hD hS i13 hi13 rfl 2 (by decide) (hts (.fieldLink RX9 22 "SpellTurner$Turner" "next" "[B") ic_281) (fun _ h9 => h9) rfl (by decide +kernel) rfl rfl (Nat.le_of_ble_eq_true rfl) dX9_init_28 (fun H locs hP2 hD2 hS => ?_)
  obtain ⟨m28, w14, em28, hP, hD, hW⟩ : ∃ (z : Nat → Option Nat) (w : va_W), z = (va_up (P26 182) this (some cnt18)) ∧ va_P (dC, dI) vwCl w H ∧ va_D A w ∧ LW w ad26 kk kd26 ln26 G26 (va_up P26 182 z) U26 V26 X26 O26 := ⟨_, _, rfl, hP2, hD2, hW.setP hD hi13 (by rw [hk11_this]; decide) 182 (some cnt18) (by rw [hk11_this]; rfl)⟩
  replace hT : TYP kd26 (va_up P26 182 m28) O26 (V26 0) cnt26 := by rw [em28]; exact hT.setP 182 this cnt18 hk_n26
  replace hr := vlS hr m28 em28
  clear em28
  refine lv_aload_n hx hb dX9_init_31 rfl (lv_at hl 0 rfl) ?_
  refine lv_iconst (v := 0) hx hb dX9_init_32 (by decide +kernel) ?_
  obtain ⟨i15, hi15⟩ := hW.o9 hk11_this
  refine va_put (D := (dC, dI)) (ci := 9) (v := .int 0) (ty := .int) (C := RX9) (T := TX9) (N := 8) hx hb hts inX9 tyX9 tyX9_ok nmX9 hown hK hP hD hS i15 hi15 rfl 3 (by decide) (hts (.fieldLink RX9 25 "SpellTurner$Turner" "length" "I") ic_282) (fun _ h9 => h9) rfl (by decide +kernel) rfl rfl (Nat.le_of_ble_eq_true rfl) dX9_init_33 (fun H locs hP2 hD2 hS => ?_)
  obtain ⟨m33, w16, em33, hP, hD, hW⟩ : ∃ (z : Nat → Int32) (w : va_W), z = (va_up (G26 183) this 0) ∧ va_P (dC, dI) vwCl w H ∧ va_D A w ∧ LW w ad26 kk kd26 ln26 (va_up G26 183 z) (va_up P26 182 m28) U26 V26 X26 O26 := ⟨_, _, rfl, hP2, hD2, hW.setG hD hi15 (by rw [hk11_this]; decide) 183 0 (by rw [hk11_this]; rfl)⟩
  replace hr := vlS hr m33 em33
  clear em33
  refine lv_aload_n hx hb dX9_init_36 rfl (lv_at hl 0 rfl) ?_
  refine lv_lconst (v := 0) hx hb dX9_init_37 (by decide +kernel) ?_
  obtain ⟨i17, hi17⟩ := hW.o9 hk11_this
  refine va_put (D := (dC, dI)) (ci := 9) (v := .long 0) (ty := .long) (C := RX9) (T := TX9) (N := 8) hx hb hts inX9 tyX9 tyX9_ok nmX9 hown hK hP hD hS i17 hi17 rfl 4 (by decide) (hts (.fieldLink RX9 29 "SpellTurner$Turner" "used" "J") ic_294) (fun _ h9 => h9) rfl (by decide +kernel) rfl rfl (Nat.le_of_ble_eq_true rfl) dX9_init_38 (fun H locs hP2 hD2 hS => ?_)
  obtain ⟨m38, w18, em38, hP, hD, hW⟩ : ∃ (z : Nat → Int64) (w : va_W), z = (va_up (U26 184) this 0) ∧ va_P (dC, dI) vwCl w H ∧ va_D A w ∧ LW w ad26 kk kd26 ln26 (va_up G26 183 m33) (va_up P26 182 m28) (va_up U26 184 z) V26 X26 O26 := ⟨_, _, rfl, hP2, hD2, hW.setU hD hi17 (by rw [hk11_this]; decide) 184 0 (by rw [hk11_this]; rfl)⟩
  replace hr := vlS hr m38 em38
  clear em38
  refine lv_aload_n hx hb dX9_init_41 rfl (lv_at hl 0 rfl) ?_
  refine lv_bipush (v := 24) hx hb dX9_init_42 (by decide +kernel) ?_
  replace hr := iteS hr
  obtain ⟨hi44, hr⟩ := hr
  replace hr := tkS hr
  obtain ⟨zw1, zw2, hr, hq1, hq2⟩ := hr
  refine va_newa (atype := .byte) (a0 := ((Int32.toNatClampNeg 24), .inl (fun _ => 0))) (ty := .byte) (N' := (Int32.toNatClampNeg 24)) hx hb (hts (.arrayClass .byte) ic_496) rfl hK hP hD hS hA (fun _ => rfl) (nabS hi44).1 rfl (nabB hi44 (by decide)) (by show _ ≤ uc; omega) (by show _ ≤ us; omega) dX9_init_44 (fun q44 cA H hK2 hP2 hD2 hS => ?_)
  obtain rfl : cA = kk 0 := kA_byte hK2
  clear hK2
  replace hr := newcS hr hW hT hD2 (by decide) (fun _ => rfl)
  obtain ⟨G44, P44, U44, V44, X44, O44, kd44, ln44, cnt44, ad44, hr, hW, hT, hE2, hk_n44, hqa⟩ := hr
  subst hqa
  obtain ⟨w19, hP, hD, hW⟩ : ∃ w : va_W, va_P (dC, dI) vwCl w H ∧ va_D A w ∧ LW w ad44 kk kd44 ln44 G44 P44 U44 V44 X44 O44 := ⟨_, hP2, hD2, hW⟩
  clear hP2 hD2
  have ea_this : ad26 this = ad44 this := (hE2.1 this (by rw [hk11_this]; decide)).symm
  have hk19_this := (hE2.2 this (by rw [hk11_this]; decide)).trans hk11_this
  rw [ea_this] at hl
  rw [ea_this]
  clear ea_this
  replace hE := adE hE hE2
  clear hE2
  obtain ⟨ccn20, eccn20⟩ : ∃ y : Nat, y = (ccn12 + 1) := ⟨_, rfl⟩
  obtain ⟨csn20, ecsn20⟩ : ∃ y : Nat, y = (csn12 + (Int32.toNatClampNeg 24)) := ⟨_, rfl⟩
  refine W.widen (k := ccn20) (n := csn20) (Nat.le_of_eq eccn20.symm) (Nat.le_of_eq ecsn20.symm) ?_
  replace hu1 : ccn20 + zw1 = uc := by omega
  replace hu2 : csn20 + zw2 = us := by omega
  clear eccn20 ecsn20
  obtain ⟨i21, hi21⟩ := hW.o9 hk19_this
  refine va_putF (D := (dC, dI)) (ci := 9) (v := .ref (ad44 cnt26)) (ty := (.array .byte)) (C := RX9) (T := TX9) (N := 8) hx hb hts inX9 tyX9 tyX9_ok nmX9 hown hK hP hD hS i21 hi21 rfl 5 (by decide) (hts (.fieldLink RX9 33 "SpellTurner$Turner" "whole" "[B") ic_304) (fun _ h9 => h9) rfl hin rfl (by decide +kernel) rfl rfl (Nat.le_of_ble_eq_true rfl) dX9_init_46 (fun H locs hP2 hD2 hS => ?_)
  obtain ⟨m46, w22, em46, hP, hD, hW⟩ : ∃ (z : Nat → Option Nat) (w : va_W), z = (va_up (P44 185) this (some cnt26)) ∧ va_P (dC, dI) vwCl w H ∧ va_D A w ∧ LW w ad44 kk kd44 ln44 G44 (va_up P44 185 z) U44 V44 X44 O44 := ⟨_, _, rfl, hP2, hD2, hW.setP hD hi21 (by rw [hk19_this]; decide) 185 (some cnt26) (by rw [hk19_this]; rfl)⟩
  replace hT : TYP kd44 (va_up P44 185 m46) O44 (V44 0) cnt44 := by rw [em46]; exact hT.setP 185 this cnt26 hk_n44
  replace hr := vlS hr m46 em46
  clear em46
  refine lv_aload_n hx hb dX9_init_49 rfl (lv_at hl 0 rfl) ?_
  replace hr := tkS hr
  obtain ⟨zw1, zw2, hr, hq1, hq2⟩ := hr
  refine va_new (ci := 10) (fs := [.int 0, .null, .null, .int 0]) (C := RX10) (T := TX10) (N := 4) hx hb hts inX10 tyX10 tyX10_ok hown (hts (.classLink RX9 36 RX10) ic_632) (hts (.instantiable RX10 4) ic_505) (hts (.initialized RX10) ic_12) hK hP hD hS hA rfl (fun j hj => match j, hj with | 0, _ => rfl | 1, _ => rfl | 2, _ => rfl | 3, _ => rfl | j + 4, hj => absurd hj (by omega)) (by show _ ≤ uc; omega) (by show _ ≤ us; omega) dX9_init_50 (fun q50 H hP2 hD2 hS => ?_)
  replace hr := newcS hr hW hT hD2 (by decide) (fun _ => rfl)
  obtain ⟨G50, P50, U50, V50, X50, O50, kd50, ln50, cnt50, ad50, hr, hW, hT, hE2, hk_n50, hqa⟩ := hr
  subst hqa
  obtain ⟨w23, hP, hD, hW⟩ : ∃ w : va_W, va_P (dC, dI) vwCl w H ∧ va_D A w ∧ LW w ad50 kk kd50 ln50 G50 P50 U50 V50 X50 O50 := ⟨_, hP2, hD2, hW⟩
  clear hP2 hD2
  have ea_this : ad44 this = ad50 this := (hE2.1 this (by rw [hk19_this]; decide)).symm
  have hk23_this := (hE2.2 this (by rw [hk19_this]; decide)).trans hk19_this
  rw [ea_this] at hl
  rw [ea_this]
  clear ea_this
  replace hE := adE hE hE2
  clear hE2
  obtain ⟨ccn24, eccn24⟩ : ∃ y : Nat, y = (ccn20 + 1) := ⟨_, rfl⟩
  obtain ⟨csn24, ecsn24⟩ : ∃ y : Nat, y = (csn20 + 4) := ⟨_, rfl⟩
  refine W.widen (k := ccn24) (n := csn24) (Nat.le_of_eq eccn24.symm) (Nat.le_of_eq ecsn24.symm) ?_
  replace hu1 : ccn24 + zw1 = uc := by omega
  replace hu2 : csn24 + zw2 = us := by omega
  clear eccn24 ecsn24
  refine lv_dup hx hb dX9_init_53 rfl ?_
  refine lv_bipush (v := 12) hx hb dX9_init_54 (by decide +kernel) ?_
  refine lv_bipush (v := 24) hx hb dX9_init_56 (by decide +kernel) ?_
  replace hr := bA9S hr
  obtain ⟨c58_G, c58_P, c58_U, c58_V, c58_X, c58_O, c58_kd, c58_ln, c58_cnt, zv1, zv2, zw1, zw2, hc58, hr, hq1, hq2⟩ := hr
  have hFc := fr_all hD hS hA
  refine va_callv (va_runI (As := [.int 12, .int 24]) (rest := [.ref (ad50 cnt44), .ref (ad50 this)]) ⟨hx, hb, hml, hown, hts⟩ (m_X10_init l dC dI kk ad50 H.size w23 G50 P50 U50 V50 X50 O50 kd50 ln50 cnt50 cnt44 12 24 hk_n50 hW hT c58_G c58_P c58_U c58_V c58_X c58_O c58_kd c58_ln c58_cnt zv1 zv2 hc58) (cwI 2 hts (lwC_code ic_492) rfl rfl rfl (hts (.initialized RX10) ic_12) (hts (.methodLink RX9 38 yX10_init) ic_633) (hts (.instanceMethod yX10_init) ic_507) rfl (by decide +kernel) ⟨Nat.le_of_ble_eq_true rfl, Nat.le_of_ble_eq_true rfl⟩) ⟨fun a U g mk q => by obtain ⟨q0, q1, qP, qK, qD⟩ := q; exact ⟨q0, q1, qP, va_K.moved (u := U) (U := U.calling g mk a) (Vm.Alike.refl U.vm) qK, qD⟩, fun U hU hW => ⟨rfl, by rw [hU], by rw [hU]; exact hP, va_K.moved hW.alike hK, hD.weaken (fun _ _ _ _ => trivial)⟩⟩ rfl rfl hl.1 rfl (lv_room (Nat.le_of_ble_eq_true rfl)) dX9_init_58 ⟨(by show _ ≤ uc; omega), (by show _ ≤ us; omega)⟩) hS (fun q _ h => hFc q h) hFc (fun w25 t H1 locs ht hvm hw hB hz1 hk1 hS => ?_)
  obtain ⟨w25, ad58_25⟩ := w25
  dsimp only at hw hB
  obtain ⟨hW, hT, hE2⟩ := hw
  obtain ⟨hP1, hK1, hD1⟩ := hB
  rw [ht] at hP1
  obtain ⟨hP, hD⟩ := jn_all (w1 := w25) hFc hP1 hD1
  replace hP : va_P (dC, dI) vwCl w25 H1 := hP
  replace hD : va_D A w25 := hD
  clear hFc hP1 hK1 hD1 hk1 hz1 ht hvm
  generalize H1 = H at hP hS ⊢
  have ea_this : ad50 this = ad58_25 this := (hE2.1 this (by rw [hk23_this]; decide)).symm
  have hk25_this := (hE2.2 this (by rw [hk23_this]; decide)).trans hk23_this
  have ea_cnt44 : ad50 cnt44 = ad58_25 cnt44 := (hE2.1 cnt44 (by rw [hk_n50]; decide)).symm
  have hk25_cnt44 := (hE2.2 cnt44 (by rw [hk_n50]; decide)).trans hk_n50
  rw [ea_this] at hl
  rw [ea_this, ea_cnt44]
  clear ea_this ea_cnt44
  replace hE := adE hE hE2
  clear hE2
  obtain ⟨ccn26, eccn26⟩ : ∃ y : Nat, y = (ccn24 + zv1) := ⟨_, rfl⟩
  obtain ⟨csn26, ecsn26⟩ : ∃ y : Nat, y = (csn24 + zv2) := ⟨_, rfl⟩
  refine W.widen (k := ccn26) (n := csn26) (Nat.le_of_eq eccn26.symm) (Nat.le_of_eq ecsn26.symm) ?_
  replace hu1 : ccn26 + zw1 = uc := by omega
  replace hu2 : csn26 + zw2 = us := by omega
  clear eccn26 ecsn26
  obtain ⟨i27, hi27⟩ := hW.o9 hk25_this
  refine va_put (D := (dC, dI)) (ci := 9) (v := .ref (ad58_25 cnt44)) (ty := (.object "SpellTurner$WordRow")) (C := RX9) (T := TX9) (N := 8) hx hb hts inX9 tyX9 tyX9_ok nmX9 hown hK hP hD hS i27 hi27 rfl 6 (by decide) (hts (.fieldLink RX9 41 "SpellTurner$Turner" "ahead" "LSpellTurner$WordRow;") ic_330) (fun _ h9 => h9) rfl (by decide +kernel) rfl rfl (Nat.le_of_ble_eq_true rfl) dX9_init_61 (fun H locs hP2 hD2 hS => ?_)
  obtain ⟨m61, w28, em61, hP, hD, hW⟩ : ∃ (z : Nat → Option Nat) (w : va_W), z = (va_up (c58_P 186) this (some cnt44)) ∧ va_P (dC, dI) vwCl w H ∧ va_D A w ∧ LW w ad58_25 kk c58_kd c58_ln c58_G (va_up c58_P 186 z) c58_U c58_V c58_X c58_O := ⟨_, _, rfl, hP2, hD2, hW.setP hD hi27 (by rw [hk25_this]; decide) 186 (some cnt44) (by rw [hk25_this]; rfl)⟩
  replace hT : TYP c58_kd (va_up c58_P 186 m61) c58_O (c58_V 0) c58_cnt := by rw [em61]; exact hT.setP 186 this cnt44 hk25_cnt44
  replace hr := vlS hr m61 em61
  clear em61
  refine lv_aload_n hx hb dX9_init_64 rfl (lv_at hl 0 rfl) ?_
  replace hr := tkS hr
  obtain ⟨zw1, zw2, hr, hq1, hq2⟩ := hr
  refine va_new (ci := 10) (fs := [.int 0, .null, .null, .int 0]) (C := RX10) (T := TX10) (N := 4) hx hb hts inX10 tyX10 tyX10_ok hown (hts (.classLink RX9 36 RX10) ic_632) (hts (.instantiable RX10 4) ic_505) (hts (.initialized RX10) ic_12) hK hP hD hS hA rfl (fun j hj => match j, hj with | 0, _ => rfl | 1, _ => rfl | 2, _ => rfl | 3, _ => rfl | j + 4, hj => absurd hj (by omega)) (by show _ ≤ uc; omega) (by show _ ≤ us; omega) dX9_init_65 (fun q65 H hP2 hD2 hS => ?_)
  replace hr := newcS hr hW hT hD2 (by decide) (fun _ => rfl)
  obtain ⟨G65, P65, U65, V65, X65, O65, kd65, ln65, cnt65, ad65, hr, hW, hT, hE2, hk_n65, hqa⟩ := hr
  subst hqa
  obtain ⟨w29, hP, hD, hW⟩ : ∃ w : va_W, va_P (dC, dI) vwCl w H ∧ va_D A w ∧ LW w ad65 kk kd65 ln65 G65 P65 U65 V65 X65 O65 := ⟨_, hP2, hD2, hW⟩
  clear hP2 hD2
  have ea_this : ad58_25 this = ad65 this := (hE2.1 this (by rw [hk25_this]; decide)).symm
  have hk29_this := (hE2.2 this (by rw [hk25_this]; decide)).trans hk25_this
  rw [ea_this] at hl
  rw [ea_this]
  clear ea_this
  replace hE := adE hE hE2
  clear hE2
  obtain ⟨ccn30, eccn30⟩ : ∃ y : Nat, y = (ccn26 + 1) := ⟨_, rfl⟩
  obtain ⟨csn30, ecsn30⟩ : ∃ y : Nat, y = (csn26 + 4) := ⟨_, rfl⟩
  refine W.widen (k := ccn30) (n := csn30) (Nat.le_of_eq eccn30.symm) (Nat.le_of_eq ecsn30.symm) ?_
  replace hu1 : ccn30 + zw1 = uc := by omega
  replace hu2 : csn30 + zw2 = us := by omega
  clear eccn30 ecsn30
  refine lv_dup hx hb dX9_init_68 rfl ?_
  refine lv_bipush (v := 12) hx hb dX9_init_69 (by decide +kernel) ?_
  refine lv_bipush (v := 24) hx hb dX9_init_71 (by decide +kernel) ?_
  replace hr := bA9S hr
  obtain ⟨c73_G, c73_P, c73_U, c73_V, c73_X, c73_O, c73_kd, c73_ln, c73_cnt, zv1, zv2, zw1, zw2, hc73, hr, hq1, hq2⟩ := hr
  have hFc := fr_all hD hS hA
  refine va_callv (va_runI (As := [.int 12, .int 24]) (rest := [.ref (ad65 c58_cnt), .ref (ad65 this)]) ⟨hx, hb, hml, hown, hts⟩ (m_X10_init l dC dI kk ad65 H.size w29 G65 P65 U65 V65 X65 O65 kd65 ln65 cnt65 c58_cnt 12 24 hk_n65 hW hT c73_G c73_P c73_U c73_V c73_X c73_O c73_kd c73_ln c73_cnt zv1 zv2 hc73) (cwI 2 hts (lwC_code ic_492) rfl rfl rfl (hts (.initialized RX10) ic_12) (hts (.methodLink RX9 38 yX10_init) ic_633) (hts (.instanceMethod yX10_init) ic_507) rfl (by decide +kernel) ⟨Nat.le_of_ble_eq_true rfl, Nat.le_of_ble_eq_true rfl⟩) ⟨fun a U g mk q => by obtain ⟨q0, q1, qP, qK, qD⟩ := q; exact ⟨q0, q1, qP, va_K.moved (u := U) (U := U.calling g mk a) (Vm.Alike.refl U.vm) qK, qD⟩, fun U hU hW => ⟨rfl, by rw [hU], by rw [hU]; exact hP, va_K.moved hW.alike hK, hD.weaken (fun _ _ _ _ => trivial)⟩⟩ rfl rfl hl.1 rfl (lv_room (Nat.le_of_ble_eq_true rfl)) dX9_init_73 ⟨(by show _ ≤ uc; omega), (by show _ ≤ us; omega)⟩) hS (fun q _ h => hFc q h) hFc (fun w31 t H1 locs ht hvm hw hB hz1 hk1 hS => ?_)
  obtain ⟨w31, ad73_31⟩ := w31
  dsimp only at hw hB
  obtain ⟨hW, hT, hE2⟩ := hw
  obtain ⟨hP1, hK1, hD1⟩ := hB
  rw [ht] at hP1
  obtain ⟨hP, hD⟩ := jn_all (w1 := w31) hFc hP1 hD1
  replace hP : va_P (dC, dI) vwCl w31 H1 := hP
  replace hD : va_D A w31 := hD
  clear hFc hP1 hK1 hD1 hk1 hz1 ht hvm
  generalize H1 = H at hP hS ⊢
  have ea_this : ad65 this = ad73_31 this := (hE2.1 this (by rw [hk29_this]; decide)).symm
  have hk31_this := (hE2.2 this (by rw [hk29_this]; decide)).trans hk29_this
  have ea_c58_cnt : ad65 c58_cnt = ad73_31 c58_cnt := (hE2.1 c58_cnt (by rw [hk_n65]; decide)).symm
  have hk31_c58_cnt := (hE2.2 c58_cnt (by rw [hk_n65]; decide)).trans hk_n65
  rw [ea_this] at hl
  rw [ea_this, ea_c58_cnt]
  clear ea_this ea_c58_cnt
  replace hE := adE hE hE2
  clear hE2
  obtain ⟨ccn32, eccn32⟩ : ∃ y : Nat, y = (ccn30 + zv1) := ⟨_, rfl⟩
  obtain ⟨csn32, ecsn32⟩ : ∃ y : Nat, y = (csn30 + zv2) := ⟨_, rfl⟩
  refine W.widen (k := ccn32) (n := csn32) (Nat.le_of_eq eccn32.symm) (Nat.le_of_eq ecsn32.symm) ?_
  replace hu1 : ccn32 + zw1 = uc := by omega
  replace hu2 : csn32 + zw2 = us := by omega
  clear eccn32 ecsn32
  obtain ⟨i33, hi33⟩ := hW.o9 hk31_this
  refine va_put (D := (dC, dI)) (ci := 9) (v := .ref (ad73_31 c58_cnt)) (ty := (.object "SpellTurner$WordRow")) (C := RX9) (T := TX9) (N := 8) hx hb hts inX9 tyX9 tyX9_ok nmX9 hown hK hP hD hS i33 hi33 rfl 7 (by decide) (hts (.fieldLink RX9 45 "SpellTurner$Turner" "behind" "LSpellTurner$WordRow;") ic_329) (fun _ h9 => h9) rfl (by decide +kernel) rfl rfl (Nat.le_of_ble_eq_true rfl) dX9_init_76 (fun H locs hP2 hD2 hS => ?_)
  obtain ⟨m76, w34, em76, hP, hD, hW⟩ : ∃ (z : Nat → Option Nat) (w : va_W), z = (va_up (c73_P 187) this (some c58_cnt)) ∧ va_P (dC, dI) vwCl w H ∧ va_D A w ∧ LW w ad73_31 kk c73_kd c73_ln c73_G (va_up c73_P 187 z) c73_U c73_V c73_X c73_O := ⟨_, _, rfl, hP2, hD2, hW.setP hD hi33 (by rw [hk31_this]; decide) 187 (some c58_cnt) (by rw [hk31_this]; rfl)⟩
  replace hT : TYP c73_kd (va_up c73_P 187 m76) c73_O (c73_V 0) c73_cnt := by rw [em76]; exact hT.setP 187 this c58_cnt hk31_c58_cnt
  replace hr := vlS hr m76 em76
  clear em76
  replace hr := retS hr
  obtain ⟨hr, hv1, hv2⟩ := hr
  refine W.widen (k := uc) (n := us) (by omega) (by omega) ?_
  exact K 79 ls _ _ _ _ _ _ _ _ _ ad73_31 w34 H _ hr dX9_init_79 hE hW hT hP hD hS
set_option maxHeartbeats 4000000 in
set_option maxRecDepth 100000 in
theorem m_X9_init (l : Launch) (dC : Nat → ClassId) (dI : Nat → Nat → Nat) (kk : Nat → ClassId) (ad : Nat → Nat) (sz : Nat) (ws : va_W) (G : Nat → Nat → Int32) (P : Nat → Nat → Option Nat) (U : Nat → Nat → Int64) (V : Nat → Nat → Nat → Int32) (X : Nat → Nat → Nat → Int64) (O : Nat → Nat → Nat → Option Nat) (kd : Nat → Nat) (ln : Nat → Nat) (cnt : Nat) (this : Nat) (hk_this : kd this = 10) (hW : LW ws ad kk kd ln G P U V X O) (hT : TYP kd P O (V 0) cnt) (c_G : Nat → Nat → Int32) (c_P : Nat → Nat → Option Nat) (c_U : Nat → Nat → Int64) (c_V : Nat → Nat → Nat → Int32) (c_X : Nat → Nat → Nat → Int64) (c_O : Nat → Nat → Nat → Option Nat) (c_kd : Nat → Nat) (c_ln : Nat → Nat) (c_cnt : Nat) (uc us : Nat) (hr : f_X9_init G P U V X O kd ln cnt this = some ((c_G, c_P, c_U, c_V, c_X, c_O, c_kd, c_ln, c_cnt), uc, us)) : Met l yX9_init vmX9_init ({ frames := 5, cells := uc, slots := us, locals := 132 } : Room) (va_Pc [.ref (ad this)] (fun U => U.heap.size = sz ∧ va_P (dC, dI) vwCl ws U.heap ∧ va_K (dC, dI) vwCl (cT kk) U ∧ va_D (fun _ => True) ws ∧ EnvOK U)) (va_Qv (fun (x : (va_W × (Nat → Nat))) => LW x.1 x.2 kk c_kd c_ln c_G c_P c_U c_V c_X c_O ∧ TYP c_kd c_P c_O (c_V 0) c_cnt ∧ adEx kd ad c_kd x.2) (fun x t => va_P (dC, dI) vwCl x.1 t.heap ∧ va_K (dC, dI) vwCl (cT kk) t ∧ va_D (va_A ws sz) x.1) (va_A ws sz)) uc us (va_A ws sz) := by
  refine Met.ofW (cc := cX9_init) (maxL := 1) (ret := none) (by decide) rfl ?_
  intro p e s m args below meth c s₁ B hml hv
  obtain ⟨rfl, hsz, hP, hK, hD0, hEn⟩ := hv
  have hx := B.exec
  have hb := B.bytes
  have hrt := B.returns
  have hts := atoms_spec (ws := vmX9_init) B.pre
  have hown : s.vm.findClass RX9 = some m.cls := findClass_of_methodNamed B.named
  subst hsz
  have hD := hD0.self (sz := s.heap.size)
  generalize hAe : va_A ws s.heap.size = A at hD ⊢
  have hA : ∀ q : Nat, s.heap.size ≤ q → A q := fun q h => by rw [← hAe]; exact Or.inr h
  have hS : va_S A s.heap s.heap [] := va_S.rf
  have hl := lv_entry ([.ref (ad this)]) (n := 1) (Nat.le_of_ble_eq_true rfl)
  rw [lg_entry_eq]
  generalize (lg_sl ([.ref (ad this)]) ++ List.replicate (1 - (lg_sl ([.ref (ad this)])).length) Slot.unset).toArray = ls at hl ⊢
  have hin : meth.name = "<init>" := (name_of_methodNamed B.named B.method).1
  exact bm_X9_init this hk_this c_G c_P c_U c_V c_X c_O c_kd c_ln c_cnt uc us hr hx hb hml hown hts hin hA hK hEn hW hT hP hD hS hl (fun pc ls c_Gz c_Pz c_Uz c_Vz c_Xz c_Oz c_kdz c_lnz c_cntz adz ws H locs he hd hE hW hT hP hD hS => by cases he; exact W.vret hx hb hrt (fun t ht hW9 => ⟨⟨(ws, adz), rfl, ⟨hW, hT, hE⟩, by rw [ht]; exact hP, va_K.moved hW9.alike hK, hD⟩, hS.F ht⟩) hS.2.2 hd)
set_option maxHeartbeats 4000000 in
set_option maxRecDepth 100000 in
theorem bm_X0_init {p : Program} {l : Launch} {e : Env} {s : State} {m : MethodId} {args : Array Value} {below : List Frame} {meth : Method} {c : Code} {Q : State → Prop} {A : Nat → Prop} {dC : Nat → ClassId} {dI : Nat → Nat → Nat} {kk : Nat → ClassId} {ad : Nat → Nat} {ws : va_W} {G : Nat → Nat → Int32} {P : Nat → Nat → Option Nat} {U : Nat → Nat → Int64} {V : Nat → Nat → Nat → Int32} {X : Nat → Nat → Nat → Int64} {O : Nat → Nat → Nat → Option Nat} {kd : Nat → Nat} {ln : Nat → Nat} {cnt : Nat} {H : Heap} {locs : List Loc} {ls : Array Slot} (this : Nat) (hk_this : kd this = 1) (c_G : Nat → Nat → Int32) (c_P : Nat → Nat → Option Nat) (c_U : Nat → Nat → Int64) (c_V : Nat → Nat → Nat → Int32) (c_X : Nat → Nat → Nat → Int64) (c_O : Nat → Nat → Nat → Option Nat) (c_kd : Nat → Nat) (c_ln : Nat → Nat) (c_cnt : Nat) (uc us : Nat) (hr : f_X0_init G P U V X O kd ln cnt this = some ((c_G, c_P, c_U, c_V, c_X, c_O, c_kd, c_ln, c_cnt), uc, us)) (hx : p.tables.exec = Jvm.exec) (hb : c.code = cX0_init) (hml : c.maxLocals = 1) (hown : s.vm.findClass RX0 = some m.cls) (hts : ∀ w ∈ vmX0_init, w.before args s = true) (hin : meth.name = "<init>") (hA : ∀ q : Nat, s.heap.size ≤ q → A q) (hK : va_K (dC, dI) vwCl (cT kk) s) (hEn : EnvOK s) (hW : LW ws ad kk kd ln G P U V X O) (hT : TYP kd P O (V 0) cnt) (hP : va_P (dC, dI) vwCl ws H) (hD : va_D A ws) (hS : va_S A s.heap H locs) (hl : lv_has ls 1 [(0, .ref (ad this))])
    (K : ∀ (pc : Nat) (ls : Array Slot) (c_Gz : Nat → Nat → Int32) (c_Pz : Nat → Nat → Option Nat) (c_Uz : Nat → Nat → Int64) (c_Vz : Nat → Nat → Nat → Int32) (c_Xz : Nat → Nat → Nat → Int64) (c_Oz : Nat → Nat → Nat → Option Nat) (c_kdz : Nat → Nat) (c_lnz : Nat → Nat) (c_cntz : Nat) (adz : Nat → Nat) (ws : va_W) (H : Heap) (locs : List Loc), some (c_Gz, c_Pz, c_Uz, c_Vz, c_Xz, c_Oz, c_kdz, c_lnz, c_cntz) = some (c_G, c_P, c_U, c_V, c_X, c_O, c_kd, c_ln, c_cnt) → decode cX0_init pc = .ok (.return_, 1) → adEx kd ad c_kdz adz → LW ws adz kk c_kdz c_lnz c_Gz c_Pz c_Uz c_Vz c_Xz c_Oz → TYP c_kdz c_Pz c_Oz (c_Vz 0) c_cntz → va_P (dC, dI) vwCl ws H → va_D A ws → va_S A s.heap H locs → W p l e ({ frames := 4, cells := uc, slots := us, locals := 112 } : Room) s m args below meth c H locs uc us Q (F0 m pc ls [])) : W p l e ({ frames := 4, cells := uc, slots := us, locals := 112 } : Room) s m args below meth c H locs 0 0 Q (F0 m 0 ls []) := by
  have hu1 : 0 + uc = uc := Nat.zero_add _
  have hu2 : 0 + us = us := Nat.zero_add _
  have hE : adEx kd ad kd ad := ⟨fun _ _ => rfl, fun _ _ => rfl⟩
  unfold f_X0_init at hr
  refine lv_aload_n hx hb dX0_init_0 rfl (lv_at hl 0 rfl) ?_
  refine W.objInit hx hb hown (hts (.methodLink RX0 3 objectInit) ic_635) (hts (.instanceMethod objectInit) ic_494) (hts (.code objectInit ⟨#[0xb1]⟩ 1 none) ic_495) rfl (by rw [hml]; exact hl.1) rfl dX0_init_1 (Nat.le_of_ble_eq_true rfl) (Nat.le_of_ble_eq_true rfl) ?_
  refine W.eq (g2 := F0 m 4 ls []) rfl ?_
  refine lv_aload_n hx hb dX0_init_4 rfl (lv_at hl 0 rfl) ?_
  replace hr := tkS hr
  obtain ⟨zw1, zw2, hr, hq1, hq2⟩ := hr
  refine va_new (ci := 10) (fs := [.int 0, .null, .null, .int 0]) (C := RX10) (T := TX10) (N := 4) hx hb hts inX10 tyX10 tyX10_ok hown (hts (.classLink RX0 9 RX10) ic_576) (hts (.instantiable RX10 4) ic_505) (hts (.initialized RX10) ic_12) hK hP hD hS hA rfl (fun j hj => match j, hj with | 0, _ => rfl | 1, _ => rfl | 2, _ => rfl | 3, _ => rfl | j + 4, hj => absurd hj (by omega)) (by show _ ≤ uc; omega) (by show _ ≤ us; omega) dX0_init_5 (fun q5 H hP2 hD2 hS => ?_)
  replace hr := newcS hr hW hT hD2 (by decide) (fun _ => rfl)
  obtain ⟨G5, P5, U5, V5, X5, O5, kd5, ln5, cnt5, ad5, hr, hW, hT, hE2, hk_n5, hqa⟩ := hr
  subst hqa
  obtain ⟨w1, hP, hD, hW⟩ : ∃ w : va_W, va_P (dC, dI) vwCl w H ∧ va_D A w ∧ LW w ad5 kk kd5 ln5 G5 P5 U5 V5 X5 O5 := ⟨_, hP2, hD2, hW⟩
  clear hP2 hD2
  have ea_this : ad this = ad5 this := (hE2.1 this (by rw [hk_this]; decide)).symm
  have hk1_this := (hE2.2 this (by rw [hk_this]; decide)).trans hk_this
  rw [ea_this] at hl
  rw [ea_this]
  clear ea_this
  replace hE := adE hE hE2
  clear hE2
  obtain ⟨ccn2, eccn2⟩ : ∃ y : Nat, y = (0 + 1) := ⟨_, rfl⟩
  obtain ⟨csn2, ecsn2⟩ : ∃ y : Nat, y = (0 + 4) := ⟨_, rfl⟩
  refine W.widen (k := ccn2) (n := csn2) (Nat.le_of_eq eccn2.symm) (Nat.le_of_eq ecsn2.symm) ?_
  replace hu1 : ccn2 + zw1 = uc := by omega
  replace hu2 : csn2 + zw2 = us := by omega
  clear eccn2 ecsn2
  refine lv_dup hx hb dX0_init_8 rfl ?_
  refine lv_bipush (v := 100) hx hb dX0_init_9 (by decide +kernel) ?_
  refine lv_bipush (v := 24) hx hb dX0_init_11 (by decide +kernel) ?_
  replace hr := bA9S hr
  obtain ⟨c13_G, c13_P, c13_U, c13_V, c13_X, c13_O, c13_kd, c13_ln, c13_cnt, zv1, zv2, zw1, zw2, hc13, hr, hq1, hq2⟩ := hr
  have hFc := fr_all hD hS hA
  refine va_callv (va_runI (As := [.int 100, .int 24]) (rest := [.ref (ad5 cnt), .ref (ad5 this)]) ⟨hx, hb, hml, hown, hts⟩ (m_X10_init l dC dI kk ad5 H.size w1 G5 P5 U5 V5 X5 O5 kd5 ln5 cnt5 cnt 100 24 hk_n5 hW hT c13_G c13_P c13_U c13_V c13_X c13_O c13_kd c13_ln c13_cnt zv1 zv2 hc13) (cwI 2 hts (lwC_code ic_492) rfl rfl rfl (hts (.initialized RX10) ic_12) (hts (.methodLink RX0 11 yX10_init) ic_577) (hts (.instanceMethod yX10_init) ic_507) rfl (by decide +kernel) ⟨Nat.le_of_ble_eq_true rfl, Nat.le_of_ble_eq_true rfl⟩) ⟨fun a U g mk q => by obtain ⟨q0, q1, qP, qK, qD⟩ := q; exact ⟨q0, q1, qP, va_K.moved (u := U) (U := U.calling g mk a) (Vm.Alike.refl U.vm) qK, qD⟩, fun U hU hW => ⟨rfl, by rw [hU], by rw [hU]; exact hP, va_K.moved hW.alike hK, hD.weaken (fun _ _ _ _ => trivial)⟩⟩ rfl rfl hl.1 rfl (lv_room (Nat.le_of_ble_eq_true rfl)) dX0_init_13 ⟨(by show _ ≤ uc; omega), (by show _ ≤ us; omega)⟩) hS (fun q _ h => hFc q h) hFc (fun w3 t H1 locs ht hvm hw hB hz1 hk1 hS => ?_)
  obtain ⟨w3, ad13_3⟩ := w3
  dsimp only at hw hB
  obtain ⟨hW, hT, hE2⟩ := hw
  obtain ⟨hP1, hK1, hD1⟩ := hB
  rw [ht] at hP1
  obtain ⟨hP, hD⟩ := jn_all (w1 := w3) hFc hP1 hD1
  replace hP : va_P (dC, dI) vwCl w3 H1 := hP
  replace hD : va_D A w3 := hD
  clear hFc hP1 hK1 hD1 hk1 hz1 ht hvm
  generalize H1 = H at hP hS ⊢
  have ea_this : ad5 this = ad13_3 this := (hE2.1 this (by rw [hk1_this]; decide)).symm
  have hk3_this := (hE2.2 this (by rw [hk1_this]; decide)).trans hk1_this
  have ea_cnt : ad5 cnt = ad13_3 cnt := (hE2.1 cnt (by rw [hk_n5]; decide)).symm
  have hk3_cnt := (hE2.2 cnt (by rw [hk_n5]; decide)).trans hk_n5
  rw [ea_this] at hl
  rw [ea_this, ea_cnt]
  clear ea_this ea_cnt
  replace hE := adE hE hE2
  clear hE2
  obtain ⟨ccn4, eccn4⟩ : ∃ y : Nat, y = (ccn2 + zv1) := ⟨_, rfl⟩
  obtain ⟨csn4, ecsn4⟩ : ∃ y : Nat, y = (csn2 + zv2) := ⟨_, rfl⟩
  refine W.widen (k := ccn4) (n := csn4) (Nat.le_of_eq eccn4.symm) (Nat.le_of_eq ecsn4.symm) ?_
  replace hu1 : ccn4 + zw1 = uc := by omega
  replace hu2 : csn4 + zw2 = us := by omega
  clear eccn4 ecsn4
  obtain ⟨i5, hi5⟩ := hW.o0 hk3_this
  refine va_putF (D := (dC, dI)) (ci := 0) (v := .ref (ad13_3 cnt)) (ty := (.object "SpellTurner$WordRow")) (C := RX0) (T := TX0) (N := 6) hx hb hts inX0 tyX0 tyX0_ok nmX0 hown hK hP hD hS i5 hi5 rfl 0 (by decide) (hts (.fieldLink RX0 14 "SpellTurner$Book" "words" "LSpellTurner$WordRow;") ic_92) (fun _ h9 => h9) rfl hin rfl (by decide +kernel) rfl rfl (Nat.le_of_ble_eq_true rfl) dX0_init_16 (fun H locs hP2 hD2 hS => ?_)
  obtain ⟨m16, w6, em16, hP, hD, hW⟩ : ∃ (z : Nat → Option Nat) (w : va_W), z = (va_up (c13_P 0) this (some cnt)) ∧ va_P (dC, dI) vwCl w H ∧ va_D A w ∧ LW w ad13_3 kk c13_kd c13_ln c13_G (va_up c13_P 0 z) c13_U c13_V c13_X c13_O := ⟨_, _, rfl, hP2, hD2, hW.setP hD hi5 (by rw [hk3_this]; decide) 0 (some cnt) (by rw [hk3_this]; rfl)⟩
  replace hT : TYP c13_kd (va_up c13_P 0 m16) c13_O (c13_V 0) c13_cnt := by rw [em16]; exact hT.setP 0 this cnt hk3_cnt
  replace hr := vlS hr m16 em16
  clear em16
  refine lv_aload_n hx hb dX0_init_19 rfl (lv_at hl 0 rfl) ?_
  refine lv_sipush (v := 700) hx hb dX0_init_20 (by decide +kernel) ?_
  replace hr := iteS hr
  obtain ⟨hi23, hr⟩ := hr
  replace hr := tkS hr
  obtain ⟨zw1, zw2, hr, hq1, hq2⟩ := hr
  refine va_newq (C := RX10) (N' := (Int32.toNatClampNeg 700)) hx hb hown (hts (.classLink RX0 9 RX10) ic_576) (en_aoRX10 hEn) hK hP hD hS hA (nabS hi23).1 rfl (nabB hi23 (by decide)) (by show _ ≤ uc; omega) (by show _ ≤ us; omega) dX0_init_23 (fun q23 cA H hK2 hP2 hD2 hS => ?_)
  obtain rfl : cA = kk 5 := kA_RX10 hK2
  clear hK2
  replace hr := newcS hr hW hT hD2 (by decide) (fun _ => rfl)
  obtain ⟨G23, P23, U23, V23, X23, O23, kd23, ln23, cnt23, ad23, hr, hW, hT, hE2, hk_n23, hqa⟩ := hr
  subst hqa
  obtain ⟨w7, hP, hD, hW⟩ : ∃ w : va_W, va_P (dC, dI) vwCl w H ∧ va_D A w ∧ LW w ad23 kk kd23 ln23 G23 P23 U23 V23 X23 O23 := ⟨_, hP2, hD2, hW⟩
  clear hP2 hD2
  have ea_this : ad13_3 this = ad23 this := (hE2.1 this (by rw [hk3_this]; decide)).symm
  have hk7_this := (hE2.2 this (by rw [hk3_this]; decide)).trans hk3_this
  rw [ea_this] at hl
  rw [ea_this]
  clear ea_this
  replace hE := adE hE hE2
  clear hE2
  obtain ⟨ccn8, eccn8⟩ : ∃ y : Nat, y = (ccn4 + 1) := ⟨_, rfl⟩
  obtain ⟨csn8, ecsn8⟩ : ∃ y : Nat, y = (csn4 + (Int32.toNatClampNeg 700)) := ⟨_, rfl⟩
  refine W.widen (k := ccn8) (n := csn8) (Nat.le_of_eq eccn8.symm) (Nat.le_of_eq ecsn8.symm) ?_
  replace hu1 : ccn8 + zw1 = uc := by omega
  replace hu2 : csn8 + zw2 = us := by omega
  clear eccn8 ecsn8
  obtain ⟨i9, hi9⟩ := hW.o0 hk7_this
  refine va_putF (D := (dC, dI)) (ci := 0) (v := .ref (ad23 c13_cnt)) (ty := (.array (.object "SpellTurner$WordRow"))) (C := RX0) (T := TX0) (N := 6) hx hb hts inX0 tyX0 tyX0_ok nmX0 hown hK hP hD hS i9 hi9 rfl 1 (by decide) (hts (.fieldLink RX0 20 "SpellTurner$Book" "forms" "[LSpellTurner$WordRow;") ic_75) (fun _ h9 => h9) rfl hin rfl (by decide +kernel) rfl rfl (Nat.le_of_ble_eq_true rfl) dX0_init_26 (fun H locs hP2 hD2 hS => ?_)
  obtain ⟨m26, w10, em26, hP, hD, hW⟩ : ∃ (z : Nat → Option Nat) (w : va_W), z = (va_up (P23 1) this (some c13_cnt)) ∧ va_P (dC, dI) vwCl w H ∧ va_D A w ∧ LW w ad23 kk kd23 ln23 G23 (va_up P23 1 z) U23 V23 X23 O23 := ⟨_, _, rfl, hP2, hD2, hW.setP hD hi9 (by rw [hk7_this]; decide) 1 (some c13_cnt) (by rw [hk7_this]; rfl)⟩
  replace hT : TYP kd23 (va_up P23 1 m26) O23 (V23 0) cnt23 := by rw [em26]; exact hT.setP 1 this c13_cnt hk_n23
  replace hr := vlS hr m26 em26
  clear em26
  refine lv_aload_n hx hb dX0_init_29 rfl (lv_at hl 0 rfl) ?_
  refine lv_sipush (v := 600) hx hb dX0_init_30 (by decide +kernel) ?_
  replace hr := iteS hr
  obtain ⟨hi33, hr⟩ := hr
  replace hr := tkS hr
  obtain ⟨zw1, zw2, hr, hq1, hq2⟩ := hr
  refine va_newa (atype := .long) (a0 := ((Int32.toNatClampNeg 600), .inr (.inl (fun _ => 0)))) (ty := .long) (N' := (Int32.toNatClampNeg 600)) hx hb (hts (.arrayClass .long) ic_510) rfl hK hP hD hS hA (fun _ => rfl) (nabS hi33).1 rfl (nabB hi33 (by decide)) (by show _ ≤ uc; omega) (by show _ ≤ us; omega) dX0_init_33 (fun q33 cA H hK2 hP2 hD2 hS => ?_)
  obtain rfl : cA = kk 3 := kA_long hK2
  clear hK2
  replace hr := newcS hr hW hT hD2 (by decide) (fun _ => rfl)
  obtain ⟨G33, P33, U33, V33, X33, O33, kd33, ln33, cnt33, ad33, hr, hW, hT, hE2, hk_n33, hqa⟩ := hr
  subst hqa
  obtain ⟨w11, hP, hD, hW⟩ : ∃ w : va_W, va_P (dC, dI) vwCl w H ∧ va_D A w ∧ LW w ad33 kk kd33 ln33 G33 P33 U33 V33 X33 O33 := ⟨_, hP2, hD2, hW⟩
  clear hP2 hD2
  have ea_this : ad23 this = ad33 this := (hE2.1 this (by rw [hk7_this]; decide)).symm
  have hk11_this := (hE2.2 this (by rw [hk7_this]; decide)).trans hk7_this
  rw [ea_this] at hl
  rw [ea_this]
  clear ea_this
  replace hE := adE hE hE2
  clear hE2
  obtain ⟨ccn12, eccn12⟩ : ∃ y : Nat, y = (ccn8 + 1) := ⟨_, rfl⟩
  obtain ⟨csn12, ecsn12⟩ : ∃ y : Nat, y = (csn8 + (Int32.toNatClampNeg 600)) := ⟨_, rfl⟩
  refine W.widen (k := ccn12) (n := csn12) (Nat.le_of_eq eccn12.symm) (Nat.le_of_eq ecsn12.symm) ?_
  replace hu1 : ccn12 + zw1 = uc := by omega
  replace hu2 : csn12 + zw2 = us := by omega
  clear eccn12 ecsn12
  obtain ⟨i13, hi13⟩ := hW.o0 hk11_this
  refine va_putF (D := (dC, dI)) (ci := 0) (v := .ref (ad33 cnt23)) (ty := (.array .long)) (C := RX0) (T := TX0) (N := 6) hx hb hts inX0 tyX0 tyX0_ok nmX0 hown hK hP hD hS i13 hi13 rfl 2 (by decide) (hts (.fieldLink RX0 24 "SpellTurner$Book" "lawsUsed" "[J") ic_95) (fun _ h9 => h9) rfl hin rfl (by decide +kernel) rfl rfl (Nat.le_of_ble_eq_true rfl) dX0_init_35 (fun H locs hP2 hD2 hS => ?_)
  obtain ⟨m35, w14, em35, hP, hD, hW⟩ : ∃ (z : Nat → Option Nat) (w : va_W), z = (va_up (P33 2) this (some cnt23)) ∧ va_P (dC, dI) vwCl w H ∧ va_D A w ∧ LW w ad33 kk kd33 ln33 G33 (va_up P33 2 z) U33 V33 X33 O33 := ⟨_, _, rfl, hP2, hD2, hW.setP hD hi13 (by rw [hk11_this]; decide) 2 (some cnt23) (by rw [hk11_this]; rfl)⟩
  replace hT : TYP kd33 (va_up P33 2 m35) O33 (V33 0) cnt33 := by rw [em35]; exact hT.setP 2 this cnt23 hk_n33
  replace hr := vlS hr m35 em35
  clear em35
  refine lv_aload_n hx hb dX0_init_38 rfl (lv_at hl 0 rfl) ?_
  refine lv_bipush (v := 7) hx hb dX0_init_39 (by decide +kernel) ?_
  replace hr := iteS hr
  obtain ⟨hi41, hr⟩ := hr
  replace hr := tkS hr
  obtain ⟨zw1, zw2, hr, hq1, hq2⟩ := hr
  refine va_newa (atype := .int) (a0 := ((Int32.toNatClampNeg 7), .inl (fun _ => 0))) (ty := .int) (N' := (Int32.toNatClampNeg 7)) hx hb (hts (.arrayClass .int) ic_497) rfl hK hP hD hS hA (fun _ => rfl) (nabS hi41).1 rfl (nabB hi41 (by decide)) (by show _ ≤ uc; omega) (by show _ ≤ us; omega) dX0_init_41 (fun q41 cA H hK2 hP2 hD2 hS => ?_)
  obtain rfl : cA = kk 1 := kA_int hK2
  clear hK2
  replace hr := newcS hr hW hT hD2 (by decide) (fun _ => rfl)
  obtain ⟨G41, P41, U41, V41, X41, O41, kd41, ln41, cnt41, ad41, hr, hW, hT, hE2, hk_n41, hqa⟩ := hr
  subst hqa
  obtain ⟨w15, hP, hD, hW⟩ : ∃ w : va_W, va_P (dC, dI) vwCl w H ∧ va_D A w ∧ LW w ad41 kk kd41 ln41 G41 P41 U41 V41 X41 O41 := ⟨_, hP2, hD2, hW⟩
  clear hP2 hD2
  have ea_this : ad33 this = ad41 this := (hE2.1 this (by rw [hk11_this]; decide)).symm
  have hk15_this := (hE2.2 this (by rw [hk11_this]; decide)).trans hk11_this
  rw [ea_this] at hl
  rw [ea_this]
  clear ea_this
  replace hE := adE hE hE2
  clear hE2
  obtain ⟨ccn16, eccn16⟩ : ∃ y : Nat, y = (ccn12 + 1) := ⟨_, rfl⟩
  obtain ⟨csn16, ecsn16⟩ : ∃ y : Nat, y = (csn12 + (Int32.toNatClampNeg 7)) := ⟨_, rfl⟩
  refine W.widen (k := ccn16) (n := csn16) (Nat.le_of_eq eccn16.symm) (Nat.le_of_eq ecsn16.symm) ?_
  replace hu1 : ccn16 + zw1 = uc := by omega
  replace hu2 : csn16 + zw2 = us := by omega
  clear eccn16 ecsn16
  obtain ⟨i17, hi17⟩ := hW.o0 hk15_this
  refine va_putF (D := (dC, dI)) (ci := 0) (v := .ref (ad41 cnt33)) (ty := (.array .int)) (C := RX0) (T := TX0) (N := 6) hx hb hts inX0 tyX0 tyX0_ok nmX0 hown hK hP hD hS i17 hi17 rfl 3 (by decide) (hts (.fieldLink RX0 28 "SpellTurner$Book" "filled" "[I") ic_574) (fun _ h9 => h9) rfl hin rfl (by decide +kernel) rfl rfl (Nat.le_of_ble_eq_true rfl) dX0_init_43 (fun H locs hP2 hD2 hS => ?_)
  obtain ⟨m43, w18, em43, hP, hD, hW⟩ : ∃ (z : Nat → Option Nat) (w : va_W), z = (va_up (P41 3) this (some cnt33)) ∧ va_P (dC, dI) vwCl w H ∧ va_D A w ∧ LW w ad41 kk kd41 ln41 G41 (va_up P41 3 z) U41 V41 X41 O41 := ⟨_, _, rfl, hP2, hD2, hW.setP hD hi17 (by rw [hk15_this]; decide) 3 (some cnt33) (by rw [hk15_this]; rfl)⟩
  replace hT : TYP kd41 (va_up P41 3 m43) O41 (V41 0) cnt41 := by rw [em43]; exact hT.setP 3 this cnt33 hk_n41
  replace hr := vlS hr m43 em43
  clear em43
  refine lv_aload_n hx hb dX0_init_46 rfl (lv_at hl 0 rfl) ?_
  replace hr := tkS hr
  obtain ⟨zw1, zw2, hr, hq1, hq2⟩ := hr
  refine va_new (ci := 10) (fs := [.int 0, .null, .null, .int 0]) (C := RX10) (T := TX10) (N := 4) hx hb hts inX10 tyX10 tyX10_ok hown (hts (.classLink RX0 9 RX10) ic_576) (hts (.instantiable RX10 4) ic_505) (hts (.initialized RX10) ic_12) hK hP hD hS hA rfl (fun j hj => match j, hj with | 0, _ => rfl | 1, _ => rfl | 2, _ => rfl | 3, _ => rfl | j + 4, hj => absurd hj (by omega)) (by show _ ≤ uc; omega) (by show _ ≤ us; omega) dX0_init_47 (fun q47 H hP2 hD2 hS => ?_)
  replace hr := newcS hr hW hT hD2 (by decide) (fun _ => rfl)
  obtain ⟨G47, P47, U47, V47, X47, O47, kd47, ln47, cnt47, ad47, hr, hW, hT, hE2, hk_n47, hqa⟩ := hr
  subst hqa
  obtain ⟨w19, hP, hD, hW⟩ : ∃ w : va_W, va_P (dC, dI) vwCl w H ∧ va_D A w ∧ LW w ad47 kk kd47 ln47 G47 P47 U47 V47 X47 O47 := ⟨_, hP2, hD2, hW⟩
  clear hP2 hD2
  have ea_this : ad41 this = ad47 this := (hE2.1 this (by rw [hk15_this]; decide)).symm
  have hk19_this := (hE2.2 this (by rw [hk15_this]; decide)).trans hk15_this
  rw [ea_this] at hl
  rw [ea_this]
  clear ea_this
  replace hE := adE hE hE2
  clear hE2
  obtain ⟨ccn20, eccn20⟩ : ∃ y : Nat, y = (ccn16 + 1) := ⟨_, rfl⟩
  obtain ⟨csn20, ecsn20⟩ : ∃ y : Nat, y = (csn16 + 4) := ⟨_, rfl⟩
  refine W.widen (k := ccn20) (n := csn20) (Nat.le_of_eq eccn20.symm) (Nat.le_of_eq ecsn20.symm) ?_
  replace hu1 : ccn20 + zw1 = uc := by omega
  replace hu2 : csn20 + zw2 = us := by omega
  clear eccn20 ecsn20
  refine lv_dup hx hb dX0_init_50 rfl ?_
  refine lv_bipush (v := 12) hx hb dX0_init_51 (by decide +kernel) ?_
  refine lv_bipush (v := 24) hx hb dX0_init_53 (by decide +kernel) ?_
  replace hr := bA9S hr
  obtain ⟨c55_G, c55_P, c55_U, c55_V, c55_X, c55_O, c55_kd, c55_ln, c55_cnt, zv1, zv2, zw1, zw2, hc55, hr, hq1, hq2⟩ := hr
  have hFc := fr_all hD hS hA
  refine va_callv (va_runI (As := [.int 12, .int 24]) (rest := [.ref (ad47 cnt41), .ref (ad47 this)]) ⟨hx, hb, hml, hown, hts⟩ (m_X10_init l dC dI kk ad47 H.size w19 G47 P47 U47 V47 X47 O47 kd47 ln47 cnt47 cnt41 12 24 hk_n47 hW hT c55_G c55_P c55_U c55_V c55_X c55_O c55_kd c55_ln c55_cnt zv1 zv2 hc55) (cwI 2 hts (lwC_code ic_492) rfl rfl rfl (hts (.initialized RX10) ic_12) (hts (.methodLink RX0 11 yX10_init) ic_577) (hts (.instanceMethod yX10_init) ic_507) rfl (by decide +kernel) ⟨Nat.le_of_ble_eq_true rfl, Nat.le_of_ble_eq_true rfl⟩) ⟨fun a U g mk q => by obtain ⟨q0, q1, qP, qK, qD⟩ := q; exact ⟨q0, q1, qP, va_K.moved (u := U) (U := U.calling g mk a) (Vm.Alike.refl U.vm) qK, qD⟩, fun U hU hW => ⟨rfl, by rw [hU], by rw [hU]; exact hP, va_K.moved hW.alike hK, hD.weaken (fun _ _ _ _ => trivial)⟩⟩ rfl rfl hl.1 rfl (lv_room (Nat.le_of_ble_eq_true rfl)) dX0_init_55 ⟨(by show _ ≤ uc; omega), (by show _ ≤ us; omega)⟩) hS (fun q _ h => hFc q h) hFc (fun w21 t H1 locs ht hvm hw hB hz1 hk1 hS => ?_)
  obtain ⟨w21, ad55_21⟩ := w21
  dsimp only at hw hB
  obtain ⟨hW, hT, hE2⟩ := hw
  obtain ⟨hP1, hK1, hD1⟩ := hB
  rw [ht] at hP1
  obtain ⟨hP, hD⟩ := jn_all (w1 := w21) hFc hP1 hD1
  replace hP : va_P (dC, dI) vwCl w21 H1 := hP
  replace hD : va_D A w21 := hD
  clear hFc hP1 hK1 hD1 hk1 hz1 ht hvm
  generalize H1 = H at hP hS ⊢
  have ea_this : ad47 this = ad55_21 this := (hE2.1 this (by rw [hk19_this]; decide)).symm
  have hk21_this := (hE2.2 this (by rw [hk19_this]; decide)).trans hk19_this
  have ea_cnt41 : ad47 cnt41 = ad55_21 cnt41 := (hE2.1 cnt41 (by rw [hk_n47]; decide)).symm
  have hk21_cnt41 := (hE2.2 cnt41 (by rw [hk_n47]; decide)).trans hk_n47
  rw [ea_this] at hl
  rw [ea_this, ea_cnt41]
  clear ea_this ea_cnt41
  replace hE := adE hE hE2
  clear hE2
  obtain ⟨ccn22, eccn22⟩ : ∃ y : Nat, y = (ccn20 + zv1) := ⟨_, rfl⟩
  obtain ⟨csn22, ecsn22⟩ : ∃ y : Nat, y = (csn20 + zv2) := ⟨_, rfl⟩
  refine W.widen (k := ccn22) (n := csn22) (Nat.le_of_eq eccn22.symm) (Nat.le_of_eq ecsn22.symm) ?_
  replace hu1 : ccn22 + zw1 = uc := by omega
  replace hu2 : csn22 + zw2 = us := by omega
  clear eccn22 ecsn22
  obtain ⟨i23, hi23⟩ := hW.o0 hk21_this
  refine va_putF (D := (dC, dI)) (ci := 0) (v := .ref (ad55_21 cnt41)) (ty := (.object "SpellTurner$WordRow")) (C := RX0) (T := TX0) (N := 6) hx hb hts inX0 tyX0 tyX0_ok nmX0 hown hK hP hD hS i23 hi23 rfl 4 (by decide) (hts (.fieldLink RX0 32 "SpellTurner$Book" "spare" "LSpellTurner$WordRow;") ic_575) (fun _ h9 => h9) rfl hin rfl (by decide +kernel) rfl rfl (Nat.le_of_ble_eq_true rfl) dX0_init_58 (fun H locs hP2 hD2 hS => ?_)
  obtain ⟨m58, w24, em58, hP, hD, hW⟩ : ∃ (z : Nat → Option Nat) (w : va_W), z = (va_up (c55_P 4) this (some cnt41)) ∧ va_P (dC, dI) vwCl w H ∧ va_D A w ∧ LW w ad55_21 kk c55_kd c55_ln c55_G (va_up c55_P 4 z) c55_U c55_V c55_X c55_O := ⟨_, _, rfl, hP2, hD2, hW.setP hD hi23 (by rw [hk21_this]; decide) 4 (some cnt41) (by rw [hk21_this]; rfl)⟩
  replace hT : TYP c55_kd (va_up c55_P 4 m58) c55_O (c55_V 0) c55_cnt := by rw [em58]; exact hT.setP 4 this cnt41 hk21_cnt41
  replace hr := vlS hr m58 em58
  clear em58
  refine lv_aload_n hx hb dX0_init_61 rfl (lv_at hl 0 rfl) ?_
  replace hr := tkS hr
  obtain ⟨zw1, zw2, hr, hq1, hq2⟩ := hr
  refine va_new (ci := 10) (fs := [.int 0, .null, .null, .int 0]) (C := RX10) (T := TX10) (N := 4) hx hb hts inX10 tyX10 tyX10_ok hown (hts (.classLink RX0 9 RX10) ic_576) (hts (.instantiable RX10 4) ic_505) (hts (.initialized RX10) ic_12) hK hP hD hS hA rfl (fun j hj => match j, hj with | 0, _ => rfl | 1, _ => rfl | 2, _ => rfl | 3, _ => rfl | j + 4, hj => absurd hj (by omega)) (by show _ ≤ uc; omega) (by show _ ≤ us; omega) dX0_init_62 (fun q62 H hP2 hD2 hS => ?_)
  replace hr := newcS hr hW hT hD2 (by decide) (fun _ => rfl)
  obtain ⟨G62, P62, U62, V62, X62, O62, kd62, ln62, cnt62, ad62, hr, hW, hT, hE2, hk_n62, hqa⟩ := hr
  subst hqa
  obtain ⟨w25, hP, hD, hW⟩ : ∃ w : va_W, va_P (dC, dI) vwCl w H ∧ va_D A w ∧ LW w ad62 kk kd62 ln62 G62 P62 U62 V62 X62 O62 := ⟨_, hP2, hD2, hW⟩
  clear hP2 hD2
  have ea_this : ad55_21 this = ad62 this := (hE2.1 this (by rw [hk21_this]; decide)).symm
  have hk25_this := (hE2.2 this (by rw [hk21_this]; decide)).trans hk21_this
  rw [ea_this] at hl
  rw [ea_this]
  clear ea_this
  replace hE := adE hE hE2
  clear hE2
  obtain ⟨ccn26, eccn26⟩ : ∃ y : Nat, y = (ccn22 + 1) := ⟨_, rfl⟩
  obtain ⟨csn26, ecsn26⟩ : ∃ y : Nat, y = (csn22 + 4) := ⟨_, rfl⟩
  refine W.widen (k := ccn26) (n := csn26) (Nat.le_of_eq eccn26.symm) (Nat.le_of_eq ecsn26.symm) ?_
  replace hu1 : ccn26 + zw1 = uc := by omega
  replace hu2 : csn26 + zw2 = us := by omega
  clear eccn26 ecsn26
  refine lv_dup hx hb dX0_init_65 rfl ?_
  refine lv_iconst (v := 0) hx hb dX0_init_66 (by decide +kernel) ?_
  refine lv_iconst (v := 0) hx hb dX0_init_67 (by decide +kernel) ?_
  replace hr := bA9S hr
  obtain ⟨c68_G, c68_P, c68_U, c68_V, c68_X, c68_O, c68_kd, c68_ln, c68_cnt, zv1, zv2, zw1, zw2, hc68, hr, hq1, hq2⟩ := hr
  have hFc := fr_all hD hS hA
  refine va_callv (va_runI (As := [.int 0, .int 0]) (rest := [.ref (ad62 c55_cnt), .ref (ad62 this)]) ⟨hx, hb, hml, hown, hts⟩ (m_X10_init l dC dI kk ad62 H.size w25 G62 P62 U62 V62 X62 O62 kd62 ln62 cnt62 c55_cnt 0 0 hk_n62 hW hT c68_G c68_P c68_U c68_V c68_X c68_O c68_kd c68_ln c68_cnt zv1 zv2 hc68) (cwI 2 hts (lwC_code ic_492) rfl rfl rfl (hts (.initialized RX10) ic_12) (hts (.methodLink RX0 11 yX10_init) ic_577) (hts (.instanceMethod yX10_init) ic_507) rfl (by decide +kernel) ⟨Nat.le_of_ble_eq_true rfl, Nat.le_of_ble_eq_true rfl⟩) ⟨fun a U g mk q => by obtain ⟨q0, q1, qP, qK, qD⟩ := q; exact ⟨q0, q1, qP, va_K.moved (u := U) (U := U.calling g mk a) (Vm.Alike.refl U.vm) qK, qD⟩, fun U hU hW => ⟨rfl, by rw [hU], by rw [hU]; exact hP, va_K.moved hW.alike hK, hD.weaken (fun _ _ _ _ => trivial)⟩⟩ rfl rfl hl.1 rfl (lv_room (Nat.le_of_ble_eq_true rfl)) dX0_init_68 ⟨(by show _ ≤ uc; omega), (by show _ ≤ us; omega)⟩) hS (fun q _ h => hFc q h) hFc (fun w27 t H1 locs ht hvm hw hB hz1 hk1 hS => ?_)
  obtain ⟨w27, ad68_27⟩ := w27
  dsimp only at hw hB
  obtain ⟨hW, hT, hE2⟩ := hw
  obtain ⟨hP1, hK1, hD1⟩ := hB
  rw [ht] at hP1
  obtain ⟨hP, hD⟩ := jn_all (w1 := w27) hFc hP1 hD1
  replace hP : va_P (dC, dI) vwCl w27 H1 := hP
  replace hD : va_D A w27 := hD
  clear hFc hP1 hK1 hD1 hk1 hz1 ht hvm
  generalize H1 = H at hP hS ⊢
  have ea_this : ad62 this = ad68_27 this := (hE2.1 this (by rw [hk25_this]; decide)).symm
  have hk27_this := (hE2.2 this (by rw [hk25_this]; decide)).trans hk25_this
  have ea_c55_cnt : ad62 c55_cnt = ad68_27 c55_cnt := (hE2.1 c55_cnt (by rw [hk_n62]; decide)).symm
  have hk27_c55_cnt := (hE2.2 c55_cnt (by rw [hk_n62]; decide)).trans hk_n62
  rw [ea_this] at hl
  rw [ea_this, ea_c55_cnt]
  clear ea_this ea_c55_cnt
  replace hE := adE hE hE2
  clear hE2
  obtain ⟨ccn28, eccn28⟩ : ∃ y : Nat, y = (ccn26 + zv1) := ⟨_, rfl⟩
  obtain ⟨csn28, ecsn28⟩ : ∃ y : Nat, y = (csn26 + zv2) := ⟨_, rfl⟩
  refine W.widen (k := ccn28) (n := csn28) (Nat.le_of_eq eccn28.symm) (Nat.le_of_eq ecsn28.symm) ?_
  replace hu1 : ccn28 + zw1 = uc := by omega
  replace hu2 : csn28 + zw2 = us := by omega
  clear eccn28 ecsn28
  obtain ⟨i29, hi29⟩ := hW.o0 hk27_this
  refine va_putF (D := (dC, dI)) (ci := 0) (v := .ref (ad68_27 c55_cnt)) (ty := (.object "SpellTurner$WordRow")) (C := RX0) (T := TX0) (N := 6) hx hb hts inX0 tyX0 tyX0_ok nmX0 hown hK hP hD hS i29 hi29 rfl 5 (by decide) (hts (.fieldLink RX0 35 "SpellTurner$Book" "nothing" "LSpellTurner$WordRow;") ic_76) (fun _ h9 => h9) rfl hin rfl (by decide +kernel) rfl rfl (Nat.le_of_ble_eq_true rfl) dX0_init_71 (fun H locs hP2 hD2 hS => ?_)
  obtain ⟨m71, w30, em71, hP, hD, hW⟩ : ∃ (z : Nat → Option Nat) (w : va_W), z = (va_up (c68_P 5) this (some c55_cnt)) ∧ va_P (dC, dI) vwCl w H ∧ va_D A w ∧ LW w ad68_27 kk c68_kd c68_ln c68_G (va_up c68_P 5 z) c68_U c68_V c68_X c68_O := ⟨_, _, rfl, hP2, hD2, hW.setP hD hi29 (by rw [hk27_this]; decide) 5 (some c55_cnt) (by rw [hk27_this]; rfl)⟩
  replace hT : TYP c68_kd (va_up c68_P 5 m71) c68_O (c68_V 0) c68_cnt := by rw [em71]; exact hT.setP 5 this c55_cnt hk27_c55_cnt
  replace hr := vlS hr m71 em71
  clear em71
  replace hr := retS hr
  obtain ⟨hr, hv1, hv2⟩ := hr
  refine W.widen (k := uc) (n := us) (by omega) (by omega) ?_
  exact K 74 ls _ _ _ _ _ _ _ _ _ ad68_27 w30 H _ hr dX0_init_74 hE hW hT hP hD hS
set_option maxHeartbeats 4000000 in
set_option maxRecDepth 100000 in
theorem m_X0_init (l : Launch) (dC : Nat → ClassId) (dI : Nat → Nat → Nat) (kk : Nat → ClassId) (ad : Nat → Nat) (sz : Nat) (ws : va_W) (G : Nat → Nat → Int32) (P : Nat → Nat → Option Nat) (U : Nat → Nat → Int64) (V : Nat → Nat → Nat → Int32) (X : Nat → Nat → Nat → Int64) (O : Nat → Nat → Nat → Option Nat) (kd : Nat → Nat) (ln : Nat → Nat) (cnt : Nat) (this : Nat) (hk_this : kd this = 1) (hW : LW ws ad kk kd ln G P U V X O) (hT : TYP kd P O (V 0) cnt) (c_G : Nat → Nat → Int32) (c_P : Nat → Nat → Option Nat) (c_U : Nat → Nat → Int64) (c_V : Nat → Nat → Nat → Int32) (c_X : Nat → Nat → Nat → Int64) (c_O : Nat → Nat → Nat → Option Nat) (c_kd : Nat → Nat) (c_ln : Nat → Nat) (c_cnt : Nat) (uc us : Nat) (hr : f_X0_init G P U V X O kd ln cnt this = some ((c_G, c_P, c_U, c_V, c_X, c_O, c_kd, c_ln, c_cnt), uc, us)) : Met l yX0_init vmX0_init ({ frames := 4, cells := uc, slots := us, locals := 112 } : Room) (va_Pc [.ref (ad this)] (fun U => U.heap.size = sz ∧ va_P (dC, dI) vwCl ws U.heap ∧ va_K (dC, dI) vwCl (cT kk) U ∧ va_D (fun _ => True) ws ∧ EnvOK U)) (va_Qv (fun (x : (va_W × (Nat → Nat))) => LW x.1 x.2 kk c_kd c_ln c_G c_P c_U c_V c_X c_O ∧ TYP c_kd c_P c_O (c_V 0) c_cnt ∧ adEx kd ad c_kd x.2) (fun x t => va_P (dC, dI) vwCl x.1 t.heap ∧ va_K (dC, dI) vwCl (cT kk) t ∧ va_D (va_A ws sz) x.1) (va_A ws sz)) uc us (va_A ws sz) := by
  refine Met.ofW (cc := cX0_init) (maxL := 1) (ret := none) (by decide) rfl ?_
  intro p e s m args below meth c s₁ B hml hv
  obtain ⟨rfl, hsz, hP, hK, hD0, hEn⟩ := hv
  have hx := B.exec
  have hb := B.bytes
  have hrt := B.returns
  have hts := atoms_spec (ws := vmX0_init) B.pre
  have hown : s.vm.findClass RX0 = some m.cls := findClass_of_methodNamed B.named
  subst hsz
  have hD := hD0.self (sz := s.heap.size)
  generalize hAe : va_A ws s.heap.size = A at hD ⊢
  have hA : ∀ q : Nat, s.heap.size ≤ q → A q := fun q h => by rw [← hAe]; exact Or.inr h
  have hS : va_S A s.heap s.heap [] := va_S.rf
  have hl := lv_entry ([.ref (ad this)]) (n := 1) (Nat.le_of_ble_eq_true rfl)
  rw [lg_entry_eq]
  generalize (lg_sl ([.ref (ad this)]) ++ List.replicate (1 - (lg_sl ([.ref (ad this)])).length) Slot.unset).toArray = ls at hl ⊢
  have hin : meth.name = "<init>" := (name_of_methodNamed B.named B.method).1
  exact bm_X0_init this hk_this c_G c_P c_U c_V c_X c_O c_kd c_ln c_cnt uc us hr hx hb hml hown hts hin hA hK hEn hW hT hP hD hS hl (fun pc ls c_Gz c_Pz c_Uz c_Vz c_Xz c_Oz c_kdz c_lnz c_cntz adz ws H locs he hd hE hW hT hP hD hS => by cases he; exact W.vret hx hb hrt (fun t ht hW9 => ⟨⟨(ws, adz), rfl, ⟨hW, hT, hE⟩, by rw [ht]; exact hP, va_K.moved hW9.alike hK, hD⟩, hS.F ht⟩) hS.2.2 hd)
set_option maxHeartbeats 4000000 in
set_option maxRecDepth 100000 in
theorem bm_X8_init {p : Program} {l : Launch} {e : Env} {s : State} {m : MethodId} {args : Array Value} {below : List Frame} {meth : Method} {c : Code} {Q : State → Prop} {A : Nat → Prop} {dC : Nat → ClassId} {dI : Nat → Nat → Nat} {kk : Nat → ClassId} {ad : Nat → Nat} {ws : va_W} {G : Nat → Nat → Int32} {P : Nat → Nat → Option Nat} {U : Nat → Nat → Int64} {V : Nat → Nat → Nat → Int32} {X : Nat → Nat → Nat → Int64} {O : Nat → Nat → Nat → Option Nat} {kd : Nat → Nat} {ln : Nat → Nat} {cnt : Nat} {H : Heap} {locs : List Loc} {ls : Array Slot} (this : Nat) (hk_this : kd this = 9) (c_G : Nat → Nat → Int32) (c_P : Nat → Nat → Option Nat) (c_U : Nat → Nat → Int64) (c_V : Nat → Nat → Nat → Int32) (c_X : Nat → Nat → Nat → Int64) (c_O : Nat → Nat → Nat → Option Nat) (c_kd : Nat → Nat) (c_ln : Nat → Nat) (c_cnt : Nat) (uc us : Nat) (hr : f_X8_init G P U V X O kd ln cnt this = some ((c_G, c_P, c_U, c_V, c_X, c_O, c_kd, c_ln, c_cnt), uc, us)) (hx : p.tables.exec = Jvm.exec) (hb : c.code = cX8_init) (hml : c.maxLocals = 1) (hown : s.vm.findClass RX8 = some m.cls) (hts : ∀ w ∈ vmX8_init, w.before args s = true) (hin : meth.name = "<init>") (hA : ∀ q : Nat, s.heap.size ≤ q → A q) (hK : va_K (dC, dI) vwCl (cT kk) s) (hW : LW ws ad kk kd ln G P U V X O) (hT : TYP kd P O (V 0) cnt) (hP : va_P (dC, dI) vwCl ws H) (hD : va_D A ws) (hS : va_S A s.heap H locs) (hl : lv_has ls 1 [(0, .ref (ad this))])
    (K : ∀ (pc : Nat) (ls : Array Slot) (c_Gz : Nat → Nat → Int32) (c_Pz : Nat → Nat → Option Nat) (c_Uz : Nat → Nat → Int64) (c_Vz : Nat → Nat → Nat → Int32) (c_Xz : Nat → Nat → Nat → Int64) (c_Oz : Nat → Nat → Nat → Option Nat) (c_kdz : Nat → Nat) (c_lnz : Nat → Nat) (c_cntz : Nat) (adz : Nat → Nat) (ws : va_W) (H : Heap) (locs : List Loc), some (c_Gz, c_Pz, c_Uz, c_Vz, c_Xz, c_Oz, c_kdz, c_lnz, c_cntz) = some (c_G, c_P, c_U, c_V, c_X, c_O, c_kd, c_ln, c_cnt) → decode cX8_init pc = .ok (.return_, 1) → adEx kd ad c_kdz adz → LW ws adz kk c_kdz c_lnz c_Gz c_Pz c_Uz c_Vz c_Xz c_Oz → TYP c_kdz c_Pz c_Oz (c_Vz 0) c_cntz → va_P (dC, dI) vwCl ws H → va_D A ws → va_S A s.heap H locs → W p l e ({ frames := 3, cells := uc, slots := us, locals := 90 } : Room) s m args below meth c H locs uc us Q (F0 m pc ls [])) : W p l e ({ frames := 3, cells := uc, slots := us, locals := 90 } : Room) s m args below meth c H locs 0 0 Q (F0 m 0 ls []) := by
  have hu1 : 0 + uc = uc := Nat.zero_add _
  have hu2 : 0 + us = us := Nat.zero_add _
  have hE : adEx kd ad kd ad := ⟨fun _ _ => rfl, fun _ _ => rfl⟩
  unfold f_X8_init at hr
  refine lv_aload_n hx hb dX8_init_0 rfl (lv_at hl 0 rfl) ?_
  refine W.objInit hx hb hown (hts (.methodLink RX8 3 objectInit) ic_637) (hts (.instanceMethod objectInit) ic_494) (hts (.code objectInit ⟨#[0xb1]⟩ 1 none) ic_495) rfl (by rw [hml]; exact hl.1) rfl dX8_init_1 (Nat.le_of_ble_eq_true rfl) (Nat.le_of_ble_eq_true rfl) ?_
  refine W.eq (g2 := F0 m 4 ls []) rfl ?_
  refine lv_aload_n hx hb dX8_init_4 rfl (lv_at hl 0 rfl) ?_
  refine lv_iconst (v := 0) hx hb dX8_init_5 (by decide +kernel) ?_
  obtain ⟨i1, hi1⟩ := hW.o8 hk_this
  refine va_put (D := (dC, dI)) (ci := 8) (v := .int 0) (ty := .int) (C := RX8) (T := TX8) (N := 8) hx hb hts inX8 tyX8 tyX8_ok nmX8 hown hK hP hD hS i1 hi1 rfl 0 (by decide) (hts (.fieldLink RX8 9 "SpellTurner$TextWords" "start" "I") ic_458) (fun _ h9 => h9) rfl (by decide +kernel) rfl rfl (Nat.le_of_ble_eq_true rfl) dX8_init_6 (fun H locs hP2 hD2 hS => ?_)
  obtain ⟨m6, w2, em6, hP, hD, hW⟩ : ∃ (z : Nat → Int32) (w : va_W), z = (va_up (G 160) this 0) ∧ va_P (dC, dI) vwCl w H ∧ va_D A w ∧ LW w ad kk kd ln (va_up G 160 z) P U V X O := ⟨_, _, rfl, hP2, hD2, hW.setG hD hi1 (by rw [hk_this]; decide) 160 0 (by rw [hk_this]; rfl)⟩
  replace hr := vlS hr m6 em6
  clear em6
  refine lv_aload_n hx hb dX8_init_9 rfl (lv_at hl 0 rfl) ?_
  refine lv_iconst (v := 0) hx hb dX8_init_10 (by decide +kernel) ?_
  obtain ⟨i3, hi3⟩ := hW.o8 hk_this
  refine va_put (D := (dC, dI)) (ci := 8) (v := .int 0) (ty := .int) (C := RX8) (T := TX8) (N := 8) hx hb hts inX8 tyX8 tyX8_ok nmX8 hown hK hP hD hS i3 hi3 rfl 1 (by decide) (hts (.fieldLink RX8 15 "SpellTurner$TextWords" "length" "I") ic_460) (fun _ h9 => h9) rfl (by decide +kernel) rfl rfl (Nat.le_of_ble_eq_true rfl) dX8_init_11 (fun H locs hP2 hD2 hS => ?_)
  obtain ⟨m11, w4, em11, hP, hD, hW⟩ : ∃ (z : Nat → Int32) (w : va_W), z = (va_up (G 161) this 0) ∧ va_P (dC, dI) vwCl w H ∧ va_D A w ∧ LW w ad kk kd ln (va_up (va_up G 160 m6) 161 z) P U V X O := ⟨_, _, rfl, hP2, hD2, hW.setG hD hi3 (by rw [hk_this]; decide) 161 0 (by rw [hk_this]; rfl)⟩
  replace hr := vlS hr m11 em11
  clear em11
  refine lv_aload_n hx hb dX8_init_14 rfl (lv_at hl 0 rfl) ?_
  refine lv_iconst (v := 0) hx hb dX8_init_15 (by decide +kernel) ?_
  obtain ⟨i5, hi5⟩ := hW.o8 hk_this
  refine va_put (D := (dC, dI)) (ci := 8) (v := .int 0) (ty := .int) (C := RX8) (T := TX8) (N := 8) hx hb hts inX8 tyX8 tyX8_ok nmX8 hown hK hP hD hS i5 hi5 rfl 2 (by decide) (hts (.fieldLink RX8 18 "SpellTurner$TextWords" "lineNumber" "I") ic_451) (fun _ h9 => h9) rfl (by decide +kernel) rfl rfl (Nat.le_of_ble_eq_true rfl) dX8_init_16 (fun H locs hP2 hD2 hS => ?_)
  obtain ⟨m16, w6, em16, hP, hD, hW⟩ : ∃ (z : Nat → Int32) (w : va_W), z = (va_up (G 162) this 0) ∧ va_P (dC, dI) vwCl w H ∧ va_D A w ∧ LW w ad kk kd ln (va_up (va_up (va_up G 160 m6) 161 m11) 162 z) P U V X O := ⟨_, _, rfl, hP2, hD2, hW.setG hD hi5 (by rw [hk_this]; decide) 162 0 (by rw [hk_this]; rfl)⟩
  replace hr := vlS hr m16 em16
  clear em16
  refine lv_aload_n hx hb dX8_init_19 rfl (lv_at hl 0 rfl) ?_
  refine lv_iconst (v := 0) hx hb dX8_init_20 (by decide +kernel) ?_
  obtain ⟨i7, hi7⟩ := hW.o8 hk_this
  refine va_put (D := (dC, dI)) (ci := 8) (v := .int 0) (ty := .boolean) (C := RX8) (T := TX8) (N := 8) hx hb hts inX8 tyX8 tyX8_ok nmX8 hown hK hP hD hS i7 hi7 rfl 3 (by decide) (hts (.fieldLink RX8 21 "SpellTurner$TextWords" "isName" "Z") ic_459) (fun _ h9 => h9) rfl (by decide +kernel) rfl rfl (Nat.le_of_ble_eq_true rfl) dX8_init_21 (fun H locs hP2 hD2 hS => ?_)
  obtain ⟨m21, w8, em21, hP, hD, hW⟩ : ∃ (z : Nat → Int32) (w : va_W), z = (va_up (G 163) this 0) ∧ va_P (dC, dI) vwCl w H ∧ va_D A w ∧ LW w ad kk kd ln (va_up (va_up (va_up (va_up G 160 m6) 161 m11) 162 m16) 163 z) P U V X O := ⟨_, _, rfl, hP2, hD2, hW.setG hD hi7 (by rw [hk_this]; decide) 163 0 (by rw [hk_this]; rfl)⟩
  replace hr := vlS hr m21 em21
  clear em21
  refine lv_aload_n hx hb dX8_init_24 rfl (lv_at hl 0 rfl) ?_
  refine lv_iconst (v := 0) hx hb dX8_init_25 (by decide +kernel) ?_
  replace hr := iteS hr
  obtain ⟨hi26, hr⟩ := hr
  replace hr := tkS hr
  obtain ⟨zw1, zw2, hr, hq1, hq2⟩ := hr
  refine va_newa (atype := .byte) (a0 := ((Int32.toNatClampNeg 0), .inl (fun _ => 0))) (ty := .byte) (N' := (Int32.toNatClampNeg 0)) hx hb (hts (.arrayClass .byte) ic_496) rfl hK hP hD hS hA (fun _ => rfl) (nabS hi26).1 rfl (nabB hi26 (by decide)) (by show _ ≤ uc; omega) (by show _ ≤ us; omega) dX8_init_26 (fun q26 cA H hK2 hP2 hD2 hS => ?_)
  obtain rfl : cA = kk 0 := kA_byte hK2
  clear hK2
  replace hr := newcS hr hW hT hD2 (by decide) (fun _ => rfl)
  obtain ⟨G26, P26, U26, V26, X26, O26, kd26, ln26, cnt26, ad26, hr, hW, hT, hE2, hk_n26, hqa⟩ := hr
  subst hqa
  obtain ⟨w9, hP, hD, hW⟩ : ∃ w : va_W, va_P (dC, dI) vwCl w H ∧ va_D A w ∧ LW w ad26 kk kd26 ln26 G26 P26 U26 V26 X26 O26 := ⟨_, hP2, hD2, hW⟩
  clear hP2 hD2
  have ea_this : ad this = ad26 this := (hE2.1 this (by rw [hk_this]; decide)).symm
  have hk9_this := (hE2.2 this (by rw [hk_this]; decide)).trans hk_this
  rw [ea_this] at hl
  rw [ea_this]
  clear ea_this
  replace hE := adE hE hE2
  clear hE2
  obtain ⟨ccn10, eccn10⟩ : ∃ y : Nat, y = (0 + 1) := ⟨_, rfl⟩
  obtain ⟨csn10, ecsn10⟩ : ∃ y : Nat, y = (0 + (Int32.toNatClampNeg 0)) := ⟨_, rfl⟩
  refine W.widen (k := ccn10) (n := csn10) (Nat.le_of_eq eccn10.symm) (Nat.le_of_eq ecsn10.symm) ?_
  replace hu1 : ccn10 + zw1 = uc := by omega
  replace hu2 : csn10 + zw2 = us := by omega
  clear eccn10 ecsn10
  obtain ⟨i11, hi11⟩ := hW.o8 hk9_this
  refine va_put (D := (dC, dI)) (ci := 8) (v := .ref (ad26 cnt)) (ty := (.array .byte)) (C := RX8) (T := TX8) (N := 8) hx hb hts inX8 tyX8 tyX8_ok nmX8 hown hK hP hD hS i11 hi11 rfl 4 (by decide) (hts (.fieldLink RX8 25 "SpellTurner$TextWords" "text" "[B") ic_447) (fun _ h9 => h9) rfl (by decide +kernel) rfl rfl (Nat.le_of_ble_eq_true rfl) dX8_init_28 (fun H locs hP2 hD2 hS => ?_)
  obtain ⟨m28, w12, em28, hP, hD, hW⟩ : ∃ (z : Nat → Option Nat) (w : va_W), z = (va_up (P26 164) this (some cnt)) ∧ va_P (dC, dI) vwCl w H ∧ va_D A w ∧ LW w ad26 kk kd26 ln26 G26 (va_up P26 164 z) U26 V26 X26 O26 := ⟨_, _, rfl, hP2, hD2, hW.setP hD hi11 (by rw [hk9_this]; decide) 164 (some cnt) (by rw [hk9_this]; rfl)⟩
  replace hT : TYP kd26 (va_up P26 164 m28) O26 (V26 0) cnt26 := by rw [em28]; exact hT.setP 164 this cnt hk_n26
  replace hr := vlS hr m28 em28
  clear em28
  refine lv_aload_n hx hb dX8_init_31 rfl (lv_at hl 0 rfl) ?_
  refine lv_iconst (v := 0) hx hb dX8_init_32 (by decide +kernel) ?_
  obtain ⟨i13, hi13⟩ := hW.o8 hk9_this
  refine va_put (D := (dC, dI)) (ci := 8) (v := .int 0) (ty := .int) (C := RX8) (T := TX8) (N := 8) hx hb hts inX8 tyX8 tyX8_ok nmX8 hown hK hP hD hS i13 hi13 rfl 5 (by decide) (hts (.fieldLink RX8 29 "SpellTurner$TextWords" "size" "I") ic_449) (fun _ h9 => h9) rfl (by decide +kernel) rfl rfl (Nat.le_of_ble_eq_true rfl) dX8_init_33 (fun H locs hP2 hD2 hS => ?_)
  obtain ⟨m33, w14, em33, hP, hD, hW⟩ : ∃ (z : Nat → Int32) (w : va_W), z = (va_up (G26 165) this 0) ∧ va_P (dC, dI) vwCl w H ∧ va_D A w ∧ LW w ad26 kk kd26 ln26 (va_up G26 165 z) (va_up P26 164 m28) U26 V26 X26 O26 := ⟨_, _, rfl, hP2, hD2, hW.setG hD hi13 (by rw [hk9_this]; decide) 165 0 (by rw [hk9_this]; rfl)⟩
  replace hr := vlS hr m33 em33
  clear em33
  refine lv_aload_n hx hb dX8_init_36 rfl (lv_at hl 0 rfl) ?_
  refine lv_iconst (v := 0) hx hb dX8_init_37 (by decide +kernel) ?_
  obtain ⟨i15, hi15⟩ := hW.o8 hk9_this
  refine va_put (D := (dC, dI)) (ci := 8) (v := .int 0) (ty := .int) (C := RX8) (T := TX8) (N := 8) hx hb hts inX8 tyX8 tyX8_ok nmX8 hown hK hP hD hS i15 hi15 rfl 6 (by decide) (hts (.fieldLink RX8 32 "SpellTurner$TextWords" "at" "I") ic_450) (fun _ h9 => h9) rfl (by decide +kernel) rfl rfl (Nat.le_of_ble_eq_true rfl) dX8_init_38 (fun H locs hP2 hD2 hS => ?_)
  obtain ⟨m38, w16, em38, hP, hD, hW⟩ : ∃ (z : Nat → Int32) (w : va_W), z = (va_up (G26 166) this 0) ∧ va_P (dC, dI) vwCl w H ∧ va_D A w ∧ LW w ad26 kk kd26 ln26 (va_up (va_up G26 165 m33) 166 z) (va_up P26 164 m28) U26 V26 X26 O26 := ⟨_, _, rfl, hP2, hD2, hW.setG hD hi15 (by rw [hk9_this]; decide) 166 0 (by rw [hk9_this]; rfl)⟩
  replace hr := vlS hr m38 em38
  clear em38
  refine lv_aload_n hx hb dX8_init_41 rfl (lv_at hl 0 rfl) ?_
  refine lv_iconst (v := 0) hx hb dX8_init_42 (by decide +kernel) ?_
  obtain ⟨i17, hi17⟩ := hW.o8 hk9_this
  refine va_put (D := (dC, dI)) (ci := 8) (v := .int 0) (ty := .boolean) (C := RX8) (T := TX8) (N := 8) hx hb hts inX8 tyX8 tyX8_ok nmX8 hown hK hP hD hS i17 hi17 rfl 7 (by decide) (hts (.fieldLink RX8 35 "SpellTurner$TextWords" "quoted" "Z") ic_452) (fun _ h9 => h9) rfl (by decide +kernel) rfl rfl (Nat.le_of_ble_eq_true rfl) dX8_init_43 (fun H locs hP2 hD2 hS => ?_)
  obtain ⟨m43, w18, em43, hP, hD, hW⟩ : ∃ (z : Nat → Int32) (w : va_W), z = (va_up (G26 167) this 0) ∧ va_P (dC, dI) vwCl w H ∧ va_D A w ∧ LW w ad26 kk kd26 ln26 (va_up (va_up (va_up G26 165 m33) 166 m38) 167 z) (va_up P26 164 m28) U26 V26 X26 O26 := ⟨_, _, rfl, hP2, hD2, hW.setG hD hi17 (by rw [hk9_this]; decide) 167 0 (by rw [hk9_this]; rfl)⟩
  replace hr := vlS hr m43 em43
  clear em43
  replace hr := retS hr
  obtain ⟨hr, hv1, hv2⟩ := hr
  refine W.widen (k := uc) (n := us) (by omega) (by omega) ?_
  exact K 46 ls _ _ _ _ _ _ _ _ _ ad26 w18 H _ hr dX8_init_46 hE hW hT hP hD hS
set_option maxHeartbeats 4000000 in
set_option maxRecDepth 100000 in
theorem m_X8_init (l : Launch) (dC : Nat → ClassId) (dI : Nat → Nat → Nat) (kk : Nat → ClassId) (ad : Nat → Nat) (sz : Nat) (ws : va_W) (G : Nat → Nat → Int32) (P : Nat → Nat → Option Nat) (U : Nat → Nat → Int64) (V : Nat → Nat → Nat → Int32) (X : Nat → Nat → Nat → Int64) (O : Nat → Nat → Nat → Option Nat) (kd : Nat → Nat) (ln : Nat → Nat) (cnt : Nat) (this : Nat) (hk_this : kd this = 9) (hW : LW ws ad kk kd ln G P U V X O) (hT : TYP kd P O (V 0) cnt) (c_G : Nat → Nat → Int32) (c_P : Nat → Nat → Option Nat) (c_U : Nat → Nat → Int64) (c_V : Nat → Nat → Nat → Int32) (c_X : Nat → Nat → Nat → Int64) (c_O : Nat → Nat → Nat → Option Nat) (c_kd : Nat → Nat) (c_ln : Nat → Nat) (c_cnt : Nat) (uc us : Nat) (hr : f_X8_init G P U V X O kd ln cnt this = some ((c_G, c_P, c_U, c_V, c_X, c_O, c_kd, c_ln, c_cnt), uc, us)) : Met l yX8_init vmX8_init ({ frames := 3, cells := uc, slots := us, locals := 90 } : Room) (va_Pc [.ref (ad this)] (fun U => U.heap.size = sz ∧ va_P (dC, dI) vwCl ws U.heap ∧ va_K (dC, dI) vwCl (cT kk) U ∧ va_D (fun _ => True) ws)) (va_Qv (fun (x : (va_W × (Nat → Nat))) => LW x.1 x.2 kk c_kd c_ln c_G c_P c_U c_V c_X c_O ∧ TYP c_kd c_P c_O (c_V 0) c_cnt ∧ adEx kd ad c_kd x.2) (fun x t => va_P (dC, dI) vwCl x.1 t.heap ∧ va_K (dC, dI) vwCl (cT kk) t ∧ va_D (va_A ws sz) x.1) (va_A ws sz)) uc us (va_A ws sz) := by
  refine Met.ofW (cc := cX8_init) (maxL := 1) (ret := none) (by decide) rfl ?_
  intro p e s m args below meth c s₁ B hml hv
  obtain ⟨rfl, hsz, hP, hK, hD0⟩ := hv
  have hx := B.exec
  have hb := B.bytes
  have hrt := B.returns
  have hts := atoms_spec (ws := vmX8_init) B.pre
  have hown : s.vm.findClass RX8 = some m.cls := findClass_of_methodNamed B.named
  subst hsz
  have hD := hD0.self (sz := s.heap.size)
  generalize hAe : va_A ws s.heap.size = A at hD ⊢
  have hA : ∀ q : Nat, s.heap.size ≤ q → A q := fun q h => by rw [← hAe]; exact Or.inr h
  have hS : va_S A s.heap s.heap [] := va_S.rf
  have hl := lv_entry ([.ref (ad this)]) (n := 1) (Nat.le_of_ble_eq_true rfl)
  rw [lg_entry_eq]
  generalize (lg_sl ([.ref (ad this)]) ++ List.replicate (1 - (lg_sl ([.ref (ad this)])).length) Slot.unset).toArray = ls at hl ⊢
  have hin : meth.name = "<init>" := (name_of_methodNamed B.named B.method).1
  exact bm_X8_init this hk_this c_G c_P c_U c_V c_X c_O c_kd c_ln c_cnt uc us hr hx hb hml hown hts hin hA hK hW hT hP hD hS hl (fun pc ls c_Gz c_Pz c_Uz c_Vz c_Xz c_Oz c_kdz c_lnz c_cntz adz ws H locs he hd hE hW hT hP hD hS => by cases he; exact W.vret hx hb hrt (fun t ht hW9 => ⟨⟨(ws, adz), rfl, ⟨hW, hT, hE⟩, by rw [ht]; exact hP, va_K.moved hW9.alike hK, hD⟩, hS.F ht⟩) hS.2.2 hd)
set_option maxHeartbeats 4000000 in
set_option maxRecDepth 100000 in
theorem bm_X6_init {p : Program} {l : Launch} {e : Env} {s : State} {m : MethodId} {args : Array Value} {below : List Frame} {meth : Method} {c : Code} {Q : State → Prop} {A : Nat → Prop} {dC : Nat → ClassId} {dI : Nat → Nat → Nat} {kk : Nat → ClassId} {ad : Nat → Nat} {ws : va_W} {G : Nat → Nat → Int32} {P : Nat → Nat → Option Nat} {U : Nat → Nat → Int64} {V : Nat → Nat → Nat → Int32} {X : Nat → Nat → Nat → Int64} {O : Nat → Nat → Nat → Option Nat} {kd : Nat → Nat} {ln : Nat → Nat} {cnt : Nat} {H : Heap} {locs : List Loc} {ls : Array Slot} (this : Nat) (hk_this : kd this = 7) (c_G : Nat → Nat → Int32) (c_P : Nat → Nat → Option Nat) (c_U : Nat → Nat → Int64) (c_V : Nat → Nat → Nat → Int32) (c_X : Nat → Nat → Nat → Int64) (c_O : Nat → Nat → Nat → Option Nat) (c_kd : Nat → Nat) (c_ln : Nat → Nat) (c_cnt : Nat) (uc us : Nat) (hr : f_X6_init G P U V X O kd ln cnt this = some ((c_G, c_P, c_U, c_V, c_X, c_O, c_kd, c_ln, c_cnt), uc, us)) (hx : p.tables.exec = Jvm.exec) (hb : c.code = cX6_init) (hml : c.maxLocals = 1) (hown : s.vm.findClass RX6 = some m.cls) (hts : ∀ w ∈ vmX6_init, w.before args s = true) (hin : meth.name = "<init>") (hA : ∀ q : Nat, s.heap.size ≤ q → A q) (hK : va_K (dC, dI) vwCl (cT kk) s) (hW : LW ws ad kk kd ln G P U V X O) (hT : TYP kd P O (V 0) cnt) (hP : va_P (dC, dI) vwCl ws H) (hD : va_D A ws) (hS : va_S A s.heap H locs) (hl : lv_has ls 1 [(0, .ref (ad this))])
    (K : ∀ (pc : Nat) (ls : Array Slot) (c_Gz : Nat → Nat → Int32) (c_Pz : Nat → Nat → Option Nat) (c_Uz : Nat → Nat → Int64) (c_Vz : Nat → Nat → Nat → Int32) (c_Xz : Nat → Nat → Nat → Int64) (c_Oz : Nat → Nat → Nat → Option Nat) (c_kdz : Nat → Nat) (c_lnz : Nat → Nat) (c_cntz : Nat) (adz : Nat → Nat) (ws : va_W) (H : Heap) (locs : List Loc), some (c_Gz, c_Pz, c_Uz, c_Vz, c_Xz, c_Oz, c_kdz, c_lnz, c_cntz) = some (c_G, c_P, c_U, c_V, c_X, c_O, c_kd, c_ln, c_cnt) → decode cX6_init pc = .ok (.return_, 1) → adEx kd ad c_kdz adz → LW ws adz kk c_kdz c_lnz c_Gz c_Pz c_Uz c_Vz c_Xz c_Oz → TYP c_kdz c_Pz c_Oz (c_Vz 0) c_cntz → va_P (dC, dI) vwCl ws H → va_D A ws → va_S A s.heap H locs → W p l e ({ frames := 3, cells := uc, slots := us, locals := 90 } : Room) s m args below meth c H locs uc us Q (F0 m pc ls [])) : W p l e ({ frames := 3, cells := uc, slots := us, locals := 90 } : Room) s m args below meth c H locs 0 0 Q (F0 m 0 ls []) := by
  have hu1 : 0 + uc = uc := Nat.zero_add _
  have hu2 : 0 + us = us := Nat.zero_add _
  have hE : adEx kd ad kd ad := ⟨fun _ _ => rfl, fun _ _ => rfl⟩
  unfold f_X6_init at hr
  refine lv_aload_n hx hb dX6_init_0 rfl (lv_at hl 0 rfl) ?_
  refine W.objInit hx hb hown (hts (.methodLink RX6 3 objectInit) ic_639) (hts (.instanceMethod objectInit) ic_494) (hts (.code objectInit ⟨#[0xb1]⟩ 1 none) ic_495) rfl (by rw [hml]; exact hl.1) rfl dX6_init_1 (Nat.le_of_ble_eq_true rfl) (Nat.le_of_ble_eq_true rfl) ?_
  refine W.eq (g2 := F0 m 4 ls []) rfl ?_
  refine lv_aload_n hx hb dX6_init_4 rfl (lv_at hl 0 rfl) ?_
  refine lv_sipush (v := 2500) hx hb dX6_init_5 (by decide +kernel) ?_
  replace hr := iteS hr
  obtain ⟨hi8, hr⟩ := hr
  replace hr := tkS hr
  obtain ⟨zw1, zw2, hr, hq1, hq2⟩ := hr
  refine va_newa (atype := .byte) (a0 := ((Int32.toNatClampNeg 2500), .inl (fun _ => 0))) (ty := .byte) (N' := (Int32.toNatClampNeg 2500)) hx hb (hts (.arrayClass .byte) ic_496) rfl hK hP hD hS hA (fun _ => rfl) (nabS hi8).1 rfl (nabB hi8 (by decide)) (by show _ ≤ uc; omega) (by show _ ≤ us; omega) dX6_init_8 (fun q8 cA H hK2 hP2 hD2 hS => ?_)
  obtain rfl : cA = kk 0 := kA_byte hK2
  clear hK2
  replace hr := newcS hr hW hT hD2 (by decide) (fun _ => rfl)
  obtain ⟨G8, P8, U8, V8, X8, O8, kd8, ln8, cnt8, ad8, hr, hW, hT, hE2, hk_n8, hqa⟩ := hr
  subst hqa
  obtain ⟨w1, hP, hD, hW⟩ : ∃ w : va_W, va_P (dC, dI) vwCl w H ∧ va_D A w ∧ LW w ad8 kk kd8 ln8 G8 P8 U8 V8 X8 O8 := ⟨_, hP2, hD2, hW⟩
  clear hP2 hD2
  have ea_this : ad this = ad8 this := (hE2.1 this (by rw [hk_this]; decide)).symm
  have hk1_this := (hE2.2 this (by rw [hk_this]; decide)).trans hk_this
  rw [ea_this] at hl
  rw [ea_this]
  clear ea_this
  replace hE := adE hE hE2
  clear hE2
  obtain ⟨ccn2, eccn2⟩ : ∃ y : Nat, y = (0 + 1) := ⟨_, rfl⟩
  obtain ⟨csn2, ecsn2⟩ : ∃ y : Nat, y = (0 + (Int32.toNatClampNeg 2500)) := ⟨_, rfl⟩
  refine W.widen (k := ccn2) (n := csn2) (Nat.le_of_eq eccn2.symm) (Nat.le_of_eq ecsn2.symm) ?_
  replace hu1 : ccn2 + zw1 = uc := by omega
  replace hu2 : csn2 + zw2 = us := by omega
  clear eccn2 ecsn2
  obtain ⟨i3, hi3⟩ := hW.o6 hk1_this
  refine va_put (D := (dC, dI)) (ci := 6) (v := .ref (ad8 cnt)) (ty := (.array .byte)) (C := RX6) (T := TX6) (N := 9) hx hb hts inX6 tyX6 tyX6_ok nmX6 hown hK hP hD hS i3 hi3 rfl 0 (by decide) (hts (.fieldLink RX6 9 "SpellTurner$Scribe" "told" "[B") ic_182) (fun _ h9 => h9) rfl (by decide +kernel) rfl rfl (Nat.le_of_ble_eq_true rfl) dX6_init_10 (fun H locs hP2 hD2 hS => ?_)
  obtain ⟨m10, w4, em10, hP, hD, hW⟩ : ∃ (z : Nat → Option Nat) (w : va_W), z = (va_up (P8 120) this (some cnt)) ∧ va_P (dC, dI) vwCl w H ∧ va_D A w ∧ LW w ad8 kk kd8 ln8 G8 (va_up P8 120 z) U8 V8 X8 O8 := ⟨_, _, rfl, hP2, hD2, hW.setP hD hi3 (by rw [hk1_this]; decide) 120 (some cnt) (by rw [hk1_this]; rfl)⟩
  replace hT : TYP kd8 (va_up P8 120 m10) O8 (V8 0) cnt8 := by rw [em10]; exact hT.setP 120 this cnt hk_n8
  replace hr := vlS hr m10 em10
  clear em10
  refine lv_aload_n hx hb dX6_init_13 rfl (lv_at hl 0 rfl) ?_
  refine lv_sipush (v := 2500) hx hb dX6_init_14 (by decide +kernel) ?_
  replace hr := iteS hr
  obtain ⟨hi17, hr⟩ := hr
  replace hr := tkS hr
  obtain ⟨zw1, zw2, hr, hq1, hq2⟩ := hr
  refine va_newa (atype := .byte) (a0 := ((Int32.toNatClampNeg 2500), .inl (fun _ => 0))) (ty := .byte) (N' := (Int32.toNatClampNeg 2500)) hx hb (hts (.arrayClass .byte) ic_496) rfl hK hP hD hS hA (fun _ => rfl) (nabS hi17).1 rfl (nabB hi17 (by decide)) (by show _ ≤ uc; omega) (by show _ ≤ us; omega) dX6_init_17 (fun q17 cA H hK2 hP2 hD2 hS => ?_)
  obtain rfl : cA = kk 0 := kA_byte hK2
  clear hK2
  replace hr := newcS hr hW hT hD2 (by decide) (fun _ => rfl)
  obtain ⟨G17, P17, U17, V17, X17, O17, kd17, ln17, cnt17, ad17, hr, hW, hT, hE2, hk_n17, hqa⟩ := hr
  subst hqa
  obtain ⟨w5, hP, hD, hW⟩ : ∃ w : va_W, va_P (dC, dI) vwCl w H ∧ va_D A w ∧ LW w ad17 kk kd17 ln17 G17 P17 U17 V17 X17 O17 := ⟨_, hP2, hD2, hW⟩
  clear hP2 hD2
  have ea_this : ad8 this = ad17 this := (hE2.1 this (by rw [hk1_this]; decide)).symm
  have hk5_this := (hE2.2 this (by rw [hk1_this]; decide)).trans hk1_this
  rw [ea_this] at hl
  rw [ea_this]
  clear ea_this
  replace hE := adE hE hE2
  clear hE2
  obtain ⟨ccn6, eccn6⟩ : ∃ y : Nat, y = (ccn2 + 1) := ⟨_, rfl⟩
  obtain ⟨csn6, ecsn6⟩ : ∃ y : Nat, y = (csn2 + (Int32.toNatClampNeg 2500)) := ⟨_, rfl⟩
  refine W.widen (k := ccn6) (n := csn6) (Nat.le_of_eq eccn6.symm) (Nat.le_of_eq ecsn6.symm) ?_
  replace hu1 : ccn6 + zw1 = uc := by omega
  replace hu2 : csn6 + zw2 = us := by omega
  clear eccn6 ecsn6
  obtain ⟨i7, hi7⟩ := hW.o6 hk5_this
  refine va_put (D := (dC, dI)) (ci := 6) (v := .ref (ad17 cnt8)) (ty := (.array .byte)) (C := RX6) (T := TX6) (N := 9) hx hb hts inX6 tyX6 tyX6_ok nmX6 hown hK hP hD hS i7 hi7 rfl 1 (by decide) (hts (.fieldLink RX6 15 "SpellTurner$Scribe" "page" "[B") ic_429) (fun _ h9 => h9) rfl (by decide +kernel) rfl rfl (Nat.le_of_ble_eq_true rfl) dX6_init_19 (fun H locs hP2 hD2 hS => ?_)
  obtain ⟨m19, w8, em19, hP, hD, hW⟩ : ∃ (z : Nat → Option Nat) (w : va_W), z = (va_up (P17 121) this (some cnt8)) ∧ va_P (dC, dI) vwCl w H ∧ va_D A w ∧ LW w ad17 kk kd17 ln17 G17 (va_up P17 121 z) U17 V17 X17 O17 := ⟨_, _, rfl, hP2, hD2, hW.setP hD hi7 (by rw [hk5_this]; decide) 121 (some cnt8) (by rw [hk5_this]; rfl)⟩
  replace hT : TYP kd17 (va_up P17 121 m19) O17 (V17 0) cnt17 := by rw [em19]; exact hT.setP 121 this cnt8 hk_n17
  replace hr := vlS hr m19 em19
  clear em19
  refine lv_aload_n hx hb dX6_init_22 rfl (lv_at hl 0 rfl) ?_
  refine lv_iconst (v := 5) hx hb dX6_init_23 (by decide +kernel) ?_
  replace hr := iteS hr
  obtain ⟨hi24, hr⟩ := hr
  replace hr := tkS hr
  obtain ⟨zw1, zw2, hr, hq1, hq2⟩ := hr
  refine va_newa (atype := .int) (a0 := ((Int32.toNatClampNeg 5), .inl (fun _ => 0))) (ty := .int) (N' := (Int32.toNatClampNeg 5)) hx hb (hts (.arrayClass .int) ic_497) rfl hK hP hD hS hA (fun _ => rfl) (nabS hi24).1 rfl (nabB hi24 (by decide)) (by show _ ≤ uc; omega) (by show _ ≤ us; omega) dX6_init_24 (fun q24 cA H hK2 hP2 hD2 hS => ?_)
  obtain rfl : cA = kk 1 := kA_int hK2
  clear hK2
  replace hr := newcS hr hW hT hD2 (by decide) (fun _ => rfl)
  obtain ⟨G24, P24, U24, V24, X24, O24, kd24, ln24, cnt24, ad24, hr, hW, hT, hE2, hk_n24, hqa⟩ := hr
  subst hqa
  obtain ⟨w9, hP, hD, hW⟩ : ∃ w : va_W, va_P (dC, dI) vwCl w H ∧ va_D A w ∧ LW w ad24 kk kd24 ln24 G24 P24 U24 V24 X24 O24 := ⟨_, hP2, hD2, hW⟩
  clear hP2 hD2
  have ea_this : ad17 this = ad24 this := (hE2.1 this (by rw [hk5_this]; decide)).symm
  have hk9_this := (hE2.2 this (by rw [hk5_this]; decide)).trans hk5_this
  rw [ea_this] at hl
  rw [ea_this]
  clear ea_this
  replace hE := adE hE hE2
  clear hE2
  obtain ⟨ccn10, eccn10⟩ : ∃ y : Nat, y = (ccn6 + 1) := ⟨_, rfl⟩
  obtain ⟨csn10, ecsn10⟩ : ∃ y : Nat, y = (csn6 + (Int32.toNatClampNeg 5)) := ⟨_, rfl⟩
  refine W.widen (k := ccn10) (n := csn10) (Nat.le_of_eq eccn10.symm) (Nat.le_of_eq ecsn10.symm) ?_
  replace hu1 : ccn10 + zw1 = uc := by omega
  replace hu2 : csn10 + zw2 = us := by omega
  clear eccn10 ecsn10
  obtain ⟨i11, hi11⟩ := hW.o6 hk9_this
  refine va_put (D := (dC, dI)) (ci := 6) (v := .ref (ad24 cnt17)) (ty := (.array .int)) (C := RX6) (T := TX6) (N := 9) hx hb hts inX6 tyX6 tyX6_ok nmX6 hown hK hP hD hS i11 hi11 rfl 2 (by decide) (hts (.fieldLink RX6 18 "SpellTurner$Scribe" "toldTally" "[I") ic_127) (fun _ h9 => h9) rfl (by decide +kernel) rfl rfl (Nat.le_of_ble_eq_true rfl) dX6_init_26 (fun H locs hP2 hD2 hS => ?_)
  obtain ⟨m26, w12, em26, hP, hD, hW⟩ : ∃ (z : Nat → Option Nat) (w : va_W), z = (va_up (P24 122) this (some cnt17)) ∧ va_P (dC, dI) vwCl w H ∧ va_D A w ∧ LW w ad24 kk kd24 ln24 G24 (va_up P24 122 z) U24 V24 X24 O24 := ⟨_, _, rfl, hP2, hD2, hW.setP hD hi11 (by rw [hk9_this]; decide) 122 (some cnt17) (by rw [hk9_this]; rfl)⟩
  replace hT : TYP kd24 (va_up P24 122 m26) O24 (V24 0) cnt24 := by rw [em26]; exact hT.setP 122 this cnt17 hk_n24
  replace hr := vlS hr m26 em26
  clear em26
  refine lv_aload_n hx hb dX6_init_29 rfl (lv_at hl 0 rfl) ?_
  refine lv_iconst (v := 5) hx hb dX6_init_30 (by decide +kernel) ?_
  replace hr := iteS hr
  obtain ⟨hi31, hr⟩ := hr
  replace hr := tkS hr
  obtain ⟨zw1, zw2, hr, hq1, hq2⟩ := hr
  refine va_newa (atype := .int) (a0 := ((Int32.toNatClampNeg 5), .inl (fun _ => 0))) (ty := .int) (N' := (Int32.toNatClampNeg 5)) hx hb (hts (.arrayClass .int) ic_497) rfl hK hP hD hS hA (fun _ => rfl) (nabS hi31).1 rfl (nabB hi31 (by decide)) (by show _ ≤ uc; omega) (by show _ ≤ us; omega) dX6_init_31 (fun q31 cA H hK2 hP2 hD2 hS => ?_)
  obtain rfl : cA = kk 1 := kA_int hK2
  clear hK2
  replace hr := newcS hr hW hT hD2 (by decide) (fun _ => rfl)
  obtain ⟨G31, P31, U31, V31, X31, O31, kd31, ln31, cnt31, ad31, hr, hW, hT, hE2, hk_n31, hqa⟩ := hr
  subst hqa
  obtain ⟨w13, hP, hD, hW⟩ : ∃ w : va_W, va_P (dC, dI) vwCl w H ∧ va_D A w ∧ LW w ad31 kk kd31 ln31 G31 P31 U31 V31 X31 O31 := ⟨_, hP2, hD2, hW⟩
  clear hP2 hD2
  have ea_this : ad24 this = ad31 this := (hE2.1 this (by rw [hk9_this]; decide)).symm
  have hk13_this := (hE2.2 this (by rw [hk9_this]; decide)).trans hk9_this
  rw [ea_this] at hl
  rw [ea_this]
  clear ea_this
  replace hE := adE hE hE2
  clear hE2
  obtain ⟨ccn14, eccn14⟩ : ∃ y : Nat, y = (ccn10 + 1) := ⟨_, rfl⟩
  obtain ⟨csn14, ecsn14⟩ : ∃ y : Nat, y = (csn10 + (Int32.toNatClampNeg 5)) := ⟨_, rfl⟩
  refine W.widen (k := ccn14) (n := csn14) (Nat.le_of_eq eccn14.symm) (Nat.le_of_eq ecsn14.symm) ?_
  replace hu1 : ccn14 + zw1 = uc := by omega
  replace hu2 : csn14 + zw2 = us := by omega
  clear eccn14 ecsn14
  obtain ⟨i15, hi15⟩ := hW.o6 hk13_this
  refine va_put (D := (dC, dI)) (ci := 6) (v := .ref (ad31 cnt24)) (ty := (.array .int)) (C := RX6) (T := TX6) (N := 9) hx hb hts inX6 tyX6 tyX6_ok nmX6 hown hK hP hD hS i15 hi15 rfl 3 (by decide) (hts (.fieldLink RX6 22 "SpellTurner$Scribe" "tally" "[I") ic_421) (fun _ h9 => h9) rfl (by decide +kernel) rfl rfl (Nat.le_of_ble_eq_true rfl) dX6_init_33 (fun H locs hP2 hD2 hS => ?_)
  obtain ⟨m33, w16, em33, hP, hD, hW⟩ : ∃ (z : Nat → Option Nat) (w : va_W), z = (va_up (P31 123) this (some cnt24)) ∧ va_P (dC, dI) vwCl w H ∧ va_D A w ∧ LW w ad31 kk kd31 ln31 G31 (va_up P31 123 z) U31 V31 X31 O31 := ⟨_, _, rfl, hP2, hD2, hW.setP hD hi15 (by rw [hk13_this]; decide) 123 (some cnt24) (by rw [hk13_this]; rfl)⟩
  replace hT : TYP kd31 (va_up P31 123 m33) O31 (V31 0) cnt31 := by rw [em33]; exact hT.setP 123 this cnt24 hk_n31
  replace hr := vlS hr m33 em33
  clear em33
  refine lv_aload_n hx hb dX6_init_36 rfl (lv_at hl 0 rfl) ?_
  refine lv_iconst (v := 0) hx hb dX6_init_37 (by decide +kernel) ?_
  obtain ⟨i17, hi17⟩ := hW.o6 hk13_this
  refine va_put (D := (dC, dI)) (ci := 6) (v := .int 0) (ty := .boolean) (C := RX6) (T := TX6) (N := 9) hx hb hts inX6 tyX6 tyX6_ok nmX6 hown hK hP hD hS i17 hi17 rfl 4 (by decide) (hts (.fieldLink RX6 25 "SpellTurner$Scribe" "hasTold" "Z") ic_126) (fun _ h9 => h9) rfl (by decide +kernel) rfl rfl (Nat.le_of_ble_eq_true rfl) dX6_init_38 (fun H locs hP2 hD2 hS => ?_)
  obtain ⟨m38, w18, em38, hP, hD, hW⟩ : ∃ (z : Nat → Int32) (w : va_W), z = (va_up (G31 124) this 0) ∧ va_P (dC, dI) vwCl w H ∧ va_D A w ∧ LW w ad31 kk kd31 ln31 (va_up G31 124 z) (va_up P31 123 m33) U31 V31 X31 O31 := ⟨_, _, rfl, hP2, hD2, hW.setG hD hi17 (by rw [hk13_this]; decide) 124 0 (by rw [hk13_this]; rfl)⟩
  replace hr := vlS hr m38 em38
  clear em38
  refine lv_aload_n hx hb dX6_init_41 rfl (lv_at hl 0 rfl) ?_
  refine lv_iconst (v := 0) hx hb dX6_init_42 (by decide +kernel) ?_
  obtain ⟨i19, hi19⟩ := hW.o6 hk13_this
  refine va_put (D := (dC, dI)) (ci := 6) (v := .int 0) (ty := .int) (C := RX6) (T := TX6) (N := 9) hx hb hts inX6 tyX6 tyX6_ok nmX6 hown hK hP hD hS i19 hi19 rfl 5 (by decide) (hts (.fieldLink RX6 29 "SpellTurner$Scribe" "toldSize" "I") ic_181) (fun _ h9 => h9) rfl (by decide +kernel) rfl rfl (Nat.le_of_ble_eq_true rfl) dX6_init_43 (fun H locs hP2 hD2 hS => ?_)
  obtain ⟨m43, w20, em43, hP, hD, hW⟩ : ∃ (z : Nat → Int32) (w : va_W), z = (va_up (G31 125) this 0) ∧ va_P (dC, dI) vwCl w H ∧ va_D A w ∧ LW w ad31 kk kd31 ln31 (va_up (va_up G31 124 m38) 125 z) (va_up P31 123 m33) U31 V31 X31 O31 := ⟨_, _, rfl, hP2, hD2, hW.setG hD hi19 (by rw [hk13_this]; decide) 125 0 (by rw [hk13_this]; rfl)⟩
  replace hr := vlS hr m43 em43
  clear em43
  refine lv_aload_n hx hb dX6_init_46 rfl (lv_at hl 0 rfl) ?_
  refine lv_iconst (v := 0) hx hb dX6_init_47 (by decide +kernel) ?_
  obtain ⟨i21, hi21⟩ := hW.o6 hk13_this
  refine va_put (D := (dC, dI)) (ci := 6) (v := .int 0) (ty := .int) (C := RX6) (T := TX6) (N := 9) hx hb hts inX6 tyX6 tyX6_ok nmX6 hown hK hP hD hS i21 hi21 rfl 6 (by decide) (hts (.fieldLink RX6 33 "SpellTurner$Scribe" "size" "I") ic_423) (fun _ h9 => h9) rfl (by decide +kernel) rfl rfl (Nat.le_of_ble_eq_true rfl) dX6_init_48 (fun H locs hP2 hD2 hS => ?_)
  obtain ⟨m48, w22, em48, hP, hD, hW⟩ : ∃ (z : Nat → Int32) (w : va_W), z = (va_up (G31 126) this 0) ∧ va_P (dC, dI) vwCl w H ∧ va_D A w ∧ LW w ad31 kk kd31 ln31 (va_up (va_up (va_up G31 124 m38) 125 m43) 126 z) (va_up P31 123 m33) U31 V31 X31 O31 := ⟨_, _, rfl, hP2, hD2, hW.setG hD hi21 (by rw [hk13_this]; decide) 126 0 (by rw [hk13_this]; rfl)⟩
  replace hr := vlS hr m48 em48
  clear em48
  refine lv_aload_n hx hb dX6_init_51 rfl (lv_at hl 0 rfl) ?_
  refine lv_iconst (v := 0) hx hb dX6_init_52 (by decide +kernel) ?_
  obtain ⟨i23, hi23⟩ := hW.o6 hk13_this
  refine va_put (D := (dC, dI)) (ci := 6) (v := .int 0) (ty := .int) (C := RX6) (T := TX6) (N := 9) hx hb hts inX6 tyX6 tyX6_ok nmX6 hown hK hP hD hS i23 hi23 rfl 7 (by decide) (hts (.fieldLink RX6 36 "SpellTurner$Scribe" "copied" "I") ic_424) (fun _ h9 => h9) rfl (by decide +kernel) rfl rfl (Nat.le_of_ble_eq_true rfl) dX6_init_53 (fun H locs hP2 hD2 hS => ?_)
  obtain ⟨m53, w24, em53, hP, hD, hW⟩ : ∃ (z : Nat → Int32) (w : va_W), z = (va_up (G31 127) this 0) ∧ va_P (dC, dI) vwCl w H ∧ va_D A w ∧ LW w ad31 kk kd31 ln31 (va_up (va_up (va_up (va_up G31 124 m38) 125 m43) 126 m48) 127 z) (va_up P31 123 m33) U31 V31 X31 O31 := ⟨_, _, rfl, hP2, hD2, hW.setG hD hi23 (by rw [hk13_this]; decide) 127 0 (by rw [hk13_this]; rfl)⟩
  replace hr := vlS hr m53 em53
  clear em53
  refine lv_aload_n hx hb dX6_init_56 rfl (lv_at hl 0 rfl) ?_
  refine lv_iconst (v := 1) hx hb dX6_init_57 (by decide +kernel) ?_
  obtain ⟨i25, hi25⟩ := hW.o6 hk13_this
  refine va_put (D := (dC, dI)) (ci := 6) (v := .int 1) (ty := .boolean) (C := RX6) (T := TX6) (N := 9) hx hb hts inX6 tyX6 tyX6_ok nmX6 hown hK hP hD hS i25 hi25 rfl 8 (by decide) (hts (.fieldLink RX6 39 "SpellTurner$Scribe" "fits" "Z") ic_425) (fun _ h9 => h9) rfl (by decide +kernel) rfl rfl (Nat.le_of_ble_eq_true rfl) dX6_init_58 (fun H locs hP2 hD2 hS => ?_)
  obtain ⟨m58, w26, em58, hP, hD, hW⟩ : ∃ (z : Nat → Int32) (w : va_W), z = (va_up (G31 128) this 1) ∧ va_P (dC, dI) vwCl w H ∧ va_D A w ∧ LW w ad31 kk kd31 ln31 (va_up (va_up (va_up (va_up (va_up G31 124 m38) 125 m43) 126 m48) 127 m53) 128 z) (va_up P31 123 m33) U31 V31 X31 O31 := ⟨_, _, rfl, hP2, hD2, hW.setG hD hi25 (by rw [hk13_this]; decide) 128 1 (by rw [hk13_this]; rfl)⟩
  replace hr := vlS hr m58 em58
  clear em58
  replace hr := retS hr
  obtain ⟨hr, hv1, hv2⟩ := hr
  refine W.widen (k := uc) (n := us) (by omega) (by omega) ?_
  exact K 61 ls _ _ _ _ _ _ _ _ _ ad31 w26 H _ hr dX6_init_61 hE hW hT hP hD hS
set_option maxHeartbeats 4000000 in
set_option maxRecDepth 100000 in
theorem m_X6_init (l : Launch) (dC : Nat → ClassId) (dI : Nat → Nat → Nat) (kk : Nat → ClassId) (ad : Nat → Nat) (sz : Nat) (ws : va_W) (G : Nat → Nat → Int32) (P : Nat → Nat → Option Nat) (U : Nat → Nat → Int64) (V : Nat → Nat → Nat → Int32) (X : Nat → Nat → Nat → Int64) (O : Nat → Nat → Nat → Option Nat) (kd : Nat → Nat) (ln : Nat → Nat) (cnt : Nat) (this : Nat) (hk_this : kd this = 7) (hW : LW ws ad kk kd ln G P U V X O) (hT : TYP kd P O (V 0) cnt) (c_G : Nat → Nat → Int32) (c_P : Nat → Nat → Option Nat) (c_U : Nat → Nat → Int64) (c_V : Nat → Nat → Nat → Int32) (c_X : Nat → Nat → Nat → Int64) (c_O : Nat → Nat → Nat → Option Nat) (c_kd : Nat → Nat) (c_ln : Nat → Nat) (c_cnt : Nat) (uc us : Nat) (hr : f_X6_init G P U V X O kd ln cnt this = some ((c_G, c_P, c_U, c_V, c_X, c_O, c_kd, c_ln, c_cnt), uc, us)) : Met l yX6_init vmX6_init ({ frames := 3, cells := uc, slots := us, locals := 90 } : Room) (va_Pc [.ref (ad this)] (fun U => U.heap.size = sz ∧ va_P (dC, dI) vwCl ws U.heap ∧ va_K (dC, dI) vwCl (cT kk) U ∧ va_D (fun _ => True) ws)) (va_Qv (fun (x : (va_W × (Nat → Nat))) => LW x.1 x.2 kk c_kd c_ln c_G c_P c_U c_V c_X c_O ∧ TYP c_kd c_P c_O (c_V 0) c_cnt ∧ adEx kd ad c_kd x.2) (fun x t => va_P (dC, dI) vwCl x.1 t.heap ∧ va_K (dC, dI) vwCl (cT kk) t ∧ va_D (va_A ws sz) x.1) (va_A ws sz)) uc us (va_A ws sz) := by
  refine Met.ofW (cc := cX6_init) (maxL := 1) (ret := none) (by decide) rfl ?_
  intro p e s m args below meth c s₁ B hml hv
  obtain ⟨rfl, hsz, hP, hK, hD0⟩ := hv
  have hx := B.exec
  have hb := B.bytes
  have hrt := B.returns
  have hts := atoms_spec (ws := vmX6_init) B.pre
  have hown : s.vm.findClass RX6 = some m.cls := findClass_of_methodNamed B.named
  subst hsz
  have hD := hD0.self (sz := s.heap.size)
  generalize hAe : va_A ws s.heap.size = A at hD ⊢
  have hA : ∀ q : Nat, s.heap.size ≤ q → A q := fun q h => by rw [← hAe]; exact Or.inr h
  have hS : va_S A s.heap s.heap [] := va_S.rf
  have hl := lv_entry ([.ref (ad this)]) (n := 1) (Nat.le_of_ble_eq_true rfl)
  rw [lg_entry_eq]
  generalize (lg_sl ([.ref (ad this)]) ++ List.replicate (1 - (lg_sl ([.ref (ad this)])).length) Slot.unset).toArray = ls at hl ⊢
  have hin : meth.name = "<init>" := (name_of_methodNamed B.named B.method).1
  exact bm_X6_init this hk_this c_G c_P c_U c_V c_X c_O c_kd c_ln c_cnt uc us hr hx hb hml hown hts hin hA hK hW hT hP hD hS hl (fun pc ls c_Gz c_Pz c_Uz c_Vz c_Xz c_Oz c_kdz c_lnz c_cntz adz ws H locs he hd hE hW hT hP hD hS => by cases he; exact W.vret hx hb hrt (fun t ht hW9 => ⟨⟨(ws, adz), rfl, ⟨hW, hT, hE⟩, by rw [ht]; exact hP, va_K.moved hW9.alike hK, hD⟩, hS.F ht⟩) hS.2.2 hd)
set_option maxHeartbeats 4000000 in
set_option maxRecDepth 100000 in
theorem bm_X2_init {p : Program} {l : Launch} {e : Env} {s : State} {m : MethodId} {args : Array Value} {below : List Frame} {meth : Method} {c : Code} {Q : State → Prop} {A : Nat → Prop} {dC : Nat → ClassId} {dI : Nat → Nat → Nat} {kk : Nat → ClassId} {ad : Nat → Nat} {ws : va_W} {G : Nat → Nat → Int32} {P : Nat → Nat → Option Nat} {U : Nat → Nat → Int64} {V : Nat → Nat → Nat → Int32} {X : Nat → Nat → Nat → Int64} {O : Nat → Nat → Nat → Option Nat} {kd : Nat → Nat} {ln : Nat → Nat} {cnt : Nat} {H : Heap} {locs : List Loc} {ls : Array Slot} (this : Nat) (hk_this : kd this = 3) (c_G : Nat → Nat → Int32) (c_P : Nat → Nat → Option Nat) (c_U : Nat → Nat → Int64) (c_V : Nat → Nat → Nat → Int32) (c_X : Nat → Nat → Nat → Int64) (c_O : Nat → Nat → Nat → Option Nat) (c_kd : Nat → Nat) (c_ln : Nat → Nat) (c_cnt : Nat) (uc us : Nat) (hr : f_X2_init G P U V X O kd ln cnt this = some ((c_G, c_P, c_U, c_V, c_X, c_O, c_kd, c_ln, c_cnt), uc, us)) (hx : p.tables.exec = Jvm.exec) (hb : c.code = cX2_init) (hml : c.maxLocals = 1) (hown : s.vm.findClass RX2 = some m.cls) (hts : ∀ w ∈ vmX2_init, w.before args s = true) (hin : meth.name = "<init>") (hA : ∀ q : Nat, s.heap.size ≤ q → A q) (hK : va_K (dC, dI) vwCl (cT kk) s) (hW : LW ws ad kk kd ln G P U V X O) (hT : TYP kd P O (V 0) cnt) (hP : va_P (dC, dI) vwCl ws H) (hD : va_D A ws) (hS : va_S A s.heap H locs) (hl : lv_has ls 1 [(0, .ref (ad this))])
    (K : ∀ (pc : Nat) (ls : Array Slot) (c_Gz : Nat → Nat → Int32) (c_Pz : Nat → Nat → Option Nat) (c_Uz : Nat → Nat → Int64) (c_Vz : Nat → Nat → Nat → Int32) (c_Xz : Nat → Nat → Nat → Int64) (c_Oz : Nat → Nat → Nat → Option Nat) (c_kdz : Nat → Nat) (c_lnz : Nat → Nat) (c_cntz : Nat) (adz : Nat → Nat) (ws : va_W) (H : Heap) (locs : List Loc), some (c_Gz, c_Pz, c_Uz, c_Vz, c_Xz, c_Oz, c_kdz, c_lnz, c_cntz) = some (c_G, c_P, c_U, c_V, c_X, c_O, c_kd, c_ln, c_cnt) → decode cX2_init pc = .ok (.return_, 1) → adEx kd ad c_kdz adz → LW ws adz kk c_kdz c_lnz c_Gz c_Pz c_Uz c_Vz c_Xz c_Oz → TYP c_kdz c_Pz c_Oz (c_Vz 0) c_cntz → va_P (dC, dI) vwCl ws H → va_D A ws → va_S A s.heap H locs → W p l e ({ frames := 3, cells := uc, slots := us, locals := 90 } : Room) s m args below meth c H locs uc us Q (F0 m pc ls [])) : W p l e ({ frames := 3, cells := uc, slots := us, locals := 90 } : Room) s m args below meth c H locs 0 0 Q (F0 m 0 ls []) := by
  have hu1 : 0 + uc = uc := Nat.zero_add _
  have hu2 : 0 + us = us := Nat.zero_add _
  have hE : adEx kd ad kd ad := ⟨fun _ _ => rfl, fun _ _ => rfl⟩
  unfold f_X2_init at hr
  refine lv_aload_n hx hb dX2_init_0 rfl (lv_at hl 0 rfl) ?_
  refine W.objInit hx hb hown (hts (.methodLink RX2 3 objectInit) ic_641) (hts (.instanceMethod objectInit) ic_494) (hts (.code objectInit ⟨#[0xb1]⟩ 1 none) ic_495) rfl (by rw [hml]; exact hl.1) rfl dX2_init_1 (Nat.le_of_ble_eq_true rfl) (Nat.le_of_ble_eq_true rfl) ?_
  refine W.eq (g2 := F0 m 4 ls []) rfl ?_
  refine lv_aload_n hx hb dX2_init_4 rfl (lv_at hl 0 rfl) ?_
  refine lv_sipush (v := 280) hx hb dX2_init_5 (by decide +kernel) ?_
  replace hr := iteS hr
  obtain ⟨hi8, hr⟩ := hr
  replace hr := tkS hr
  obtain ⟨zw1, zw2, hr, hq1, hq2⟩ := hr
  refine va_newa (atype := .int) (a0 := ((Int32.toNatClampNeg 280), .inl (fun _ => 0))) (ty := .int) (N' := (Int32.toNatClampNeg 280)) hx hb (hts (.arrayClass .int) ic_497) rfl hK hP hD hS hA (fun _ => rfl) (nabS hi8).1 rfl (nabB hi8 (by decide)) (by show _ ≤ uc; omega) (by show _ ≤ us; omega) dX2_init_8 (fun q8 cA H hK2 hP2 hD2 hS => ?_)
  obtain rfl : cA = kk 1 := kA_int hK2
  clear hK2
  replace hr := newcS hr hW hT hD2 (by decide) (fun _ => rfl)
  obtain ⟨G8, P8, U8, V8, X8, O8, kd8, ln8, cnt8, ad8, hr, hW, hT, hE2, hk_n8, hqa⟩ := hr
  subst hqa
  obtain ⟨w1, hP, hD, hW⟩ : ∃ w : va_W, va_P (dC, dI) vwCl w H ∧ va_D A w ∧ LW w ad8 kk kd8 ln8 G8 P8 U8 V8 X8 O8 := ⟨_, hP2, hD2, hW⟩
  clear hP2 hD2
  have ea_this : ad this = ad8 this := (hE2.1 this (by rw [hk_this]; decide)).symm
  have hk1_this := (hE2.2 this (by rw [hk_this]; decide)).trans hk_this
  rw [ea_this] at hl
  rw [ea_this]
  clear ea_this
  replace hE := adE hE hE2
  clear hE2
  obtain ⟨ccn2, eccn2⟩ : ∃ y : Nat, y = (0 + 1) := ⟨_, rfl⟩
  obtain ⟨csn2, ecsn2⟩ : ∃ y : Nat, y = (0 + (Int32.toNatClampNeg 280)) := ⟨_, rfl⟩
  refine W.widen (k := ccn2) (n := csn2) (Nat.le_of_eq eccn2.symm) (Nat.le_of_eq ecsn2.symm) ?_
  replace hu1 : ccn2 + zw1 = uc := by omega
  replace hu2 : csn2 + zw2 = us := by omega
  clear eccn2 ecsn2
  obtain ⟨i3, hi3⟩ := hW.o2 hk1_this
  refine va_putF (D := (dC, dI)) (ci := 2) (v := .ref (ad8 cnt)) (ty := (.array .int)) (C := RX2) (T := TX2) (N := 6) hx hb hts inX2 tyX2 tyX2_ok nmX2 hown hK hP hD hS i3 hi3 rfl 0 (by decide) (hts (.fieldLink RX2 9 "SpellTurner$Mixture" "costs" "[I") ic_104) (fun _ h9 => h9) rfl hin rfl (by decide +kernel) rfl rfl (Nat.le_of_ble_eq_true rfl) dX2_init_10 (fun H locs hP2 hD2 hS => ?_)
  obtain ⟨m10, w4, em10, hP, hD, hW⟩ : ∃ (z : Nat → Option Nat) (w : va_W), z = (va_up (P8 40) this (some cnt)) ∧ va_P (dC, dI) vwCl w H ∧ va_D A w ∧ LW w ad8 kk kd8 ln8 G8 (va_up P8 40 z) U8 V8 X8 O8 := ⟨_, _, rfl, hP2, hD2, hW.setP hD hi3 (by rw [hk1_this]; decide) 40 (some cnt) (by rw [hk1_this]; rfl)⟩
  replace hT : TYP kd8 (va_up P8 40 m10) O8 (V8 0) cnt8 := by rw [em10]; exact hT.setP 40 this cnt hk_n8
  replace hr := vlS hr m10 em10
  clear em10
  refine lv_aload_n hx hb dX2_init_13 rfl (lv_at hl 0 rfl) ?_
  refine lv_sipush (v := 280) hx hb dX2_init_14 (by decide +kernel) ?_
  replace hr := iteS hr
  obtain ⟨hi17, hr⟩ := hr
  replace hr := tkS hr
  obtain ⟨zw1, zw2, hr, hq1, hq2⟩ := hr
  refine va_newa (atype := .int) (a0 := ((Int32.toNatClampNeg 280), .inl (fun _ => 0))) (ty := .int) (N' := (Int32.toNatClampNeg 280)) hx hb (hts (.arrayClass .int) ic_497) rfl hK hP hD hS hA (fun _ => rfl) (nabS hi17).1 rfl (nabB hi17 (by decide)) (by show _ ≤ uc; omega) (by show _ ≤ us; omega) dX2_init_17 (fun q17 cA H hK2 hP2 hD2 hS => ?_)
  obtain rfl : cA = kk 1 := kA_int hK2
  clear hK2
  replace hr := newcS hr hW hT hD2 (by decide) (fun _ => rfl)
  obtain ⟨G17, P17, U17, V17, X17, O17, kd17, ln17, cnt17, ad17, hr, hW, hT, hE2, hk_n17, hqa⟩ := hr
  subst hqa
  obtain ⟨w5, hP, hD, hW⟩ : ∃ w : va_W, va_P (dC, dI) vwCl w H ∧ va_D A w ∧ LW w ad17 kk kd17 ln17 G17 P17 U17 V17 X17 O17 := ⟨_, hP2, hD2, hW⟩
  clear hP2 hD2
  have ea_this : ad8 this = ad17 this := (hE2.1 this (by rw [hk1_this]; decide)).symm
  have hk5_this := (hE2.2 this (by rw [hk1_this]; decide)).trans hk1_this
  rw [ea_this] at hl
  rw [ea_this]
  clear ea_this
  replace hE := adE hE hE2
  clear hE2
  obtain ⟨ccn6, eccn6⟩ : ∃ y : Nat, y = (ccn2 + 1) := ⟨_, rfl⟩
  obtain ⟨csn6, ecsn6⟩ : ∃ y : Nat, y = (csn2 + (Int32.toNatClampNeg 280)) := ⟨_, rfl⟩
  refine W.widen (k := ccn6) (n := csn6) (Nat.le_of_eq eccn6.symm) (Nat.le_of_eq ecsn6.symm) ?_
  replace hu1 : ccn6 + zw1 = uc := by omega
  replace hu2 : csn6 + zw2 = us := by omega
  clear eccn6 ecsn6
  obtain ⟨i7, hi7⟩ := hW.o2 hk5_this
  refine va_putF (D := (dC, dI)) (ci := 2) (v := .ref (ad17 cnt8)) (ty := (.array .int)) (C := RX2) (T := TX2) (N := 6) hx hb hts inX2 tyX2 tyX2_ok nmX2 hown hK hP hD hS i7 hi7 rfl 1 (by decide) (hts (.fieldLink RX2 15 "SpellTurner$Mixture" "least" "[I") ic_204) (fun _ h9 => h9) rfl hin rfl (by decide +kernel) rfl rfl (Nat.le_of_ble_eq_true rfl) dX2_init_19 (fun H locs hP2 hD2 hS => ?_)
  obtain ⟨m19, w8, em19, hP, hD, hW⟩ : ∃ (z : Nat → Option Nat) (w : va_W), z = (va_up (P17 41) this (some cnt8)) ∧ va_P (dC, dI) vwCl w H ∧ va_D A w ∧ LW w ad17 kk kd17 ln17 G17 (va_up P17 41 z) U17 V17 X17 O17 := ⟨_, _, rfl, hP2, hD2, hW.setP hD hi7 (by rw [hk5_this]; decide) 41 (some cnt8) (by rw [hk5_this]; rfl)⟩
  replace hT : TYP kd17 (va_up P17 41 m19) O17 (V17 0) cnt17 := by rw [em19]; exact hT.setP 41 this cnt8 hk_n17
  replace hr := vlS hr m19 em19
  clear em19
  refine lv_aload_n hx hb dX2_init_22 rfl (lv_at hl 0 rfl) ?_
  refine lv_bipush (v := 40) hx hb dX2_init_23 (by decide +kernel) ?_
  replace hr := iteS hr
  obtain ⟨hi25, hr⟩ := hr
  replace hr := tkS hr
  obtain ⟨zw1, zw2, hr, hq1, hq2⟩ := hr
  refine va_newa (atype := .int) (a0 := ((Int32.toNatClampNeg 40), .inl (fun _ => 0))) (ty := .int) (N' := (Int32.toNatClampNeg 40)) hx hb (hts (.arrayClass .int) ic_497) rfl hK hP hD hS hA (fun _ => rfl) (nabS hi25).1 rfl (nabB hi25 (by decide)) (by show _ ≤ uc; omega) (by show _ ≤ us; omega) dX2_init_25 (fun q25 cA H hK2 hP2 hD2 hS => ?_)
  obtain rfl : cA = kk 1 := kA_int hK2
  clear hK2
  replace hr := newcS hr hW hT hD2 (by decide) (fun _ => rfl)
  obtain ⟨G25, P25, U25, V25, X25, O25, kd25, ln25, cnt25, ad25, hr, hW, hT, hE2, hk_n25, hqa⟩ := hr
  subst hqa
  obtain ⟨w9, hP, hD, hW⟩ : ∃ w : va_W, va_P (dC, dI) vwCl w H ∧ va_D A w ∧ LW w ad25 kk kd25 ln25 G25 P25 U25 V25 X25 O25 := ⟨_, hP2, hD2, hW⟩
  clear hP2 hD2
  have ea_this : ad17 this = ad25 this := (hE2.1 this (by rw [hk5_this]; decide)).symm
  have hk9_this := (hE2.2 this (by rw [hk5_this]; decide)).trans hk5_this
  rw [ea_this] at hl
  rw [ea_this]
  clear ea_this
  replace hE := adE hE hE2
  clear hE2
  obtain ⟨ccn10, eccn10⟩ : ∃ y : Nat, y = (ccn6 + 1) := ⟨_, rfl⟩
  obtain ⟨csn10, ecsn10⟩ : ∃ y : Nat, y = (csn6 + (Int32.toNatClampNeg 40)) := ⟨_, rfl⟩
  refine W.widen (k := ccn10) (n := csn10) (Nat.le_of_eq eccn10.symm) (Nat.le_of_eq ecsn10.symm) ?_
  replace hu1 : ccn10 + zw1 = uc := by omega
  replace hu2 : csn10 + zw2 = us := by omega
  clear eccn10 ecsn10
  obtain ⟨i11, hi11⟩ := hW.o2 hk9_this
  refine va_putF (D := (dC, dI)) (ci := 2) (v := .ref (ad25 cnt17)) (ty := (.array .int)) (C := RX2) (T := TX2) (N := 6) hx hb hts inX2 tyX2 tyX2_ok nmX2 hown hK hP hD hS i11 hi11 rfl 2 (by decide) (hts (.fieldLink RX2 18 "SpellTurner$Mixture" "told" "[I") ic_151) (fun _ h9 => h9) rfl hin rfl (by decide +kernel) rfl rfl (Nat.le_of_ble_eq_true rfl) dX2_init_27 (fun H locs hP2 hD2 hS => ?_)
  obtain ⟨m27, w12, em27, hP, hD, hW⟩ : ∃ (z : Nat → Option Nat) (w : va_W), z = (va_up (P25 42) this (some cnt17)) ∧ va_P (dC, dI) vwCl w H ∧ va_D A w ∧ LW w ad25 kk kd25 ln25 G25 (va_up P25 42 z) U25 V25 X25 O25 := ⟨_, _, rfl, hP2, hD2, hW.setP hD hi11 (by rw [hk9_this]; decide) 42 (some cnt17) (by rw [hk9_this]; rfl)⟩
  replace hT : TYP kd25 (va_up P25 42 m27) O25 (V25 0) cnt25 := by rw [em27]; exact hT.setP 42 this cnt17 hk_n25
  replace hr := vlS hr m27 em27
  clear em27
  refine lv_aload_n hx hb dX2_init_30 rfl (lv_at hl 0 rfl) ?_
  refine lv_iconst (v := 0) hx hb dX2_init_31 (by decide +kernel) ?_
  obtain ⟨i13, hi13⟩ := hW.o2 hk9_this
  refine va_put (D := (dC, dI)) (ci := 2) (v := .int 0) (ty := .int) (C := RX2) (T := TX2) (N := 6) hx hb hts inX2 tyX2 tyX2_ok nmX2 hown hK hP hD hS i13 hi13 rfl 3 (by decide) (hts (.fieldLink RX2 21 "SpellTurner$Mixture" "toldLines" "I") ic_150) (fun _ h9 => h9) rfl (by decide +kernel) rfl rfl (Nat.le_of_ble_eq_true rfl) dX2_init_32 (fun H locs hP2 hD2 hS => ?_)
  obtain ⟨m32, w14, em32, hP, hD, hW⟩ : ∃ (z : Nat → Int32) (w : va_W), z = (va_up (G25 43) this 0) ∧ va_P (dC, dI) vwCl w H ∧ va_D A w ∧ LW w ad25 kk kd25 ln25 (va_up G25 43 z) (va_up P25 42 m27) U25 V25 X25 O25 := ⟨_, _, rfl, hP2, hD2, hW.setG hD hi13 (by rw [hk9_this]; decide) 43 0 (by rw [hk9_this]; rfl)⟩
  replace hr := vlS hr m32 em32
  clear em32
  refine lv_aload_n hx hb dX2_init_35 rfl (lv_at hl 0 rfl) ?_
  refine lv_iconst (v := 0) hx hb dX2_init_36 (by decide +kernel) ?_
  obtain ⟨i15, hi15⟩ := hW.o2 hk9_this
  refine va_put (D := (dC, dI)) (ci := 2) (v := .int 0) (ty := .int) (C := RX2) (T := TX2) (N := 6) hx hb hts inX2 tyX2 tyX2_ok nmX2 hown hK hP hD hS i15 hi15 rfl 4 (by decide) (hts (.fieldLink RX2 25 "SpellTurner$Mixture" "lines" "I") ic_102) (fun _ h9 => h9) rfl (by decide +kernel) rfl rfl (Nat.le_of_ble_eq_true rfl) dX2_init_37 (fun H locs hP2 hD2 hS => ?_)
  obtain ⟨m37, w16, em37, hP, hD, hW⟩ : ∃ (z : Nat → Int32) (w : va_W), z = (va_up (G25 44) this 0) ∧ va_P (dC, dI) vwCl w H ∧ va_D A w ∧ LW w ad25 kk kd25 ln25 (va_up (va_up G25 43 m32) 44 z) (va_up P25 42 m27) U25 V25 X25 O25 := ⟨_, _, rfl, hP2, hD2, hW.setG hD hi15 (by rw [hk9_this]; decide) 44 0 (by rw [hk9_this]; rfl)⟩
  replace hr := vlS hr m37 em37
  clear em37
  refine lv_aload_n hx hb dX2_init_40 rfl (lv_at hl 0 rfl) ?_
  refine lv_iconst (v := 0) hx hb dX2_init_41 (by decide +kernel) ?_
  obtain ⟨i17, hi17⟩ := hW.o2 hk9_this
  refine va_put (D := (dC, dI)) (ci := 2) (v := .int 0) (ty := .int) (C := RX2) (T := TX2) (N := 6) hx hb hts inX2 tyX2 tyX2_ok nmX2 hown hK hP hD hS i17 hi17 rfl 5 (by decide) (hts (.fieldLink RX2 28 "SpellTurner$Mixture" "stages" "I") ic_103) (fun _ h9 => h9) rfl (by decide +kernel) rfl rfl (Nat.le_of_ble_eq_true rfl) dX2_init_42 (fun H locs hP2 hD2 hS => ?_)
  obtain ⟨m42, w18, em42, hP, hD, hW⟩ : ∃ (z : Nat → Int32) (w : va_W), z = (va_up (G25 45) this 0) ∧ va_P (dC, dI) vwCl w H ∧ va_D A w ∧ LW w ad25 kk kd25 ln25 (va_up (va_up (va_up G25 43 m32) 44 m37) 45 z) (va_up P25 42 m27) U25 V25 X25 O25 := ⟨_, _, rfl, hP2, hD2, hW.setG hD hi17 (by rw [hk9_this]; decide) 45 0 (by rw [hk9_this]; rfl)⟩
  replace hr := vlS hr m42 em42
  clear em42
  replace hr := retS hr
  obtain ⟨hr, hv1, hv2⟩ := hr
  refine W.widen (k := uc) (n := us) (by omega) (by omega) ?_
  exact K 45 ls _ _ _ _ _ _ _ _ _ ad25 w18 H _ hr dX2_init_45 hE hW hT hP hD hS
set_option maxHeartbeats 4000000 in
set_option maxRecDepth 100000 in
theorem m_X2_init (l : Launch) (dC : Nat → ClassId) (dI : Nat → Nat → Nat) (kk : Nat → ClassId) (ad : Nat → Nat) (sz : Nat) (ws : va_W) (G : Nat → Nat → Int32) (P : Nat → Nat → Option Nat) (U : Nat → Nat → Int64) (V : Nat → Nat → Nat → Int32) (X : Nat → Nat → Nat → Int64) (O : Nat → Nat → Nat → Option Nat) (kd : Nat → Nat) (ln : Nat → Nat) (cnt : Nat) (this : Nat) (hk_this : kd this = 3) (hW : LW ws ad kk kd ln G P U V X O) (hT : TYP kd P O (V 0) cnt) (c_G : Nat → Nat → Int32) (c_P : Nat → Nat → Option Nat) (c_U : Nat → Nat → Int64) (c_V : Nat → Nat → Nat → Int32) (c_X : Nat → Nat → Nat → Int64) (c_O : Nat → Nat → Nat → Option Nat) (c_kd : Nat → Nat) (c_ln : Nat → Nat) (c_cnt : Nat) (uc us : Nat) (hr : f_X2_init G P U V X O kd ln cnt this = some ((c_G, c_P, c_U, c_V, c_X, c_O, c_kd, c_ln, c_cnt), uc, us)) : Met l yX2_init vmX2_init ({ frames := 3, cells := uc, slots := us, locals := 90 } : Room) (va_Pc [.ref (ad this)] (fun U => U.heap.size = sz ∧ va_P (dC, dI) vwCl ws U.heap ∧ va_K (dC, dI) vwCl (cT kk) U ∧ va_D (fun _ => True) ws)) (va_Qv (fun (x : (va_W × (Nat → Nat))) => LW x.1 x.2 kk c_kd c_ln c_G c_P c_U c_V c_X c_O ∧ TYP c_kd c_P c_O (c_V 0) c_cnt ∧ adEx kd ad c_kd x.2) (fun x t => va_P (dC, dI) vwCl x.1 t.heap ∧ va_K (dC, dI) vwCl (cT kk) t ∧ va_D (va_A ws sz) x.1) (va_A ws sz)) uc us (va_A ws sz) := by
  refine Met.ofW (cc := cX2_init) (maxL := 1) (ret := none) (by decide) rfl ?_
  intro p e s m args below meth c s₁ B hml hv
  obtain ⟨rfl, hsz, hP, hK, hD0⟩ := hv
  have hx := B.exec
  have hb := B.bytes
  have hrt := B.returns
  have hts := atoms_spec (ws := vmX2_init) B.pre
  have hown : s.vm.findClass RX2 = some m.cls := findClass_of_methodNamed B.named
  subst hsz
  have hD := hD0.self (sz := s.heap.size)
  generalize hAe : va_A ws s.heap.size = A at hD ⊢
  have hA : ∀ q : Nat, s.heap.size ≤ q → A q := fun q h => by rw [← hAe]; exact Or.inr h
  have hS : va_S A s.heap s.heap [] := va_S.rf
  have hl := lv_entry ([.ref (ad this)]) (n := 1) (Nat.le_of_ble_eq_true rfl)
  rw [lg_entry_eq]
  generalize (lg_sl ([.ref (ad this)]) ++ List.replicate (1 - (lg_sl ([.ref (ad this)])).length) Slot.unset).toArray = ls at hl ⊢
  have hin : meth.name = "<init>" := (name_of_methodNamed B.named B.method).1
  exact bm_X2_init this hk_this c_G c_P c_U c_V c_X c_O c_kd c_ln c_cnt uc us hr hx hb hml hown hts hin hA hK hW hT hP hD hS hl (fun pc ls c_Gz c_Pz c_Uz c_Vz c_Xz c_Oz c_kdz c_lnz c_cntz adz ws H locs he hd hE hW hT hP hD hS => by cases he; exact W.vret hx hb hrt (fun t ht hW9 => ⟨⟨(ws, adz), rfl, ⟨hW, hT, hE⟩, by rw [ht]; exact hP, va_K.moved hW9.alike hK, hD⟩, hS.F ht⟩) hS.2.2 hd)
set_option maxHeartbeats 4000000 in
set_option maxRecDepth 100000 in
theorem bm_X11_init {p : Program} {l : Launch} {e : Env} {s : State} {m : MethodId} {args : Array Value} {below : List Frame} {meth : Method} {c : Code} {Q : State → Prop} {A : Nat → Prop} {dC : Nat → ClassId} {dI : Nat → Nat → Nat} {kk : Nat → ClassId} {ad : Nat → Nat} {ws : va_W} {G : Nat → Nat → Int32} {P : Nat → Nat → Option Nat} {U : Nat → Nat → Int64} {V : Nat → Nat → Nat → Int32} {X : Nat → Nat → Nat → Int64} {O : Nat → Nat → Nat → Option Nat} {kd : Nat → Nat} {ln : Nat → Nat} {cnt : Nat} {H : Heap} {locs : List Loc} {ls : Array Slot} (this : Nat) (hk_this : kd this = 12) (c_G : Nat → Nat → Int32) (c_P : Nat → Nat → Option Nat) (c_U : Nat → Nat → Int64) (c_V : Nat → Nat → Nat → Int32) (c_X : Nat → Nat → Nat → Int64) (c_O : Nat → Nat → Nat → Option Nat) (c_kd : Nat → Nat) (c_ln : Nat → Nat) (c_cnt : Nat) (uc us : Nat) (hr : f_X11_init G P U V X O kd ln cnt this = some ((c_G, c_P, c_U, c_V, c_X, c_O, c_kd, c_ln, c_cnt), uc, us)) (hx : p.tables.exec = Jvm.exec) (hb : c.code = cX11_init) (hml : c.maxLocals = 1) (hown : s.vm.findClass RX11 = some m.cls) (hts : ∀ w ∈ vmX11_init, w.before args s = true) (hin : meth.name = "<init>") (hA : ∀ q : Nat, s.heap.size ≤ q → A q) (hK : va_K (dC, dI) vwCl (cT kk) s) (hEn : EnvOK s) (hW : LW ws ad kk kd ln G P U V X O) (hT : TYP kd P O (V 0) cnt) (hP : va_P (dC, dI) vwCl ws H) (hD : va_D A ws) (hS : va_S A s.heap H locs) (hl : lv_has ls 1 [(0, .ref (ad this))])
    (K : ∀ (pc : Nat) (ls : Array Slot) (c_Gz : Nat → Nat → Int32) (c_Pz : Nat → Nat → Option Nat) (c_Uz : Nat → Nat → Int64) (c_Vz : Nat → Nat → Nat → Int32) (c_Xz : Nat → Nat → Nat → Int64) (c_Oz : Nat → Nat → Nat → Option Nat) (c_kdz : Nat → Nat) (c_lnz : Nat → Nat) (c_cntz : Nat) (adz : Nat → Nat) (ws : va_W) (H : Heap) (locs : List Loc), some (c_Gz, c_Pz, c_Uz, c_Vz, c_Xz, c_Oz, c_kdz, c_lnz, c_cntz) = some (c_G, c_P, c_U, c_V, c_X, c_O, c_kd, c_ln, c_cnt) → decode cX11_init pc = .ok (.return_, 1) → adEx kd ad c_kdz adz → LW ws adz kk c_kdz c_lnz c_Gz c_Pz c_Uz c_Vz c_Xz c_Oz → TYP c_kdz c_Pz c_Oz (c_Vz 0) c_cntz → va_P (dC, dI) vwCl ws H → va_D A ws → va_S A s.heap H locs → W p l e ({ frames := 6, cells := uc, slots := us, locals := 152 } : Room) s m args below meth c H locs uc us Q (F0 m pc ls [])) : W p l e ({ frames := 6, cells := uc, slots := us, locals := 152 } : Room) s m args below meth c H locs 0 0 Q (F0 m 0 ls []) := by
  have hu1 : 0 + uc = uc := Nat.zero_add _
  have hu2 : 0 + us = us := Nat.zero_add _
  have hE : adEx kd ad kd ad := ⟨fun _ _ => rfl, fun _ _ => rfl⟩
  unfold f_X11_init at hr
  refine lv_aload_n hx hb dX11_init_0 rfl (lv_at hl 0 rfl) ?_
  refine W.objInit hx hb hown (hts (.methodLink RX11 3 objectInit) ic_643) (hts (.instanceMethod objectInit) ic_494) (hts (.code objectInit ⟨#[0xb1]⟩ 1 none) ic_495) rfl (by rw [hml]; exact hl.1) rfl dX11_init_1 (Nat.le_of_ble_eq_true rfl) (Nat.le_of_ble_eq_true rfl) ?_
  refine W.eq (g2 := F0 m 4 ls []) rfl ?_
  refine lv_aload_n hx hb dX11_init_4 rfl (lv_at hl 0 rfl) ?_
  replace hr := tkS hr
  obtain ⟨zw1, zw2, hr, hq1, hq2⟩ := hr
  refine va_new (ci := 7) (fs := [.null, .int 0]) (C := RX7) (T := TX7) (N := 2) hx hb hts inX7 tyX7 tyX7_ok hown (hts (.classLink RX11 9 RX7) ic_644) (hts (.instantiable RX7 2) ic_645) (hts (.initialized RX7) ic_45) hK hP hD hS hA rfl (fun j hj => match j, hj with | 0, _ => rfl | 1, _ => rfl | j + 2, hj => absurd hj (by omega)) (by show _ ≤ uc; omega) (by show _ ≤ us; omega) dX11_init_5 (fun q5 H hP2 hD2 hS => ?_)
  replace hr := newcS hr hW hT hD2 (by decide) (fun _ => rfl)
  obtain ⟨G5, P5, U5, V5, X5, O5, kd5, ln5, cnt5, ad5, hr, hW, hT, hE2, hk_n5, hqa⟩ := hr
  subst hqa
  obtain ⟨w1, hP, hD, hW⟩ : ∃ w : va_W, va_P (dC, dI) vwCl w H ∧ va_D A w ∧ LW w ad5 kk kd5 ln5 G5 P5 U5 V5 X5 O5 := ⟨_, hP2, hD2, hW⟩
  clear hP2 hD2
  have ea_this : ad this = ad5 this := (hE2.1 this (by rw [hk_this]; decide)).symm
  have hk1_this := (hE2.2 this (by rw [hk_this]; decide)).trans hk_this
  rw [ea_this] at hl
  rw [ea_this]
  clear ea_this
  replace hE := adE hE hE2
  clear hE2
  obtain ⟨ccn2, eccn2⟩ : ∃ y : Nat, y = (0 + 1) := ⟨_, rfl⟩
  obtain ⟨csn2, ecsn2⟩ : ∃ y : Nat, y = (0 + 2) := ⟨_, rfl⟩
  refine W.widen (k := ccn2) (n := csn2) (Nat.le_of_eq eccn2.symm) (Nat.le_of_eq ecsn2.symm) ?_
  replace hu1 : ccn2 + zw1 = uc := by omega
  replace hu2 : csn2 + zw2 = us := by omega
  clear eccn2 ecsn2
  refine lv_dup hx hb dX11_init_8 rfl ?_
  replace hr := bA9S hr
  obtain ⟨c9_G, c9_P, c9_U, c9_V, c9_X, c9_O, c9_kd, c9_ln, c9_cnt, zv1, zv2, zw1, zw2, hc9, hr, hq1, hq2⟩ := hr
  have hFc := fr_all hD hS hA
  refine va_callv (va_runIN (As := []) (rest := [.ref (ad5 cnt), .ref (ad5 this)]) ⟨hx, hb, hml, hown, hts⟩ (m_X7_init l dC dI kk ad5 H.size w1 G5 P5 U5 V5 X5 O5 kd5 ln5 cnt5 cnt hk_n5 hW hT c9_G c9_P c9_U c9_V c9_X c9_O c9_kd c9_ln c9_cnt zv1 zv2 hc9) ⟨va_cnB 0 hts (lwC_code ic_619) rfl rfl rfl (en_nRX11_11 hEn) (hts (.initialized RX7) ic_45) (by decide +kernel) ⟨Nat.le_of_ble_eq_true rfl, Nat.le_of_ble_eq_true rfl⟩, rfl, (hts (.instanceMethod yX7_init) ic_646)⟩ ⟨fun a U g mk q => by obtain ⟨q0, q1, qP, qK, qD⟩ := q; exact ⟨q0, q1, qP, va_K.moved (u := U) (U := U.calling g mk a) (Vm.Alike.refl U.vm) qK, qD⟩, fun U hU hW => ⟨rfl, by rw [hU], by rw [hU]; exact hP, va_K.moved hW.alike hK, hD.weaken (fun _ _ _ _ => trivial)⟩⟩ rfl rfl hl.1 rfl (lv_room (Nat.le_of_ble_eq_true rfl)) dX11_init_9 ⟨(by show _ ≤ uc; omega), (by show _ ≤ us; omega)⟩) hS (fun q _ h => hFc q h) hFc (fun w3 t H1 locs ht hvm hw hB hz1 hk1 hS => ?_)
  obtain ⟨w3, ad9_3⟩ := w3
  dsimp only at hw hB
  obtain ⟨hW, hT, hE2⟩ := hw
  obtain ⟨hP1, hK1, hD1⟩ := hB
  rw [ht] at hP1
  obtain ⟨hP, hD⟩ := jn_all (w1 := w3) hFc hP1 hD1
  replace hP : va_P (dC, dI) vwCl w3 H1 := hP
  replace hD : va_D A w3 := hD
  clear hFc hP1 hK1 hD1 hk1 hz1 ht hvm
  generalize H1 = H at hP hS ⊢
  have ea_this : ad5 this = ad9_3 this := (hE2.1 this (by rw [hk1_this]; decide)).symm
  have hk3_this := (hE2.2 this (by rw [hk1_this]; decide)).trans hk1_this
  have ea_cnt : ad5 cnt = ad9_3 cnt := (hE2.1 cnt (by rw [hk_n5]; decide)).symm
  have hk3_cnt := (hE2.2 cnt (by rw [hk_n5]; decide)).trans hk_n5
  rw [ea_this] at hl
  rw [ea_this, ea_cnt]
  clear ea_this ea_cnt
  replace hE := adE hE hE2
  clear hE2
  obtain ⟨ccn4, eccn4⟩ : ∃ y : Nat, y = (ccn2 + zv1) := ⟨_, rfl⟩
  obtain ⟨csn4, ecsn4⟩ : ∃ y : Nat, y = (csn2 + zv2) := ⟨_, rfl⟩
  refine W.widen (k := ccn4) (n := csn4) (Nat.le_of_eq eccn4.symm) (Nat.le_of_eq ecsn4.symm) ?_
  replace hu1 : ccn4 + zw1 = uc := by omega
  replace hu2 : csn4 + zw2 = us := by omega
  clear eccn4 ecsn4
  obtain ⟨i5, hi5⟩ := hW.o11 hk3_this
  refine va_putF (D := (dC, dI)) (ci := 11) (v := .ref (ad9_3 cnt)) (ty := (.object "SpellTurner$Tape")) (C := RX11) (T := TX11) (N := 17) hx hb hts inX11 tyX11 tyX11_ok nmX11 hown hK hP hD hS i5 hi5 rfl 0 (by decide) (hts (.fieldLink RX11 12 "SpellTurner" "tape" "LSpellTurner$Tape;") ic_48) (fun _ h9 => h9) rfl hin rfl (by decide +kernel) rfl rfl (Nat.le_of_ble_eq_true rfl) dX11_init_12 (fun H locs hP2 hD2 hS => ?_)
  obtain ⟨m12, w6, em12, hP, hD, hW⟩ : ∃ (z : Nat → Option Nat) (w : va_W), z = (va_up (c9_P 220) this (some cnt)) ∧ va_P (dC, dI) vwCl w H ∧ va_D A w ∧ LW w ad9_3 kk c9_kd c9_ln c9_G (va_up c9_P 220 z) c9_U c9_V c9_X c9_O := ⟨_, _, rfl, hP2, hD2, hW.setP hD hi5 (by rw [hk3_this]; decide) 220 (some cnt) (by rw [hk3_this]; rfl)⟩
  replace hT : TYP c9_kd (va_up c9_P 220 m12) c9_O (c9_V 0) c9_cnt := by rw [em12]; exact hT.setP 220 this cnt hk3_cnt
  replace hr := vlS hr m12 em12
  clear em12
  refine lv_aload_n hx hb dX11_init_15 rfl (lv_at hl 0 rfl) ?_
  refine lv_bipush (v := 6) hx hb dX11_init_16 (by decide +kernel) ?_
  replace hr := iteS hr
  obtain ⟨hi18, hr⟩ := hr
  replace hr := tkS hr
  obtain ⟨zw1, zw2, hr, hq1, hq2⟩ := hr
  refine va_newq (C := RX5) (N' := (Int32.toNatClampNeg 6)) hx hb hown (hts (.classLink RX11 16 RX5) ic_570) (en_aoRX5 hEn) hK hP hD hS hA (nabS hi18).1 rfl (nabB hi18 (by decide)) (by show _ ≤ uc; omega) (by show _ ≤ us; omega) dX11_init_18 (fun q18 cA H hK2 hP2 hD2 hS => ?_)
  obtain rfl : cA = kk 6 := kA_RX5 hK2
  clear hK2
  replace hr := newcS hr hW hT hD2 (by decide) (fun _ => rfl)
  obtain ⟨G18, P18, U18, V18, X18, O18, kd18, ln18, cnt18, ad18, hr, hW, hT, hE2, hk_n18, hqa⟩ := hr
  subst hqa
  obtain ⟨w7, hP, hD, hW⟩ : ∃ w : va_W, va_P (dC, dI) vwCl w H ∧ va_D A w ∧ LW w ad18 kk kd18 ln18 G18 P18 U18 V18 X18 O18 := ⟨_, hP2, hD2, hW⟩
  clear hP2 hD2
  have ea_this : ad9_3 this = ad18 this := (hE2.1 this (by rw [hk3_this]; decide)).symm
  have hk7_this := (hE2.2 this (by rw [hk3_this]; decide)).trans hk3_this
  rw [ea_this] at hl
  rw [ea_this]
  clear ea_this
  replace hE := adE hE hE2
  clear hE2
  obtain ⟨ccn8, eccn8⟩ : ∃ y : Nat, y = (ccn4 + 1) := ⟨_, rfl⟩
  obtain ⟨csn8, ecsn8⟩ : ∃ y : Nat, y = (csn4 + (Int32.toNatClampNeg 6)) := ⟨_, rfl⟩
  refine W.widen (k := ccn8) (n := csn8) (Nat.le_of_eq eccn8.symm) (Nat.le_of_eq ecsn8.symm) ?_
  replace hu1 : ccn8 + zw1 = uc := by omega
  replace hu2 : csn8 + zw2 = us := by omega
  clear eccn8 ecsn8
  obtain ⟨i9, hi9⟩ := hW.o11 hk7_this
  refine va_putF (D := (dC, dI)) (ci := 11) (v := .ref (ad18 c9_cnt)) (ty := (.array (.object "SpellTurner$Reform"))) (C := RX11) (T := TX11) (N := 17) hx hb hts inX11 tyX11 tyX11_ok nmX11 hown hK hP hD hS i9 hi9 rfl 1 (by decide) (hts (.fieldLink RX11 18 "SpellTurner" "reforms" "[LSpellTurner$Reform;") ic_56) (fun _ h9 => h9) rfl hin rfl (by decide +kernel) rfl rfl (Nat.le_of_ble_eq_true rfl) dX11_init_21 (fun H locs hP2 hD2 hS => ?_)
  obtain ⟨m21, w10, em21, hP, hD, hW⟩ : ∃ (z : Nat → Option Nat) (w : va_W), z = (va_up (P18 221) this (some c9_cnt)) ∧ va_P (dC, dI) vwCl w H ∧ va_D A w ∧ LW w ad18 kk kd18 ln18 G18 (va_up P18 221 z) U18 V18 X18 O18 := ⟨_, _, rfl, hP2, hD2, hW.setP hD hi9 (by rw [hk7_this]; decide) 221 (some c9_cnt) (by rw [hk7_this]; rfl)⟩
  replace hT : TYP kd18 (va_up P18 221 m21) O18 (V18 0) cnt18 := by rw [em21]; exact hT.setP 221 this c9_cnt hk_n18
  replace hr := vlS hr m21 em21
  clear em21
  refine lv_aload_n hx hb dX11_init_24 rfl (lv_at hl 0 rfl) ?_
  refine lv_iconst (v := 0) hx hb dX11_init_25 (by decide +kernel) ?_
  obtain ⟨i11, hi11⟩ := hW.o11 hk7_this
  refine va_put (D := (dC, dI)) (ci := 11) (v := .int 0) (ty := .int) (C := RX11) (T := TX11) (N := 17) hx hb hts inX11 tyX11 tyX11_ok nmX11 hown hK hP hD hS i11 hi11 rfl 2 (by decide) (hts (.fieldLink RX11 22 "SpellTurner" "reformCount" "I") ic_55) (fun _ h9 => h9) rfl (by decide +kernel) rfl rfl (Nat.le_of_ble_eq_true rfl) dX11_init_26 (fun H locs hP2 hD2 hS => ?_)
  obtain ⟨m26, w12, em26, hP, hD, hW⟩ : ∃ (z : Nat → Int32) (w : va_W), z = (va_up (G18 222) this 0) ∧ va_P (dC, dI) vwCl w H ∧ va_D A w ∧ LW w ad18 kk kd18 ln18 (va_up G18 222 z) (va_up P18 221 m21) U18 V18 X18 O18 := ⟨_, _, rfl, hP2, hD2, hW.setG hD hi11 (by rw [hk7_this]; decide) 222 0 (by rw [hk7_this]; rfl)⟩
  replace hr := vlS hr m26 em26
  clear em26
  refine lv_aload_n hx hb dX11_init_29 rfl (lv_at hl 0 rfl) ?_
  refine lv_iconst (v := (-1)) hx hb dX11_init_30 (by decide +kernel) ?_
  obtain ⟨i13, hi13⟩ := hW.o11 hk7_this
  refine va_put (D := (dC, dI)) (ci := 11) (v := .int (-1)) (ty := .int) (C := RX11) (T := TX11) (N := 17) hx hb hts inX11 tyX11 tyX11_ok nmX11 hown hK hP hD hS i13 hi13 rfl 3 (by decide) (hts (.fieldLink RX11 26 "SpellTurner" "latestDay" "I") ic_559) (fun _ h9 => h9) rfl (by decide +kernel) rfl rfl (Nat.le_of_ble_eq_true rfl) dX11_init_31 (fun H locs hP2 hD2 hS => ?_)
  obtain ⟨m31, w14, em31, hP, hD, hW⟩ : ∃ (z : Nat → Int32) (w : va_W), z = (va_up (G18 223) this (-1)) ∧ va_P (dC, dI) vwCl w H ∧ va_D A w ∧ LW w ad18 kk kd18 ln18 (va_up (va_up G18 222 m26) 223 z) (va_up P18 221 m21) U18 V18 X18 O18 := ⟨_, _, rfl, hP2, hD2, hW.setG hD hi13 (by rw [hk7_this]; decide) 223 (-1) (by rw [hk7_this]; rfl)⟩
  replace hr := vlS hr m31 em31
  clear em31
  refine lv_aload_n hx hb dX11_init_34 rfl (lv_at hl 0 rfl) ?_
  replace hr := tkS hr
  obtain ⟨zw1, zw2, hr, hq1, hq2⟩ := hr
  refine va_new (ci := 5) (fs := [.int 0, .null, .int 0, .null, .null, .null, .null, .int 0, .null, .null, .null]) (C := RX5) (T := TX5) (N := 11) hx hb hts inX5 tyX5 tyX5_ok hown (hts (.classLink RX11 16 RX5) ic_570) (hts (.instantiable RX5 11) ic_571) (hts (.initialized RX5) ic_248) hK hP hD hS hA rfl (fun j hj => match j, hj with | 0, _ => rfl | 1, _ => rfl | 2, _ => rfl | 3, _ => rfl | 4, _ => rfl | 5, _ => rfl | 6, _ => rfl | 7, _ => rfl | 8, _ => rfl | 9, _ => rfl | 10, _ => rfl | j + 11, hj => absurd hj (by omega)) (by show _ ≤ uc; omega) (by show _ ≤ us; omega) dX11_init_35 (fun q35 H hP2 hD2 hS => ?_)
  replace hr := newcS hr hW hT hD2 (by decide) (fun _ => rfl)
  obtain ⟨G35, P35, U35, V35, X35, O35, kd35, ln35, cnt35, ad35, hr, hW, hT, hE2, hk_n35, hqa⟩ := hr
  subst hqa
  obtain ⟨w15, hP, hD, hW⟩ : ∃ w : va_W, va_P (dC, dI) vwCl w H ∧ va_D A w ∧ LW w ad35 kk kd35 ln35 G35 P35 U35 V35 X35 O35 := ⟨_, hP2, hD2, hW⟩
  clear hP2 hD2
  have ea_this : ad18 this = ad35 this := (hE2.1 this (by rw [hk7_this]; decide)).symm
  have hk15_this := (hE2.2 this (by rw [hk7_this]; decide)).trans hk7_this
  rw [ea_this] at hl
  rw [ea_this]
  clear ea_this
  replace hE := adE hE hE2
  clear hE2
  obtain ⟨ccn16, eccn16⟩ : ∃ y : Nat, y = (ccn8 + 1) := ⟨_, rfl⟩
  obtain ⟨csn16, ecsn16⟩ : ∃ y : Nat, y = (csn8 + 11) := ⟨_, rfl⟩
  refine W.widen (k := ccn16) (n := csn16) (Nat.le_of_eq eccn16.symm) (Nat.le_of_eq ecsn16.symm) ?_
  replace hu1 : ccn16 + zw1 = uc := by omega
  replace hu2 : csn16 + zw2 = us := by omega
  clear eccn16 ecsn16
  refine lv_dup hx hb dX11_init_38 rfl ?_
  replace hr := bA9S hr
  obtain ⟨c39_G, c39_P, c39_U, c39_V, c39_X, c39_O, c39_kd, c39_ln, c39_cnt, zv1, zv2, zw1, zw2, hc39, hr, hq1, hq2⟩ := hr
  have hFc := fr_all hD hS hA
  refine va_callv (va_runIN (As := []) (rest := [.ref (ad35 cnt18), .ref (ad35 this)]) ⟨hx, hb, hml, hown, hts⟩ (m_X5_init l dC dI kk ad35 H.size w15 G35 P35 U35 V35 X35 O35 kd35 ln35 cnt35 cnt18 hk_n35 hW hT c39_G c39_P c39_U c39_V c39_X c39_O c39_kd c39_ln c39_cnt zv1 zv2 hc39) ⟨va_cnB 0 hts (lwC_code ic_501) rfl rfl rfl (en_nRX11_29 hEn) (hts (.initialized RX5) ic_248) (by decide +kernel) ⟨Nat.le_of_ble_eq_true rfl, Nat.le_of_ble_eq_true rfl⟩, rfl, (hts (.instanceMethod yX5_init) ic_572)⟩ ⟨fun a U g mk q => by obtain ⟨q0, q1, qP, qK, qD, qE⟩ := q; exact ⟨q0, q1, qP, va_K.moved (u := U) (U := U.calling g mk a) (Vm.Alike.refl U.vm) qK, qD, en_call qE⟩, fun U hU hW => ⟨rfl, by rw [hU], by rw [hU]; exact hP, va_K.moved hW.alike hK, hD.weaken (fun _ _ _ _ => trivial), en_warm hW hEn⟩⟩ rfl rfl hl.1 rfl (lv_room (Nat.le_of_ble_eq_true rfl)) dX11_init_39 ⟨(by show _ ≤ uc; omega), (by show _ ≤ us; omega)⟩) hS (fun q _ h => hFc q h) hFc (fun w17 t H1 locs ht hvm hw hB hz1 hk1 hS => ?_)
  obtain ⟨w17, ad39_17⟩ := w17
  dsimp only at hw hB
  obtain ⟨hW, hT, hE2⟩ := hw
  obtain ⟨hP1, hK1, hD1⟩ := hB
  rw [ht] at hP1
  obtain ⟨hP, hD⟩ := jn_all (w1 := w17) hFc hP1 hD1
  replace hP : va_P (dC, dI) vwCl w17 H1 := hP
  replace hD : va_D A w17 := hD
  clear hFc hP1 hK1 hD1 hk1 hz1 ht hvm
  generalize H1 = H at hP hS ⊢
  have ea_this : ad35 this = ad39_17 this := (hE2.1 this (by rw [hk15_this]; decide)).symm
  have hk17_this := (hE2.2 this (by rw [hk15_this]; decide)).trans hk15_this
  have ea_cnt18 : ad35 cnt18 = ad39_17 cnt18 := (hE2.1 cnt18 (by rw [hk_n35]; decide)).symm
  have hk17_cnt18 := (hE2.2 cnt18 (by rw [hk_n35]; decide)).trans hk_n35
  rw [ea_this] at hl
  rw [ea_this, ea_cnt18]
  clear ea_this ea_cnt18
  replace hE := adE hE hE2
  clear hE2
  obtain ⟨ccn18, eccn18⟩ : ∃ y : Nat, y = (ccn16 + zv1) := ⟨_, rfl⟩
  obtain ⟨csn18, ecsn18⟩ : ∃ y : Nat, y = (csn16 + zv2) := ⟨_, rfl⟩
  refine W.widen (k := ccn18) (n := csn18) (Nat.le_of_eq eccn18.symm) (Nat.le_of_eq ecsn18.symm) ?_
  replace hu1 : ccn18 + zw1 = uc := by omega
  replace hu2 : csn18 + zw2 = us := by omega
  clear eccn18 ecsn18
  obtain ⟨i19, hi19⟩ := hW.o11 hk17_this
  refine va_put (D := (dC, dI)) (ci := 11) (v := .ref (ad39_17 cnt18)) (ty := (.object "SpellTurner$Reform")) (C := RX11) (T := TX11) (N := 17) hx hb hts inX11 tyX11 tyX11_ok nmX11 hown hK hP hD hS i19 hi19 rfl 4 (by decide) (hts (.fieldLink RX11 30 "SpellTurner" "draft" "LSpellTurner$Reform;") ic_560) (fun _ h9 => h9) rfl (by decide +kernel) rfl rfl (Nat.le_of_ble_eq_true rfl) dX11_init_42 (fun H locs hP2 hD2 hS => ?_)
  obtain ⟨m42, w20, em42, hP, hD, hW⟩ : ∃ (z : Nat → Option Nat) (w : va_W), z = (va_up (c39_P 224) this (some cnt18)) ∧ va_P (dC, dI) vwCl w H ∧ va_D A w ∧ LW w ad39_17 kk c39_kd c39_ln c39_G (va_up c39_P 224 z) c39_U c39_V c39_X c39_O := ⟨_, _, rfl, hP2, hD2, hW.setP hD hi19 (by rw [hk17_this]; decide) 224 (some cnt18) (by rw [hk17_this]; rfl)⟩
  replace hT : TYP c39_kd (va_up c39_P 224 m42) c39_O (c39_V 0) c39_cnt := by rw [em42]; exact hT.setP 224 this cnt18 hk17_cnt18
  replace hr := vlS hr m42 em42
  clear em42
  refine lv_aload_n hx hb dX11_init_45 rfl (lv_at hl 0 rfl) ?_
  replace hr := tkS hr
  obtain ⟨zw1, zw2, hr, hq1, hq2⟩ := hr
  refine va_new (ci := 4) (fs := [.int 0, .int 0, .null, .int 0, .int 0, .int 0, .int 0, .int 0, .int 0]) (C := RX4) (T := TX4) (N := 9) hx hb hts inX4 tyX4 tyX4_ok hown (hts (.classLink RX11 34 RX4) ic_647) (hts (.instantiable RX4 9) ic_648) (hts (.initialized RX4) ic_359) hK hP hD hS hA rfl (fun j hj => match j, hj with | 0, _ => rfl | 1, _ => rfl | 2, _ => rfl | 3, _ => rfl | 4, _ => rfl | 5, _ => rfl | 6, _ => rfl | 7, _ => rfl | 8, _ => rfl | j + 9, hj => absurd hj (by omega)) (by show _ ≤ uc; omega) (by show _ ≤ us; omega) dX11_init_46 (fun q46 H hP2 hD2 hS => ?_)
  replace hr := newcS hr hW hT hD2 (by decide) (fun _ => rfl)
  obtain ⟨G46, P46, U46, V46, X46, O46, kd46, ln46, cnt46, ad46, hr, hW, hT, hE2, hk_n46, hqa⟩ := hr
  subst hqa
  obtain ⟨w21, hP, hD, hW⟩ : ∃ w : va_W, va_P (dC, dI) vwCl w H ∧ va_D A w ∧ LW w ad46 kk kd46 ln46 G46 P46 U46 V46 X46 O46 := ⟨_, hP2, hD2, hW⟩
  clear hP2 hD2
  have ea_this : ad39_17 this = ad46 this := (hE2.1 this (by rw [hk17_this]; decide)).symm
  have hk21_this := (hE2.2 this (by rw [hk17_this]; decide)).trans hk17_this
  rw [ea_this] at hl
  rw [ea_this]
  clear ea_this
  replace hE := adE hE hE2
  clear hE2
  obtain ⟨ccn22, eccn22⟩ : ∃ y : Nat, y = (ccn18 + 1) := ⟨_, rfl⟩
  obtain ⟨csn22, ecsn22⟩ : ∃ y : Nat, y = (csn18 + 9) := ⟨_, rfl⟩
  refine W.widen (k := ccn22) (n := csn22) (Nat.le_of_eq eccn22.symm) (Nat.le_of_eq ecsn22.symm) ?_
  replace hu1 : ccn22 + zw1 = uc := by omega
  replace hu2 : csn22 + zw2 = us := by omega
  clear eccn22 ecsn22
  refine lv_dup hx hb dX11_init_49 rfl ?_
  replace hr := bA9S hr
  obtain ⟨c50_G, c50_P, c50_U, c50_V, c50_X, c50_O, c50_kd, c50_ln, c50_cnt, zv1, zv2, zw1, zw2, hc50, hr, hq1, hq2⟩ := hr
  have hFc := fr_all hD hS hA
  refine va_callv (va_runIN (As := []) (rest := [.ref (ad46 c39_cnt), .ref (ad46 this)]) ⟨hx, hb, hml, hown, hts⟩ (m_X4_init l dC dI kk ad46 H.size w21 G46 P46 U46 V46 X46 O46 kd46 ln46 cnt46 c39_cnt hk_n46 hW hT c50_G c50_P c50_U c50_V c50_X c50_O c50_kd c50_ln c50_cnt zv1 zv2 hc50) ⟨va_cnB 0 hts (lwC_code ic_621) rfl rfl rfl (en_nRX11_36 hEn) (hts (.initialized RX4) ic_359) (by decide +kernel) ⟨Nat.le_of_ble_eq_true rfl, Nat.le_of_ble_eq_true rfl⟩, rfl, (hts (.instanceMethod yX4_init) ic_649)⟩ ⟨fun a U g mk q => by obtain ⟨q0, q1, qP, qK, qD⟩ := q; exact ⟨q0, q1, qP, va_K.moved (u := U) (U := U.calling g mk a) (Vm.Alike.refl U.vm) qK, qD⟩, fun U hU hW => ⟨rfl, by rw [hU], by rw [hU]; exact hP, va_K.moved hW.alike hK, hD.weaken (fun _ _ _ _ => trivial)⟩⟩ rfl rfl hl.1 rfl (lv_room (Nat.le_of_ble_eq_true rfl)) dX11_init_50 ⟨(by show _ ≤ uc; omega), (by show _ ≤ us; omega)⟩) hS (fun q _ h => hFc q h) hFc (fun w23 t H1 locs ht hvm hw hB hz1 hk1 hS => ?_)
  obtain ⟨w23, ad50_23⟩ := w23
  dsimp only at hw hB
  obtain ⟨hW, hT, hE2⟩ := hw
  obtain ⟨hP1, hK1, hD1⟩ := hB
  rw [ht] at hP1
  obtain ⟨hP, hD⟩ := jn_all (w1 := w23) hFc hP1 hD1
  replace hP : va_P (dC, dI) vwCl w23 H1 := hP
  replace hD : va_D A w23 := hD
  clear hFc hP1 hK1 hD1 hk1 hz1 ht hvm
  generalize H1 = H at hP hS ⊢
  have ea_this : ad46 this = ad50_23 this := (hE2.1 this (by rw [hk21_this]; decide)).symm
  have hk23_this := (hE2.2 this (by rw [hk21_this]; decide)).trans hk21_this
  have ea_c39_cnt : ad46 c39_cnt = ad50_23 c39_cnt := (hE2.1 c39_cnt (by rw [hk_n46]; decide)).symm
  have hk23_c39_cnt := (hE2.2 c39_cnt (by rw [hk_n46]; decide)).trans hk_n46
  rw [ea_this] at hl
  rw [ea_this, ea_c39_cnt]
  clear ea_this ea_c39_cnt
  replace hE := adE hE hE2
  clear hE2
  obtain ⟨ccn24, eccn24⟩ : ∃ y : Nat, y = (ccn22 + zv1) := ⟨_, rfl⟩
  obtain ⟨csn24, ecsn24⟩ : ∃ y : Nat, y = (csn22 + zv2) := ⟨_, rfl⟩
  refine W.widen (k := ccn24) (n := csn24) (Nat.le_of_eq eccn24.symm) (Nat.le_of_eq ecsn24.symm) ?_
  replace hu1 : ccn24 + zw1 = uc := by omega
  replace hu2 : csn24 + zw2 = us := by omega
  clear eccn24 ecsn24
  obtain ⟨i25, hi25⟩ := hW.o11 hk23_this
  refine va_putF (D := (dC, dI)) (ci := 11) (v := .ref (ad50_23 c39_cnt)) (ty := (.object "SpellTurner$Reader")) (C := RX11) (T := TX11) (N := 17) hx hb hts inX11 tyX11 tyX11_ok nmX11 hown hK hP hD hS i25 hi25 rfl 5 (by decide) (hts (.fieldLink RX11 37 "SpellTurner" "reader" "LSpellTurner$Reader;") ic_71) (fun _ h9 => h9) rfl hin rfl (by decide +kernel) rfl rfl (Nat.le_of_ble_eq_true rfl) dX11_init_53 (fun H locs hP2 hD2 hS => ?_)
  obtain ⟨m53, w26, em53, hP, hD, hW⟩ : ∃ (z : Nat → Option Nat) (w : va_W), z = (va_up (c50_P 225) this (some c39_cnt)) ∧ va_P (dC, dI) vwCl w H ∧ va_D A w ∧ LW w ad50_23 kk c50_kd c50_ln c50_G (va_up c50_P 225 z) c50_U c50_V c50_X c50_O := ⟨_, _, rfl, hP2, hD2, hW.setP hD hi25 (by rw [hk23_this]; decide) 225 (some c39_cnt) (by rw [hk23_this]; rfl)⟩
  replace hT : TYP c50_kd (va_up c50_P 225 m53) c50_O (c50_V 0) c50_cnt := by rw [em53]; exact hT.setP 225 this c39_cnt hk23_c39_cnt
  replace hr := vlS hr m53 em53
  clear em53
  refine lv_aload_n hx hb dX11_init_56 rfl (lv_at hl 0 rfl) ?_
  replace hr := tkS hr
  obtain ⟨zw1, zw2, hr, hq1, hq2⟩ := hr
  refine va_new (ci := 9) (fs := [.null, .null, .null, .int 0, .long 0, .null, .null, .null]) (C := RX9) (T := TX9) (N := 8) hx hb hts inX9 tyX9 tyX9_ok hown (hts (.classLink RX11 41 RX9) ic_650) (hts (.instantiable RX9 8) ic_651) (hts (.initialized RX9) ic_301) hK hP hD hS hA rfl (fun j hj => match j, hj with | 0, _ => rfl | 1, _ => rfl | 2, _ => rfl | 3, _ => rfl | 4, _ => rfl | 5, _ => rfl | 6, _ => rfl | 7, _ => rfl | j + 8, hj => absurd hj (by omega)) (by show _ ≤ uc; omega) (by show _ ≤ us; omega) dX11_init_57 (fun q57 H hP2 hD2 hS => ?_)
  replace hr := newcS hr hW hT hD2 (by decide) (fun _ => rfl)
  obtain ⟨G57, P57, U57, V57, X57, O57, kd57, ln57, cnt57, ad57, hr, hW, hT, hE2, hk_n57, hqa⟩ := hr
  subst hqa
  obtain ⟨w27, hP, hD, hW⟩ : ∃ w : va_W, va_P (dC, dI) vwCl w H ∧ va_D A w ∧ LW w ad57 kk kd57 ln57 G57 P57 U57 V57 X57 O57 := ⟨_, hP2, hD2, hW⟩
  clear hP2 hD2
  have ea_this : ad50_23 this = ad57 this := (hE2.1 this (by rw [hk23_this]; decide)).symm
  have hk27_this := (hE2.2 this (by rw [hk23_this]; decide)).trans hk23_this
  rw [ea_this] at hl
  rw [ea_this]
  clear ea_this
  replace hE := adE hE hE2
  clear hE2
  obtain ⟨ccn28, eccn28⟩ : ∃ y : Nat, y = (ccn24 + 1) := ⟨_, rfl⟩
  obtain ⟨csn28, ecsn28⟩ : ∃ y : Nat, y = (csn24 + 8) := ⟨_, rfl⟩
  refine W.widen (k := ccn28) (n := csn28) (Nat.le_of_eq eccn28.symm) (Nat.le_of_eq ecsn28.symm) ?_
  replace hu1 : ccn28 + zw1 = uc := by omega
  replace hu2 : csn28 + zw2 = us := by omega
  clear eccn28 ecsn28
  refine lv_dup hx hb dX11_init_60 rfl ?_
  replace hr := bA9S hr
  obtain ⟨c61_G, c61_P, c61_U, c61_V, c61_X, c61_O, c61_kd, c61_ln, c61_cnt, zv1, zv2, zw1, zw2, hc61, hr, hq1, hq2⟩ := hr
  have hFc := fr_all hD hS hA
  refine va_callv (va_runIN (As := []) (rest := [.ref (ad57 c50_cnt), .ref (ad57 this)]) ⟨hx, hb, hml, hown, hts⟩ (m_X9_init l dC dI kk ad57 H.size w27 G57 P57 U57 V57 X57 O57 kd57 ln57 cnt57 c50_cnt hk_n57 hW hT c61_G c61_P c61_U c61_V c61_X c61_O c61_kd c61_ln c61_cnt zv1 zv2 hc61) ⟨va_cnB 0 hts (lwC_code ic_627) rfl rfl rfl (en_nRX11_43 hEn) (hts (.initialized RX9) ic_301) (by decide +kernel) ⟨Nat.le_of_ble_eq_true rfl, Nat.le_of_ble_eq_true rfl⟩, rfl, (hts (.instanceMethod yX9_init) ic_652)⟩ ⟨fun a U g mk q => by obtain ⟨q0, q1, qP, qK, qD, qE⟩ := q; exact ⟨q0, q1, qP, va_K.moved (u := U) (U := U.calling g mk a) (Vm.Alike.refl U.vm) qK, qD, en_call qE⟩, fun U hU hW => ⟨rfl, by rw [hU], by rw [hU]; exact hP, va_K.moved hW.alike hK, hD.weaken (fun _ _ _ _ => trivial), en_warm hW hEn⟩⟩ rfl rfl hl.1 rfl (lv_room (Nat.le_of_ble_eq_true rfl)) dX11_init_61 ⟨(by show _ ≤ uc; omega), (by show _ ≤ us; omega)⟩) hS (fun q _ h => hFc q h) hFc (fun w29 t H1 locs ht hvm hw hB hz1 hk1 hS => ?_)
  obtain ⟨w29, ad61_29⟩ := w29
  dsimp only at hw hB
  obtain ⟨hW, hT, hE2⟩ := hw
  obtain ⟨hP1, hK1, hD1⟩ := hB
  rw [ht] at hP1
  obtain ⟨hP, hD⟩ := jn_all (w1 := w29) hFc hP1 hD1
  replace hP : va_P (dC, dI) vwCl w29 H1 := hP
  replace hD : va_D A w29 := hD
  clear hFc hP1 hK1 hD1 hk1 hz1 ht hvm
  generalize H1 = H at hP hS ⊢
  have ea_this : ad57 this = ad61_29 this := (hE2.1 this (by rw [hk27_this]; decide)).symm
  have hk29_this := (hE2.2 this (by rw [hk27_this]; decide)).trans hk27_this
  have ea_c50_cnt : ad57 c50_cnt = ad61_29 c50_cnt := (hE2.1 c50_cnt (by rw [hk_n57]; decide)).symm
  have hk29_c50_cnt := (hE2.2 c50_cnt (by rw [hk_n57]; decide)).trans hk_n57
  rw [ea_this] at hl
  rw [ea_this, ea_c50_cnt]
  clear ea_this ea_c50_cnt
  replace hE := adE hE hE2
  clear hE2
  obtain ⟨ccn30, eccn30⟩ : ∃ y : Nat, y = (ccn28 + zv1) := ⟨_, rfl⟩
  obtain ⟨csn30, ecsn30⟩ : ∃ y : Nat, y = (csn28 + zv2) := ⟨_, rfl⟩
  refine W.widen (k := ccn30) (n := csn30) (Nat.le_of_eq eccn30.symm) (Nat.le_of_eq ecsn30.symm) ?_
  replace hu1 : ccn30 + zw1 = uc := by omega
  replace hu2 : csn30 + zw2 = us := by omega
  clear eccn30 ecsn30
  obtain ⟨i31, hi31⟩ := hW.o11 hk29_this
  refine va_putF (D := (dC, dI)) (ci := 11) (v := .ref (ad61_29 c50_cnt)) (ty := (.object "SpellTurner$Turner")) (C := RX11) (T := TX11) (N := 17) hx hb hts inX11 tyX11 tyX11_ok nmX11 hown hK hP hD hS i31 hi31 rfl 6 (by decide) (hts (.fieldLink RX11 44 "SpellTurner" "turner" "LSpellTurner$Turner;") ic_340) (fun _ h9 => h9) rfl hin rfl (by decide +kernel) rfl rfl (Nat.le_of_ble_eq_true rfl) dX11_init_64 (fun H locs hP2 hD2 hS => ?_)
  obtain ⟨m64, w32, em64, hP, hD, hW⟩ : ∃ (z : Nat → Option Nat) (w : va_W), z = (va_up (c61_P 226) this (some c50_cnt)) ∧ va_P (dC, dI) vwCl w H ∧ va_D A w ∧ LW w ad61_29 kk c61_kd c61_ln c61_G (va_up c61_P 226 z) c61_U c61_V c61_X c61_O := ⟨_, _, rfl, hP2, hD2, hW.setP hD hi31 (by rw [hk29_this]; decide) 226 (some c50_cnt) (by rw [hk29_this]; rfl)⟩
  replace hT : TYP c61_kd (va_up c61_P 226 m64) c61_O (c61_V 0) c61_cnt := by rw [em64]; exact hT.setP 226 this c50_cnt hk29_c50_cnt
  replace hr := vlS hr m64 em64
  clear em64
  refine lv_aload_n hx hb dX11_init_67 rfl (lv_at hl 0 rfl) ?_
  replace hr := tkS hr
  obtain ⟨zw1, zw2, hr, hq1, hq2⟩ := hr
  refine va_new (ci := 10) (fs := [.int 0, .null, .null, .int 0]) (C := RX10) (T := TX10) (N := 4) hx hb hts inX10 tyX10 tyX10_ok hown (hts (.classLink RX11 48 RX10) ic_653) (hts (.instantiable RX10 4) ic_505) (hts (.initialized RX10) ic_12) hK hP hD hS hA rfl (fun j hj => match j, hj with | 0, _ => rfl | 1, _ => rfl | 2, _ => rfl | 3, _ => rfl | j + 4, hj => absurd hj (by omega)) (by show _ ≤ uc; omega) (by show _ ≤ us; omega) dX11_init_68 (fun q68 H hP2 hD2 hS => ?_)
  replace hr := newcS hr hW hT hD2 (by decide) (fun _ => rfl)
  obtain ⟨G68, P68, U68, V68, X68, O68, kd68, ln68, cnt68, ad68, hr, hW, hT, hE2, hk_n68, hqa⟩ := hr
  subst hqa
  obtain ⟨w33, hP, hD, hW⟩ : ∃ w : va_W, va_P (dC, dI) vwCl w H ∧ va_D A w ∧ LW w ad68 kk kd68 ln68 G68 P68 U68 V68 X68 O68 := ⟨_, hP2, hD2, hW⟩
  clear hP2 hD2
  have ea_this : ad61_29 this = ad68 this := (hE2.1 this (by rw [hk29_this]; decide)).symm
  have hk33_this := (hE2.2 this (by rw [hk29_this]; decide)).trans hk29_this
  rw [ea_this] at hl
  rw [ea_this]
  clear ea_this
  replace hE := adE hE hE2
  clear hE2
  obtain ⟨ccn34, eccn34⟩ : ∃ y : Nat, y = (ccn30 + 1) := ⟨_, rfl⟩
  obtain ⟨csn34, ecsn34⟩ : ∃ y : Nat, y = (csn30 + 4) := ⟨_, rfl⟩
  refine W.widen (k := ccn34) (n := csn34) (Nat.le_of_eq eccn34.symm) (Nat.le_of_eq ecsn34.symm) ?_
  replace hu1 : ccn34 + zw1 = uc := by omega
  replace hu2 : csn34 + zw2 = us := by omega
  clear eccn34 ecsn34
  refine lv_dup hx hb dX11_init_71 rfl ?_
  refine lv_bipush (v := 12) hx hb dX11_init_72 (by decide +kernel) ?_
  refine lv_bipush (v := 24) hx hb dX11_init_74 (by decide +kernel) ?_
  replace hr := bA9S hr
  obtain ⟨c76_G, c76_P, c76_U, c76_V, c76_X, c76_O, c76_kd, c76_ln, c76_cnt, zv1, zv2, zw1, zw2, hc76, hr, hq1, hq2⟩ := hr
  have hFc := fr_all hD hS hA
  refine va_callv (va_runI (As := [.int 12, .int 24]) (rest := [.ref (ad68 c61_cnt), .ref (ad68 this)]) ⟨hx, hb, hml, hown, hts⟩ (m_X10_init l dC dI kk ad68 H.size w33 G68 P68 U68 V68 X68 O68 kd68 ln68 cnt68 c61_cnt 12 24 hk_n68 hW hT c76_G c76_P c76_U c76_V c76_X c76_O c76_kd c76_ln c76_cnt zv1 zv2 hc76) (cwI 2 hts (lwC_code ic_492) rfl rfl rfl (hts (.initialized RX10) ic_12) (hts (.methodLink RX11 50 yX10_init) ic_654) (hts (.instanceMethod yX10_init) ic_507) rfl (by decide +kernel) ⟨Nat.le_of_ble_eq_true rfl, Nat.le_of_ble_eq_true rfl⟩) ⟨fun a U g mk q => by obtain ⟨q0, q1, qP, qK, qD⟩ := q; exact ⟨q0, q1, qP, va_K.moved (u := U) (U := U.calling g mk a) (Vm.Alike.refl U.vm) qK, qD⟩, fun U hU hW => ⟨rfl, by rw [hU], by rw [hU]; exact hP, va_K.moved hW.alike hK, hD.weaken (fun _ _ _ _ => trivial)⟩⟩ rfl rfl hl.1 rfl (lv_room (Nat.le_of_ble_eq_true rfl)) dX11_init_76 ⟨(by show _ ≤ uc; omega), (by show _ ≤ us; omega)⟩) hS (fun q _ h => hFc q h) hFc (fun w35 t H1 locs ht hvm hw hB hz1 hk1 hS => ?_)
  obtain ⟨w35, ad76_35⟩ := w35
  dsimp only at hw hB
  obtain ⟨hW, hT, hE2⟩ := hw
  obtain ⟨hP1, hK1, hD1⟩ := hB
  rw [ht] at hP1
  obtain ⟨hP, hD⟩ := jn_all (w1 := w35) hFc hP1 hD1
  replace hP : va_P (dC, dI) vwCl w35 H1 := hP
  replace hD : va_D A w35 := hD
  clear hFc hP1 hK1 hD1 hk1 hz1 ht hvm
  generalize H1 = H at hP hS ⊢
  have ea_this : ad68 this = ad76_35 this := (hE2.1 this (by rw [hk33_this]; decide)).symm
  have hk35_this := (hE2.2 this (by rw [hk33_this]; decide)).trans hk33_this
  have ea_c61_cnt : ad68 c61_cnt = ad76_35 c61_cnt := (hE2.1 c61_cnt (by rw [hk_n68]; decide)).symm
  have hk35_c61_cnt := (hE2.2 c61_cnt (by rw [hk_n68]; decide)).trans hk_n68
  rw [ea_this] at hl
  rw [ea_this, ea_c61_cnt]
  clear ea_this ea_c61_cnt
  replace hE := adE hE hE2
  clear hE2
  obtain ⟨ccn36, eccn36⟩ : ∃ y : Nat, y = (ccn34 + zv1) := ⟨_, rfl⟩
  obtain ⟨csn36, ecsn36⟩ : ∃ y : Nat, y = (csn34 + zv2) := ⟨_, rfl⟩
  refine W.widen (k := ccn36) (n := csn36) (Nat.le_of_eq eccn36.symm) (Nat.le_of_eq ecsn36.symm) ?_
  replace hu1 : ccn36 + zw1 = uc := by omega
  replace hu2 : csn36 + zw2 = us := by omega
  clear eccn36 ecsn36
  obtain ⟨i37, hi37⟩ := hW.o11 hk35_this
  refine va_putF (D := (dC, dI)) (ci := 11) (v := .ref (ad76_35 c61_cnt)) (ty := (.object "SpellTurner$WordRow")) (C := RX11) (T := TX11) (N := 17) hx hb hts inX11 tyX11 tyX11_ok nmX11 hown hK hP hD hS i37 hi37 rfl 7 (by decide) (hts (.fieldLink RX11 53 "SpellTurner" "latestForms" "LSpellTurner$WordRow;") ic_135) (fun _ h9 => h9) rfl hin rfl (by decide +kernel) rfl rfl (Nat.le_of_ble_eq_true rfl) dX11_init_79 (fun H locs hP2 hD2 hS => ?_)
  obtain ⟨m79, w38, em79, hP, hD, hW⟩ : ∃ (z : Nat → Option Nat) (w : va_W), z = (va_up (c76_P 227) this (some c61_cnt)) ∧ va_P (dC, dI) vwCl w H ∧ va_D A w ∧ LW w ad76_35 kk c76_kd c76_ln c76_G (va_up c76_P 227 z) c76_U c76_V c76_X c76_O := ⟨_, _, rfl, hP2, hD2, hW.setP hD hi37 (by rw [hk35_this]; decide) 227 (some c61_cnt) (by rw [hk35_this]; rfl)⟩
  replace hT : TYP c76_kd (va_up c76_P 227 m79) c76_O (c76_V 0) c76_cnt := by rw [em79]; exact hT.setP 227 this c61_cnt hk35_c61_cnt
  replace hr := vlS hr m79 em79
  clear em79
  refine lv_aload_n hx hb dX11_init_82 rfl (lv_at hl 0 rfl) ?_
  replace hr := tkS hr
  obtain ⟨zw1, zw2, hr, hq1, hq2⟩ := hr
  refine va_new (ci := 3) (fs := [.int 0, .null, .null, .null, .null, .null, .null]) (C := RX3) (T := TX3) (N := 7) hx hb hts inX3 tyX3 tyX3_ok hown (hts (.classLink RX11 57 RX3) ic_655) (hts (.instantiable RX3 7) ic_630) (hts (.initialized RX3) ic_168) hK hP hD hS hA rfl (fun j hj => match j, hj with | 0, _ => rfl | 1, _ => rfl | 2, _ => rfl | 3, _ => rfl | 4, _ => rfl | 5, _ => rfl | 6, _ => rfl | j + 7, hj => absurd hj (by omega)) (by show _ ≤ uc; omega) (by show _ ≤ us; omega) dX11_init_83 (fun q83 H hP2 hD2 hS => ?_)
  replace hr := newcS hr hW hT hD2 (by decide) (fun _ => rfl)
  obtain ⟨G83, P83, U83, V83, X83, O83, kd83, ln83, cnt83, ad83, hr, hW, hT, hE2, hk_n83, hqa⟩ := hr
  subst hqa
  obtain ⟨w39, hP, hD, hW⟩ : ∃ w : va_W, va_P (dC, dI) vwCl w H ∧ va_D A w ∧ LW w ad83 kk kd83 ln83 G83 P83 U83 V83 X83 O83 := ⟨_, hP2, hD2, hW⟩
  clear hP2 hD2
  have ea_this : ad76_35 this = ad83 this := (hE2.1 this (by rw [hk35_this]; decide)).symm
  have hk39_this := (hE2.2 this (by rw [hk35_this]; decide)).trans hk35_this
  rw [ea_this] at hl
  rw [ea_this]
  clear ea_this
  replace hE := adE hE hE2
  clear hE2
  obtain ⟨ccn40, eccn40⟩ : ∃ y : Nat, y = (ccn36 + 1) := ⟨_, rfl⟩
  obtain ⟨csn40, ecsn40⟩ : ∃ y : Nat, y = (csn36 + 7) := ⟨_, rfl⟩
  refine W.widen (k := ccn40) (n := csn40) (Nat.le_of_eq eccn40.symm) (Nat.le_of_eq ecsn40.symm) ?_
  replace hu1 : ccn40 + zw1 = uc := by omega
  replace hu2 : csn40 + zw2 = us := by omega
  clear eccn40 ecsn40
  refine lv_dup hx hb dX11_init_86 rfl ?_
  replace hr := bA9S hr
  obtain ⟨c87_G, c87_P, c87_U, c87_V, c87_X, c87_O, c87_kd, c87_ln, c87_cnt, zv1, zv2, zw1, zw2, hc87, hr, hq1, hq2⟩ := hr
  have hFc := fr_all hD hS hA
  refine va_callv (va_runIN (As := []) (rest := [.ref (ad83 c76_cnt), .ref (ad83 this)]) ⟨hx, hb, hml, hown, hts⟩ (m_X3_init l dC dI kk ad83 H.size w39 G83 P83 U83 V83 X83 O83 kd83 ln83 cnt83 c76_cnt hk_n83 hW hT c87_G c87_P c87_U c87_V c87_X c87_O c87_kd c87_ln c87_cnt zv1 zv2 hc87) ⟨va_cnB 0 hts (lwC_code ic_623) rfl rfl rfl (en_nRX11_59 hEn) (hts (.initialized RX3) ic_168) (by decide +kernel) ⟨Nat.le_of_ble_eq_true rfl, Nat.le_of_ble_eq_true rfl⟩, rfl, (hts (.instanceMethod yX3_init) ic_631)⟩ ⟨fun a U g mk q => by obtain ⟨q0, q1, qP, qK, qD⟩ := q; exact ⟨q0, q1, qP, va_K.moved (u := U) (U := U.calling g mk a) (Vm.Alike.refl U.vm) qK, qD⟩, fun U hU hW => ⟨rfl, by rw [hU], by rw [hU]; exact hP, va_K.moved hW.alike hK, hD.weaken (fun _ _ _ _ => trivial)⟩⟩ rfl rfl hl.1 rfl (lv_room (Nat.le_of_ble_eq_true rfl)) dX11_init_87 ⟨(by show _ ≤ uc; omega), (by show _ ≤ us; omega)⟩) hS (fun q _ h => hFc q h) hFc (fun w41 t H1 locs ht hvm hw hB hz1 hk1 hS => ?_)
  obtain ⟨w41, ad87_41⟩ := w41
  dsimp only at hw hB
  obtain ⟨hW, hT, hE2⟩ := hw
  obtain ⟨hP1, hK1, hD1⟩ := hB
  rw [ht] at hP1
  obtain ⟨hP, hD⟩ := jn_all (w1 := w41) hFc hP1 hD1
  replace hP : va_P (dC, dI) vwCl w41 H1 := hP
  replace hD : va_D A w41 := hD
  clear hFc hP1 hK1 hD1 hk1 hz1 ht hvm
  generalize H1 = H at hP hS ⊢
  have ea_this : ad83 this = ad87_41 this := (hE2.1 this (by rw [hk39_this]; decide)).symm
  have hk41_this := (hE2.2 this (by rw [hk39_this]; decide)).trans hk39_this
  have ea_c76_cnt : ad83 c76_cnt = ad87_41 c76_cnt := (hE2.1 c76_cnt (by rw [hk_n83]; decide)).symm
  have hk41_c76_cnt := (hE2.2 c76_cnt (by rw [hk_n83]; decide)).trans hk_n83
  rw [ea_this] at hl
  rw [ea_this, ea_c76_cnt]
  clear ea_this ea_c76_cnt
  replace hE := adE hE hE2
  clear hE2
  obtain ⟨ccn42, eccn42⟩ : ∃ y : Nat, y = (ccn40 + zv1) := ⟨_, rfl⟩
  obtain ⟨csn42, ecsn42⟩ : ∃ y : Nat, y = (csn40 + zv2) := ⟨_, rfl⟩
  refine W.widen (k := ccn42) (n := csn42) (Nat.le_of_eq eccn42.symm) (Nat.le_of_eq ecsn42.symm) ?_
  replace hu1 : ccn42 + zw1 = uc := by omega
  replace hu2 : csn42 + zw2 = us := by omega
  clear eccn42 ecsn42
  obtain ⟨i43, hi43⟩ := hW.o11 hk41_this
  refine va_putF (D := (dC, dI)) (ci := 11) (v := .ref (ad87_41 c76_cnt)) (ty := (.object "SpellTurner$Partings")) (C := RX11) (T := TX11) (N := 17) hx hb hts inX11 tyX11 tyX11_ok nmX11 hown hK hP hD hS i43 hi43 rfl 8 (by decide) (hts (.fieldLink RX11 60 "SpellTurner" "latestPartings" "LSpellTurner$Partings;") ic_173) (fun _ h9 => h9) rfl hin rfl (by decide +kernel) rfl rfl (Nat.le_of_ble_eq_true rfl) dX11_init_90 (fun H locs hP2 hD2 hS => ?_)
  obtain ⟨m90, w44, em90, hP, hD, hW⟩ : ∃ (z : Nat → Option Nat) (w : va_W), z = (va_up (c87_P 228) this (some c76_cnt)) ∧ va_P (dC, dI) vwCl w H ∧ va_D A w ∧ LW w ad87_41 kk c87_kd c87_ln c87_G (va_up c87_P 228 z) c87_U c87_V c87_X c87_O := ⟨_, _, rfl, hP2, hD2, hW.setP hD hi43 (by rw [hk41_this]; decide) 228 (some c76_cnt) (by rw [hk41_this]; rfl)⟩
  replace hT : TYP c87_kd (va_up c87_P 228 m90) c87_O (c87_V 0) c87_cnt := by rw [em90]; exact hT.setP 228 this c76_cnt hk41_c76_cnt
  replace hr := vlS hr m90 em90
  clear em90
  refine lv_aload_n hx hb dX11_init_93 rfl (lv_at hl 0 rfl) ?_
  replace hr := tkS hr
  obtain ⟨zw1, zw2, hr, hq1, hq2⟩ := hr
  refine va_new (ci := 0) (fs := [.null, .null, .null, .null, .null, .null]) (C := RX0) (T := TX0) (N := 6) hx hb hts inX0 tyX0 tyX0_ok hown (hts (.classLink RX11 64 RX0) ic_656) (hts (.instantiable RX0 6) ic_657) (hts (.initialized RX0) ic_81) hK hP hD hS hA rfl (fun j hj => match j, hj with | 0, _ => rfl | 1, _ => rfl | 2, _ => rfl | 3, _ => rfl | 4, _ => rfl | 5, _ => rfl | j + 6, hj => absurd hj (by omega)) (by show _ ≤ uc; omega) (by show _ ≤ us; omega) dX11_init_94 (fun q94 H hP2 hD2 hS => ?_)
  replace hr := newcS hr hW hT hD2 (by decide) (fun _ => rfl)
  obtain ⟨G94, P94, U94, V94, X94, O94, kd94, ln94, cnt94, ad94, hr, hW, hT, hE2, hk_n94, hqa⟩ := hr
  subst hqa
  obtain ⟨w45, hP, hD, hW⟩ : ∃ w : va_W, va_P (dC, dI) vwCl w H ∧ va_D A w ∧ LW w ad94 kk kd94 ln94 G94 P94 U94 V94 X94 O94 := ⟨_, hP2, hD2, hW⟩
  clear hP2 hD2
  have ea_this : ad87_41 this = ad94 this := (hE2.1 this (by rw [hk41_this]; decide)).symm
  have hk45_this := (hE2.2 this (by rw [hk41_this]; decide)).trans hk41_this
  rw [ea_this] at hl
  rw [ea_this]
  clear ea_this
  replace hE := adE hE hE2
  clear hE2
  obtain ⟨ccn46, eccn46⟩ : ∃ y : Nat, y = (ccn42 + 1) := ⟨_, rfl⟩
  obtain ⟨csn46, ecsn46⟩ : ∃ y : Nat, y = (csn42 + 6) := ⟨_, rfl⟩
  refine W.widen (k := ccn46) (n := csn46) (Nat.le_of_eq eccn46.symm) (Nat.le_of_eq ecsn46.symm) ?_
  replace hu1 : ccn46 + zw1 = uc := by omega
  replace hu2 : csn46 + zw2 = us := by omega
  clear eccn46 ecsn46
  refine lv_dup hx hb dX11_init_97 rfl ?_
  replace hr := bA9S hr
  obtain ⟨c98_G, c98_P, c98_U, c98_V, c98_X, c98_O, c98_kd, c98_ln, c98_cnt, zv1, zv2, zw1, zw2, hc98, hr, hq1, hq2⟩ := hr
  have hFc := fr_all hD hS hA
  refine va_callv (va_runIN (As := []) (rest := [.ref (ad94 c87_cnt), .ref (ad94 this)]) ⟨hx, hb, hml, hown, hts⟩ (m_X0_init l dC dI kk ad94 H.size w45 G94 P94 U94 V94 X94 O94 kd94 ln94 cnt94 c87_cnt hk_n94 hW hT c98_G c98_P c98_U c98_V c98_X c98_O c98_kd c98_ln c98_cnt zv1 zv2 hc98) ⟨va_cnB 0 hts (lwC_code ic_634) rfl rfl rfl (en_nRX11_66 hEn) (hts (.initialized RX0) ic_81) (by decide +kernel) ⟨Nat.le_of_ble_eq_true rfl, Nat.le_of_ble_eq_true rfl⟩, rfl, (hts (.instanceMethod yX0_init) ic_658)⟩ ⟨fun a U g mk q => by obtain ⟨q0, q1, qP, qK, qD, qE⟩ := q; exact ⟨q0, q1, qP, va_K.moved (u := U) (U := U.calling g mk a) (Vm.Alike.refl U.vm) qK, qD, en_call qE⟩, fun U hU hW => ⟨rfl, by rw [hU], by rw [hU]; exact hP, va_K.moved hW.alike hK, hD.weaken (fun _ _ _ _ => trivial), en_warm hW hEn⟩⟩ rfl rfl hl.1 rfl (lv_room (Nat.le_of_ble_eq_true rfl)) dX11_init_98 ⟨(by show _ ≤ uc; omega), (by show _ ≤ us; omega)⟩) hS (fun q _ h => hFc q h) hFc (fun w47 t H1 locs ht hvm hw hB hz1 hk1 hS => ?_)
  obtain ⟨w47, ad98_47⟩ := w47
  dsimp only at hw hB
  obtain ⟨hW, hT, hE2⟩ := hw
  obtain ⟨hP1, hK1, hD1⟩ := hB
  rw [ht] at hP1
  obtain ⟨hP, hD⟩ := jn_all (w1 := w47) hFc hP1 hD1
  replace hP : va_P (dC, dI) vwCl w47 H1 := hP
  replace hD : va_D A w47 := hD
  clear hFc hP1 hK1 hD1 hk1 hz1 ht hvm
  generalize H1 = H at hP hS ⊢
  have ea_this : ad94 this = ad98_47 this := (hE2.1 this (by rw [hk45_this]; decide)).symm
  have hk47_this := (hE2.2 this (by rw [hk45_this]; decide)).trans hk45_this
  have ea_c87_cnt : ad94 c87_cnt = ad98_47 c87_cnt := (hE2.1 c87_cnt (by rw [hk_n94]; decide)).symm
  have hk47_c87_cnt := (hE2.2 c87_cnt (by rw [hk_n94]; decide)).trans hk_n94
  rw [ea_this] at hl
  rw [ea_this, ea_c87_cnt]
  clear ea_this ea_c87_cnt
  replace hE := adE hE hE2
  clear hE2
  obtain ⟨ccn48, eccn48⟩ : ∃ y : Nat, y = (ccn46 + zv1) := ⟨_, rfl⟩
  obtain ⟨csn48, ecsn48⟩ : ∃ y : Nat, y = (csn46 + zv2) := ⟨_, rfl⟩
  refine W.widen (k := ccn48) (n := csn48) (Nat.le_of_eq eccn48.symm) (Nat.le_of_eq ecsn48.symm) ?_
  replace hu1 : ccn48 + zw1 = uc := by omega
  replace hu2 : csn48 + zw2 = us := by omega
  clear eccn48 ecsn48
  obtain ⟨i49, hi49⟩ := hW.o11 hk47_this
  refine va_putF (D := (dC, dI)) (ci := 11) (v := .ref (ad98_47 c87_cnt)) (ty := (.object "SpellTurner$Book")) (C := RX11) (T := TX11) (N := 17) hx hb hts inX11 tyX11 tyX11_ok nmX11 hown hK hP hD hS i49 hi49 rfl 9 (by decide) (hts (.fieldLink RX11 67 "SpellTurner" "book" "LSpellTurner$Book;") ic_106) (fun _ h9 => h9) rfl hin rfl (by decide +kernel) rfl rfl (Nat.le_of_ble_eq_true rfl) dX11_init_101 (fun H locs hP2 hD2 hS => ?_)
  obtain ⟨m101, w50, em101, hP, hD, hW⟩ : ∃ (z : Nat → Option Nat) (w : va_W), z = (va_up (c98_P 229) this (some c87_cnt)) ∧ va_P (dC, dI) vwCl w H ∧ va_D A w ∧ LW w ad98_47 kk c98_kd c98_ln c98_G (va_up c98_P 229 z) c98_U c98_V c98_X c98_O := ⟨_, _, rfl, hP2, hD2, hW.setP hD hi49 (by rw [hk47_this]; decide) 229 (some c87_cnt) (by rw [hk47_this]; rfl)⟩
  replace hT : TYP c98_kd (va_up c98_P 229 m101) c98_O (c98_V 0) c98_cnt := by rw [em101]; exact hT.setP 229 this c87_cnt hk47_c87_cnt
  replace hr := vlS hr m101 em101
  clear em101
  refine lv_aload_n hx hb dX11_init_104 rfl (lv_at hl 0 rfl) ?_
  refine lv_bipush (v := 100) hx hb dX11_init_105 (by decide +kernel) ?_
  replace hr := iteS hr
  obtain ⟨hi107, hr⟩ := hr
  replace hr := tkS hr
  obtain ⟨zw1, zw2, hr, hq1, hq2⟩ := hr
  refine va_newa (atype := .int) (a0 := ((Int32.toNatClampNeg 100), .inl (fun _ => 0))) (ty := .int) (N' := (Int32.toNatClampNeg 100)) hx hb (hts (.arrayClass .int) ic_497) rfl hK hP hD hS hA (fun _ => rfl) (nabS hi107).1 rfl (nabB hi107 (by decide)) (by show _ ≤ uc; omega) (by show _ ≤ us; omega) dX11_init_107 (fun q107 cA H hK2 hP2 hD2 hS => ?_)
  obtain rfl : cA = kk 1 := kA_int hK2
  clear hK2
  replace hr := newcS hr hW hT hD2 (by decide) (fun _ => rfl)
  obtain ⟨G107, P107, U107, V107, X107, O107, kd107, ln107, cnt107, ad107, hr, hW, hT, hE2, hk_n107, hqa⟩ := hr
  subst hqa
  obtain ⟨w51, hP, hD, hW⟩ : ∃ w : va_W, va_P (dC, dI) vwCl w H ∧ va_D A w ∧ LW w ad107 kk kd107 ln107 G107 P107 U107 V107 X107 O107 := ⟨_, hP2, hD2, hW⟩
  clear hP2 hD2
  have ea_this : ad98_47 this = ad107 this := (hE2.1 this (by rw [hk47_this]; decide)).symm
  have hk51_this := (hE2.2 this (by rw [hk47_this]; decide)).trans hk47_this
  rw [ea_this] at hl
  rw [ea_this]
  clear ea_this
  replace hE := adE hE hE2
  clear hE2
  obtain ⟨ccn52, eccn52⟩ : ∃ y : Nat, y = (ccn48 + 1) := ⟨_, rfl⟩
  obtain ⟨csn52, ecsn52⟩ : ∃ y : Nat, y = (csn48 + (Int32.toNatClampNeg 100)) := ⟨_, rfl⟩
  refine W.widen (k := ccn52) (n := csn52) (Nat.le_of_eq eccn52.symm) (Nat.le_of_eq ecsn52.symm) ?_
  replace hu1 : ccn52 + zw1 = uc := by omega
  replace hu2 : csn52 + zw2 = us := by omega
  clear eccn52 ecsn52
  obtain ⟨i53, hi53⟩ := hW.o11 hk51_this
  refine va_putF (D := (dC, dI)) (ci := 11) (v := .ref (ad107 c98_cnt)) (ty := (.array .int)) (C := RX11) (T := TX11) (N := 17) hx hb hts inX11 tyX11 tyX11_ok nmX11 hown hK hP hD hS i53 hi53 rfl 10 (by decide) (hts (.fieldLink RX11 71 "SpellTurner" "owners" "[I") ic_159) (fun _ h9 => h9) rfl hin rfl (by decide +kernel) rfl rfl (Nat.le_of_ble_eq_true rfl) dX11_init_109 (fun H locs hP2 hD2 hS => ?_)
  obtain ⟨m109, w54, em109, hP, hD, hW⟩ : ∃ (z : Nat → Option Nat) (w : va_W), z = (va_up (P107 230) this (some c98_cnt)) ∧ va_P (dC, dI) vwCl w H ∧ va_D A w ∧ LW w ad107 kk kd107 ln107 G107 (va_up P107 230 z) U107 V107 X107 O107 := ⟨_, _, rfl, hP2, hD2, hW.setP hD hi53 (by rw [hk51_this]; decide) 230 (some c98_cnt) (by rw [hk51_this]; rfl)⟩
  replace hT : TYP kd107 (va_up P107 230 m109) O107 (V107 0) cnt107 := by rw [em109]; exact hT.setP 230 this c98_cnt hk_n107
  replace hr := vlS hr m109 em109
  clear em109
  refine lv_aload_n hx hb dX11_init_112 rfl (lv_at hl 0 rfl) ?_
  refine lv_iconst (v := 0) hx hb dX11_init_113 (by decide +kernel) ?_
  obtain ⟨i55, hi55⟩ := hW.o11 hk51_this
  refine va_put (D := (dC, dI)) (ci := 11) (v := .int 0) (ty := .int) (C := RX11) (T := TX11) (N := 17) hx hb hts inX11 tyX11 tyX11_ok nmX11 hown hK hP hD hS i55 hi55 rfl 11 (by decide) (hts (.fieldLink RX11 75 "SpellTurner" "ownerCount" "I") ic_158) (fun _ h9 => h9) rfl (by decide +kernel) rfl rfl (Nat.le_of_ble_eq_true rfl) dX11_init_114 (fun H locs hP2 hD2 hS => ?_)
  obtain ⟨m114, w56, em114, hP, hD, hW⟩ : ∃ (z : Nat → Int32) (w : va_W), z = (va_up (G107 231) this 0) ∧ va_P (dC, dI) vwCl w H ∧ va_D A w ∧ LW w ad107 kk kd107 ln107 (va_up G107 231 z) (va_up P107 230 m109) U107 V107 X107 O107 := ⟨_, _, rfl, hP2, hD2, hW.setG hD hi55 (by rw [hk51_this]; decide) 231 0 (by rw [hk51_this]; rfl)⟩
  replace hr := vlS hr m114 em114
  clear em114
  refine lv_aload_n hx hb dX11_init_117 rfl (lv_at hl 0 rfl) ?_
  refine lv_sipush (v := 200) hx hb dX11_init_118 (by decide +kernel) ?_
  replace hr := iteS hr
  obtain ⟨hi121, hr⟩ := hr
  replace hr := tkS hr
  obtain ⟨zw1, zw2, hr, hq1, hq2⟩ := hr
  refine va_newa (atype := .int) (a0 := ((Int32.toNatClampNeg 200), .inl (fun _ => 0))) (ty := .int) (N' := (Int32.toNatClampNeg 200)) hx hb (hts (.arrayClass .int) ic_497) rfl hK hP hD hS hA (fun _ => rfl) (nabS hi121).1 rfl (nabB hi121 (by decide)) (by show _ ≤ uc; omega) (by show _ ≤ us; omega) dX11_init_121 (fun q121 cA H hK2 hP2 hD2 hS => ?_)
  obtain rfl : cA = kk 1 := kA_int hK2
  clear hK2
  replace hr := newcS hr hW hT hD2 (by decide) (fun _ => rfl)
  obtain ⟨G121, P121, U121, V121, X121, O121, kd121, ln121, cnt121, ad121, hr, hW, hT, hE2, hk_n121, hqa⟩ := hr
  subst hqa
  obtain ⟨w57, hP, hD, hW⟩ : ∃ w : va_W, va_P (dC, dI) vwCl w H ∧ va_D A w ∧ LW w ad121 kk kd121 ln121 G121 P121 U121 V121 X121 O121 := ⟨_, hP2, hD2, hW⟩
  clear hP2 hD2
  have ea_this : ad107 this = ad121 this := (hE2.1 this (by rw [hk51_this]; decide)).symm
  have hk57_this := (hE2.2 this (by rw [hk51_this]; decide)).trans hk51_this
  rw [ea_this] at hl
  rw [ea_this]
  clear ea_this
  replace hE := adE hE hE2
  clear hE2
  obtain ⟨ccn58, eccn58⟩ : ∃ y : Nat, y = (ccn52 + 1) := ⟨_, rfl⟩
  obtain ⟨csn58, ecsn58⟩ : ∃ y : Nat, y = (csn52 + (Int32.toNatClampNeg 200)) := ⟨_, rfl⟩
  refine W.widen (k := ccn58) (n := csn58) (Nat.le_of_eq eccn58.symm) (Nat.le_of_eq ecsn58.symm) ?_
  replace hu1 : ccn58 + zw1 = uc := by omega
  replace hu2 : csn58 + zw2 = us := by omega
  clear eccn58 ecsn58
  obtain ⟨i59, hi59⟩ := hW.o11 hk57_this
  refine va_putF (D := (dC, dI)) (ci := 11) (v := .ref (ad121 cnt107)) (ty := (.array .int)) (C := RX11) (T := TX11) (N := 17) hx hb hts inX11 tyX11 tyX11_ok nmX11 hown hK hP hD hS i59 hi59 rfl 12 (by decide) (hts (.fieldLink RX11 78 "SpellTurner" "pairs" "[I") ic_122) (fun _ h9 => h9) rfl hin rfl (by decide +kernel) rfl rfl (Nat.le_of_ble_eq_true rfl) dX11_init_123 (fun H locs hP2 hD2 hS => ?_)
  obtain ⟨m123, w60, em123, hP, hD, hW⟩ : ∃ (z : Nat → Option Nat) (w : va_W), z = (va_up (P121 232) this (some cnt107)) ∧ va_P (dC, dI) vwCl w H ∧ va_D A w ∧ LW w ad121 kk kd121 ln121 G121 (va_up P121 232 z) U121 V121 X121 O121 := ⟨_, _, rfl, hP2, hD2, hW.setP hD hi59 (by rw [hk57_this]; decide) 232 (some cnt107) (by rw [hk57_this]; rfl)⟩
  replace hT : TYP kd121 (va_up P121 232 m123) O121 (V121 0) cnt121 := by rw [em123]; exact hT.setP 232 this cnt107 hk_n121
  replace hr := vlS hr m123 em123
  clear em123
  refine lv_aload_n hx hb dX11_init_126 rfl (lv_at hl 0 rfl) ?_
  refine lv_iconst (v := 0) hx hb dX11_init_127 (by decide +kernel) ?_
  obtain ⟨i61, hi61⟩ := hW.o11 hk57_this
  refine va_put (D := (dC, dI)) (ci := 11) (v := .int 0) (ty := .int) (C := RX11) (T := TX11) (N := 17) hx hb hts inX11 tyX11 tyX11_ok nmX11 hown hK hP hD hS i61 hi61 rfl 13 (by decide) (hts (.fieldLink RX11 81 "SpellTurner" "pairCount" "I") ic_121) (fun _ h9 => h9) rfl (by decide +kernel) rfl rfl (Nat.le_of_ble_eq_true rfl) dX11_init_128 (fun H locs hP2 hD2 hS => ?_)
  obtain ⟨m128, w62, em128, hP, hD, hW⟩ : ∃ (z : Nat → Int32) (w : va_W), z = (va_up (G121 233) this 0) ∧ va_P (dC, dI) vwCl w H ∧ va_D A w ∧ LW w ad121 kk kd121 ln121 (va_up G121 233 z) (va_up P121 232 m123) U121 V121 X121 O121 := ⟨_, _, rfl, hP2, hD2, hW.setG hD hi61 (by rw [hk57_this]; decide) 233 0 (by rw [hk57_this]; rfl)⟩
  replace hr := vlS hr m128 em128
  clear em128
  refine lv_aload_n hx hb dX11_init_131 rfl (lv_at hl 0 rfl) ?_
  replace hr := tkS hr
  obtain ⟨zw1, zw2, hr, hq1, hq2⟩ := hr
  refine va_new (ci := 8) (fs := [.int 0, .int 0, .int 0, .int 0, .null, .int 0, .int 0, .int 0]) (C := RX8) (T := TX8) (N := 8) hx hb hts inX8 tyX8 tyX8_ok hown (hts (.classLink RX11 84 RX8) ic_659) (hts (.instantiable RX8 8) ic_660) (hts (.initialized RX8) ic_463) hK hP hD hS hA rfl (fun j hj => match j, hj with | 0, _ => rfl | 1, _ => rfl | 2, _ => rfl | 3, _ => rfl | 4, _ => rfl | 5, _ => rfl | 6, _ => rfl | 7, _ => rfl | j + 8, hj => absurd hj (by omega)) (by show _ ≤ uc; omega) (by show _ ≤ us; omega) dX11_init_132 (fun q132 H hP2 hD2 hS => ?_)
  replace hr := newcS hr hW hT hD2 (by decide) (fun _ => rfl)
  obtain ⟨G132, P132, U132, V132, X132, O132, kd132, ln132, cnt132, ad132, hr, hW, hT, hE2, hk_n132, hqa⟩ := hr
  subst hqa
  obtain ⟨w63, hP, hD, hW⟩ : ∃ w : va_W, va_P (dC, dI) vwCl w H ∧ va_D A w ∧ LW w ad132 kk kd132 ln132 G132 P132 U132 V132 X132 O132 := ⟨_, hP2, hD2, hW⟩
  clear hP2 hD2
  have ea_this : ad121 this = ad132 this := (hE2.1 this (by rw [hk57_this]; decide)).symm
  have hk63_this := (hE2.2 this (by rw [hk57_this]; decide)).trans hk57_this
  rw [ea_this] at hl
  rw [ea_this]
  clear ea_this
  replace hE := adE hE hE2
  clear hE2
  obtain ⟨ccn64, eccn64⟩ : ∃ y : Nat, y = (ccn58 + 1) := ⟨_, rfl⟩
  obtain ⟨csn64, ecsn64⟩ : ∃ y : Nat, y = (csn58 + 8) := ⟨_, rfl⟩
  refine W.widen (k := ccn64) (n := csn64) (Nat.le_of_eq eccn64.symm) (Nat.le_of_eq ecsn64.symm) ?_
  replace hu1 : ccn64 + zw1 = uc := by omega
  replace hu2 : csn64 + zw2 = us := by omega
  clear eccn64 ecsn64
  refine lv_dup hx hb dX11_init_135 rfl ?_
  replace hr := bA9S hr
  obtain ⟨c136_G, c136_P, c136_U, c136_V, c136_X, c136_O, c136_kd, c136_ln, c136_cnt, zv1, zv2, zw1, zw2, hc136, hr, hq1, hq2⟩ := hr
  have hFc := fr_all hD hS hA
  refine va_callv (va_runIN (As := []) (rest := [.ref (ad132 cnt121), .ref (ad132 this)]) ⟨hx, hb, hml, hown, hts⟩ (m_X8_init l dC dI kk ad132 H.size w63 G132 P132 U132 V132 X132 O132 kd132 ln132 cnt132 cnt121 hk_n132 hW hT c136_G c136_P c136_U c136_V c136_X c136_O c136_kd c136_ln c136_cnt zv1 zv2 hc136) ⟨va_cnB 0 hts (lwC_code ic_636) rfl rfl rfl (en_nRX11_86 hEn) (hts (.initialized RX8) ic_463) (by decide +kernel) ⟨Nat.le_of_ble_eq_true rfl, Nat.le_of_ble_eq_true rfl⟩, rfl, (hts (.instanceMethod yX8_init) ic_661)⟩ ⟨fun a U g mk q => by obtain ⟨q0, q1, qP, qK, qD⟩ := q; exact ⟨q0, q1, qP, va_K.moved (u := U) (U := U.calling g mk a) (Vm.Alike.refl U.vm) qK, qD⟩, fun U hU hW => ⟨rfl, by rw [hU], by rw [hU]; exact hP, va_K.moved hW.alike hK, hD.weaken (fun _ _ _ _ => trivial)⟩⟩ rfl rfl hl.1 rfl (lv_room (Nat.le_of_ble_eq_true rfl)) dX11_init_136 ⟨(by show _ ≤ uc; omega), (by show _ ≤ us; omega)⟩) hS (fun q _ h => hFc q h) hFc (fun w65 t H1 locs ht hvm hw hB hz1 hk1 hS => ?_)
  obtain ⟨w65, ad136_65⟩ := w65
  dsimp only at hw hB
  obtain ⟨hW, hT, hE2⟩ := hw
  obtain ⟨hP1, hK1, hD1⟩ := hB
  rw [ht] at hP1
  obtain ⟨hP, hD⟩ := jn_all (w1 := w65) hFc hP1 hD1
  replace hP : va_P (dC, dI) vwCl w65 H1 := hP
  replace hD : va_D A w65 := hD
  clear hFc hP1 hK1 hD1 hk1 hz1 ht hvm
  generalize H1 = H at hP hS ⊢
  have ea_this : ad132 this = ad136_65 this := (hE2.1 this (by rw [hk63_this]; decide)).symm
  have hk65_this := (hE2.2 this (by rw [hk63_this]; decide)).trans hk63_this
  have ea_cnt121 : ad132 cnt121 = ad136_65 cnt121 := (hE2.1 cnt121 (by rw [hk_n132]; decide)).symm
  have hk65_cnt121 := (hE2.2 cnt121 (by rw [hk_n132]; decide)).trans hk_n132
  rw [ea_this] at hl
  rw [ea_this, ea_cnt121]
  clear ea_this ea_cnt121
  replace hE := adE hE hE2
  clear hE2
  obtain ⟨ccn66, eccn66⟩ : ∃ y : Nat, y = (ccn64 + zv1) := ⟨_, rfl⟩
  obtain ⟨csn66, ecsn66⟩ : ∃ y : Nat, y = (csn64 + zv2) := ⟨_, rfl⟩
  refine W.widen (k := ccn66) (n := csn66) (Nat.le_of_eq eccn66.symm) (Nat.le_of_eq ecsn66.symm) ?_
  replace hu1 : ccn66 + zw1 = uc := by omega
  replace hu2 : csn66 + zw2 = us := by omega
  clear eccn66 ecsn66
  obtain ⟨i67, hi67⟩ := hW.o11 hk65_this
  refine va_putF (D := (dC, dI)) (ci := 11) (v := .ref (ad136_65 cnt121)) (ty := (.object "SpellTurner$TextWords")) (C := RX11) (T := TX11) (N := 17) hx hb hts inX11 tyX11 tyX11_ok nmX11 hown hK hP hD hS i67 hi67 rfl 14 (by decide) (hts (.fieldLink RX11 87 "SpellTurner" "textWords" "LSpellTurner$TextWords;") ic_108) (fun _ h9 => h9) rfl hin rfl (by decide +kernel) rfl rfl (Nat.le_of_ble_eq_true rfl) dX11_init_139 (fun H locs hP2 hD2 hS => ?_)
  obtain ⟨m139, w68, em139, hP, hD, hW⟩ : ∃ (z : Nat → Option Nat) (w : va_W), z = (va_up (c136_P 234) this (some cnt121)) ∧ va_P (dC, dI) vwCl w H ∧ va_D A w ∧ LW w ad136_65 kk c136_kd c136_ln c136_G (va_up c136_P 234 z) c136_U c136_V c136_X c136_O := ⟨_, _, rfl, hP2, hD2, hW.setP hD hi67 (by rw [hk65_this]; decide) 234 (some cnt121) (by rw [hk65_this]; rfl)⟩
  replace hT : TYP c136_kd (va_up c136_P 234 m139) c136_O (c136_V 0) c136_cnt := by rw [em139]; exact hT.setP 234 this cnt121 hk65_cnt121
  replace hr := vlS hr m139 em139
  clear em139
  refine lv_aload_n hx hb dX11_init_142 rfl (lv_at hl 0 rfl) ?_
  replace hr := tkS hr
  obtain ⟨zw1, zw2, hr, hq1, hq2⟩ := hr
  refine va_new (ci := 6) (fs := [.null, .null, .null, .null, .int 0, .int 0, .int 0, .int 0, .int 0]) (C := RX6) (T := TX6) (N := 9) hx hb hts inX6 tyX6 tyX6_ok hown (hts (.classLink RX11 91 RX6) ic_662) (hts (.instantiable RX6 9) ic_663) (hts (.initialized RX6) ic_133) hK hP hD hS hA rfl (fun j hj => match j, hj with | 0, _ => rfl | 1, _ => rfl | 2, _ => rfl | 3, _ => rfl | 4, _ => rfl | 5, _ => rfl | 6, _ => rfl | 7, _ => rfl | 8, _ => rfl | j + 9, hj => absurd hj (by omega)) (by show _ ≤ uc; omega) (by show _ ≤ us; omega) dX11_init_143 (fun q143 H hP2 hD2 hS => ?_)
  replace hr := newcS hr hW hT hD2 (by decide) (fun _ => rfl)
  obtain ⟨G143, P143, U143, V143, X143, O143, kd143, ln143, cnt143, ad143, hr, hW, hT, hE2, hk_n143, hqa⟩ := hr
  subst hqa
  obtain ⟨w69, hP, hD, hW⟩ : ∃ w : va_W, va_P (dC, dI) vwCl w H ∧ va_D A w ∧ LW w ad143 kk kd143 ln143 G143 P143 U143 V143 X143 O143 := ⟨_, hP2, hD2, hW⟩
  clear hP2 hD2
  have ea_this : ad136_65 this = ad143 this := (hE2.1 this (by rw [hk65_this]; decide)).symm
  have hk69_this := (hE2.2 this (by rw [hk65_this]; decide)).trans hk65_this
  rw [ea_this] at hl
  rw [ea_this]
  clear ea_this
  replace hE := adE hE hE2
  clear hE2
  obtain ⟨ccn70, eccn70⟩ : ∃ y : Nat, y = (ccn66 + 1) := ⟨_, rfl⟩
  obtain ⟨csn70, ecsn70⟩ : ∃ y : Nat, y = (csn66 + 9) := ⟨_, rfl⟩
  refine W.widen (k := ccn70) (n := csn70) (Nat.le_of_eq eccn70.symm) (Nat.le_of_eq ecsn70.symm) ?_
  replace hu1 : ccn70 + zw1 = uc := by omega
  replace hu2 : csn70 + zw2 = us := by omega
  clear eccn70 ecsn70
  refine lv_dup hx hb dX11_init_146 rfl ?_
  replace hr := bA9S hr
  obtain ⟨c147_G, c147_P, c147_U, c147_V, c147_X, c147_O, c147_kd, c147_ln, c147_cnt, zv1, zv2, zw1, zw2, hc147, hr, hq1, hq2⟩ := hr
  have hFc := fr_all hD hS hA
  refine va_callv (va_runIN (As := []) (rest := [.ref (ad143 c136_cnt), .ref (ad143 this)]) ⟨hx, hb, hml, hown, hts⟩ (m_X6_init l dC dI kk ad143 H.size w69 G143 P143 U143 V143 X143 O143 kd143 ln143 cnt143 c136_cnt hk_n143 hW hT c147_G c147_P c147_U c147_V c147_X c147_O c147_kd c147_ln c147_cnt zv1 zv2 hc147) ⟨va_cnB 0 hts (lwC_code ic_638) rfl rfl rfl (en_nRX11_93 hEn) (hts (.initialized RX6) ic_133) (by decide +kernel) ⟨Nat.le_of_ble_eq_true rfl, Nat.le_of_ble_eq_true rfl⟩, rfl, (hts (.instanceMethod yX6_init) ic_664)⟩ ⟨fun a U g mk q => by obtain ⟨q0, q1, qP, qK, qD⟩ := q; exact ⟨q0, q1, qP, va_K.moved (u := U) (U := U.calling g mk a) (Vm.Alike.refl U.vm) qK, qD⟩, fun U hU hW => ⟨rfl, by rw [hU], by rw [hU]; exact hP, va_K.moved hW.alike hK, hD.weaken (fun _ _ _ _ => trivial)⟩⟩ rfl rfl hl.1 rfl (lv_room (Nat.le_of_ble_eq_true rfl)) dX11_init_147 ⟨(by show _ ≤ uc; omega), (by show _ ≤ us; omega)⟩) hS (fun q _ h => hFc q h) hFc (fun w71 t H1 locs ht hvm hw hB hz1 hk1 hS => ?_)
  obtain ⟨w71, ad147_71⟩ := w71
  dsimp only at hw hB
  obtain ⟨hW, hT, hE2⟩ := hw
  obtain ⟨hP1, hK1, hD1⟩ := hB
  rw [ht] at hP1
  obtain ⟨hP, hD⟩ := jn_all (w1 := w71) hFc hP1 hD1
  replace hP : va_P (dC, dI) vwCl w71 H1 := hP
  replace hD : va_D A w71 := hD
  clear hFc hP1 hK1 hD1 hk1 hz1 ht hvm
  generalize H1 = H at hP hS ⊢
  have ea_this : ad143 this = ad147_71 this := (hE2.1 this (by rw [hk69_this]; decide)).symm
  have hk71_this := (hE2.2 this (by rw [hk69_this]; decide)).trans hk69_this
  have ea_c136_cnt : ad143 c136_cnt = ad147_71 c136_cnt := (hE2.1 c136_cnt (by rw [hk_n143]; decide)).symm
  have hk71_c136_cnt := (hE2.2 c136_cnt (by rw [hk_n143]; decide)).trans hk_n143
  rw [ea_this] at hl
  rw [ea_this, ea_c136_cnt]
  clear ea_this ea_c136_cnt
  replace hE := adE hE hE2
  clear hE2
  obtain ⟨ccn72, eccn72⟩ : ∃ y : Nat, y = (ccn70 + zv1) := ⟨_, rfl⟩
  obtain ⟨csn72, ecsn72⟩ : ∃ y : Nat, y = (csn70 + zv2) := ⟨_, rfl⟩
  refine W.widen (k := ccn72) (n := csn72) (Nat.le_of_eq eccn72.symm) (Nat.le_of_eq ecsn72.symm) ?_
  replace hu1 : ccn72 + zw1 = uc := by omega
  replace hu2 : csn72 + zw2 = us := by omega
  clear eccn72 ecsn72
  obtain ⟨i73, hi73⟩ := hW.o11 hk71_this
  refine va_putF (D := (dC, dI)) (ci := 11) (v := .ref (ad147_71 c136_cnt)) (ty := (.object "SpellTurner$Scribe")) (C := RX11) (T := TX11) (N := 17) hx hb hts inX11 tyX11 tyX11_ok nmX11 hown hK hP hD hS i73 hi73 rfl 15 (by decide) (hts (.fieldLink RX11 94 "SpellTurner" "scribe" "LSpellTurner$Scribe;") ic_129) (fun _ h9 => h9) rfl hin rfl (by decide +kernel) rfl rfl (Nat.le_of_ble_eq_true rfl) dX11_init_150 (fun H locs hP2 hD2 hS => ?_)
  obtain ⟨m150, w74, em150, hP, hD, hW⟩ : ∃ (z : Nat → Option Nat) (w : va_W), z = (va_up (c147_P 235) this (some c136_cnt)) ∧ va_P (dC, dI) vwCl w H ∧ va_D A w ∧ LW w ad147_71 kk c147_kd c147_ln c147_G (va_up c147_P 235 z) c147_U c147_V c147_X c147_O := ⟨_, _, rfl, hP2, hD2, hW.setP hD hi73 (by rw [hk71_this]; decide) 235 (some c136_cnt) (by rw [hk71_this]; rfl)⟩
  replace hT : TYP c147_kd (va_up c147_P 235 m150) c147_O (c147_V 0) c147_cnt := by rw [em150]; exact hT.setP 235 this c136_cnt hk71_c136_cnt
  replace hr := vlS hr m150 em150
  clear em150
  refine lv_aload_n hx hb dX11_init_153 rfl (lv_at hl 0 rfl) ?_
  replace hr := tkS hr
  obtain ⟨zw1, zw2, hr, hq1, hq2⟩ := hr
  refine va_new (ci := 2) (fs := [.null, .null, .null, .int 0, .int 0, .int 0]) (C := RX2) (T := TX2) (N := 6) hx hb hts inX2 tyX2 tyX2_ok hown (hts (.classLink RX11 98 RX2) ic_665) (hts (.instantiable RX2 6) ic_666) (hts (.initialized RX2) ic_119) hK hP hD hS hA rfl (fun j hj => match j, hj with | 0, _ => rfl | 1, _ => rfl | 2, _ => rfl | 3, _ => rfl | 4, _ => rfl | 5, _ => rfl | j + 6, hj => absurd hj (by omega)) (by show _ ≤ uc; omega) (by show _ ≤ us; omega) dX11_init_154 (fun q154 H hP2 hD2 hS => ?_)
  replace hr := newcS hr hW hT hD2 (by decide) (fun _ => rfl)
  obtain ⟨G154, P154, U154, V154, X154, O154, kd154, ln154, cnt154, ad154, hr, hW, hT, hE2, hk_n154, hqa⟩ := hr
  subst hqa
  obtain ⟨w75, hP, hD, hW⟩ : ∃ w : va_W, va_P (dC, dI) vwCl w H ∧ va_D A w ∧ LW w ad154 kk kd154 ln154 G154 P154 U154 V154 X154 O154 := ⟨_, hP2, hD2, hW⟩
  clear hP2 hD2
  have ea_this : ad147_71 this = ad154 this := (hE2.1 this (by rw [hk71_this]; decide)).symm
  have hk75_this := (hE2.2 this (by rw [hk71_this]; decide)).trans hk71_this
  rw [ea_this] at hl
  rw [ea_this]
  clear ea_this
  replace hE := adE hE hE2
  clear hE2
  obtain ⟨ccn76, eccn76⟩ : ∃ y : Nat, y = (ccn72 + 1) := ⟨_, rfl⟩
  obtain ⟨csn76, ecsn76⟩ : ∃ y : Nat, y = (csn72 + 6) := ⟨_, rfl⟩
  refine W.widen (k := ccn76) (n := csn76) (Nat.le_of_eq eccn76.symm) (Nat.le_of_eq ecsn76.symm) ?_
  replace hu1 : ccn76 + zw1 = uc := by omega
  replace hu2 : csn76 + zw2 = us := by omega
  clear eccn76 ecsn76
  refine lv_dup hx hb dX11_init_157 rfl ?_
  replace hr := bA9S hr
  obtain ⟨c158_G, c158_P, c158_U, c158_V, c158_X, c158_O, c158_kd, c158_ln, c158_cnt, zv1, zv2, zw1, zw2, hc158, hr, hq1, hq2⟩ := hr
  have hFc := fr_all hD hS hA
  refine va_callv (va_runIN (As := []) (rest := [.ref (ad154 c147_cnt), .ref (ad154 this)]) ⟨hx, hb, hml, hown, hts⟩ (m_X2_init l dC dI kk ad154 H.size w75 G154 P154 U154 V154 X154 O154 kd154 ln154 cnt154 c147_cnt hk_n154 hW hT c158_G c158_P c158_U c158_V c158_X c158_O c158_kd c158_ln c158_cnt zv1 zv2 hc158) ⟨va_cnB 0 hts (lwC_code ic_640) rfl rfl rfl (en_nRX11_100 hEn) (hts (.initialized RX2) ic_119) (by decide +kernel) ⟨Nat.le_of_ble_eq_true rfl, Nat.le_of_ble_eq_true rfl⟩, rfl, (hts (.instanceMethod yX2_init) ic_667)⟩ ⟨fun a U g mk q => by obtain ⟨q0, q1, qP, qK, qD⟩ := q; exact ⟨q0, q1, qP, va_K.moved (u := U) (U := U.calling g mk a) (Vm.Alike.refl U.vm) qK, qD⟩, fun U hU hW => ⟨rfl, by rw [hU], by rw [hU]; exact hP, va_K.moved hW.alike hK, hD.weaken (fun _ _ _ _ => trivial)⟩⟩ rfl rfl hl.1 rfl (lv_room (Nat.le_of_ble_eq_true rfl)) dX11_init_158 ⟨(by show _ ≤ uc; omega), (by show _ ≤ us; omega)⟩) hS (fun q _ h => hFc q h) hFc (fun w77 t H1 locs ht hvm hw hB hz1 hk1 hS => ?_)
  obtain ⟨w77, ad158_77⟩ := w77
  dsimp only at hw hB
  obtain ⟨hW, hT, hE2⟩ := hw
  obtain ⟨hP1, hK1, hD1⟩ := hB
  rw [ht] at hP1
  obtain ⟨hP, hD⟩ := jn_all (w1 := w77) hFc hP1 hD1
  replace hP : va_P (dC, dI) vwCl w77 H1 := hP
  replace hD : va_D A w77 := hD
  clear hFc hP1 hK1 hD1 hk1 hz1 ht hvm
  generalize H1 = H at hP hS ⊢
  have ea_this : ad154 this = ad158_77 this := (hE2.1 this (by rw [hk75_this]; decide)).symm
  have hk77_this := (hE2.2 this (by rw [hk75_this]; decide)).trans hk75_this
  have ea_c147_cnt : ad154 c147_cnt = ad158_77 c147_cnt := (hE2.1 c147_cnt (by rw [hk_n154]; decide)).symm
  have hk77_c147_cnt := (hE2.2 c147_cnt (by rw [hk_n154]; decide)).trans hk_n154
  rw [ea_this] at hl
  rw [ea_this, ea_c147_cnt]
  clear ea_this ea_c147_cnt
  replace hE := adE hE hE2
  clear hE2
  obtain ⟨ccn78, eccn78⟩ : ∃ y : Nat, y = (ccn76 + zv1) := ⟨_, rfl⟩
  obtain ⟨csn78, ecsn78⟩ : ∃ y : Nat, y = (csn76 + zv2) := ⟨_, rfl⟩
  refine W.widen (k := ccn78) (n := csn78) (Nat.le_of_eq eccn78.symm) (Nat.le_of_eq ecsn78.symm) ?_
  replace hu1 : ccn78 + zw1 = uc := by omega
  replace hu2 : csn78 + zw2 = us := by omega
  clear eccn78 ecsn78
  obtain ⟨i79, hi79⟩ := hW.o11 hk77_this
  refine va_putF (D := (dC, dI)) (ci := 11) (v := .ref (ad158_77 c147_cnt)) (ty := (.object "SpellTurner$Mixture")) (C := RX11) (T := TX11) (N := 17) hx hb hts inX11 tyX11 tyX11_ok nmX11 hown hK hP hD hS i79 hi79 rfl 16 (by decide) (hts (.fieldLink RX11 101 "SpellTurner" "mixture" "LSpellTurner$Mixture;") ic_114) (fun _ h9 => h9) rfl hin rfl (by decide +kernel) rfl rfl (Nat.le_of_ble_eq_true rfl) dX11_init_161 (fun H locs hP2 hD2 hS => ?_)
  obtain ⟨m161, w80, em161, hP, hD, hW⟩ : ∃ (z : Nat → Option Nat) (w : va_W), z = (va_up (c158_P 236) this (some c147_cnt)) ∧ va_P (dC, dI) vwCl w H ∧ va_D A w ∧ LW w ad158_77 kk c158_kd c158_ln c158_G (va_up c158_P 236 z) c158_U c158_V c158_X c158_O := ⟨_, _, rfl, hP2, hD2, hW.setP hD hi79 (by rw [hk77_this]; decide) 236 (some c147_cnt) (by rw [hk77_this]; rfl)⟩
  replace hT : TYP c158_kd (va_up c158_P 236 m161) c158_O (c158_V 0) c158_cnt := by rw [em161]; exact hT.setP 236 this c147_cnt hk77_c147_cnt
  replace hr := vlS hr m161 em161
  clear em161
  replace hr := retS hr
  obtain ⟨hr, hv1, hv2⟩ := hr
  refine W.widen (k := uc) (n := us) (by omega) (by omega) ?_
  exact K 164 ls _ _ _ _ _ _ _ _ _ ad158_77 w80 H _ hr dX11_init_164 hE hW hT hP hD hS
set_option maxHeartbeats 4000000 in
set_option maxRecDepth 100000 in
theorem m_X11_init (l : Launch) (dC : Nat → ClassId) (dI : Nat → Nat → Nat) (kk : Nat → ClassId) (ad : Nat → Nat) (sz : Nat) (ws : va_W) (G : Nat → Nat → Int32) (P : Nat → Nat → Option Nat) (U : Nat → Nat → Int64) (V : Nat → Nat → Nat → Int32) (X : Nat → Nat → Nat → Int64) (O : Nat → Nat → Nat → Option Nat) (kd : Nat → Nat) (ln : Nat → Nat) (cnt : Nat) (this : Nat) (hk_this : kd this = 12) (hW : LW ws ad kk kd ln G P U V X O) (hT : TYP kd P O (V 0) cnt) (c_G : Nat → Nat → Int32) (c_P : Nat → Nat → Option Nat) (c_U : Nat → Nat → Int64) (c_V : Nat → Nat → Nat → Int32) (c_X : Nat → Nat → Nat → Int64) (c_O : Nat → Nat → Nat → Option Nat) (c_kd : Nat → Nat) (c_ln : Nat → Nat) (c_cnt : Nat) (uc us : Nat) (hr : f_X11_init G P U V X O kd ln cnt this = some ((c_G, c_P, c_U, c_V, c_X, c_O, c_kd, c_ln, c_cnt), uc, us)) : Met l yX11_init vmX11_init ({ frames := 6, cells := uc, slots := us, locals := 152 } : Room) (va_Pc [.ref (ad this)] (fun U => U.heap.size = sz ∧ va_P (dC, dI) vwCl ws U.heap ∧ va_K (dC, dI) vwCl (cT kk) U ∧ va_D (fun _ => True) ws ∧ EnvOK U)) (va_Qv (fun (x : (va_W × (Nat → Nat))) => LW x.1 x.2 kk c_kd c_ln c_G c_P c_U c_V c_X c_O ∧ TYP c_kd c_P c_O (c_V 0) c_cnt ∧ adEx kd ad c_kd x.2) (fun x t => va_P (dC, dI) vwCl x.1 t.heap ∧ va_K (dC, dI) vwCl (cT kk) t ∧ va_D (va_A ws sz) x.1) (va_A ws sz)) uc us (va_A ws sz) := by
  refine Met.ofW (cc := cX11_init) (maxL := 1) (ret := none) (by decide) rfl ?_
  intro p e s m args below meth c s₁ B hml hv
  obtain ⟨rfl, hsz, hP, hK, hD0, hEn⟩ := hv
  have hx := B.exec
  have hb := B.bytes
  have hrt := B.returns
  have hts := atoms_spec (ws := vmX11_init) B.pre
  have hown : s.vm.findClass RX11 = some m.cls := findClass_of_methodNamed B.named
  subst hsz
  have hD := hD0.self (sz := s.heap.size)
  generalize hAe : va_A ws s.heap.size = A at hD ⊢
  have hA : ∀ q : Nat, s.heap.size ≤ q → A q := fun q h => by rw [← hAe]; exact Or.inr h
  have hS : va_S A s.heap s.heap [] := va_S.rf
  have hl := lv_entry ([.ref (ad this)]) (n := 1) (Nat.le_of_ble_eq_true rfl)
  rw [lg_entry_eq]
  generalize (lg_sl ([.ref (ad this)]) ++ List.replicate (1 - (lg_sl ([.ref (ad this)])).length) Slot.unset).toArray = ls at hl ⊢
  have hin : meth.name = "<init>" := (name_of_methodNamed B.named B.method).1
  exact bm_X11_init this hk_this c_G c_P c_U c_V c_X c_O c_kd c_ln c_cnt uc us hr hx hb hml hown hts hin hA hK hEn hW hT hP hD hS hl (fun pc ls c_Gz c_Pz c_Uz c_Vz c_Xz c_Oz c_kdz c_lnz c_cntz adz ws H locs he hd hE hW hT hP hD hS => by cases he; exact W.vret hx hb hrt (fun t ht hW9 => ⟨⟨(ws, adz), rfl, ⟨hW, hT, hE⟩, by rw [ht]; exact hP, va_K.moved hW9.alike hK, hD⟩, hS.F ht⟩) hS.2.2 hd)
