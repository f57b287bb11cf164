set_option maxHeartbeats 4000000 in
set_option maxRecDepth 100000 in
theorem c_X10_init_2 (l : Launch) (dC : Nat → ClassId) (dI : Nat → Nat → Nat) (sz : Nat) (h0 : Nat) : Met l yX10_init wmX10_init ({ frames := 2, cells := 2, slots := 0, locals := 60 }) (va_Pc [.ref h0, .int 0, .int 0] (fun U => U.heap.size = sz ∧ va_P (dC, dI) vwCl [(h0, .inr (10, [.int 0, .null, .null, .int 0]))] U.heap ∧ va_K (dC, dI) vwCl [] U ∧ va_D (fun _ => True) [(h0, .inr (10, [.int 0, .null, .null, .int 0]))])) (va_Qv (fun _ : Unit => True) (fun _ t => ∃ (q200 : Nat), ∃ (q202 : Nat), va_P (dC, dI) vwCl [(h0, .inr (10, [.int 0, .ref q200, .ref q202, .int 0]))] t.heap ∧ va_K (dC, dI) vwCl [] t ∧ va_D (va_A [(h0, .inr (10, [.int 0, .null, .null, .int 0]))] sz) [(h0, .inr (10, [.int 0, .ref q200, .ref q202, .int 0]))]) (va_A [(h0, .inr (10, [.int 0, .null, .null, .int 0]))] sz)) 2 0 (va_A [(h0, .inr (10, [.int 0, .null, .null, .int 0]))] sz) := by
  refine Met.ofW (cc := cX10_init) (maxL := 3) (ret := none) (by decide +kernel) rfl ?_
  intro p e s m args below meth c s₁ B hml hv
  obtain ⟨rfl, hsz, hP, hK, hD0⟩ := hv
  have hx := B.exec
  have hb := B.bytes
  have hr := B.returns
  have hts := atoms_spec (ws := wmX10_init) B.pre
  have hown : s.vm.findClass RX10 = some m.cls := findClass_of_methodNamed B.named
  have hlocks := B.notSynchronized
  have hin : meth.name = "<init>" := (name_of_methodNamed B.named B.method).1
  subst hsz
  have hD := hD0.self (sz := s.heap.size)
  generalize hAe : va_A [(h0, .inr (10, [.int 0, .null, .null, .int 0]))] s.heap.size = A at hD ⊢
  have hA : ∀ q : Nat, s.heap.size ≤ q → A q := fun q h => by rw [← hAe]; exact Or.inr h
  have hS : va_S A s.heap s.heap [] := va_S.rf
  have hP : va_P (dC, dI) vwCl [(h0, .inr (10, [.int 0, .null, .null, .int 0]))] s.heap := hP
  have hl := lv_entry ([.ref h0, .int 0, .int 0]) (n := 3) (Nat.le_of_ble_eq_true rfl)
  rw [lg_entry_eq]
  generalize (lg_sl ([.ref h0, .int 0, .int 0]) ++ List.replicate (3 - (lg_sl ([.ref h0, .int 0, .int 0])).length) Slot.unset).toArray = ls at hl ⊢
  have hl : lv_has ls 3 [(0, .ref h0), (1, .int 0), (2, .int 0)] := hl
  refine lv_aload_n hx hb dX10_init_0 rfl (lv_at hl 0 rfl) ?_
  refine W.objInit hx hb hown (hts (.methodLink RX10 3 objectInit) (List.mem_of_getElem? (i := 1) rfl)) (hts (.instanceMethod objectInit) (List.mem_of_getElem? (i := 2) rfl)) (hts (.code objectInit ⟨#[0xb1]⟩ 1 none) (List.mem_of_getElem? (i := 3) rfl)) rfl (by rw [hml]; exact hl.1) rfl dX10_init_1 (Nat.le_of_ble_eq_true rfl) (Nat.le_of_ble_eq_true rfl) ?_
  refine W.eq (g2 := F0 m 4 ls []) rfl ?_
  refine lv_aload_n hx hb dX10_init_4 rfl (lv_at hl 0 rfl) ?_
  refine lv_iconst (v := 0) hx hb dX10_init_5 (by decide +kernel) ?_
  refine va_put (D := (dC, dI)) (ci := 10) (v := .int 0) (ty := .int) (C := RX10) (T := TX10) (N := 4) hx hb hts (fun _ h => List.mem_append_right _ h) tyX10 tyX10_ok nmX10 hown hK hP hD hS 0 rfl rfl 3 (by decide +kernel) (hts (.fieldLink RX10 9 "SpellTurner$WordRow" "count" "I") (List.mem_of_getElem? (i := 6) rfl)) (fun _ h9 => h9) rfl (by decide +kernel) rfl rfl (Nat.le_of_ble_eq_true rfl) dX10_init_6 (fun H locs hP hD hS => ?_)
  have hP : va_P (dC, dI) vwCl [(h0, .inr (10, [.int 0, .null, .null, .int 0]))] H := hP
  have hD : va_D A [(h0, .inr (10, [.int 0, .null, .null, .int 0]))] := hD
  refine lv_aload_n hx hb dX10_init_9 rfl (lv_at hl 0 rfl) ?_
  refine lv_iload_n hx hb dX10_init_10 rfl (lv_at hl 2 rfl) ?_
  refine va_putF (D := (dC, dI)) (ci := 10) (v := .int 0) (ty := .int) (C := RX10) (T := TX10) (N := 4) hx hb hts (fun _ h => List.mem_append_right _ h) tyX10 tyX10_ok nmX10 hown hK hP hD hS 0 rfl rfl 0 (by decide +kernel) (hts (.fieldLink RX10 15 "SpellTurner$WordRow" "width" "I") (List.mem_of_getElem? (i := 7) rfl)) (fun _ h9 => h9) rfl hin rfl (by decide +kernel) rfl rfl (Nat.le_of_ble_eq_true rfl) dX10_init_11 (fun H locs hP hD hS => ?_)
  have hP : va_P (dC, dI) vwCl [(h0, .inr (10, [.int 0, .null, .null, .int 0]))] H := hP
  have hD : va_D A [(h0, .inr (10, [.int 0, .null, .null, .int 0]))] := hD
  refine lv_aload_n hx hb dX10_init_14 rfl (lv_at hl 0 rfl) ?_
  refine lv_iload_n hx hb dX10_init_15 rfl (lv_at hl 1 rfl) ?_
  refine lv_iload_n hx hb dX10_init_16 rfl (lv_at hl 2 rfl) ?_
  refine lv_imul hx hb dX10_init_17 ?_
  refine lv_topi (fun x204 ex204 => ?_)
  obtain rfl : x204 = 0 := ex204.trans (by decide +kernel)
  refine va_newa (atype := .byte) (a0 := (0, .inl (fun _ => 0))) (ty := .byte) (N' := 0) hx hb (hts (.arrayClass .byte) (List.mem_of_getElem? (i := 4) rfl)) rfl hK hP hD hS hA (fun _ => rfl) (by decide +kernel) (by decide +kernel) (by decide +kernel) (Nat.le_of_ble_eq_true rfl) (Nat.le_of_ble_eq_true rfl) dX10_init_18 (fun q205 k206 H hK hP hD hS => ?_)
  have hK : va_K (dC, dI) vwCl [(k206, .byte)] s := hK
  have hP : va_P (dC, dI) vwCl [(h0, .inr (10, [.int 0, .null, .null, .int 0])), (q205, .inl (k206, 0, .inl (fun _ => 0)))] H := hP
  have hD : va_D A [(h0, .inr (10, [.int 0, .null, .null, .int 0])), (q205, .inl (k206, 0, .inl (fun _ => 0)))] := hD
  refine va_putF (D := (dC, dI)) (ci := 10) (v := .ref q205) (ty := .array .byte) (C := RX10) (T := TX10) (N := 4) hx hb hts (fun _ h => List.mem_append_right _ h) tyX10 tyX10_ok nmX10 hown hK hP hD hS 0 rfl rfl 1 (by decide +kernel) (hts (.fieldLink RX10 18 "SpellTurner$WordRow" "letters" "[B") (List.mem_of_getElem? (i := 8) rfl)) (fun _ h9 => h9) rfl hin rfl (by decide +kernel) rfl rfl (Nat.le_of_ble_eq_true rfl) dX10_init_20 (fun H locs hP hD hS => ?_)
  have hP : va_P (dC, dI) vwCl [(h0, .inr (10, [.int 0, .ref q205, .null, .int 0])), (q205, .inl (k206, 0, .inl (fun _ => 0)))] H := hP
  have hD : va_D A [(h0, .inr (10, [.int 0, .ref q205, .null, .int 0])), (q205, .inl (k206, 0, .inl (fun _ => 0)))] := hD
  have hP := hP.sub (ws' := [(h0, .inr (10, [.int 0, .ref q205, .null, .int 0]))]) [0] rfl
  have hD := hD.sub (ws' := [(h0, .inr (10, [.int 0, .ref q205, .null, .int 0]))]) [0] (by decide +kernel) rfl
  refine lv_aload_n hx hb dX10_init_23 rfl (lv_at hl 0 rfl) ?_
  refine lv_iload_n hx hb dX10_init_24 rfl (lv_at hl 1 rfl) ?_
  refine va_newa (atype := .int) (a0 := (0, .inl (fun _ => 0))) (ty := .int) (N' := 0) hx hb (hts (.arrayClass .int) (List.mem_of_getElem? (i := 5) rfl)) rfl hK hP hD hS hA (fun _ => rfl) (by decide +kernel) (by decide +kernel) (by decide +kernel) (Nat.le_of_ble_eq_true rfl) (Nat.le_of_ble_eq_true rfl) dX10_init_25 (fun q207 k208 H hK hP hD hS => ?_)
  have hK : va_K (dC, dI) vwCl [(k206, .byte), (k208, .int)] s := hK
  have hP : va_P (dC, dI) vwCl [(h0, .inr (10, [.int 0, .ref q205, .null, .int 0])), (q207, .inl (k208, 0, .inl (fun _ => 0)))] H := hP
  have hD : va_D A [(h0, .inr (10, [.int 0, .ref q205, .null, .int 0])), (q207, .inl (k208, 0, .inl (fun _ => 0)))] := hD
  refine va_putF (D := (dC, dI)) (ci := 10) (v := .ref q207) (ty := .array .int) (C := RX10) (T := TX10) (N := 4) hx hb hts (fun _ h => List.mem_append_right _ h) tyX10 tyX10_ok nmX10 hown hK hP hD hS 0 rfl rfl 2 (by decide +kernel) (hts (.fieldLink RX10 22 "SpellTurner$WordRow" "lengths" "[I") (List.mem_of_getElem? (i := 9) rfl)) (fun _ h9 => h9) rfl hin rfl (by decide +kernel) rfl rfl (Nat.le_of_ble_eq_true rfl) dX10_init_27 (fun H locs hP hD hS => ?_)
  have hP : va_P (dC, dI) vwCl [(h0, .inr (10, [.int 0, .ref q205, .ref q207, .int 0])), (q207, .inl (k208, 0, .inl (fun _ => 0)))] H := hP
  have hD : va_D A [(h0, .inr (10, [.int 0, .ref q205, .ref q207, .int 0])), (q207, .inl (k208, 0, .inl (fun _ => 0)))] := hD
  have hP := hP.sub (ws' := [(h0, .inr (10, [.int 0, .ref q205, .ref q207, .int 0]))]) [0] rfl
  have hD := hD.sub (ws' := [(h0, .inr (10, [.int 0, .ref q205, .ref q207, .int 0]))]) [0] (by decide +kernel) rfl
  refine W.widen (k := 2) (n := 0) (by omega) (by omega) ?_
  have hP9 := hP.sub (ws' := [(h0, .inr (10, [.int 0, .ref q205, .ref q207, .int 0]))]) [0] rfl
  have hD9 := hD.sub (ws' := [(h0, .inr (10, [.int 0, .ref q205, .ref q207, .int 0]))]) [0] (by decide +kernel) rfl
  have hK9 := hK.sub (tys' := []) [] rfl
  exact W.vret hx hb hr (fun t ht hW => ⟨⟨(), rfl, trivial, q205, q207, by rw [ht]; exact hP9, va_K.moved hW.alike hK9, hD9⟩, hS.F ht⟩) hS.2.2 dX10_init_30
set_option maxHeartbeats 4000000 in
set_option maxRecDepth 100000 in
theorem c_X3_init_0 (l : Launch) (dC : Nat → ClassId) (dI : Nat → Nat → Nat) (sz : Nat) (h0 : Nat) : Met l yX3_init wmX3_init ({ frames := 3, cells := 8, slots := 1211, locals := 82 }) (va_Pc [.ref h0] (fun U => U.heap.size = sz ∧ va_P (dC, dI) vwCl [(h0, .inr (3, [.int 0, .null, .null, .null, .null, .null, .null]))] U.heap ∧ va_K (dC, dI) vwCl [] U ∧ va_D (fun _ => True) [(h0, .inr (3, [.int 0, .null, .null, .null, .null, .null, .null]))])) (va_Qv (fun _ : Unit => True) (fun _ t => ∃ (q211 : Nat), ∃ (q213 : Nat), ∃ (q215 : Nat), ∃ (q217 : Nat), ∃ (q219 : Nat), ∃ (q221 : Nat), va_P (dC, dI) vwCl [(h0, .inr (3, [.int 0, .ref q211, .ref q213, .ref q215, .ref q217, .ref q219, .ref q221]))] t.heap ∧ va_K (dC, dI) vwCl [] t ∧ va_D (va_A [(h0, .inr (3, [.int 0, .null, .null, .null, .null, .null, .null]))] sz) [(h0, .inr (3, [.int 0, .ref q211, .ref q213, .ref q215, .ref q217, .ref q219, .ref q221]))]) (va_A [(h0, .inr (3, [.int 0, .null, .null, .null, .null, .null, .null]))] sz)) 8 1211 (va_A [(h0, .inr (3, [.int 0, .null, .null, .null, .null, .null, .null]))] sz) := by
  refine Met.ofW (cc := cX3_init) (maxL := 1) (ret := none) (by decide +kernel) rfl ?_
  intro p e s m args below meth c s₁ B hml hv
  obtain ⟨rfl, hsz, hP, hK, hD0⟩ := hv
  have hx := B.exec
  have hb := B.bytes
  have hr := B.returns
  have hts := atoms_spec (ws := wmX3_init) B.pre
  have hown : s.vm.findClass RX3 = some m.cls := findClass_of_methodNamed B.named
  have hlocks := B.notSynchronized
  have hin : meth.name = "<init>" := (name_of_methodNamed B.named B.method).1
  subst hsz
  have hD := hD0.self (sz := s.heap.size)
  generalize hAe : va_A [(h0, .inr (3, [.int 0, .null, .null, .null, .null, .null, .null]))] s.heap.size = A at hD ⊢
  have hA : ∀ q : Nat, s.heap.size ≤ q → A q := fun q h => by rw [← hAe]; exact Or.inr h
  have hS : va_S A s.heap s.heap [] := va_S.rf
  have hP : va_P (dC, dI) vwCl [(h0, .inr (3, [.int 0, .null, .null, .null, .null, .null, .null]))] s.heap := hP
  have hl := lv_entry ([.ref h0]) (n := 1) (Nat.le_of_ble_eq_true rfl)
  rw [lg_entry_eq]
  generalize (lg_sl ([.ref h0]) ++ List.replicate (1 - (lg_sl ([.ref h0])).length) Slot.unset).toArray = ls at hl ⊢
  have hl : lv_has ls 1 [(0, .ref h0)] := hl
  refine lv_aload_n hx hb dX3_init_0 rfl (lv_at hl 0 rfl) ?_
  refine W.objInit hx hb hown (hts (.methodLink RX3 3 objectInit) (List.mem_of_getElem? (i := 1) rfl)) (hts (.instanceMethod objectInit) (List.mem_of_getElem? (i := 2) rfl)) (hts (.code objectInit ⟨#[0xb1]⟩ 1 none) (List.mem_of_getElem? (i := 3) rfl)) rfl (by rw [hml]; exact hl.1) rfl dX3_init_1 (Nat.le_of_ble_eq_true rfl) (Nat.le_of_ble_eq_true rfl) ?_
  refine W.eq (g2 := F0 m 4 ls []) rfl ?_
  refine lv_aload_n hx hb dX3_init_4 rfl (lv_at hl 0 rfl) ?_
  refine lv_iconst (v := 0) hx hb dX3_init_5 (by decide +kernel) ?_
  refine va_put (D := (dC, dI)) (ci := 3) (v := .int 0) (ty := .int) (C := RX3) (T := TX3) (N := 7) hx hb hts (fun _ h => List.mem_append_right _ h) tyX3 tyX3_ok nmX3 hown hK hP hD hS 0 rfl rfl 0 (by decide +kernel) (hts (.fieldLink RX3 9 "SpellTurner$Partings" "count" "I") (List.mem_of_getElem? (i := 12) rfl)) (fun _ h9 => h9) rfl (by decide +kernel) rfl rfl (Nat.le_of_ble_eq_true rfl) dX3_init_6 (fun H locs hP hD hS => ?_)
  have hP : va_P (dC, dI) vwCl [(h0, .inr (3, [.int 0, .null, .null, .null, .null, .null, .null]))] H := hP
  have hD : va_D A [(h0, .inr (3, [.int 0, .null, .null, .null, .null, .null, .null]))] := hD
  refine lv_aload_n hx hb dX3_init_9 rfl (lv_at hl 0 rfl) ?_
  refine lv_bipush (v := 30) hx hb dX3_init_10 (by decide +kernel) ?_
  refine va_newa (atype := .int) (a0 := (30, .inl (fun _ => 0))) (ty := .int) (N' := 30) hx hb (hts (.arrayClass .int) (List.mem_of_getElem? (i := 4) rfl)) rfl hK hP hD hS hA (fun _ => rfl) (by decide +kernel) (by decide +kernel) (by decide +kernel) (Nat.le_of_ble_eq_true rfl) (Nat.le_of_ble_eq_true rfl) dX3_init_12 (fun q229 k230 H hK hP hD hS => ?_)
  have hK : va_K (dC, dI) vwCl [(k230, .int)] s := hK
  have hP : va_P (dC, dI) vwCl [(h0, .inr (3, [.int 0, .null, .null, .null, .null, .null, .null])), (q229, .inl (k230, 30, .inl (fun _ => 0)))] H := hP
  have hD : va_D A [(h0, .inr (3, [.int 0, .null, .null, .null, .null, .null, .null])), (q229, .inl (k230, 30, .inl (fun _ => 0)))] := hD
  refine va_putF (D := (dC, dI)) (ci := 3) (v := .ref q229) (ty := .array .int) (C := RX3) (T := TX3) (N := 7) hx hb hts (fun _ h => List.mem_append_right _ h) tyX3 tyX3_ok nmX3 hown hK hP hD hS 0 rfl rfl 1 (by decide +kernel) (hts (.fieldLink RX3 15 "SpellTurner$Partings" "sizes" "[I") (List.mem_of_getElem? (i := 13) rfl)) (fun _ h9 => h9) rfl hin rfl (by decide +kernel) rfl rfl (Nat.le_of_ble_eq_true rfl) dX3_init_14 (fun H locs hP hD hS => ?_)
  have hP : va_P (dC, dI) vwCl [(h0, .inr (3, [.int 0, .ref q229, .null, .null, .null, .null, .null])), (q229, .inl (k230, 30, .inl (fun _ => 0)))] H := hP
  have hD : va_D A [(h0, .inr (3, [.int 0, .ref q229, .null, .null, .null, .null, .null])), (q229, .inl (k230, 30, .inl (fun _ => 0)))] := hD
  have hP := hP.sub (ws' := [(h0, .inr (3, [.int 0, .ref q229, .null, .null, .null, .null, .null]))]) [0] rfl
  have hD := hD.sub (ws' := [(h0, .inr (3, [.int 0, .ref q229, .null, .null, .null, .null, .null]))]) [0] (by decide +kernel) rfl
  refine lv_aload_n hx hb dX3_init_17 rfl (lv_at hl 0 rfl) ?_
  refine lv_sipush (v := 720) hx hb dX3_init_18 (by decide +kernel) ?_
  refine va_newa (atype := .byte) (a0 := (720, .inl (fun _ => 0))) (ty := .byte) (N' := 720) hx hb (hts (.arrayClass .byte) (List.mem_of_getElem? (i := 5) rfl)) rfl hK hP hD hS hA (fun _ => rfl) (by decide +kernel) (by decide +kernel) (by decide +kernel) (Nat.le_of_ble_eq_true rfl) (Nat.le_of_ble_eq_true rfl) dX3_init_21 (fun q231 k232 H hK hP hD hS => ?_)
  have hK : va_K (dC, dI) vwCl [(k230, .int), (k232, .byte)] s := hK
  have hP : va_P (dC, dI) vwCl [(h0, .inr (3, [.int 0, .ref q229, .null, .null, .null, .null, .null])), (q231, .inl (k232, 720, .inl (fun _ => 0)))] H := hP
  have hD : va_D A [(h0, .inr (3, [.int 0, .ref q229, .null, .null, .null, .null, .null])), (q231, .inl (k232, 720, .inl (fun _ => 0)))] := hD
  refine va_putF (D := (dC, dI)) (ci := 3) (v := .ref q231) (ty := .array .byte) (C := RX3) (T := TX3) (N := 7) hx hb hts (fun _ h => List.mem_append_right _ h) tyX3 tyX3_ok nmX3 hown hK hP hD hS 0 rfl rfl 2 (by decide +kernel) (hts (.fieldLink RX3 19 "SpellTurner$Partings" "picks" "[B") (List.mem_of_getElem? (i := 14) rfl)) (fun _ h9 => h9) rfl hin rfl (by decide +kernel) rfl rfl (Nat.le_of_ble_eq_true rfl) dX3_init_23 (fun H locs hP hD hS => ?_)
  have hP : va_P (dC, dI) vwCl [(h0, .inr (3, [.int 0, .ref q229, .ref q231, .null, .null, .null, .null])), (q231, .inl (k232, 720, .inl (fun _ => 0)))] H := hP
  have hD : va_D A [(h0, .inr (3, [.int 0, .ref q229, .ref q231, .null, .null, .null, .null])), (q231, .inl (k232, 720, .inl (fun _ => 0)))] := hD
  have hP := hP.sub (ws' := [(h0, .inr (3, [.int 0, .ref q229, .ref q231, .null, .null, .null, .null]))]) [0] rfl
  have hD := hD.sub (ws' := [(h0, .inr (3, [.int 0, .ref q229, .ref q231, .null, .null, .null, .null]))]) [0] (by decide +kernel) rfl
  refine lv_aload_n hx hb dX3_init_26 rfl (lv_at hl 0 rfl) ?_
  refine lv_sipush (v := 408) hx hb dX3_init_27 (by decide +kernel) ?_
  refine va_newa (atype := .byte) (a0 := (408, .inl (fun _ => 0))) (ty := .byte) (N' := 408) hx hb (hts (.arrayClass .byte) (List.mem_of_getElem? (i := 5) rfl)) rfl hK hP hD hS hA (fun _ => rfl) (by decide +kernel) (by decide +kernel) (by decide +kernel) (Nat.le_of_ble_eq_true rfl) (Nat.le_of_ble_eq_true rfl) dX3_init_30 (fun q233 k234 H hK hP hD hS => ?_)
  have hK : va_K (dC, dI) vwCl [(k230, .int), (k232, .byte), (k234, .byte)] s := hK
  have hP : va_P (dC, dI) vwCl [(h0, .inr (3, [.int 0, .ref q229, .ref q231, .null, .null, .null, .null])), (q233, .inl (k234, 408, .inl (fun _ => 0)))] H := hP
  have hD : va_D A [(h0, .inr (3, [.int 0, .ref q229, .ref q231, .null, .null, .null, .null])), (q233, .inl (k234, 408, .inl (fun _ => 0)))] := hD
  refine va_putF (D := (dC, dI)) (ci := 3) (v := .ref q233) (ty := .array .byte) (C := RX3) (T := TX3) (N := 7) hx hb hts (fun _ h => List.mem_append_right _ h) tyX3 tyX3_ok nmX3 hown hK hP hD hS 0 rfl rfl 3 (by decide +kernel) (hts (.fieldLink RX3 23 "SpellTurner$Partings" "fitting" "[B") (List.mem_of_getElem? (i := 15) rfl)) (fun _ h9 => h9) rfl hin rfl (by decide +kernel) rfl rfl (Nat.le_of_ble_eq_true rfl) dX3_init_32 (fun H locs hP hD hS => ?_)
  have hP : va_P (dC, dI) vwCl [(h0, .inr (3, [.int 0, .ref q229, .ref q231, .ref q233, .null, .null, .null])), (q233, .inl (k234, 408, .inl (fun _ => 0)))] H := hP
  have hD : va_D A [(h0, .inr (3, [.int 0, .ref q229, .ref q231, .ref q233, .null, .null, .null])), (q233, .inl (k234, 408, .inl (fun _ => 0)))] := hD
  have hP := hP.sub (ws' := [(h0, .inr (3, [.int 0, .ref q229, .ref q231, .ref q233, .null, .null, .null]))]) [0] rfl
  have hD := hD.sub (ws' := [(h0, .inr (3, [.int 0, .ref q229, .ref q231, .ref q233, .null, .null, .null]))]) [0] (by decide +kernel) rfl
  refine lv_aload_n hx hb dX3_init_35 rfl (lv_at hl 0 rfl) ?_
  refine lv_bipush (v := 25) hx hb dX3_init_36 (by decide +kernel) ?_
  refine va_newa (atype := .boolean) (a0 := (25, .inl (fun _ => 0))) (ty := .boolean) (N' := 25) hx hb (hts (.arrayClass .boolean) (List.mem_of_getElem? (i := 6) rfl)) rfl hK hP hD hS hA (fun _ => rfl) (by decide +kernel) (by decide +kernel) (by decide +kernel) (Nat.le_of_ble_eq_true rfl) (Nat.le_of_ble_eq_true rfl) dX3_init_38 (fun q235 k236 H hK hP hD hS => ?_)
  have hK : va_K (dC, dI) vwCl [(k230, .int), (k232, .byte), (k234, .byte), (k236, .boolean)] s := hK
  have hP : va_P (dC, dI) vwCl [(h0, .inr (3, [.int 0, .ref q229, .ref q231, .ref q233, .null, .null, .null])), (q235, .inl (k236, 25, .inl (fun _ => 0)))] H := hP
  have hD : va_D A [(h0, .inr (3, [.int 0, .ref q229, .ref q231, .ref q233, .null, .null, .null])), (q235, .inl (k236, 25, .inl (fun _ => 0)))] := hD
  refine va_putF (D := (dC, dI)) (ci := 3) (v := .ref q235) (ty := .array .boolean) (C := RX3) (T := TX3) (N := 7) hx hb hts (fun _ h => List.mem_append_right _ h) tyX3 tyX3_ok nmX3 hown hK hP hD hS 0 rfl rfl 4 (by decide +kernel) (hts (.fieldLink RX3 26 "SpellTurner$Partings" "closes" "[Z") (List.mem_of_getElem? (i := 16) rfl)) (fun _ h9 => h9) rfl hin rfl (by decide +kernel) rfl rfl (Nat.le_of_ble_eq_true rfl) dX3_init_40 (fun H locs hP hD hS => ?_)
  have hP : va_P (dC, dI) vwCl [(h0, .inr (3, [.int 0, .ref q229, .ref q231, .ref q233, .ref q235, .null, .null])), (q235, .inl (k236, 25, .inl (fun _ => 0)))] H := hP
  have hD : va_D A [(h0, .inr (3, [.int 0, .ref q229, .ref q231, .ref q233, .ref q235, .null, .null])), (q235, .inl (k236, 25, .inl (fun _ => 0)))] := hD
  have hP := hP.sub (ws' := [(h0, .inr (3, [.int 0, .ref q229, .ref q231, .ref q233, .ref q235, .null, .null]))]) [0] rfl
  have hD := hD.sub (ws' := [(h0, .inr (3, [.int 0, .ref q229, .ref q231, .ref q233, .ref q235, .null, .null]))]) [0] (by decide +kernel) rfl
  refine lv_aload_n hx hb dX3_init_43 rfl (lv_at hl 0 rfl) ?_
  refine lv_bipush (v := 24) hx hb dX3_init_44 (by decide +kernel) ?_
  refine va_newa (atype := .byte) (a0 := (24, .inl (fun _ => 0))) (ty := .byte) (N' := 24) hx hb (hts (.arrayClass .byte) (List.mem_of_getElem? (i := 5) rfl)) rfl hK hP hD hS hA (fun _ => rfl) (by decide +kernel) (by decide +kernel) (by decide +kernel) (Nat.le_of_ble_eq_true rfl) (Nat.le_of_ble_eq_true rfl) dX3_init_46 (fun q237 k238 H hK hP hD hS => ?_)
  have hK : va_K (dC, dI) vwCl [(k230, .int), (k232, .byte), (k234, .byte), (k236, .boolean), (k238, .byte)] s := hK
  have hP : va_P (dC, dI) vwCl [(h0, .inr (3, [.int 0, .ref q229, .ref q231, .ref q233, .ref q235, .null, .null])), (q237, .inl (k238, 24, .inl (fun _ => 0)))] H := hP
  have hD : va_D A [(h0, .inr (3, [.int 0, .ref q229, .ref q231, .ref q233, .ref q235, .null, .null])), (q237, .inl (k238, 24, .inl (fun _ => 0)))] := hD
  refine va_putF (D := (dC, dI)) (ci := 3) (v := .ref q237) (ty := .array .byte) (C := RX3) (T := TX3) (N := 7) hx hb hts (fun _ h => List.mem_append_right _ h) tyX3 tyX3_ok nmX3 hown hK hP hD hS 0 rfl rfl 5 (by decide +kernel) (hts (.fieldLink RX3 30 "SpellTurner$Partings" "path" "[B") (List.mem_of_getElem? (i := 17) rfl)) (fun _ h9 => h9) rfl hin rfl (by decide +kernel) rfl rfl (Nat.le_of_ble_eq_true rfl) dX3_init_48 (fun H locs hP hD hS => ?_)
  have hP : va_P (dC, dI) vwCl [(h0, .inr (3, [.int 0, .ref q229, .ref q231, .ref q233, .ref q235, .ref q237, .null])), (q237, .inl (k238, 24, .inl (fun _ => 0)))] H := hP
  have hD : va_D A [(h0, .inr (3, [.int 0, .ref q229, .ref q231, .ref q233, .ref q235, .ref q237, .null])), (q237, .inl (k238, 24, .inl (fun _ => 0)))] := hD
  have hP := hP.sub (ws' := [(h0, .inr (3, [.int 0, .ref q229, .ref q231, .ref q233, .ref q235, .ref q237, .null]))]) [0] rfl
  have hD := hD.sub (ws' := [(h0, .inr (3, [.int 0, .ref q229, .ref q231, .ref q233, .ref q235, .ref q237, .null]))]) [0] (by decide +kernel) rfl
  refine lv_aload_n hx hb dX3_init_51 rfl (lv_at hl 0 rfl) ?_
  refine va_new (ci := 10) (fs := [.int 0, .null, .null, .int 0]) (C := RX10) (T := TX10) (N := 4) hx hb hts (fun _ h => List.mem_append_left _ (List.mem_append_right _ h)) tyX10 tyX10_ok hown (hts (.classLink RX3 33 RX10) (List.mem_of_getElem? (i := 7) rfl)) (hts (.instantiable RX10 4) (List.mem_of_getElem? (i := 8) rfl)) (hts (.initialized RX10) (List.mem_of_getElem? (i := 9) rfl)) hK hP hD hS hA rfl (fun j hj => match j, hj with | 0, _ => rfl | 1, _ => rfl | 2, _ => rfl | 3, _ => rfl | j + 4, hj => absurd hj (by omega)) (Nat.le_of_ble_eq_true rfl) (Nat.le_of_ble_eq_true rfl) dX3_init_52 (fun q239 H hP hD hS => ?_)
  have hP : va_P (dC, dI) vwCl [(h0, .inr (3, [.int 0, .ref q229, .ref q231, .ref q233, .ref q235, .ref q237, .null])), (q239, .inr (10, [.int 0, .null, .null, .int 0]))] H := hP
  have hD : va_D A [(h0, .inr (3, [.int 0, .ref q229, .ref q231, .ref q233, .ref q235, .ref q237, .null])), (q239, .inr (10, [.int 0, .null, .null, .int 0]))] := hD
  refine lv_dup hx hb dX3_init_55 rfl ?_
  refine lv_iconst (v := 0) hx hb dX3_init_56 (by decide +kernel) ?_
  refine lv_iconst (v := 0) hx hb dX3_init_57 (by decide +kernel) ?_
  have hPc := hP.sub (ws' := [(q239, .inr (10, [.int 0, .null, .null, .int 0]))]) [1] rfl
  have hDc := hD.sub (ws' := [(q239, .inr (10, [.int 0, .null, .null, .int 0]))]) [1] (by decide +kernel) rfl
  have hKc := hK.sub (tys' := []) [] rfl
  have hFc := va_free (wc := [(q239, .inr (10, [.int 0, .null, .null, .int 0]))]) hD hS hA [1] rfl
  refine va_callv (va_runI (As := [.int 0, .int 0]) (rest := [.ref q239, .ref h0]) ⟨hx, hb, hml, hown, hts⟩ (c_X10_init_2 l dC dI H.size q239) (cwI 2 hts gm_X3_init_X10_init rfl rfl rfl (hts (.initialized RX10) (List.mem_of_getElem? (i := 9) rfl)) (hts (.methodLink RX3 35 yX10_init) (List.mem_of_getElem? (i := 10) rfl)) (hts (.instanceMethod yX10_init) (List.mem_of_getElem? (i := 11) rfl)) rfl (by decide +kernel) ⟨Nat.le_of_ble_eq_true rfl, Nat.le_of_ble_eq_true rfl⟩) ⟨fun a U g mk q => by obtain ⟨q0, q1, qP, qK, qD⟩ := q; exact ⟨q0, q1, qP, va_K.moved (u := U) (U := U.calling g mk a) (Vm.Alike.refl U.vm) qK, qD⟩, fun U hU hW => ⟨rfl, by rw [hU], by rw [hU]; exact hPc, va_K.moved hW.alike hKc, hDc.weaken (fun _ _ _ _ => trivial)⟩⟩ rfl rfl hl.1 rfl (lv_room (Nat.le_of_ble_eq_true rfl)) dX3_init_58 ⟨Nat.le_of_ble_eq_true rfl, Nat.le_of_ble_eq_true rfl⟩) hS (fun q _ h => hFc q h) hFc (fun u t H1 locs ht hvm hw hB hz1 hk1 hS => ?_)
  obtain ⟨q246, q247, hP1, hK1, hD1⟩ := hB
  rw [ht] at hP1
  have hK1 := va_K.moved hvm.symm hK1
  obtain ⟨hP, hD⟩ := va_join (wr := [(h0, .inr (3, [.int 0, .ref q229, .ref q231, .ref q233, .ref q235, .ref q237, .null]))]) (w1 := [(q239, .inr (10, [.int 0, .ref q246, .ref q247, .int 0]))]) hP hD [1] [0] rfl rfl (by decide +kernel) (by decide +kernel) hk1 hFc hP1 hD1
  have hK := (hK.sub (tys' := [(k230, .int), (k232, .byte), (k234, .byte), (k236, .boolean), (k238, .byte)]) [0, 1, 2, 3, 4] rfl).app hK1
  generalize H1 = H at hP hS ⊢
  have hK : va_K (dC, dI) vwCl [(k230, .int), (k232, .byte), (k234, .byte), (k236, .boolean), (k238, .byte)] s := hK
  have hP : va_P (dC, dI) vwCl [(h0, .inr (3, [.int 0, .ref q229, .ref q231, .ref q233, .ref q235, .ref q237, .null])), (q239, .inr (10, [.int 0, .ref q246, .ref q247, .int 0]))] H := hP
  have hD : va_D A [(h0, .inr (3, [.int 0, .ref q229, .ref q231, .ref q233, .ref q235, .ref q237, .null])), (q239, .inr (10, [.int 0, .ref q246, .ref q247, .int 0]))] := hD
  refine va_put (D := (dC, dI)) (ci := 3) (v := .ref q239) (ty := .object "SpellTurner$WordRow") (C := RX3) (T := TX3) (N := 7) hx hb hts (fun _ h => List.mem_append_right _ h) tyX3 tyX3_ok nmX3 hown hK hP hD hS 0 rfl rfl 6 (by decide +kernel) (hts (.fieldLink RX3 38 "SpellTurner$Partings" "parts" "LSpellTurner$WordRow;") (List.mem_of_getElem? (i := 18) rfl)) (fun _ h9 => h9) rfl (by decide +kernel) rfl rfl (Nat.le_of_ble_eq_true rfl) dX3_init_61 (fun H locs hP hD hS => ?_)
  have hP : va_P (dC, dI) vwCl [(h0, .inr (3, [.int 0, .ref q229, .ref q231, .ref q233, .ref q235, .ref q237, .ref q239])), (q239, .inr (10, [.int 0, .ref q246, .ref q247, .int 0]))] H := hP
  have hD : va_D A [(h0, .inr (3, [.int 0, .ref q229, .ref q231, .ref q233, .ref q235, .ref q237, .ref q239])), (q239, .inr (10, [.int 0, .ref q246, .ref q247, .int 0]))] := hD
  have hP := hP.sub (ws' := [(h0, .inr (3, [.int 0, .ref q229, .ref q231, .ref q233, .ref q235, .ref q237, .ref q239]))]) [0] rfl
  have hD := hD.sub (ws' := [(h0, .inr (3, [.int 0, .ref q229, .ref q231, .ref q233, .ref q235, .ref q237, .ref q239]))]) [0] (by decide +kernel) rfl
  refine W.widen (k := 8) (n := 1211) (by omega) (by omega) ?_
  have hP9 := hP.sub (ws' := [(h0, .inr (3, [.int 0, .ref q229, .ref q231, .ref q233, .ref q235, .ref q237, .ref q239]))]) [0] rfl
  have hD9 := hD.sub (ws' := [(h0, .inr (3, [.int 0, .ref q229, .ref q231, .ref q233, .ref q235, .ref q237, .ref q239]))]) [0] (by decide +kernel) rfl
  have hK9 := hK.sub (tys' := []) [] rfl
  exact W.vret hx hb hr (fun t ht hW => ⟨⟨(), rfl, trivial, q229, q231, q233, q235, q237, q239, by rw [ht]; exact hP9, va_K.moved hW.alike hK9, hD9⟩, hS.F ht⟩) hS.2.2 dX3_init_64
set_option maxHeartbeats 4000000 in
set_option maxRecDepth 100000 in
theorem c_X10_init_3 (l : Launch) (dC : Nat → ClassId) (dI : Nat → Nat → Nat) (sz : Nat) (h0 : Nat) : Met l yX10_init wmX10_init ({ frames := 2, cells := 2, slots := 300, locals := 60 }) (va_Pc [.ref h0, .int 12, .int 24] (fun U => U.heap.size = sz ∧ va_P (dC, dI) vwCl [(h0, .inr (10, [.int 0, .null, .null, .int 0]))] U.heap ∧ va_K (dC, dI) vwCl [] U ∧ va_D (fun _ => True) [(h0, .inr (10, [.int 0, .null, .null, .int 0]))])) (va_Qv (fun _ : Unit => True) (fun _ t => ∃ (q267 : Nat), ∃ (q269 : Nat), va_P (dC, dI) vwCl [(h0, .inr (10, [.int 24, .ref q267, .ref q269, .int 0]))] t.heap ∧ va_K (dC, dI) vwCl [] t ∧ va_D (va_A [(h0, .inr (10, [.int 0, .null, .null, .int 0]))] sz) [(h0, .inr (10, [.int 24, .ref q267, .ref q269, .int 0]))]) (va_A [(h0, .inr (10, [.int 0, .null, .null, .int 0]))] sz)) 2 300 (va_A [(h0, .inr (10, [.int 0, .null, .null, .int 0]))] sz) := by
  refine Met.ofW (cc := cX10_init) (maxL := 3) (ret := none) (by decide +kernel) rfl ?_
  intro p e s m args below meth c s₁ B hml hv
  obtain ⟨rfl, hsz, hP, hK, hD0⟩ := hv
  have hx := B.exec
  have hb := B.bytes
  have hr := B.returns
  have hts := atoms_spec (ws := wmX10_init) B.pre
  have hown : s.vm.findClass RX10 = some m.cls := findClass_of_methodNamed B.named
  have hlocks := B.notSynchronized
  have hin : meth.name = "<init>" := (name_of_methodNamed B.named B.method).1
  subst hsz
  have hD := hD0.self (sz := s.heap.size)
  generalize hAe : va_A [(h0, .inr (10, [.int 0, .null, .null, .int 0]))] s.heap.size = A at hD ⊢
  have hA : ∀ q : Nat, s.heap.size ≤ q → A q := fun q h => by rw [← hAe]; exact Or.inr h
  have hS : va_S A s.heap s.heap [] := va_S.rf
  have hP : va_P (dC, dI) vwCl [(h0, .inr (10, [.int 0, .null, .null, .int 0]))] s.heap := hP
  have hl := lv_entry ([.ref h0, .int 12, .int 24]) (n := 3) (Nat.le_of_ble_eq_true rfl)
  rw [lg_entry_eq]
  generalize (lg_sl ([.ref h0, .int 12, .int 24]) ++ List.replicate (3 - (lg_sl ([.ref h0, .int 12, .int 24])).length) Slot.unset).toArray = ls at hl ⊢
  have hl : lv_has ls 3 [(0, .ref h0), (1, .int 12), (2, .int 24)] := hl
  refine lv_aload_n hx hb dX10_init_0 rfl (lv_at hl 0 rfl) ?_
  refine W.objInit hx hb hown (hts (.methodLink RX10 3 objectInit) (List.mem_of_getElem? (i := 1) rfl)) (hts (.instanceMethod objectInit) (List.mem_of_getElem? (i := 2) rfl)) (hts (.code objectInit ⟨#[0xb1]⟩ 1 none) (List.mem_of_getElem? (i := 3) rfl)) rfl (by rw [hml]; exact hl.1) rfl dX10_init_1 (Nat.le_of_ble_eq_true rfl) (Nat.le_of_ble_eq_true rfl) ?_
  refine W.eq (g2 := F0 m 4 ls []) rfl ?_
  refine lv_aload_n hx hb dX10_init_4 rfl (lv_at hl 0 rfl) ?_
  refine lv_iconst (v := 0) hx hb dX10_init_5 (by decide +kernel) ?_
  refine va_put (D := (dC, dI)) (ci := 10) (v := .int 0) (ty := .int) (C := RX10) (T := TX10) (N := 4) hx hb hts (fun _ h => List.mem_append_right _ h) tyX10 tyX10_ok nmX10 hown hK hP hD hS 0 rfl rfl 3 (by decide +kernel) (hts (.fieldLink RX10 9 "SpellTurner$WordRow" "count" "I") (List.mem_of_getElem? (i := 6) rfl)) (fun _ h9 => h9) rfl (by decide +kernel) rfl rfl (Nat.le_of_ble_eq_true rfl) dX10_init_6 (fun H locs hP hD hS => ?_)
  have hP : va_P (dC, dI) vwCl [(h0, .inr (10, [.int 0, .null, .null, .int 0]))] H := hP
  have hD : va_D A [(h0, .inr (10, [.int 0, .null, .null, .int 0]))] := hD
  refine lv_aload_n hx hb dX10_init_9 rfl (lv_at hl 0 rfl) ?_
  refine lv_iload_n hx hb dX10_init_10 rfl (lv_at hl 2 rfl) ?_
  refine va_putF (D := (dC, dI)) (ci := 10) (v := .int 24) (ty := .int) (C := RX10) (T := TX10) (N := 4) hx hb hts (fun _ h => List.mem_append_right _ h) tyX10 tyX10_ok nmX10 hown hK hP hD hS 0 rfl rfl 0 (by decide +kernel) (hts (.fieldLink RX10 15 "SpellTurner$WordRow" "width" "I") (List.mem_of_getElem? (i := 7) rfl)) (fun _ h9 => h9) rfl hin rfl (by decide +kernel) rfl rfl (Nat.le_of_ble_eq_true rfl) dX10_init_11 (fun H locs hP hD hS => ?_)
  have hP : va_P (dC, dI) vwCl [(h0, .inr (10, [.int 24, .null, .null, .int 0]))] H := hP
  have hD : va_D A [(h0, .inr (10, [.int 24, .null, .null, .int 0]))] := hD
  refine lv_aload_n hx hb dX10_init_14 rfl (lv_at hl 0 rfl) ?_
  refine lv_iload_n hx hb dX10_init_15 rfl (lv_at hl 1 rfl) ?_
  refine lv_iload_n hx hb dX10_init_16 rfl (lv_at hl 2 rfl) ?_
  refine lv_imul hx hb dX10_init_17 ?_
  refine lv_topi (fun x271 ex271 => ?_)
  obtain rfl : x271 = 288 := ex271.trans (by decide +kernel)
  refine va_newa (atype := .byte) (a0 := (288, .inl (fun _ => 0))) (ty := .byte) (N' := 288) hx hb (hts (.arrayClass .byte) (List.mem_of_getElem? (i := 4) rfl)) rfl hK hP hD hS hA (fun _ => rfl) (by decide +kernel) (by decide +kernel) (by decide +kernel) (Nat.le_of_ble_eq_true rfl) (Nat.le_of_ble_eq_true rfl) dX10_init_18 (fun q272 k273 H hK hP hD hS => ?_)
  have hK : va_K (dC, dI) vwCl [(k273, .byte)] s := hK
  have hP : va_P (dC, dI) vwCl [(h0, .inr (10, [.int 24, .null, .null, .int 0])), (q272, .inl (k273, 288, .inl (fun _ => 0)))] H := hP
  have hD : va_D A [(h0, .inr (10, [.int 24, .null, .null, .int 0])), (q272, .inl (k273, 288, .inl (fun _ => 0)))] := hD
  refine va_putF (D := (dC, dI)) (ci := 10) (v := .ref q272) (ty := .array .byte) (C := RX10) (T := TX10) (N := 4) hx hb hts (fun _ h => List.mem_append_right _ h) tyX10 tyX10_ok nmX10 hown hK hP hD hS 0 rfl rfl 1 (by decide +kernel) (hts (.fieldLink RX10 18 "SpellTurner$WordRow" "letters" "[B") (List.mem_of_getElem? (i := 8) rfl)) (fun _ h9 => h9) rfl hin rfl (by decide +kernel) rfl rfl (Nat.le_of_ble_eq_true rfl) dX10_init_20 (fun H locs hP hD hS => ?_)
  have hP : va_P (dC, dI) vwCl [(h0, .inr (10, [.int 24, .ref q272, .null, .int 0])), (q272, .inl (k273, 288, .inl (fun _ => 0)))] H := hP
  have hD : va_D A [(h0, .inr (10, [.int 24, .ref q272, .null, .int 0])), (q272, .inl (k273, 288, .inl (fun _ => 0)))] := hD
  have hP := hP.sub (ws' := [(h0, .inr (10, [.int 24, .ref q272, .null, .int 0]))]) [0] rfl
  have hD := hD.sub (ws' := [(h0, .inr (10, [.int 24, .ref q272, .null, .int 0]))]) [0] (by decide +kernel) rfl
  refine lv_aload_n hx hb dX10_init_23 rfl (lv_at hl 0 rfl) ?_
  refine lv_iload_n hx hb dX10_init_24 rfl (lv_at hl 1 rfl) ?_
  refine va_newa (atype := .int) (a0 := (12, .inl (fun _ => 0))) (ty := .int) (N' := 12) hx hb (hts (.arrayClass .int) (List.mem_of_getElem? (i := 5) rfl)) rfl hK hP hD hS hA (fun _ => rfl) (by decide +kernel) (by decide +kernel) (by decide +kernel) (Nat.le_of_ble_eq_true rfl) (Nat.le_of_ble_eq_true rfl) dX10_init_25 (fun q274 k275 H hK hP hD hS => ?_)
  have hK : va_K (dC, dI) vwCl [(k273, .byte), (k275, .int)] s := hK
  have hP : va_P (dC, dI) vwCl [(h0, .inr (10, [.int 24, .ref q272, .null, .int 0])), (q274, .inl (k275, 12, .inl (fun _ => 0)))] H := hP
  have hD : va_D A [(h0, .inr (10, [.int 24, .ref q272, .null, .int 0])), (q274, .inl (k275, 12, .inl (fun _ => 0)))] := hD
  refine va_putF (D := (dC, dI)) (ci := 10) (v := .ref q274) (ty := .array .int) (C := RX10) (T := TX10) (N := 4) hx hb hts (fun _ h => List.mem_append_right _ h) tyX10 tyX10_ok nmX10 hown hK hP hD hS 0 rfl rfl 2 (by decide +kernel) (hts (.fieldLink RX10 22 "SpellTurner$WordRow" "lengths" "[I") (List.mem_of_getElem? (i := 9) rfl)) (fun _ h9 => h9) rfl hin rfl (by decide +kernel) rfl rfl (Nat.le_of_ble_eq_true rfl) dX10_init_27 (fun H locs hP hD hS => ?_)
  have hP : va_P (dC, dI) vwCl [(h0, .inr (10, [.int 24, .ref q272, .ref q274, .int 0])), (q274, .inl (k275, 12, .inl (fun _ => 0)))] H := hP
  have hD : va_D A [(h0, .inr (10, [.int 24, .ref q272, .ref q274, .int 0])), (q274, .inl (k275, 12, .inl (fun _ => 0)))] := hD
  have hP := hP.sub (ws' := [(h0, .inr (10, [.int 24, .ref q272, .ref q274, .int 0]))]) [0] rfl
  have hD := hD.sub (ws' := [(h0, .inr (10, [.int 24, .ref q272, .ref q274, .int 0]))]) [0] (by decide +kernel) rfl
  refine W.widen (k := 2) (n := 300) (by omega) (by omega) ?_
  have hP9 := hP.sub (ws' := [(h0, .inr (10, [.int 24, .ref q272, .ref q274, .int 0]))]) [0] rfl
  have hD9 := hD.sub (ws' := [(h0, .inr (10, [.int 24, .ref q272, .ref q274, .int 0]))]) [0] (by decide +kernel) rfl
  have hK9 := hK.sub (tys' := []) [] rfl
  exact W.vret hx hb hr (fun t ht hW => ⟨⟨(), rfl, trivial, q272, q274, by rw [ht]; exact hP9, va_K.moved hW.alike hK9, hD9⟩, hS.F ht⟩) hS.2.2 dX10_init_30
