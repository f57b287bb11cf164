set_option maxHeartbeats 4000000 in
set_option maxRecDepth 100000 in
theorem c_X2_init_0 (l : Launch) (dC : Nat → ClassId) (dI : Nat → Nat → Nat) (sz : Nat) (h0 : Nat) : Met l yX2_init wmX2_init ({ frames := 2, cells := 3, slots := 600, locals := 60 }) (va_Pc [.ref h0] (fun U => U.heap.size = sz ∧ va_P (dC, dI) vwCl [(h0, .inr (2, [.null, .null, .null, .int 0, .int 0, .int 0]))] U.heap ∧ va_K (dC, dI) vwCl [] U ∧ va_D (fun _ => True) [(h0, .inr (2, [.null, .null, .null, .int 0, .int 0, .int 0]))])) (va_Qv (fun _ : Unit => True) (fun _ t => ∃ (q597 : Nat), ∃ (q599 : Nat), ∃ (q601 : Nat), ∃ (k598 : ClassId), ∃ (k600 : ClassId), ∃ (k602 : ClassId), va_P (dC, dI) vwCl [(h0, .inr (2, [.ref q597, .ref q599, .ref q601, .int 0, .int 0, .int 0])), (q597, .inl (k598, 280, .inl (fun _ => 0))), (q599, .inl (k600, 280, .inl (fun _ => 0))), (q601, .inl (k602, 40, .inl (fun _ => 0)))] t.heap ∧ va_K (dC, dI) vwCl [(k598, .int), (k600, .int), (k602, .int)] t ∧ va_D (va_A [(h0, .inr (2, [.null, .null, .null, .int 0, .int 0, .int 0]))] sz) [(h0, .inr (2, [.ref q597, .ref q599, .ref q601, .int 0, .int 0, .int 0])), (q597, .inl (k598, 280, .inl (fun _ => 0))), (q599, .inl (k600, 280, .inl (fun _ => 0))), (q601, .inl (k602, 40, .inl (fun _ => 0)))]) (va_A [(h0, .inr (2, [.null, .null, .null, .int 0, .int 0, .int 0]))] sz)) 3 600 (va_A [(h0, .inr (2, [.null, .null, .null, .int 0, .int 0, .int 0]))] sz) := by
  refine Met.ofW (cc := cX2_init) (maxL := 1) (ret := none) (by decide +kernel) rfl ?_
  intro p e s m args below meth c s₁ B hml hv
  obtain ⟨rfl, hsz, hP, hK, hD0⟩ := hv
  have hx := B.exec
  have hb := B.bytes
  have hr := B.returns
  have hts := atoms_spec (ws := wmX2_init) B.pre
  have hown : s.vm.findClass RX2 = some m.cls := findClass_of_methodNamed B.named
  have hlocks := B.notSynchronized
  have hin : meth.name = "<init>" := (name_of_methodNamed B.named B.method).1
  subst hsz
  have hD := hD0.self (sz := s.heap.size)
  generalize hAe : va_A [(h0, .inr (2, [.null, .null, .null, .int 0, .int 0, .int 0]))] s.heap.size = A at hD ⊢
  have hA : ∀ q : Nat, s.heap.size ≤ q → A q := fun q h => by rw [← hAe]; exact Or.inr h
  have hS : va_S A s.heap s.heap [] := va_S.rf
  have hP : va_P (dC, dI) vwCl [(h0, .inr (2, [.null, .null, .null, .int 0, .int 0, .int 0]))] s.heap := hP
  have hl := lv_entry ([.ref h0]) (n := 1) (Nat.le_of_ble_eq_true rfl)
  rw [lg_entry_eq]
  generalize (lg_sl ([.ref h0]) ++ List.replicate (1 - (lg_sl ([.ref h0])).length) Slot.unset).toArray = ls at hl ⊢
  have hl : lv_has ls 1 [(0, .ref h0)] := hl
  refine lv_aload_n hx hb dX2_init_0 rfl (lv_at hl 0 rfl) ?_
  refine W.objInit hx hb hown (hts (.methodLink RX2 3 objectInit) (List.mem_of_getElem? (i := 1) rfl)) (hts (.instanceMethod objectInit) (List.mem_of_getElem? (i := 2) rfl)) (hts (.code objectInit ⟨#[0xb1]⟩ 1 none) (List.mem_of_getElem? (i := 3) rfl)) rfl (by rw [hml]; exact hl.1) rfl dX2_init_1 (Nat.le_of_ble_eq_true rfl) (Nat.le_of_ble_eq_true rfl) ?_
  refine W.eq (g2 := F0 m 4 ls []) rfl ?_
  refine lv_aload_n hx hb dX2_init_4 rfl (lv_at hl 0 rfl) ?_
  refine lv_sipush (v := 280) hx hb dX2_init_5 (by decide +kernel) ?_
  refine va_newa (atype := .int) (a0 := (280, .inl (fun _ => 0))) (ty := .int) (N' := 280) hx hb (hts (.arrayClass .int) (List.mem_of_getElem? (i := 4) rfl)) rfl hK hP hD hS hA (fun _ => rfl) (by decide +kernel) (by decide +kernel) (by decide +kernel) (Nat.le_of_ble_eq_true rfl) (Nat.le_of_ble_eq_true rfl) dX2_init_8 (fun q603 k604 H hK hP hD hS => ?_)
  have hK : va_K (dC, dI) vwCl [(k604, .int)] s := hK
  have hP : va_P (dC, dI) vwCl [(h0, .inr (2, [.null, .null, .null, .int 0, .int 0, .int 0])), (q603, .inl (k604, 280, .inl (fun _ => 0)))] H := hP
  have hD : va_D A [(h0, .inr (2, [.null, .null, .null, .int 0, .int 0, .int 0])), (q603, .inl (k604, 280, .inl (fun _ => 0)))] := hD
  refine va_putF (D := (dC, dI)) (ci := 2) (v := .ref q603) (ty := .array .int) (C := RX2) (T := TX2) (N := 6) hx hb hts (fun _ h => List.mem_append_right _ h) tyX2 tyX2_ok nmX2 hown hK hP hD hS 0 rfl rfl 0 (by decide +kernel) (hts (.fieldLink RX2 9 "SpellTurner$Mixture" "costs" "[I") (List.mem_of_getElem? (i := 5) rfl)) (fun _ h9 => h9) rfl hin rfl (by decide +kernel) rfl rfl (Nat.le_of_ble_eq_true rfl) dX2_init_10 (fun H locs hP hD hS => ?_)
  have hP : va_P (dC, dI) vwCl [(h0, .inr (2, [.ref q603, .null, .null, .int 0, .int 0, .int 0])), (q603, .inl (k604, 280, .inl (fun _ => 0)))] H := hP
  have hD : va_D A [(h0, .inr (2, [.ref q603, .null, .null, .int 0, .int 0, .int 0])), (q603, .inl (k604, 280, .inl (fun _ => 0)))] := hD
  refine lv_aload_n hx hb dX2_init_13 rfl (lv_at hl 0 rfl) ?_
  refine lv_sipush (v := 280) hx hb dX2_init_14 (by decide +kernel) ?_
  refine va_newa (atype := .int) (a0 := (280, .inl (fun _ => 0))) (ty := .int) (N' := 280) hx hb (hts (.arrayClass .int) (List.mem_of_getElem? (i := 4) rfl)) rfl hK hP hD hS hA (fun _ => rfl) (by decide +kernel) (by decide +kernel) (by decide +kernel) (Nat.le_of_ble_eq_true rfl) (Nat.le_of_ble_eq_true rfl) dX2_init_17 (fun q605 k606 H hK hP hD hS => ?_)
  have hK : va_K (dC, dI) vwCl [(k604, .int), (k606, .int)] s := hK
  have hP : va_P (dC, dI) vwCl [(h0, .inr (2, [.ref q603, .null, .null, .int 0, .int 0, .int 0])), (q603, .inl (k604, 280, .inl (fun _ => 0))), (q605, .inl (k606, 280, .inl (fun _ => 0)))] H := hP
  have hD : va_D A [(h0, .inr (2, [.ref q603, .null, .null, .int 0, .int 0, .int 0])), (q603, .inl (k604, 280, .inl (fun _ => 0))), (q605, .inl (k606, 280, .inl (fun _ => 0)))] := hD
  refine va_putF (D := (dC, dI)) (ci := 2) (v := .ref q605) (ty := .array .int) (C := RX2) (T := TX2) (N := 6) hx hb hts (fun _ h => List.mem_append_right _ h) tyX2 tyX2_ok nmX2 hown hK hP hD hS 0 rfl rfl 1 (by decide +kernel) (hts (.fieldLink RX2 15 "SpellTurner$Mixture" "least" "[I") (List.mem_of_getElem? (i := 6) rfl)) (fun _ h9 => h9) rfl hin rfl (by decide +kernel) rfl rfl (Nat.le_of_ble_eq_true rfl) dX2_init_19 (fun H locs hP hD hS => ?_)
  have hP : va_P (dC, dI) vwCl [(h0, .inr (2, [.ref q603, .ref q605, .null, .int 0, .int 0, .int 0])), (q603, .inl (k604, 280, .inl (fun _ => 0))), (q605, .inl (k606, 280, .inl (fun _ => 0)))] H := hP
  have hD : va_D A [(h0, .inr (2, [.ref q603, .ref q605, .null, .int 0, .int 0, .int 0])), (q603, .inl (k604, 280, .inl (fun _ => 0))), (q605, .inl (k606, 280, .inl (fun _ => 0)))] := hD
  refine lv_aload_n hx hb dX2_init_22 rfl (lv_at hl 0 rfl) ?_
  refine lv_bipush (v := 40) hx hb dX2_init_23 (by decide +kernel) ?_
  refine va_newa (atype := .int) (a0 := (40, .inl (fun _ => 0))) (ty := .int) (N' := 40) hx hb (hts (.arrayClass .int) (List.mem_of_getElem? (i := 4) rfl)) rfl hK hP hD hS hA (fun _ => rfl) (by decide +kernel) (by decide +kernel) (by decide +kernel) (Nat.le_of_ble_eq_true rfl) (Nat.le_of_ble_eq_true rfl) dX2_init_25 (fun q607 k608 H hK hP hD hS => ?_)
  have hK : va_K (dC, dI) vwCl [(k604, .int), (k606, .int), (k608, .int)] s := hK
  have hP : va_P (dC, dI) vwCl [(h0, .inr (2, [.ref q603, .ref q605, .null, .int 0, .int 0, .int 0])), (q603, .inl (k604, 280, .inl (fun _ => 0))), (q605, .inl (k606, 280, .inl (fun _ => 0))), (q607, .inl (k608, 40, .inl (fun _ => 0)))] H := hP
  have hD : va_D A [(h0, .inr (2, [.ref q603, .ref q605, .null, .int 0, .int 0, .int 0])), (q603, .inl (k604, 280, .inl (fun _ => 0))), (q605, .inl (k606, 280, .inl (fun _ => 0))), (q607, .inl (k608, 40, .inl (fun _ => 0)))] := hD
  refine va_putF (D := (dC, dI)) (ci := 2) (v := .ref q607) (ty := .array .int) (C := RX2) (T := TX2) (N := 6) hx hb hts (fun _ h => List.mem_append_right _ h) tyX2 tyX2_ok nmX2 hown hK hP hD hS 0 rfl rfl 2 (by decide +kernel) (hts (.fieldLink RX2 18 "SpellTurner$Mixture" "told" "[I") (List.mem_of_getElem? (i := 7) rfl)) (fun _ h9 => h9) rfl hin rfl (by decide +kernel) rfl rfl (Nat.le_of_ble_eq_true rfl) dX2_init_27 (fun H locs hP hD hS => ?_)
  have hP : va_P (dC, dI) vwCl [(h0, .inr (2, [.ref q603, .ref q605, .ref q607, .int 0, .int 0, .int 0])), (q603, .inl (k604, 280, .inl (fun _ => 0))), (q605, .inl (k606, 280, .inl (fun _ => 0))), (q607, .inl (k608, 40, .inl (fun _ => 0)))] H := hP
  have hD : va_D A [(h0, .inr (2, [.ref q603, .ref q605, .ref q607, .int 0, .int 0, .int 0])), (q603, .inl (k604, 280, .inl (fun _ => 0))), (q605, .inl (k606, 280, .inl (fun _ => 0))), (q607, .inl (k608, 40, .inl (fun _ => 0)))] := hD
  refine lv_aload_n hx hb dX2_init_30 rfl (lv_at hl 0 rfl) ?_
  refine lv_iconst (v := 0) hx hb dX2_init_31 (by decide +kernel) ?_
  refine va_put (D := (dC, dI)) (ci := 2) (v := .int 0) (ty := .int) (C := RX2) (T := TX2) (N := 6) hx hb hts (fun _ h => List.mem_append_right _ h) tyX2 tyX2_ok nmX2 hown hK hP hD hS 0 rfl rfl 3 (by decide +kernel) (hts (.fieldLink RX2 21 "SpellTurner$Mixture" "toldLines" "I") (List.mem_of_getElem? (i := 8) rfl)) (fun _ h9 => h9) rfl (by decide +kernel) rfl rfl (Nat.le_of_ble_eq_true rfl) dX2_init_32 (fun H locs hP hD hS => ?_)
  have hP : va_P (dC, dI) vwCl [(h0, .inr (2, [.ref q603, .ref q605, .ref q607, .int 0, .int 0, .int 0])), (q603, .inl (k604, 280, .inl (fun _ => 0))), (q605, .inl (k606, 280, .inl (fun _ => 0))), (q607, .inl (k608, 40, .inl (fun _ => 0)))] H := hP
  have hD : va_D A [(h0, .inr (2, [.ref q603, .ref q605, .ref q607, .int 0, .int 0, .int 0])), (q603, .inl (k604, 280, .inl (fun _ => 0))), (q605, .inl (k606, 280, .inl (fun _ => 0))), (q607, .inl (k608, 40, .inl (fun _ => 0)))] := hD
  refine lv_aload_n hx hb dX2_init_35 rfl (lv_at hl 0 rfl) ?_
  refine lv_iconst (v := 0) hx hb dX2_init_36 (by decide +kernel) ?_
  refine va_put (D := (dC, dI)) (ci := 2) (v := .int 0) (ty := .int) (C := RX2) (T := TX2) (N := 6) hx hb hts (fun _ h => List.mem_append_right _ h) tyX2 tyX2_ok nmX2 hown hK hP hD hS 0 rfl rfl 4 (by decide +kernel) (hts (.fieldLink RX2 25 "SpellTurner$Mixture" "lines" "I") (List.mem_of_getElem? (i := 9) rfl)) (fun _ h9 => h9) rfl (by decide +kernel) rfl rfl (Nat.le_of_ble_eq_true rfl) dX2_init_37 (fun H locs hP hD hS => ?_)
  have hP : va_P (dC, dI) vwCl [(h0, .inr (2, [.ref q603, .ref q605, .ref q607, .int 0, .int 0, .int 0])), (q603, .inl (k604, 280, .inl (fun _ => 0))), (q605, .inl (k606, 280, .inl (fun _ => 0))), (q607, .inl (k608, 40, .inl (fun _ => 0)))] H := hP
  have hD : va_D A [(h0, .inr (2, [.ref q603, .ref q605, .ref q607, .int 0, .int 0, .int 0])), (q603, .inl (k604, 280, .inl (fun _ => 0))), (q605, .inl (k606, 280, .inl (fun _ => 0))), (q607, .inl (k608, 40, .inl (fun _ => 0)))] := hD
  refine lv_aload_n hx hb dX2_init_40 rfl (lv_at hl 0 rfl) ?_
  refine lv_iconst (v := 0) hx hb dX2_init_41 (by decide +kernel) ?_
  refine va_put (D := (dC, dI)) (ci := 2) (v := .int 0) (ty := .int) (C := RX2) (T := TX2) (N := 6) hx hb hts (fun _ h => List.mem_append_right _ h) tyX2 tyX2_ok nmX2 hown hK hP hD hS 0 rfl rfl 5 (by decide +kernel) (hts (.fieldLink RX2 28 "SpellTurner$Mixture" "stages" "I") (List.mem_of_getElem? (i := 10) rfl)) (fun _ h9 => h9) rfl (by decide +kernel) rfl rfl (Nat.le_of_ble_eq_true rfl) dX2_init_42 (fun H locs hP hD hS => ?_)
  have hP : va_P (dC, dI) vwCl [(h0, .inr (2, [.ref q603, .ref q605, .ref q607, .int 0, .int 0, .int 0])), (q603, .inl (k604, 280, .inl (fun _ => 0))), (q605, .inl (k606, 280, .inl (fun _ => 0))), (q607, .inl (k608, 40, .inl (fun _ => 0)))] H := hP
  have hD : va_D A [(h0, .inr (2, [.ref q603, .ref q605, .ref q607, .int 0, .int 0, .int 0])), (q603, .inl (k604, 280, .inl (fun _ => 0))), (q605, .inl (k606, 280, .inl (fun _ => 0))), (q607, .inl (k608, 40, .inl (fun _ => 0)))] := hD
  refine W.widen (k := 3) (n := 600) (by omega) (by omega) ?_
  have hP9 := hP.sub (ws' := [(h0, .inr (2, [.ref q603, .ref q605, .ref q607, .int 0, .int 0, .int 0])), (q603, .inl (k604, 280, .inl (fun _ => 0))), (q605, .inl (k606, 280, .inl (fun _ => 0))), (q607, .inl (k608, 40, .inl (fun _ => 0)))]) [0, 1, 2, 3] rfl
  have hD9 := hD.sub (ws' := [(h0, .inr (2, [.ref q603, .ref q605, .ref q607, .int 0, .int 0, .int 0])), (q603, .inl (k604, 280, .inl (fun _ => 0))), (q605, .inl (k606, 280, .inl (fun _ => 0))), (q607, .inl (k608, 40, .inl (fun _ => 0)))]) [0, 1, 2, 3] (by decide +kernel) rfl
  have hK9 := hK.sub (tys' := [(k604, .int), (k606, .int), (k608, .int)]) [0, 1, 2] rfl
  exact W.vret hx hb hr (fun t ht hW => ⟨⟨(), rfl, trivial, q603, q605, q607, k604, k606, k608, by rw [ht]; exact hP9, va_K.moved hW.alike hK9, hD9⟩, hS.F ht⟩) hS.2.2 dX2_init_45
