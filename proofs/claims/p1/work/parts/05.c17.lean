set_option maxHeartbeats 4000000 in
set_option maxRecDepth 100000 in
theorem c_X7_occurrences_1 (l : Launch) (dC : Nat → ClassId) (dI : Nat → Nat → Nat) (sz : Nat) (h0 : Nat) (h1 : Nat) : Met l yX7_occurrences wmX7_occurrences ({ frames := 2, cells := 0, slots := 0, locals := 60 }) (va_Pc [.ref h0, .int 10, .int 0] (fun U => U.heap.size = sz ∧ va_P (dC, dI) vwCl [(h0, .inr (7, [.ref h1, .int 0]))] U.heap ∧ va_K (dC, dI) vwCl [] U ∧ va_D (fun _ => True) [(h0, .inr (7, [.ref h1, .int 0]))])) (va_Qi (fun (r : Int32) (_ : Unit) => (r = 0)) (fun _ t => va_P (dC, dI) vwCl [(h0, .inr (7, [.ref h1, .int 0]))] t.heap ∧ va_K (dC, dI) vwCl [] t ∧ va_D (va_A [(h0, .inr (7, [.ref h1, .int 0]))] sz) [(h0, .inr (7, [.ref h1, .int 0]))]) (va_A [(h0, .inr (7, [.ref h1, .int 0]))] sz)) 0 0 (va_A [(h0, .inr (7, [.ref h1, .int 0]))] sz) := by
  refine Met.ofW (cc := cX7_occurrences) (maxL := 5) (ret := (some .int)) (by decide +kernel) rfl ?_
  intro p e s m args below meth c s₁ B hml hv
  obtain ⟨rfl, hsz, hP, hK, hD0⟩ := hv
  have hx := B.exec
  have hb := B.bytes
  have hr := B.returns
  have hts := atoms_spec (ws := wmX7_occurrences) B.pre
  have hown : s.vm.findClass RX7 = some m.cls := findClass_of_methodNamed B.named
  have hlocks := B.notSynchronized
  subst hsz
  have hD := hD0.self (sz := s.heap.size)
  generalize hAe : va_A [(h0, .inr (7, [.ref h1, .int 0]))] s.heap.size = A at hD ⊢
  have hA : ∀ q : Nat, s.heap.size ≤ q → A q := fun q h => by rw [← hAe]; exact Or.inr h
  have hS : va_S A s.heap s.heap [] := va_S.rf
  have hP : va_P (dC, dI) vwCl [(h0, .inr (7, [.ref h1, .int 0]))] s.heap := hP
  have hl := lv_entry ([.ref h0, .int 10, .int 0]) (n := 5) (Nat.le_of_ble_eq_true rfl)
  rw [lg_entry_eq]
  generalize (lg_sl ([.ref h0, .int 10, .int 0]) ++ List.replicate (5 - (lg_sl ([.ref h0, .int 10, .int 0])).length) Slot.unset).toArray = ls at hl ⊢
  have hl : lv_has ls 5 [(0, .ref h0), (1, .int 10), (2, .int 0)] := hl
  refine lv_iconst (v := 0) hx hb dX7_occurrences_0 (by decide +kernel) ?_
  refine lv_istore_n (lv' := [(3, .int 0), (0, .ref h0), (1, .int 10), (2, .int 0)]) hx hb dX7_occurrences_1 rfl hl (by decide +kernel) rfl (fun ls hl => ?_)
  refine lv_iconst (v := 0) hx hb dX7_occurrences_2 (by decide +kernel) ?_
  refine lv_istore (lv' := [(4, .int 0), (3, .int 0), (0, .ref h0), (1, .int 10), (2, .int 0)]) hx hb dX7_occurrences_3 hl (by decide +kernel) rfl (fun ls hl => ?_)
  refine lv_iload hx hb dX7_occurrences_5 (lv_at hl 0 rfl) ?_
  refine lv_iload_n hx hb dX7_occurrences_7 rfl (lv_at hl 4 rfl) ?_
  refine lv_icmp_ge (tgt := 39) hx hb dX7_occurrences_8 (by decide +kernel) (fun _ => ?_) (fun h => absurd (by decide +kernel) h)
  refine lv_iload_n hx hb dX7_occurrences_39 rfl (lv_at hl 1 rfl) ?_
  refine W.widen (k := 0) (n := 0) (by omega) (by omega) ?_
  have hP9 := hP.sub (ws' := [(h0, .inr (7, [.ref h1, .int 0]))]) [0] rfl
  have hD9 := hD.sub (ws' := [(h0, .inr (7, [.ref h1, .int 0]))]) [0] (by decide +kernel) rfl
  have hK9 := hK.sub (tys' := []) [] rfl
  exact W.iret (v := 0) hx hb hr (fun t ht hW => ⟨⟨0, (), rfl, rfl, by rw [ht]; exact hP9, va_K.moved hW.alike hK9, hD9⟩, hS.F ht⟩) hS.2.2 dX7_occurrences_40
set_option maxHeartbeats 4000000 in
set_option maxRecDepth 100000 in
theorem c_X7_lines_0 (l : Launch) (dC : Nat → ClassId) (dI : Nat → Nat → Nat) (sz : Nat) (h0 : Nat) (h1 : Nat) : Met l yX7_lines wmX7_lines ({ frames := 3, cells := 0, slots := 0, locals := 84 }) (va_Pc [.ref h0, .int 0] (fun U => U.heap.size = sz ∧ va_P (dC, dI) vwCl [(h0, .inr (7, [.ref h1, .int 0]))] U.heap ∧ va_K (dC, dI) vwCl [] U ∧ va_D (fun _ => True) [(h0, .inr (7, [.ref h1, .int 0]))])) (va_Qi (fun (r : Int32) (_ : Unit) => (r = 1)) (fun _ t => va_P (dC, dI) vwCl [(h0, .inr (7, [.ref h1, .int 0]))] t.heap ∧ va_K (dC, dI) vwCl [] t ∧ va_D (va_A [(h0, .inr (7, [.ref h1, .int 0]))] sz) [(h0, .inr (7, [.ref h1, .int 0]))]) (va_A [(h0, .inr (7, [.ref h1, .int 0]))] sz)) 0 0 (va_A [(h0, .inr (7, [.ref h1, .int 0]))] sz) := by
  refine Met.ofW (cc := cX7_lines) (maxL := 2) (ret := (some .int)) (by decide +kernel) rfl ?_
  intro p e s m args below meth c s₁ B hml hv
  obtain ⟨rfl, hsz, hP, hK, hD0⟩ := hv
  have hx := B.exec
  have hb := B.bytes
  have hr := B.returns
  have hts := atoms_spec (ws := wmX7_lines) B.pre
  have hown : s.vm.findClass RX7 = some m.cls := findClass_of_methodNamed B.named
  have hlocks := B.notSynchronized
  subst hsz
  have hD := hD0.self (sz := s.heap.size)
  generalize hAe : va_A [(h0, .inr (7, [.ref h1, .int 0]))] s.heap.size = A at hD ⊢
  have hA : ∀ q : Nat, s.heap.size ≤ q → A q := fun q h => by rw [← hAe]; exact Or.inr h
  have hS : va_S A s.heap s.heap [] := va_S.rf
  have hP : va_P (dC, dI) vwCl [(h0, .inr (7, [.ref h1, .int 0]))] s.heap := hP
  have hl := lv_entry ([.ref h0, .int 0]) (n := 2) (Nat.le_of_ble_eq_true rfl)
  rw [lg_entry_eq]
  generalize (lg_sl ([.ref h0, .int 0]) ++ List.replicate (2 - (lg_sl ([.ref h0, .int 0])).length) Slot.unset).toArray = ls at hl ⊢
  have hl : lv_has ls 2 [(0, .ref h0), (1, .int 0)] := hl
  refine lv_iconst (v := 1) hx hb dX7_lines_0 (by decide +kernel) ?_
  refine lv_aload_n hx hb dX7_lines_1 rfl (lv_at hl 0 rfl) ?_
  refine lv_bipush (v := 10) hx hb dX7_lines_2 (by decide +kernel) ?_
  refine lv_iload_n hx hb dX7_lines_4 rfl (lv_at hl 1 rfl) ?_
  have hPc := hP.sub (ws' := [(h0, .inr (7, [.ref h1, .int 0]))]) [0] rfl
  have hDc := hD.sub (ws' := [(h0, .inr (7, [.ref h1, .int 0]))]) [0] (by decide +kernel) rfl
  have hKc := hK.sub (tys' := []) [] rfl
  have hFc := va_free (wc := [(h0, .inr (7, [.ref h1, .int 0]))]) hD hS hA [0] rfl
  refine va_calli (va_runV (As := [.int 10, .int 0]) (rest := [.int 1]) ⟨hx, hb, hml, hown, hts⟩ (c_X7_occurrences_1 l dC dI s.heap.size h0 h1) (cwV 2 hts gv_X7_lines_X7_occurrences_25 rfl rfl rfl (by decide +kernel) ⟨Nat.le_of_ble_eq_true rfl, Nat.le_of_ble_eq_true rfl⟩) ⟨fun a U g mk q => by obtain ⟨q0, q1, qP, qK, qD⟩ := q; exact ⟨q0, q1, qP, va_K.moved (u := U) (U := U.calling g mk a) (Vm.Alike.refl U.vm) qK, qD⟩, va_recv hKc hPc (ci := 7) (q0 := 0) rfl rfl, fun U hU hW => ⟨rfl, by rw [hU], by rw [hU]; exact hPc, va_K.moved hW.alike hKc, hDc.weaken (fun _ _ _ _ => trivial)⟩⟩ rfl rfl hl.1 rfl (lv_room (Nat.le_of_ble_eq_true rfl)) dX7_lines_5 ⟨Nat.le_of_ble_eq_true rfl, Nat.le_of_ble_eq_true rfl⟩) hS (fun q _ h => hFc q h) hFc (fun r2290 u t H1 locs ht hvm hw hB hz1 hk1 hS => ?_)
  obtain ⟨hP1, hK1, hD1⟩ := hB
  rw [ht] at hP1
  have hK1 := va_K.moved hvm.symm hK1
  obtain ⟨hP, hD⟩ := va_join (wr := []) (w1 := [(h0, .inr (7, [.ref h1, .int 0]))]) hP hD [0] [] rfl rfl (by decide +kernel) (by decide +kernel) hk1 hFc hP1 hD1
  have hK := (hK.sub (tys' := []) [] rfl).app hK1
  generalize H1 = H at hP hS ⊢
  have hK : va_K (dC, dI) vwCl [] s := hK
  have hP : va_P (dC, dI) vwCl [(h0, .inr (7, [.ref h1, .int 0]))] H := hP
  have hD : va_D A [(h0, .inr (7, [.ref h1, .int 0]))] := hD
  obtain rfl : r2290 = 0 := hw
  refine lv_iadd hx hb dX7_lines_8 ?_
  refine lv_topi (fun x2291 ex2291 => ?_)
  obtain rfl : x2291 = 1 := ex2291.trans (by decide +kernel)
  refine W.widen (k := 0) (n := 0) (by omega) (by omega) ?_
  have hP9 := hP.sub (ws' := [(h0, .inr (7, [.ref h1, .int 0]))]) [0] rfl
  have hD9 := hD.sub (ws' := [(h0, .inr (7, [.ref h1, .int 0]))]) [0] (by decide +kernel) rfl
  have hK9 := hK.sub (tys' := []) [] rfl
  exact W.iret (v := 1) hx hb hr (fun t ht hW => ⟨⟨1, (), rfl, rfl, by rw [ht]; exact hP9, va_K.moved hW.alike hK9, hD9⟩, hS.F ht⟩) hS.2.2 dX7_lines_9
set_option maxHeartbeats 4000000 in
set_option maxRecDepth 100000 in
theorem c_X2_begin_0 (l : Launch) (dC : Nat → ClassId) (dI : Nat → Nat → Nat) (sz : Nat) (h0 : Nat) (h1 : Nat) (h2 : Nat) (h3 : Nat) (k0 : ClassId) : Met l yX2_begin wmX2_begin ({ frames := 3, cells := 0, slots := 0, locals := 83 }) (va_Pc [.ref h0, .int 1, .int 1] (fun U => U.heap.size = sz ∧ va_P (dC, dI) vwCl [(h0, .inr (2, [.ref h1, .ref h2, .ref h3, .int 0, .int 0, .int 0])), (h1, .inl (k0, 280, .inl (fun _ => 0)))] U.heap ∧ va_K (dC, dI) vwCl [(k0, .int)] U ∧ va_D (fun _ => True) [(h0, .inr (2, [.ref h1, .ref h2, .ref h3, .int 0, .int 0, .int 0])), (h1, .inl (k0, 280, .inl (fun _ => 0)))])) (va_Qv (fun _ : Unit => True) (fun _ t => va_P (dC, dI) vwCl [(h0, .inr (2, [.ref h1, .ref h2, .ref h3, .int 0, .int 1, .int 1])), (h1, .inl (k0, 280, .inl (fun _ => 0)))] t.heap ∧ va_K (dC, dI) vwCl [] t ∧ va_D (va_A [(h0, .inr (2, [.ref h1, .ref h2, .ref h3, .int 0, .int 0, .int 0])), (h1, .inl (k0, 280, .inl (fun _ => 0)))] sz) [(h0, .inr (2, [.ref h1, .ref h2, .ref h3, .int 0, .int 1, .int 1])), (h1, .inl (k0, 280, .inl (fun _ => 0)))]) (va_A [(h0, .inr (2, [.ref h1, .ref h2, .ref h3, .int 0, .int 0, .int 0])), (h1, .inl (k0, 280, .inl (fun _ => 0)))] sz)) 0 0 (va_A [(h0, .inr (2, [.ref h1, .ref h2, .ref h3, .int 0, .int 0, .int 0])), (h1, .inl (k0, 280, .inl (fun _ => 0)))] sz) := by
  refine Met.ofW (cc := cX2_begin) (maxL := 3) (ret := none) (by decide +kernel) rfl ?_
  intro p e s m args below meth c s₁ B hml hv
  obtain ⟨rfl, hsz, hP, hK, hD0⟩ := hv
  have hx := B.exec
  have hb := B.bytes
  have hr := B.returns
  have hts := atoms_spec (ws := wmX2_begin) B.pre
  have hown : s.vm.findClass RX2 = some m.cls := findClass_of_methodNamed B.named
  have hlocks := B.notSynchronized
  subst hsz
  have hD := hD0.self (sz := s.heap.size)
  generalize hAe : va_A [(h0, .inr (2, [.ref h1, .ref h2, .ref h3, .int 0, .int 0, .int 0])), (h1, .inl (k0, 280, .inl (fun _ => 0)))] s.heap.size = A at hD ⊢
  have hA : ∀ q : Nat, s.heap.size ≤ q → A q := fun q h => by rw [← hAe]; exact Or.inr h
  have hS : va_S A s.heap s.heap [] := va_S.rf
  have hP : va_P (dC, dI) vwCl [(h0, .inr (2, [.ref h1, .ref h2, .ref h3, .int 0, .int 0, .int 0])), (h1, .inl (k0, 280, .inl (fun _ => 0)))] s.heap := hP
  have hl := lv_entry ([.ref h0, .int 1, .int 1]) (n := 3) (Nat.le_of_ble_eq_true rfl)
  rw [lg_entry_eq]
  generalize (lg_sl ([.ref h0, .int 1, .int 1]) ++ List.replicate (3 - (lg_sl ([.ref h0, .int 1, .int 1])).length) Slot.unset).toArray = ls at hl ⊢
  have hl : lv_has ls 3 [(0, .ref h0), (1, .int 1), (2, .int 1)] := hl
  refine lv_aload_n hx hb dX2_begin_0 rfl (lv_at hl 0 rfl) ?_
  refine lv_iload_n hx hb dX2_begin_1 rfl (lv_at hl 1 rfl) ?_
  refine lv_bipush (v := 40) hx hb dX2_begin_2 (by decide +kernel) ?_
  refine va_mmin hx hb (by rw [hml]; exact hl.1.symm) hown (hts (.methodLink RX2 31 Lib.Math.min.name) (List.mem_of_getElem? (i := 1) rfl)) (hts (.static Lib.Math.min.name) (List.mem_of_getElem? (i := 2) rfl)) (hts (.initialized "java/lang/Math") (List.mem_of_getElem? (i := 3) rfl)) (hts (.code Lib.Math.min.name Lib.Math.min.code 2 (some .int)) (List.mem_of_getElem? (i := 4) rfl)) (Nat.le_of_ble_eq_true rfl) (Nat.le_of_ble_eq_true rfl) (Nat.le_of_ble_eq_true rfl) (Nat.le_of_ble_eq_true rfl) dX2_begin_4 ?_
  refine lv_topi (fun x2299 ex2299 => ?_)
  obtain rfl : x2299 = 1 := ex2299.trans (by decide +kernel)
  refine va_put (D := (dC, dI)) (ci := 2) (v := .int 1) (ty := .int) (C := RX2) (T := TX2) (N := 6) hx hb hts (fun _ h => List.mem_append_right _ h) tyX2 tyX2_ok nmX2 hown hK hP hD hS 0 rfl rfl 4 (by decide +kernel) (hts (.fieldLink RX2 25 "SpellTurner$Mixture" "lines" "I") (List.mem_of_getElem? (i := 8) rfl)) (fun _ h9 => h9) rfl (by decide +kernel) rfl rfl (Nat.le_of_ble_eq_true rfl) dX2_begin_7 (fun H locs hP hD hS => ?_)
  have hP : va_P (dC, dI) vwCl [(h0, .inr (2, [.ref h1, .ref h2, .ref h3, .int 0, .int 1, .int 0])), (h1, .inl (k0, 280, .inl (fun _ => 0)))] H := hP
  have hD : va_D A [(h0, .inr (2, [.ref h1, .ref h2, .ref h3, .int 0, .int 1, .int 0])), (h1, .inl (k0, 280, .inl (fun _ => 0)))] := hD
  refine lv_aload_n hx hb dX2_begin_10 rfl (lv_at hl 0 rfl) ?_
  refine lv_iload_n hx hb dX2_begin_11 rfl (lv_at hl 2 rfl) ?_
  refine lv_bipush (v := 7) hx hb dX2_begin_12 (by decide +kernel) ?_
  refine va_mmin hx hb (by rw [hml]; exact hl.1.symm) hown (hts (.methodLink RX2 31 Lib.Math.min.name) (List.mem_of_getElem? (i := 1) rfl)) (hts (.static Lib.Math.min.name) (List.mem_of_getElem? (i := 2) rfl)) (hts (.initialized "java/lang/Math") (List.mem_of_getElem? (i := 3) rfl)) (hts (.code Lib.Math.min.name Lib.Math.min.code 2 (some .int)) (List.mem_of_getElem? (i := 4) rfl)) (Nat.le_of_ble_eq_true rfl) (Nat.le_of_ble_eq_true rfl) (Nat.le_of_ble_eq_true rfl) (Nat.le_of_ble_eq_true rfl) dX2_begin_14 ?_
  refine lv_topi (fun x2300 ex2300 => ?_)
  obtain rfl : x2300 = 1 := ex2300.trans (by decide +kernel)
  refine va_put (D := (dC, dI)) (ci := 2) (v := .int 1) (ty := .int) (C := RX2) (T := TX2) (N := 6) hx hb hts (fun _ h => List.mem_append_right _ h) tyX2 tyX2_ok nmX2 hown hK hP hD hS 0 rfl rfl 5 (by decide +kernel) (hts (.fieldLink RX2 28 "SpellTurner$Mixture" "stages" "I") (List.mem_of_getElem? (i := 9) rfl)) (fun _ h9 => h9) rfl (by decide +kernel) rfl rfl (Nat.le_of_ble_eq_true rfl) dX2_begin_17 (fun H locs hP hD hS => ?_)
  have hP : va_P (dC, dI) vwCl [(h0, .inr (2, [.ref h1, .ref h2, .ref h3, .int 0, .int 1, .int 1])), (h1, .inl (k0, 280, .inl (fun _ => 0)))] H := hP
  have hD : va_D A [(h0, .inr (2, [.ref h1, .ref h2, .ref h3, .int 0, .int 1, .int 1])), (h1, .inl (k0, 280, .inl (fun _ => 0)))] := hD
  refine lv_aload_n hx hb dX2_begin_20 rfl (lv_at hl 0 rfl) ?_
  refine va_get (D := (dC, dI)) (ci := 2) (v := .ref h1) (C := RX2) (T := TX2) (N := 6) hx hb hts (fun _ h => List.mem_append_right _ h) hown hK hP 0 rfl rfl 0 (by decide +kernel) (hts (.fieldLink RX2 9 "SpellTurner$Mixture" "costs" "[I") (List.mem_of_getElem? (i := 10) rfl)) (fun _ h9 => h9) rfl dX2_begin_21 ?_
  refine lv_iconst (v := 0) hx hb dX2_begin_24 (by decide +kernel) ?_
  have hPc := hP.sub (ws' := [(h1, .inl (k0, 280, .inl (fun _ => 0)))]) [1] rfl
  have hDc := hD.sub (ws' := [(h1, .inl (k0, 280, .inl (fun _ => 0)))]) [1] (by decide +kernel) rfl
  have hKc := hK.sub (tys' := [(k0, .int)]) [0] rfl
  have hFc := va_free (wc := [(h1, .inl (k0, 280, .inl (fun _ => 0)))]) hD hS hA [1] rfl
  refine va_callv (va_runS (As := [.ref h1, .int 0]) (rest := []) ⟨hx, hb, hml, hown, hts⟩ (c_fill l dC dI H.size h1 k0 280 (by decide +kernel)) (va_cwS 2 hts gv_X2_begin_J7_fill_53178_37 rfl rfl rfl (by decide +kernel) ⟨Nat.le_of_ble_eq_true rfl, Nat.le_of_ble_eq_true rfl⟩) ⟨fun a U g mk q => by obtain ⟨q0, q1, qP, qK, qD⟩ := q; exact ⟨q0, q1, qP, va_K.moved (u := U) (U := U.calling g mk a) (Vm.Alike.refl U.vm) qK, qD⟩, fun U hU hW => ⟨rfl, by rw [hU], by rw [hU]; exact hPc, va_K.moved hW.alike hKc, hDc.weaken (fun _ _ _ _ => trivial)⟩⟩ rfl rfl hl.1 rfl (lv_room (Nat.le_of_ble_eq_true rfl)) dX2_begin_25 ⟨Nat.le_of_ble_eq_true rfl, Nat.le_of_ble_eq_true rfl⟩) hS (fun q _ h => hFc q h) hFc (fun u t H1 locs ht hvm hw hB hz1 hk1 hS => ?_)
  obtain ⟨hP1, hK1, hD1⟩ := hB
  rw [ht] at hP1
  have hK1 := va_K.moved hvm.symm hK1
  obtain ⟨hP, hD⟩ := va_join (wr := [(h0, .inr (2, [.ref h1, .ref h2, .ref h3, .int 0, .int 1, .int 1]))]) (w1 := [(h1, .inl (k0, 280, .inl (fun _ => 0)))]) hP hD [1] [0] rfl rfl (by decide +kernel) (by decide +kernel) hk1 hFc hP1 hD1
  have hK := (hK.sub (tys' := [(k0, .int)]) [0] rfl).app hK1
  generalize H1 = H at hP hS ⊢
  have hK : va_K (dC, dI) vwCl [(k0, .int)] s := hK
  have hP : va_P (dC, dI) vwCl [(h0, .inr (2, [.ref h1, .ref h2, .ref h3, .int 0, .int 1, .int 1])), (h1, .inl (k0, 280, .inl (fun _ => 0)))] H := hP
  have hD : va_D A [(h0, .inr (2, [.ref h1, .ref h2, .ref h3, .int 0, .int 1, .int 1])), (h1, .inl (k0, 280, .inl (fun _ => 0)))] := hD
  refine W.widen (k := 0) (n := 0) (by omega) (by omega) ?_
  have hP9 := hP.sub (ws' := [(h0, .inr (2, [.ref h1, .ref h2, .ref h3, .int 0, .int 1, .int 1])), (h1, .inl (k0, 280, .inl (fun _ => 0)))]) [0, 1] rfl
  have hD9 := hD.sub (ws' := [(h0, .inr (2, [.ref h1, .ref h2, .ref h3, .int 0, .int 1, .int 1])), (h1, .inl (k0, 280, .inl (fun _ => 0)))]) [0, 1] (by decide +kernel) rfl
  have hK9 := hK.sub (tys' := []) [] rfl
  exact W.vret hx hb hr (fun t ht hW => ⟨⟨(), rfl, trivial, by rw [ht]; exact hP9, va_K.moved hW.alike hK9, hD9⟩, hS.F ht⟩) hS.2.2 dX2_begin_28
set_option maxHeartbeats 4000000 in
set_option maxRecDepth 100000 in
theorem c_X2_cheapest_0 (l : Launch) (dC : Nat → ClassId) (dI : Nat → Nat → Nat) (sz : Nat) (h0 : Nat) (h1 : Nat) (h2 : Nat) (h3 : Nat) (p0 : Int32) : Met l yX2_cheapest wmX2_cheapest ({ frames := 2, cells := 0, slots := 0, locals := 60 }) (va_Pc [.ref h0, .int 0, .int (-1), .int p0] (fun U => U.heap.size = sz ∧ va_P (dC, dI) vwCl [(h0, .inr (2, [.ref h1, .ref h2, .ref h3, .int 0, .int 1, .int 1]))] U.heap ∧ va_K (dC, dI) vwCl [] U ∧ va_D (fun _ => True) [(h0, .inr (2, [.ref h1, .ref h2, .ref h3, .int 0, .int 1, .int 1]))])) (va_Qi (fun (r : Int32) (_ : Unit) => (r = 0)) (fun _ t => va_P (dC, dI) vwCl [(h0, .inr (2, [.ref h1, .ref h2, .ref h3, .int 0, .int 1, .int 1]))] t.heap ∧ va_K (dC, dI) vwCl [] t ∧ va_D (va_A [(h0, .inr (2, [.ref h1, .ref h2, .ref h3, .int 0, .int 1, .int 1]))] sz) [(h0, .inr (2, [.ref h1, .ref h2, .ref h3, .int 0, .int 1, .int 1]))]) (va_A [(h0, .inr (2, [.ref h1, .ref h2, .ref h3, .int 0, .int 1, .int 1]))] sz)) 0 0 (va_A [(h0, .inr (2, [.ref h1, .ref h2, .ref h3, .int 0, .int 1, .int 1]))] sz) := by
  refine Met.ofW (cc := cX2_cheapest) (maxL := 6) (ret := (some .int)) (by decide +kernel) rfl ?_
  intro p e s m args below meth c s₁ B hml hv
  obtain ⟨rfl, hsz, hP, hK, hD0⟩ := hv
  have hx := B.exec
  have hb := B.bytes
  have hr := B.returns
  have hts := atoms_spec (ws := wmX2_cheapest) B.pre
  have hown : s.vm.findClass RX2 = some m.cls := findClass_of_methodNamed B.named
  have hlocks := B.notSynchronized
  subst hsz
  have hD := hD0.self (sz := s.heap.size)
  generalize hAe : va_A [(h0, .inr (2, [.ref h1, .ref h2, .ref h3, .int 0, .int 1, .int 1]))] s.heap.size = A at hD ⊢
  have hA : ∀ q : Nat, s.heap.size ≤ q → A q := fun q h => by rw [← hAe]; exact Or.inr h
  have hS : va_S A s.heap s.heap [] := va_S.rf
  have hP : va_P (dC, dI) vwCl [(h0, .inr (2, [.ref h1, .ref h2, .ref h3, .int 0, .int 1, .int 1]))] s.heap := hP
  have hl := lv_entry ([.ref h0, .int 0, .int (-1), .int p0]) (n := 6) (Nat.le_of_ble_eq_true rfl)
  rw [lg_entry_eq]
  generalize (lg_sl ([.ref h0, .int 0, .int (-1), .int p0]) ++ List.replicate (6 - (lg_sl ([.ref h0, .int 0, .int (-1), .int p0])).length) Slot.unset).toArray = ls at hl ⊢
  have hl : lv_has ls 6 [(0, .ref h0), (1, .int 0), (2, .int (-1)), (3, .int p0)] := hl
  refine lv_iconst (v := 0) hx hb dX2_cheapest_0 (by decide +kernel) ?_
  refine lv_istore (lv' := [(4, .int 0), (0, .ref h0), (1, .int 0), (2, .int (-1)), (3, .int p0)]) hx hb dX2_cheapest_1 hl (by decide +kernel) rfl (fun ls hl => ?_)
  refine lv_iconst (v := 1) hx hb dX2_cheapest_3 (by decide +kernel) ?_
  refine lv_istore (lv' := [(5, .int 1), (4, .int 0), (0, .ref h0), (1, .int 0), (2, .int (-1)), (3, .int p0)]) hx hb dX2_cheapest_4 hl (by decide +kernel) rfl (fun ls hl => ?_)
  refine lv_iload hx hb dX2_cheapest_6 (lv_at hl 0 rfl) ?_
  refine lv_aload_n hx hb dX2_cheapest_8 rfl (lv_at hl 2 rfl) ?_
  refine va_get (D := (dC, dI)) (ci := 2) (v := .int 1) (C := RX2) (T := TX2) (N := 6) hx hb hts (fun _ h => List.mem_append_right _ h) hown hK hP 0 rfl rfl 5 (by decide +kernel) (hts (.fieldLink RX2 28 "SpellTurner$Mixture" "stages" "I") (List.mem_of_getElem? (i := 1) rfl)) (fun _ h9 => h9) rfl dX2_cheapest_9 ?_
  refine lv_icmp_ge (tgt := 46) hx hb dX2_cheapest_12 (by decide +kernel) (fun _ => ?_) (fun h => absurd (by decide +kernel) h)
  refine lv_iload hx hb dX2_cheapest_46 (lv_at hl 1 rfl) ?_
  refine W.widen (k := 0) (n := 0) (by omega) (by omega) ?_
  have hP9 := hP.sub (ws' := [(h0, .inr (2, [.ref h1, .ref h2, .ref h3, .int 0, .int 1, .int 1]))]) [0] rfl
  have hD9 := hD.sub (ws' := [(h0, .inr (2, [.ref h1, .ref h2, .ref h3, .int 0, .int 1, .int 1]))]) [0] (by decide +kernel) rfl
  have hK9 := hK.sub (tys' := []) [] rfl
  exact W.iret (v := 0) hx hb hr (fun t ht hW => ⟨⟨0, (), rfl, rfl, by rw [ht]; exact hP9, va_K.moved hW.alike hK9, hD9⟩, hS.F ht⟩) hS.2.2 dX2_cheapest_48
set_option maxHeartbeats 4000000 in
set_option maxRecDepth 100000 in
theorem c_X2_cost_0 (l : Launch) (dC : Nat → ClassId) (dI : Nat → Nat → Nat) (sz : Nat) (h0 : Nat) (h1 : Nat) (h2 : Nat) (h3 : Nat) (k0 : ClassId) (p0 : Int32) : Met l yX2_cost wmX2_cost ({ frames := 2, cells := 0, slots := 0, locals := 60 }) (va_Pc [.ref h0, .int 0, .int 0, .int (-1), .int p0] (fun U => U.heap.size = sz ∧ va_P (dC, dI) vwCl [(h0, .inr (2, [.ref h1, .ref h2, .ref h3, .int 1, .int 1, .int 1])), (h2, .inl (k0, 280, .inl (fun _ => 0)))] U.heap ∧ va_K (dC, dI) vwCl [(k0, .int)] U ∧ va_D (fun _ => True) [(h0, .inr (2, [.ref h1, .ref h2, .ref h3, .int 1, .int 1, .int 1])), (h2, .inl (k0, 280, .inl (fun _ => 0)))])) (va_Qi (fun (r : Int32) (_ : Unit) => (r = 0)) (fun _ t => va_P (dC, dI) vwCl [(h0, .inr (2, [.ref h1, .ref h2, .ref h3, .int 1, .int 1, .int 1])), (h2, .inl (k0, 280, .inl (fun _ => 0)))] t.heap ∧ va_K (dC, dI) vwCl [] t ∧ va_D (va_A [(h0, .inr (2, [.ref h1, .ref h2, .ref h3, .int 1, .int 1, .int 1])), (h2, .inl (k0, 280, .inl (fun _ => 0)))] sz) [(h0, .inr (2, [.ref h1, .ref h2, .ref h3, .int 1, .int 1, .int 1])), (h2, .inl (k0, 280, .inl (fun _ => 0)))]) (va_A [(h0, .inr (2, [.ref h1, .ref h2, .ref h3, .int 1, .int 1, .int 1])), (h2, .inl (k0, 280, .inl (fun _ => 0)))] sz)) 0 0 (va_A [(h0, .inr (2, [.ref h1, .ref h2, .ref h3, .int 1, .int 1, .int 1])), (h2, .inl (k0, 280, .inl (fun _ => 0)))] sz) := by
  refine Met.ofW (cc := cX2_cost) (maxL := 6) (ret := (some .int)) (by decide +kernel) rfl ?_
  intro p e s m args below meth c s₁ B hml hv
  obtain ⟨rfl, hsz, hP, hK, hD0⟩ := hv
  have hx := B.exec
  have hb := B.bytes
  have hr := B.returns
  have hts := atoms_spec (ws := wmX2_cost) B.pre
  have hown : s.vm.findClass RX2 = some m.cls := findClass_of_methodNamed B.named
  have hlocks := B.notSynchronized
  subst hsz
  have hD := hD0.self (sz := s.heap.size)
  generalize hAe : va_A [(h0, .inr (2, [.ref h1, .ref h2, .ref h3, .int 1, .int 1, .int 1])), (h2, .inl (k0, 280, .inl (fun _ => 0)))] s.heap.size = A at hD ⊢
  have hA : ∀ q : Nat, s.heap.size ≤ q → A q := fun q h => by rw [← hAe]; exact Or.inr h
  have hS : va_S A s.heap s.heap [] := va_S.rf
  have hP : va_P (dC, dI) vwCl [(h0, .inr (2, [.ref h1, .ref h2, .ref h3, .int 1, .int 1, .int 1])), (h2, .inl (k0, 280, .inl (fun _ => 0)))] s.heap := hP
  have hl := lv_entry ([.ref h0, .int 0, .int 0, .int (-1), .int p0]) (n := 6) (Nat.le_of_ble_eq_true rfl)
  rw [lg_entry_eq]
  generalize (lg_sl ([.ref h0, .int 0, .int 0, .int (-1), .int p0]) ++ List.replicate (6 - (lg_sl ([.ref h0, .int 0, .int 0, .int (-1), .int p0])).length) Slot.unset).toArray = ls at hl ⊢
  have hl : lv_has ls 6 [(0, .ref h0), (1, .int 0), (2, .int 0), (3, .int (-1)), (4, .int p0)] := hl
  refine lv_iload_n hx hb dX2_cost_0 rfl (lv_at hl 3 rfl) ?_
  refine lv_iconst (v := (-1)) hx hb dX2_cost_1 (by decide +kernel) ?_
  refine lv_icmp_eq (tgt := 14) hx hb dX2_cost_2 (by decide +kernel) (fun _ => ?_) (fun h => absurd (by decide +kernel) h)
  refine lv_iconst (v := 0) hx hb dX2_cost_14 (by decide +kernel) ?_
  refine lv_istore (lv' := [(5, .int 0), (0, .ref h0), (1, .int 0), (2, .int 0), (3, .int (-1)), (4, .int p0)]) hx hb dX2_cost_15 hl (by decide +kernel) rfl (fun ls hl => ?_)
  refine lv_aload_n hx hb dX2_cost_17 rfl (lv_at hl 1 rfl) ?_
  refine va_get (D := (dC, dI)) (ci := 2) (v := .ref h2) (C := RX2) (T := TX2) (N := 6) hx hb hts (fun _ h => List.mem_append_right _ h) hown hK hP 0 rfl rfl 1 (by decide +kernel) (hts (.fieldLink RX2 15 "SpellTurner$Mixture" "least" "[I") (List.mem_of_getElem? (i := 1) rfl)) (fun _ h9 => h9) rfl dX2_cost_18 ?_
  refine lv_iload_n hx hb dX2_cost_21 rfl (lv_at hl 2 rfl) ?_
  refine lv_bipush (v := 7) hx hb dX2_cost_22 (by decide +kernel) ?_
  refine lv_imul hx hb dX2_cost_24 ?_
  refine lv_topi (fun x2322 ex2322 => ?_)
  obtain rfl : x2322 = 0 := ex2322.trans (by decide +kernel)
  refine lv_iload_n hx hb dX2_cost_25 rfl (lv_at hl 3 rfl) ?_
  refine lv_iadd hx hb dX2_cost_26 ?_
  refine lv_topi (fun x2323 ex2323 => ?_)
  obtain rfl : x2323 = 0 := ex2323.trans (by decide +kernel)
  refine va_iald hx hb hK hP 1 0 rfl rfl (by unfold vp_in; decide) dX2_cost_27 ?_
  refine lv_topi (fun x2324 ex2324 => ?_)
  obtain rfl : x2324 = 0 := ex2324
  refine lv_iload hx hb dX2_cost_28 (lv_at hl 0 rfl) ?_
  refine lv_if_eq (tgt := 38) hx hb dX2_cost_30 (by decide +kernel) (fun _ => ?_) (fun h => absurd (by decide +kernel) h)
  refine lv_iconst (v := 0) hx hb dX2_cost_38 (by decide +kernel) ?_
  refine lv_iadd hx hb dX2_cost_39 ?_
  refine lv_topi (fun x2325 ex2325 => ?_)
  obtain rfl : x2325 = 0 := ex2325.trans (by decide +kernel)
  refine W.widen (k := 0) (n := 0) (by omega) (by omega) ?_
  have hP9 := hP.sub (ws' := [(h0, .inr (2, [.ref h1, .ref h2, .ref h3, .int 1, .int 1, .int 1])), (h2, .inl (k0, 280, .inl (fun _ => 0)))]) [0, 1] rfl
  have hD9 := hD.sub (ws' := [(h0, .inr (2, [.ref h1, .ref h2, .ref h3, .int 1, .int 1, .int 1])), (h2, .inl (k0, 280, .inl (fun _ => 0)))]) [0, 1] (by decide +kernel) rfl
  have hK9 := hK.sub (tys' := []) [] rfl
  exact W.iret (v := 0) hx hb hr (fun t ht hW => ⟨⟨0, (), rfl, rfl, by rw [ht]; exact hP9, va_K.moved hW.alike hK9, hD9⟩, hS.F ht⟩) hS.2.2 dX2_cost_40
set_option maxHeartbeats 4000000 in
set_option maxRecDepth 100000 in
theorem c_X2_settle_0 (l : Launch) (dC : Nat → ClassId) (dI : Nat → Nat → Nat) (sz : Nat) (h0 : Nat) (h1 : Nat) (h2 : Nat) (h3 : Nat) (k0 : ClassId) (k1 : ClassId) (k2 : ClassId) (p0 : Int32) : Met l yX2_settle wmX2_settle ({ frames := 3, cells := 0, slots := 0, locals := 85 }) (va_Pc [.ref h0, .int p0] (fun U => U.heap.size = sz ∧ va_P (dC, dI) vwCl [(h0, .inr (2, [.ref h1, .ref h2, .ref h3, .int 0, .int 1, .int 1])), (h1, .inl (k0, 280, .inl (fun _ => 0))), (h2, .inl (k1, 280, .inl (fun _ => 0))), (h3, .inl (k2, 40, .inl (fun _ => 0)))] U.heap ∧ va_K (dC, dI) vwCl [(k0, .int), (k1, .int), (k2, .int)] U ∧ va_D (fun _ => True) [(h0, .inr (2, [.ref h1, .ref h2, .ref h3, .int 0, .int 1, .int 1])), (h1, .inl (k0, 280, .inl (fun _ => 0))), (h2, .inl (k1, 280, .inl (fun _ => 0))), (h3, .inl (k2, 40, .inl (fun _ => 0)))])) (va_Qi (fun (r : Int32) (_ : Unit) => (r = 0)) (fun _ t => va_P (dC, dI) vwCl [(h0, .inr (2, [.ref h1, .ref h2, .ref h3, .int 1, .int 1, .int 1])), (h1, .inl (k0, 280, .inl (fun _ => 0))), (h2, .inl (k1, 280, .inl (fun _ => 0))), (h3, .inl (k2, 40, .inl (fun _ => 0)))] t.heap ∧ va_K (dC, dI) vwCl [] t ∧ va_D (va_A [(h0, .inr (2, [.ref h1, .ref h2, .ref h3, .int 0, .int 1, .int 1])), (h1, .inl (k0, 280, .inl (fun _ => 0))), (h2, .inl (k1, 280, .inl (fun _ => 0))), (h3, .inl (k2, 40, .inl (fun _ => 0)))] sz) [(h0, .inr (2, [.ref h1, .ref h2, .ref h3, .int 1, .int 1, .int 1])), (h1, .inl (k0, 280, .inl (fun _ => 0))), (h2, .inl (k1, 280, .inl (fun _ => 0))), (h3, .inl (k2, 40, .inl (fun _ => 0)))]) (va_A [(h0, .inr (2, [.ref h1, .ref h2, .ref h3, .int 0, .int 1, .int 1])), (h1, .inl (k0, 280, .inl (fun _ => 0))), (h2, .inl (k1, 280, .inl (fun _ => 0))), (h3, .inl (k2, 40, .inl (fun _ => 0)))] sz)) 0 0 (va_A [(h0, .inr (2, [.ref h1, .ref h2, .ref h3, .int 0, .int 1, .int 1])), (h1, .inl (k0, 280, .inl (fun _ => 0))), (h2, .inl (k1, 280, .inl (fun _ => 0))), (h3, .inl (k2, 40, .inl (fun _ => 0)))] sz) := by
  refine Met.ofW (cc := cX2_settle) (maxL := 5) (ret := (some .int)) (by decide +kernel) rfl ?_
  intro p e s m args below meth c s₁ B hml hv
  obtain ⟨rfl, hsz, hP, hK, hD0⟩ := hv
  have hx := B.exec
  have hb := B.bytes
  have hr := B.returns
  have hts := atoms_spec (ws := wmX2_settle) B.pre
  have hown : s.vm.findClass RX2 = some m.cls := findClass_of_methodNamed B.named
  have hlocks := B.notSynchronized
  subst hsz
  have hD := hD0.self (sz := s.heap.size)
  generalize hAe : va_A [(h0, .inr (2, [.ref h1, .ref h2, .ref h3, .int 0, .int 1, .int 1])), (h1, .inl (k0, 280, .inl (fun _ => 0))), (h2, .inl (k1, 280, .inl (fun _ => 0))), (h3, .inl (k2, 40, .inl (fun _ => 0)))] s.heap.size = A at hD ⊢
  have hA : ∀ q : Nat, s.heap.size ≤ q → A q := fun q h => by rw [← hAe]; exact Or.inr h
  have hS : va_S A s.heap s.heap [] := va_S.rf
  have hP : va_P (dC, dI) vwCl [(h0, .inr (2, [.ref h1, .ref h2, .ref h3, .int 0, .int 1, .int 1])), (h1, .inl (k0, 280, .inl (fun _ => 0))), (h2, .inl (k1, 280, .inl (fun _ => 0))), (h3, .inl (k2, 40, .inl (fun _ => 0)))] s.heap := hP
  have hl := lv_entry ([.ref h0, .int p0]) (n := 5) (Nat.le_of_ble_eq_true rfl)
  rw [lg_entry_eq]
  generalize (lg_sl ([.ref h0, .int p0]) ++ List.replicate (5 - (lg_sl ([.ref h0, .int p0])).length) Slot.unset).toArray = ls at hl ⊢
  have hl : lv_has ls 5 [(0, .ref h0), (1, .int p0)] := hl
  refine lv_aload_n hx hb dX2_settle_0 rfl (lv_at hl 0 rfl) ?_
  refine va_get (D := (dC, dI)) (ci := 2) (v := .int 1) (C := RX2) (T := TX2) (N := 6) hx hb hts (fun _ h => List.mem_append_right _ h) hown hK hP 0 rfl rfl 4 (by decide +kernel) (hts (.fieldLink RX2 25 "SpellTurner$Mixture" "lines" "I") (List.mem_of_getElem? (i := 8) rfl)) (fun _ h9 => h9) rfl dX2_settle_1 ?_
  refine lv_iconst (v := 1) hx hb dX2_settle_4 (by decide +kernel) ?_
  refine lv_isub hx hb dX2_settle_5 ?_
  refine lv_topi (fun x2341 ex2341 => ?_)
  obtain rfl : x2341 = 0 := ex2341.trans (by decide +kernel)
  refine lv_istore_n (lv' := [(2, .int 0), (0, .ref h0), (1, .int p0)]) hx hb dX2_settle_6 rfl hl (by decide +kernel) rfl (fun ls hl => ?_)
  refine lv_iload_n hx hb dX2_settle_7 rfl (lv_at hl 0 rfl) ?_
  refine lv_if_lt (tgt := 92) hx hb dX2_settle_8 (by decide +kernel) (fun h => absurd h (by decide +kernel)) (fun _ => ?_)
  refine lv_iconst (v := 0) hx hb dX2_settle_11 (by decide +kernel) ?_
  refine lv_istore_n (lv' := [(3, .int 0), (2, .int 0), (0, .ref h0), (1, .int p0)]) hx hb dX2_settle_12 rfl hl (by decide +kernel) rfl (fun ls hl => ?_)
  refine lv_iload_n hx hb dX2_settle_13 rfl (lv_at hl 0 rfl) ?_
  refine lv_aload_n hx hb dX2_settle_14 rfl (lv_at hl 2 rfl) ?_
  refine va_get (D := (dC, dI)) (ci := 2) (v := .int 1) (C := RX2) (T := TX2) (N := 6) hx hb hts (fun _ h => List.mem_append_right _ h) hown hK hP 0 rfl rfl 5 (by decide +kernel) (hts (.fieldLink RX2 28 "SpellTurner$Mixture" "stages" "I") (List.mem_of_getElem? (i := 9) rfl)) (fun _ h9 => h9) rfl dX2_settle_15 ?_
  refine lv_icmp_ge (tgt := 86) hx hb dX2_settle_18 (by decide +kernel) (fun h => absurd h (by decide +kernel)) (fun _ => ?_)
  refine lv_iload_n hx hb dX2_settle_21 rfl (lv_at hl 1 rfl) ?_
  refine lv_iconst (v := 1) hx hb dX2_settle_22 (by decide +kernel) ?_
  refine lv_iadd hx hb dX2_settle_23 ?_
  refine lv_topi (fun x2342 ex2342 => ?_)
  obtain rfl : x2342 = 1 := ex2342.trans (by decide +kernel)
  refine lv_aload_n hx hb dX2_settle_24 rfl (lv_at hl 2 rfl) ?_
  refine va_get (D := (dC, dI)) (ci := 2) (v := .int 1) (C := RX2) (T := TX2) (N := 6) hx hb hts (fun _ h => List.mem_append_right _ h) hown hK hP 0 rfl rfl 4 (by decide +kernel) (hts (.fieldLink RX2 25 "SpellTurner$Mixture" "lines" "I") (List.mem_of_getElem? (i := 8) rfl)) (fun _ h9 => h9) rfl dX2_settle_25 ?_
  refine lv_icmp_ge (tgt := 52) hx hb dX2_settle_28 (by decide +kernel) (fun _ => ?_) (fun h => absurd (by decide +kernel) h)
  refine lv_iconst (v := 0) hx hb dX2_settle_52 (by decide +kernel) ?_
  refine lv_istore (lv' := [(4, .int 0), (3, .int 0), (2, .int 0), (0, .ref h0), (1, .int p0)]) hx hb dX2_settle_53 hl (by decide +kernel) rfl (fun ls hl => ?_)
  refine lv_aload_n hx hb dX2_settle_55 rfl (lv_at hl 3 rfl) ?_
  refine va_get (D := (dC, dI)) (ci := 2) (v := .ref h2) (C := RX2) (T := TX2) (N := 6) hx hb hts (fun _ h => List.mem_append_right _ h) hown hK hP 0 rfl rfl 1 (by decide +kernel) (hts (.fieldLink RX2 15 "SpellTurner$Mixture" "least" "[I") (List.mem_of_getElem? (i := 10) rfl)) (fun _ h9 => h9) rfl dX2_settle_56 ?_
  refine lv_iload_n hx hb dX2_settle_59 rfl (lv_at hl 2 rfl) ?_
  refine lv_bipush (v := 7) hx hb dX2_settle_60 (by decide +kernel) ?_
  refine lv_imul hx hb dX2_settle_62 ?_
  refine lv_topi (fun x2343 ex2343 => ?_)
  obtain rfl : x2343 = 0 := ex2343.trans (by decide +kernel)
  refine lv_iload_n hx hb dX2_settle_63 rfl (lv_at hl 1 rfl) ?_
  refine lv_iadd hx hb dX2_settle_64 ?_
  refine lv_topi (fun x2344 ex2344 => ?_)
  obtain rfl : x2344 = 0 := ex2344.trans (by decide +kernel)
  refine lv_aload_n hx hb dX2_settle_65 rfl (lv_at hl 3 rfl) ?_
  refine va_get (D := (dC, dI)) (ci := 2) (v := .ref h1) (C := RX2) (T := TX2) (N := 6) hx hb hts (fun _ h => List.mem_append_right _ h) hown hK hP 0 rfl rfl 0 (by decide +kernel) (hts (.fieldLink RX2 9 "SpellTurner$Mixture" "costs" "[I") (List.mem_of_getElem? (i := 11) rfl)) (fun _ h9 => h9) rfl dX2_settle_66 ?_
  refine lv_iload_n hx hb dX2_settle_69 rfl (lv_at hl 2 rfl) ?_
  refine lv_bipush (v := 7) hx hb dX2_settle_70 (by decide +kernel) ?_
  refine lv_imul hx hb dX2_settle_72 ?_
  refine lv_topi (fun x2345 ex2345 => ?_)
  obtain rfl : x2345 = 0 := ex2345.trans (by decide +kernel)
  refine lv_iload_n hx hb dX2_settle_73 rfl (lv_at hl 1 rfl) ?_
  refine lv_iadd hx hb dX2_settle_74 ?_
  refine lv_topi (fun x2346 ex2346 => ?_)
  obtain rfl : x2346 = 0 := ex2346.trans (by decide +kernel)
  refine va_iald hx hb hK hP 1 0 rfl rfl (by unfold vp_in; decide) dX2_settle_75 ?_
  refine lv_topi (fun x2347 ex2347 => ?_)
  obtain rfl : x2347 = 0 := ex2347
  refine lv_iload hx hb dX2_settle_76 (lv_at hl 0 rfl) ?_
  refine lv_iadd hx hb dX2_settle_78 ?_
  refine lv_topi (fun x2348 ex2348 => ?_)
  obtain rfl : x2348 = 0 := ex2348.trans (by decide +kernel)
  refine va_iast hx hb hK hP hD hS 2 1 rfl rfl (by unfold vp_in; decide) dX2_settle_79 (fun H locs hP hD hS => ?_)
  obtain ⟨f2349, ef2349, hP, hD⟩ : ∃ f2349 : Nat → Int32, f2349 = upd (fun _ => 0) (Int32.toNatClampNeg 0) 0 ∧ va_P (dC, dI) vwCl [(h0, .inr (2, [.ref h1, .ref h2, .ref h3, .int 0, .int 1, .int 1])), (h1, .inl (k0, 280, .inl (fun _ => 0))), (h2, .inl (k1, 280, .inl f2349)), (h3, .inl (k2, 40, .inl (fun _ => 0)))] H ∧ va_D A [(h0, .inr (2, [.ref h1, .ref h2, .ref h3, .int 0, .int 1, .int 1])), (h1, .inl (k0, 280, .inl (fun _ => 0))), (h2, .inl (k1, 280, .inl f2349)), (h3, .inl (k2, 40, .inl (fun _ => 0)))] := ⟨_, rfl, hP, hD⟩
  obtain rfl : f2349 = fun _ => 0 := ef2349.trans (z_upd _)
  refine lv_iinc (v := 1) (lv' := [(3, .int 1), (4, .int 0), (2, .int 0), (0, .ref h0), (1, .int p0)]) hx hb dX2_settle_80 hl (k := 1) rfl (by decide +kernel) (by decide +kernel) rfl (fun ls hl => ?_)
  refine lv_goto (tgt := 13) hx hb dX2_settle_83 (by decide +kernel) ?_
  refine lv_iload_n hx hb dX2_settle_13 rfl (lv_at hl 0 rfl) ?_
  refine lv_aload_n hx hb dX2_settle_14 rfl (lv_at hl 3 rfl) ?_
  refine va_get (D := (dC, dI)) (ci := 2) (v := .int 1) (C := RX2) (T := TX2) (N := 6) hx hb hts (fun _ h => List.mem_append_right _ h) hown hK hP 0 rfl rfl 5 (by decide +kernel) (hts (.fieldLink RX2 28 "SpellTurner$Mixture" "stages" "I") (List.mem_of_getElem? (i := 9) rfl)) (fun _ h9 => h9) rfl dX2_settle_15 ?_
  refine lv_icmp_ge (tgt := 86) hx hb dX2_settle_18 (by decide +kernel) (fun _ => ?_) (fun h => absurd (by decide +kernel) h)
  refine lv_iinc (v := (-1)) (lv' := [(2, .int (-1)), (3, .int 1), (4, .int 0), (0, .ref h0), (1, .int p0)]) hx hb dX2_settle_86 hl (k := 2) rfl (by decide +kernel) (by decide +kernel) rfl (fun ls hl => ?_)
  refine lv_goto (tgt := 7) hx hb dX2_settle_89 (by decide +kernel) ?_
  refine lv_iload_n hx hb dX2_settle_7 rfl (lv_at hl 0 rfl) ?_
  refine lv_if_lt (tgt := 92) hx hb dX2_settle_8 (by decide +kernel) (fun _ => ?_) (fun h => absurd (by decide +kernel) h)
  refine lv_iconst (v := (-1)) hx hb dX2_settle_92 (by decide +kernel) ?_
  refine lv_istore_n (lv' := [(2, .int (-1)), (3, .int 1), (4, .int 0), (0, .ref h0), (1, .int p0)]) hx hb dX2_settle_93 rfl hl (by decide +kernel) rfl (fun ls hl => ?_)
  refine lv_iconst (v := 0) hx hb dX2_settle_94 (by decide +kernel) ?_
  refine lv_istore_n (lv' := [(3, .int 0), (2, .int (-1)), (4, .int 0), (0, .ref h0), (1, .int p0)]) hx hb dX2_settle_95 rfl hl (by decide +kernel) rfl (fun ls hl => ?_)
  refine lv_iload_n hx hb dX2_settle_96 rfl (lv_at hl 0 rfl) ?_
  refine lv_aload_n hx hb dX2_settle_97 rfl (lv_at hl 3 rfl) ?_
  refine va_get (D := (dC, dI)) (ci := 2) (v := .int 1) (C := RX2) (T := TX2) (N := 6) hx hb hts (fun _ h => List.mem_append_right _ h) hown hK hP 0 rfl rfl 4 (by decide +kernel) (hts (.fieldLink RX2 25 "SpellTurner$Mixture" "lines" "I") (List.mem_of_getElem? (i := 8) rfl)) (fun _ h9 => h9) rfl dX2_settle_98 ?_
  refine lv_icmp_ge (tgt := 125) hx hb dX2_settle_101 (by decide +kernel) (fun h => absurd h (by decide +kernel)) (fun _ => ?_)
  refine lv_aload_n hx hb dX2_settle_104 rfl (lv_at hl 3 rfl) ?_
  refine lv_iload_n hx hb dX2_settle_105 rfl (lv_at hl 0 rfl) ?_
  refine lv_iload_n hx hb dX2_settle_106 rfl (lv_at hl 1 rfl) ?_
  refine lv_iload_n hx hb dX2_settle_107 rfl (lv_at hl 4 rfl) ?_
  have hPc := hP.sub (ws' := [(h0, .inr (2, [.ref h1, .ref h2, .ref h3, .int 0, .int 1, .int 1]))]) [0] rfl
  have hDc := hD.sub (ws' := [(h0, .inr (2, [.ref h1, .ref h2, .ref h3, .int 0, .int 1, .int 1]))]) [0] (by decide +kernel) rfl
  have hKc := hK.sub (tys' := []) [] rfl
  have hFc := va_free (wc := [(h0, .inr (2, [.ref h1, .ref h2, .ref h3, .int 0, .int 1, .int 1]))]) hD hS hA [0] rfl
  refine va_calli (va_runV (As := [.int 0, .int (-1), .int p0]) (rest := []) ⟨hx, hb, hml, hown, hts⟩ (c_X2_cheapest_0 l dC dI H.size h0 h1 h2 h3 p0) (cwV 3 hts gv_X2_settle_X2_cheapest_43 rfl rfl rfl (by decide +kernel) ⟨Nat.le_of_ble_eq_true rfl, Nat.le_of_ble_eq_true rfl⟩) ⟨fun a U g mk q => by obtain ⟨q0, q1, qP, qK, qD⟩ := q; exact ⟨q0, q1, qP, va_K.moved (u := U) (U := U.calling g mk a) (Vm.Alike.refl U.vm) qK, qD⟩, va_recv hKc hPc (ci := 2) (q0 := 0) rfl rfl, fun U hU hW => ⟨rfl, by rw [hU], by rw [hU]; exact hPc, va_K.moved hW.alike hKc, hDc.weaken (fun _ _ _ _ => trivial)⟩⟩ rfl rfl hl.1 rfl (lv_room (Nat.le_of_ble_eq_true rfl)) dX2_settle_108 ⟨Nat.le_of_ble_eq_true rfl, Nat.le_of_ble_eq_true rfl⟩) hS (fun q _ h => hFc q h) hFc (fun r2350 u t H1 locs ht hvm hw hB hz1 hk1 hS => ?_)
  obtain ⟨hP1, hK1, hD1⟩ := hB
  rw [ht] at hP1
  have hK1 := va_K.moved hvm.symm hK1
  obtain ⟨hP, hD⟩ := va_join (wr := [(h1, .inl (k0, 280, .inl (fun _ => 0))), (h2, .inl (k1, 280, .inl (fun _ => 0))), (h3, .inl (k2, 40, .inl (fun _ => 0)))]) (w1 := [(h0, .inr (2, [.ref h1, .ref h2, .ref h3, .int 0, .int 1, .int 1]))]) hP hD [0] [1, 2, 3] rfl rfl (by decide +kernel) (by decide +kernel) hk1 hFc hP1 hD1
  have hK := (hK.sub (tys' := [(k0, .int), (k1, .int), (k2, .int)]) [0, 1, 2] rfl).app hK1
  generalize H1 = H at hP hS ⊢
  have hK : va_K (dC, dI) vwCl [(k0, .int), (k1, .int), (k2, .int)] s := hK
  have hP : va_P (dC, dI) vwCl [(h1, .inl (k0, 280, .inl (fun _ => 0))), (h2, .inl (k1, 280, .inl (fun _ => 0))), (h3, .inl (k2, 40, .inl (fun _ => 0))), (h0, .inr (2, [.ref h1, .ref h2, .ref h3, .int 0, .int 1, .int 1]))] H := hP
  have hD : va_D A [(h1, .inl (k0, 280, .inl (fun _ => 0))), (h2, .inl (k1, 280, .inl (fun _ => 0))), (h3, .inl (k2, 40, .inl (fun _ => 0))), (h0, .inr (2, [.ref h1, .ref h2, .ref h3, .int 0, .int 1, .int 1]))] := hD
  obtain rfl : r2350 = 0 := hw
  refine lv_istore_n (lv' := [(2, .int 0), (3, .int 0), (4, .int 0), (0, .ref h0), (1, .int p0)]) hx hb dX2_settle_111 rfl hl (by decide +kernel) rfl (fun ls hl => ?_)
  refine lv_aload_n hx hb dX2_settle_112 rfl (lv_at hl 3 rfl) ?_
  refine va_get (D := (dC, dI)) (ci := 2) (v := .ref h3) (C := RX2) (T := TX2) (N := 6) hx hb hts (fun _ h => List.mem_append_right _ h) hown hK hP 3 rfl rfl 2 (by decide +kernel) (hts (.fieldLink RX2 18 "SpellTurner$Mixture" "told" "[I") (List.mem_of_getElem? (i := 12) rfl)) (fun _ h9 => h9) rfl dX2_settle_113 ?_
  refine lv_iload_n hx hb dX2_settle_116 rfl (lv_at hl 1 rfl) ?_
  refine lv_iload_n hx hb dX2_settle_117 rfl (lv_at hl 0 rfl) ?_
  refine va_iast hx hb hK hP hD hS 2 2 rfl rfl (by unfold vp_in; decide) dX2_settle_118 (fun H locs hP hD hS => ?_)
  obtain ⟨f2351, ef2351, hP, hD⟩ : ∃ f2351 : Nat → Int32, f2351 = upd (fun _ => 0) (Int32.toNatClampNeg 0) 0 ∧ va_P (dC, dI) vwCl [(h1, .inl (k0, 280, .inl (fun _ => 0))), (h2, .inl (k1, 280, .inl (fun _ => 0))), (h3, .inl (k2, 40, .inl f2351)), (h0, .inr (2, [.ref h1, .ref h2, .ref h3, .int 0, .int 1, .int 1]))] H ∧ va_D A [(h1, .inl (k0, 280, .inl (fun _ => 0))), (h2, .inl (k1, 280, .inl (fun _ => 0))), (h3, .inl (k2, 40, .inl f2351)), (h0, .inr (2, [.ref h1, .ref h2, .ref h3, .int 0, .int 1, .int 1]))] := ⟨_, rfl, hP, hD⟩
  obtain rfl : f2351 = fun _ => 0 := ef2351.trans (z_upd _)
  refine lv_iinc (v := 1) (lv' := [(3, .int 1), (2, .int 0), (4, .int 0), (0, .ref h0), (1, .int p0)]) hx hb dX2_settle_119 hl (k := 1) rfl (by decide +kernel) (by decide +kernel) rfl (fun ls hl => ?_)
  refine lv_goto (tgt := 96) hx hb dX2_settle_122 (by decide +kernel) ?_
  refine lv_iload_n hx hb dX2_settle_96 rfl (lv_at hl 0 rfl) ?_
  refine lv_aload_n hx hb dX2_settle_97 rfl (lv_at hl 3 rfl) ?_
  refine va_get (D := (dC, dI)) (ci := 2) (v := .int 1) (C := RX2) (T := TX2) (N := 6) hx hb hts (fun _ h => List.mem_append_right _ h) hown hK hP 3 rfl rfl 4 (by decide +kernel) (hts (.fieldLink RX2 25 "SpellTurner$Mixture" "lines" "I") (List.mem_of_getElem? (i := 8) rfl)) (fun _ h9 => h9) rfl dX2_settle_98 ?_
  refine lv_icmp_ge (tgt := 125) hx hb dX2_settle_101 (by decide +kernel) (fun _ => ?_) (fun h => absurd (by decide +kernel) h)
  refine lv_aload_n hx hb dX2_settle_125 rfl (lv_at hl 3 rfl) ?_
  refine lv_aload_n hx hb dX2_settle_126 rfl (lv_at hl 3 rfl) ?_
  refine va_get (D := (dC, dI)) (ci := 2) (v := .int 1) (C := RX2) (T := TX2) (N := 6) hx hb hts (fun _ h => List.mem_append_right _ h) hown hK hP 3 rfl rfl 4 (by decide +kernel) (hts (.fieldLink RX2 25 "SpellTurner$Mixture" "lines" "I") (List.mem_of_getElem? (i := 8) rfl)) (fun _ h9 => h9) rfl dX2_settle_127 ?_
  refine va_put (D := (dC, dI)) (ci := 2) (v := .int 1) (ty := .int) (C := RX2) (T := TX2) (N := 6) hx hb hts (fun _ h => List.mem_append_right _ h) tyX2 tyX2_ok nmX2 hown hK hP hD hS 3 rfl rfl 3 (by decide +kernel) (hts (.fieldLink RX2 21 "SpellTurner$Mixture" "toldLines" "I") (List.mem_of_getElem? (i := 13) rfl)) (fun _ h9 => h9) rfl (by decide +kernel) rfl rfl (Nat.le_of_ble_eq_true rfl) dX2_settle_130 (fun H locs hP hD hS => ?_)
  have hP : va_P (dC, dI) vwCl [(h1, .inl (k0, 280, .inl (fun _ => 0))), (h2, .inl (k1, 280, .inl (fun _ => 0))), (h3, .inl (k2, 40, .inl (fun _ => 0))), (h0, .inr (2, [.ref h1, .ref h2, .ref h3, .int 1, .int 1, .int 1]))] H := hP
  have hD : va_D A [(h1, .inl (k0, 280, .inl (fun _ => 0))), (h2, .inl (k1, 280, .inl (fun _ => 0))), (h3, .inl (k2, 40, .inl (fun _ => 0))), (h0, .inr (2, [.ref h1, .ref h2, .ref h3, .int 1, .int 1, .int 1]))] := hD
  refine lv_aload_n hx hb dX2_settle_133 rfl (lv_at hl 3 rfl) ?_
  refine lv_iconst (v := 0) hx hb dX2_settle_134 (by decide +kernel) ?_
  refine lv_aload_n hx hb dX2_settle_135 rfl (lv_at hl 3 rfl) ?_
  refine va_get (D := (dC, dI)) (ci := 2) (v := .ref h3) (C := RX2) (T := TX2) (N := 6) hx hb hts (fun _ h => List.mem_append_right _ h) hown hK hP 3 rfl rfl 2 (by decide +kernel) (hts (.fieldLink RX2 18 "SpellTurner$Mixture" "told" "[I") (List.mem_of_getElem? (i := 12) rfl)) (fun _ h9 => h9) rfl dX2_settle_136 ?_
  refine lv_iconst (v := 0) hx hb dX2_settle_139 (by decide +kernel) ?_
  refine va_iald hx hb hK hP 2 2 rfl rfl (by unfold vp_in; decide) dX2_settle_140 ?_
  refine lv_topi (fun x2352 ex2352 => ?_)
  obtain rfl : x2352 = 0 := ex2352
  refine lv_iconst (v := (-1)) hx hb dX2_settle_141 (by decide +kernel) ?_
  refine lv_iload_n hx hb dX2_settle_142 rfl (lv_at hl 4 rfl) ?_
  have hPc := hP.sub (ws' := [(h0, .inr (2, [.ref h1, .ref h2, .ref h3, .int 1, .int 1, .int 1])), (h2, .inl (k1, 280, .inl (fun _ => 0)))]) [3, 1] rfl
  have hDc := hD.sub (ws' := [(h0, .inr (2, [.ref h1, .ref h2, .ref h3, .int 1, .int 1, .int 1])), (h2, .inl (k1, 280, .inl (fun _ => 0)))]) [3, 1] (by decide +kernel) rfl
  have hKc := hK.sub (tys' := [(k1, .int)]) [1] rfl
  have hFc := va_free (wc := [(h0, .inr (2, [.ref h1, .ref h2, .ref h3, .int 1, .int 1, .int 1])), (h2, .inl (k1, 280, .inl (fun _ => 0)))]) hD hS hA [3, 1] rfl
  refine va_calli (va_runV (As := [.int 0, .int 0, .int (-1), .int p0]) (rest := []) ⟨hx, hb, hml, hown, hts⟩ (c_X2_cost_0 l dC dI H.size h0 h1 h2 h3 k1 p0) (cwV 4 hts gv_X2_settle_X2_cost_47 rfl rfl rfl (by decide +kernel) ⟨Nat.le_of_ble_eq_true rfl, Nat.le_of_ble_eq_true rfl⟩) ⟨fun a U g mk q => by obtain ⟨q0, q1, qP, qK, qD⟩ := q; exact ⟨q0, q1, qP, va_K.moved (u := U) (U := U.calling g mk a) (Vm.Alike.refl U.vm) qK, qD⟩, va_recv hKc hPc (ci := 2) (q0 := 0) rfl rfl, fun U hU hW => ⟨rfl, by rw [hU], by rw [hU]; exact hPc, va_K.moved hW.alike hKc, hDc.weaken (fun _ _ _ _ => trivial)⟩⟩ rfl rfl hl.1 rfl (lv_room (Nat.le_of_ble_eq_true rfl)) dX2_settle_143 ⟨Nat.le_of_ble_eq_true rfl, Nat.le_of_ble_eq_true rfl⟩) hS (fun q _ h => hFc q h) hFc (fun r2357 u t H1 locs ht hvm hw hB hz1 hk1 hS => ?_)
  obtain ⟨hP1, hK1, hD1⟩ := hB
  rw [ht] at hP1
  have hK1 := va_K.moved hvm.symm hK1
  obtain ⟨hP, hD⟩ := va_join (wr := [(h1, .inl (k0, 280, .inl (fun _ => 0))), (h3, .inl (k2, 40, .inl (fun _ => 0)))]) (w1 := [(h0, .inr (2, [.ref h1, .ref h2, .ref h3, .int 1, .int 1, .int 1])), (h2, .inl (k1, 280, .inl (fun _ => 0)))]) hP hD [3, 1] [0, 2] rfl rfl (by decide +kernel) (by decide +kernel) hk1 hFc hP1 hD1
  have hK := (hK.sub (tys' := [(k0, .int), (k1, .int), (k2, .int)]) [0, 1, 2] rfl).app hK1
  generalize H1 = H at hP hS ⊢
  have hK : va_K (dC, dI) vwCl [(k0, .int), (k1, .int), (k2, .int)] s := hK
  have hP : va_P (dC, dI) vwCl [(h1, .inl (k0, 280, .inl (fun _ => 0))), (h3, .inl (k2, 40, .inl (fun _ => 0))), (h0, .inr (2, [.ref h1, .ref h2, .ref h3, .int 1, .int 1, .int 1])), (h2, .inl (k1, 280, .inl (fun _ => 0)))] H := hP
  have hD : va_D A [(h1, .inl (k0, 280, .inl (fun _ => 0))), (h3, .inl (k2, 40, .inl (fun _ => 0))), (h0, .inr (2, [.ref h1, .ref h2, .ref h3, .int 1, .int 1, .int 1])), (h2, .inl (k1, 280, .inl (fun _ => 0)))] := hD
  obtain rfl : r2357 = 0 := hw
  refine W.widen (k := 0) (n := 0) (by omega) (by omega) ?_
  have hP9 := hP.sub (ws' := [(h0, .inr (2, [.ref h1, .ref h2, .ref h3, .int 1, .int 1, .int 1])), (h1, .inl (k0, 280, .inl (fun _ => 0))), (h2, .inl (k1, 280, .inl (fun _ => 0))), (h3, .inl (k2, 40, .inl (fun _ => 0)))]) [2, 0, 3, 1] rfl
  have hD9 := hD.sub (ws' := [(h0, .inr (2, [.ref h1, .ref h2, .ref h3, .int 1, .int 1, .int 1])), (h1, .inl (k0, 280, .inl (fun _ => 0))), (h2, .inl (k1, 280, .inl (fun _ => 0))), (h3, .inl (k2, 40, .inl (fun _ => 0)))]) [2, 0, 3, 1] (by decide +kernel) rfl
  have hK9 := hK.sub (tys' := []) [] rfl
  exact W.iret (v := 0) hx hb hr (fun t ht hW => ⟨⟨0, (), rfl, rfl, by rw [ht]; exact hP9, va_K.moved hW.alike hK9, hD9⟩, hS.F ht⟩) hS.2.2 dX2_settle_146
