set_option maxHeartbeats 4000000 in
set_option maxRecDepth 100000 in
theorem c_X6_begin_0 (l : Launch) (dC : Nat → ClassId) (dI : Nat → Nat → Nat) (sz : Nat) (h0 : Nat) (h1 : Nat) (h2 : Nat) (h3 : Nat) (h4 : Nat) (k0 : ClassId) : Met l yX6_begin wmX6_begin ({ frames := 3, cells := 0, slots := 0, locals := 83 }) (va_Pc [.ref h0] (fun U => U.heap.size = sz ∧ va_P (dC, dI) vwCl [(h0, .inr (6, [.ref h1, .ref h2, .ref h3, .ref h4, .int 0, .int 0, .int 0, .int 0, .int 1])), (h4, .inl (k0, 5, .inl (fun _ => 0)))] U.heap ∧ va_K (dC, dI) vwCl [(k0, .int)] U ∧ va_D (fun _ => True) [(h0, .inr (6, [.ref h1, .ref h2, .ref h3, .ref h4, .int 0, .int 0, .int 0, .int 0, .int 1])), (h4, .inl (k0, 5, .inl (fun _ => 0)))])) (va_Qv (fun _ : Unit => True) (fun _ t => va_P (dC, dI) vwCl [(h0, .inr (6, [.ref h1, .ref h2, .ref h3, .ref h4, .int 0, .int 0, .int 0, .int 0, .int 1])), (h4, .inl (k0, 5, .inl (fun _ => 0)))] t.heap ∧ va_K (dC, dI) vwCl [] t ∧ va_D (va_A [(h0, .inr (6, [.ref h1, .ref h2, .ref h3, .ref h4, .int 0, .int 0, .int 0, .int 0, .int 1])), (h4, .inl (k0, 5, .inl (fun _ => 0)))] sz) [(h0, .inr (6, [.ref h1, .ref h2, .ref h3, .ref h4, .int 0, .int 0, .int 0, .int 0, .int 1])), (h4, .inl (k0, 5, .inl (fun _ => 0)))]) (va_A [(h0, .inr (6, [.ref h1, .ref h2, .ref h3, .ref h4, .int 0, .int 0, .int 0, .int 0, .int 1])), (h4, .inl (k0, 5, .inl (fun _ => 0)))] sz)) 0 0 (va_A [(h0, .inr (6, [.ref h1, .ref h2, .ref h3, .ref h4, .int 0, .int 0, .int 0, .int 0, .int 1])), (h4, .inl (k0, 5, .inl (fun _ => 0)))] sz) := by
  refine Met.ofW (cc := cX6_begin) (maxL := 1) (ret := none) (by decide +kernel) rfl ?_
  intro p e s m args below meth c s₁ B hml hv
  obtain ⟨rfl, hsz, hP, hK, hD0⟩ := hv
  have hx := B.exec
  have hb := B.bytes
  have hr := B.returns
  have hts := atoms_spec (ws := wmX6_begin) B.pre
  have hown : s.vm.findClass RX6 = some m.cls := findClass_of_methodNamed B.named
  have hlocks := B.notSynchronized
  subst hsz
  have hD := hD0.self (sz := s.heap.size)
  generalize hAe : va_A [(h0, .inr (6, [.ref h1, .ref h2, .ref h3, .ref h4, .int 0, .int 0, .int 0, .int 0, .int 1])), (h4, .inl (k0, 5, .inl (fun _ => 0)))] s.heap.size = A at hD ⊢
  have hA : ∀ q : Nat, s.heap.size ≤ q → A q := fun q h => by rw [← hAe]; exact Or.inr h
  have hS : va_S A s.heap s.heap [] := va_S.rf
  have hP : va_P (dC, dI) vwCl [(h0, .inr (6, [.ref h1, .ref h2, .ref h3, .ref h4, .int 0, .int 0, .int 0, .int 0, .int 1])), (h4, .inl (k0, 5, .inl (fun _ => 0)))] s.heap := hP
  have hl := lv_entry ([.ref h0]) (n := 1) (Nat.le_of_ble_eq_true rfl)
  rw [lg_entry_eq]
  generalize (lg_sl ([.ref h0]) ++ List.replicate (1 - (lg_sl ([.ref h0])).length) Slot.unset).toArray = ls at hl ⊢
  have hl : lv_has ls 1 [(0, .ref h0)] := hl
  refine lv_aload_n hx hb dX6_begin_0 rfl (lv_at hl 0 rfl) ?_
  refine va_get (D := (dC, dI)) (ci := 6) (v := .ref h4) (C := RX6) (T := TX6) (N := 9) hx hb hts (fun _ h => List.mem_append_right _ h) hown hK hP 0 rfl rfl 3 (by decide +kernel) (hts (.fieldLink RX6 22 "SpellTurner$Scribe" "tally" "[I") (List.mem_of_getElem? (i := 4) rfl)) (fun _ h9 => h9) rfl dX6_begin_1 ?_
  refine lv_iconst (v := 0) hx hb dX6_begin_4 (by decide +kernel) ?_
  have hPc := hP.sub (ws' := [(h4, .inl (k0, 5, .inl (fun _ => 0)))]) [1] rfl
  have hDc := hD.sub (ws' := [(h4, .inl (k0, 5, .inl (fun _ => 0)))]) [1] (by decide +kernel) rfl
  have hKc := hK.sub (tys' := [(k0, .int)]) [0] rfl
  have hFc := va_free (wc := [(h4, .inl (k0, 5, .inl (fun _ => 0)))]) hD hS hA [1] rfl
  refine va_callv (va_runS (As := [.ref h4, .int 0]) (rest := []) ⟨hx, hb, hml, hown, hts⟩ (c_fill l dC dI s.heap.size h4 k0 5 (by decide +kernel)) (va_cwS 2 hts gv_X6_begin_J7_fill_53178_42 rfl rfl rfl (by decide +kernel) ⟨Nat.le_of_ble_eq_true rfl, Nat.le_of_ble_eq_true rfl⟩) ⟨fun a U g mk q => by obtain ⟨q0, q1, qP, qK, qD⟩ := q; exact ⟨q0, q1, qP, va_K.moved (u := U) (U := U.calling g mk a) (Vm.Alike.refl U.vm) qK, qD⟩, fun U hU hW => ⟨rfl, by rw [hU], by rw [hU]; exact hPc, va_K.moved hW.alike hKc, hDc.weaken (fun _ _ _ _ => trivial)⟩⟩ rfl rfl hl.1 rfl (lv_room (Nat.le_of_ble_eq_true rfl)) dX6_begin_5 ⟨Nat.le_of_ble_eq_true rfl, Nat.le_of_ble_eq_true rfl⟩) hS (fun q _ h => hFc q h) hFc (fun u t H1 locs ht hvm hw hB hz1 hk1 hS => ?_)
  obtain ⟨hP1, hK1, hD1⟩ := hB
  rw [ht] at hP1
  have hK1 := va_K.moved hvm.symm hK1
  obtain ⟨hP, hD⟩ := va_join (wr := [(h0, .inr (6, [.ref h1, .ref h2, .ref h3, .ref h4, .int 0, .int 0, .int 0, .int 0, .int 1]))]) (w1 := [(h4, .inl (k0, 5, .inl (fun _ => 0)))]) hP hD [1] [0] rfl rfl (by decide +kernel) (by decide +kernel) hk1 hFc hP1 hD1
  have hK := (hK.sub (tys' := [(k0, .int)]) [0] rfl).app hK1
  generalize H1 = H at hP hS ⊢
  have hK : va_K (dC, dI) vwCl [(k0, .int)] s := hK
  have hP : va_P (dC, dI) vwCl [(h0, .inr (6, [.ref h1, .ref h2, .ref h3, .ref h4, .int 0, .int 0, .int 0, .int 0, .int 1])), (h4, .inl (k0, 5, .inl (fun _ => 0)))] H := hP
  have hD : va_D A [(h0, .inr (6, [.ref h1, .ref h2, .ref h3, .ref h4, .int 0, .int 0, .int 0, .int 0, .int 1])), (h4, .inl (k0, 5, .inl (fun _ => 0)))] := hD
  refine lv_aload_n hx hb dX6_begin_8 rfl (lv_at hl 0 rfl) ?_
  refine lv_iconst (v := 0) hx hb dX6_begin_9 (by decide +kernel) ?_
  refine va_put (D := (dC, dI)) (ci := 6) (v := .int 0) (ty := .int) (C := RX6) (T := TX6) (N := 9) hx hb hts (fun _ h => List.mem_append_right _ h) tyX6 tyX6_ok nmX6 hown hK hP hD hS 0 rfl rfl 6 (by decide +kernel) (hts (.fieldLink RX6 33 "SpellTurner$Scribe" "size" "I") (List.mem_of_getElem? (i := 5) rfl)) (fun _ h9 => h9) rfl (by decide +kernel) rfl rfl (Nat.le_of_ble_eq_true rfl) dX6_begin_10 (fun H locs hP hD hS => ?_)
  have hP : va_P (dC, dI) vwCl [(h0, .inr (6, [.ref h1, .ref h2, .ref h3, .ref h4, .int 0, .int 0, .int 0, .int 0, .int 1])), (h4, .inl (k0, 5, .inl (fun _ => 0)))] H := hP
  have hD : va_D A [(h0, .inr (6, [.ref h1, .ref h2, .ref h3, .ref h4, .int 0, .int 0, .int 0, .int 0, .int 1])), (h4, .inl (k0, 5, .inl (fun _ => 0)))] := hD
  refine lv_aload_n hx hb dX6_begin_13 rfl (lv_at hl 0 rfl) ?_
  refine lv_iconst (v := 0) hx hb dX6_begin_14 (by decide +kernel) ?_
  refine va_put (D := (dC, dI)) (ci := 6) (v := .int 0) (ty := .int) (C := RX6) (T := TX6) (N := 9) hx hb hts (fun _ h => List.mem_append_right _ h) tyX6 tyX6_ok nmX6 hown hK hP hD hS 0 rfl rfl 7 (by decide +kernel) (hts (.fieldLink RX6 36 "SpellTurner$Scribe" "copied" "I") (List.mem_of_getElem? (i := 6) rfl)) (fun _ h9 => h9) rfl (by decide +kernel) rfl rfl (Nat.le_of_ble_eq_true rfl) dX6_begin_15 (fun H locs hP hD hS => ?_)
  have hP : va_P (dC, dI) vwCl [(h0, .inr (6, [.ref h1, .ref h2, .ref h3, .ref h4, .int 0, .int 0, .int 0, .int 0, .int 1])), (h4, .inl (k0, 5, .inl (fun _ => 0)))] H := hP
  have hD : va_D A [(h0, .inr (6, [.ref h1, .ref h2, .ref h3, .ref h4, .int 0, .int 0, .int 0, .int 0, .int 1])), (h4, .inl (k0, 5, .inl (fun _ => 0)))] := hD
  refine lv_aload_n hx hb dX6_begin_18 rfl (lv_at hl 0 rfl) ?_
  refine lv_iconst (v := 1) hx hb dX6_begin_19 (by decide +kernel) ?_
  refine va_put (D := (dC, dI)) (ci := 6) (v := .int 1) (ty := .boolean) (C := RX6) (T := TX6) (N := 9) hx hb hts (fun _ h => List.mem_append_right _ h) tyX6 tyX6_ok nmX6 hown hK hP hD hS 0 rfl rfl 8 (by decide +kernel) (hts (.fieldLink RX6 39 "SpellTurner$Scribe" "fits" "Z") (List.mem_of_getElem? (i := 7) rfl)) (fun _ h9 => h9) rfl (by decide +kernel) rfl rfl (Nat.le_of_ble_eq_true rfl) dX6_begin_20 (fun H locs hP hD hS => ?_)
  have hP : va_P (dC, dI) vwCl [(h0, .inr (6, [.ref h1, .ref h2, .ref h3, .ref h4, .int 0, .int 0, .int 0, .int 0, .int 1])), (h4, .inl (k0, 5, .inl (fun _ => 0)))] H := hP
  have hD : va_D A [(h0, .inr (6, [.ref h1, .ref h2, .ref h3, .ref h4, .int 0, .int 0, .int 0, .int 0, .int 1])), (h4, .inl (k0, 5, .inl (fun _ => 0)))] := hD
  refine W.widen (k := 0) (n := 0) (by omega) (by omega) ?_
  have hP9 := hP.sub (ws' := [(h0, .inr (6, [.ref h1, .ref h2, .ref h3, .ref h4, .int 0, .int 0, .int 0, .int 0, .int 1])), (h4, .inl (k0, 5, .inl (fun _ => 0)))]) [0, 1] rfl
  have hD9 := hD.sub (ws' := [(h0, .inr (6, [.ref h1, .ref h2, .ref h3, .ref h4, .int 0, .int 0, .int 0, .int 0, .int 1])), (h4, .inl (k0, 5, .inl (fun _ => 0)))]) [0, 1] (by decide +kernel) rfl
  have hK9 := hK.sub (tys' := []) [] rfl
  exact W.vret hx hb hr (fun t ht hW => ⟨⟨(), rfl, trivial, by rw [ht]; exact hP9, va_K.moved hW.alike hK9, hD9⟩, hS.F ht⟩) hS.2.2 dX6_begin_23
set_option maxHeartbeats 4000000 in
set_option maxRecDepth 100000 in
theorem c_X6_append_0 (l : Launch) (dC : Nat → ClassId) (dI : Nat → Nat → Nat) (sz : Nat) (h0 : Nat) (h1 : Nat) (h2 : Nat) (h3 : Nat) (h4 : Nat) (h5 : Nat) (k0 : ClassId) (k1 : ClassId) : Met l yX6_append wmX6_append ({ frames := 2, cells := 0, slots := 0, locals := 60 }) (va_Pc [.ref h0, .ref h1, .int 0, .int 0] (fun U => U.heap.size = sz ∧ va_P (dC, dI) vwCl [(h0, .inr (6, [.ref h2, .ref h3, .ref h4, .ref h5, .int 0, .int 0, .int 0, .int 0, .int 1])), (h1, .inl (k0, 2000, .inl (fun _ => 0))), (h3, .inl (k1, 2500, .inl (fun _ => 0)))] U.heap ∧ va_K (dC, dI) vwCl [(k0, .byte), (k1, .byte)] U ∧ va_D (fun _ => True) [(h0, .inr (6, [.ref h2, .ref h3, .ref h4, .ref h5, .int 0, .int 0, .int 0, .int 0, .int 1])), (h1, .inl (k0, 2000, .inl (fun _ => 0))), (h3, .inl (k1, 2500, .inl (fun _ => 0)))])) (va_Qv (fun _ : Unit => True) (fun _ t => ∃ (f2180 : Nat → Int32), va_P (dC, dI) vwCl [(h0, .inr (6, [.ref h2, .ref h3, .ref h4, .ref h5, .int 0, .int 0, .int 0, .int 0, .int 1])), (h1, .inl (k0, 2000, .inl (fun _ => 0))), (h3, .inl (k1, 2500, .inl f2180))] t.heap ∧ va_K (dC, dI) vwCl [] t ∧ va_D (va_A [(h0, .inr (6, [.ref h2, .ref h3, .ref h4, .ref h5, .int 0, .int 0, .int 0, .int 0, .int 1])), (h1, .inl (k0, 2000, .inl (fun _ => 0))), (h3, .inl (k1, 2500, .inl (fun _ => 0)))] sz) [(h0, .inr (6, [.ref h2, .ref h3, .ref h4, .ref h5, .int 0, .int 0, .int 0, .int 0, .int 1])), (h1, .inl (k0, 2000, .inl (fun _ => 0))), (h3, .inl (k1, 2500, .inl f2180))]) (va_A [(h0, .inr (6, [.ref h2, .ref h3, .ref h4, .ref h5, .int 0, .int 0, .int 0, .int 0, .int 1])), (h1, .inl (k0, 2000, .inl (fun _ => 0))), (h3, .inl (k1, 2500, .inl (fun _ => 0)))] sz)) 0 0 (va_A [(h0, .inr (6, [.ref h2, .ref h3, .ref h4, .ref h5, .int 0, .int 0, .int 0, .int 0, .int 1])), (h1, .inl (k0, 2000, .inl (fun _ => 0))), (h3, .inl (k1, 2500, .inl (fun _ => 0)))] sz) := by
  refine Met.ofW (cc := cX6_append) (maxL := 4) (ret := none) (by decide +kernel) rfl ?_
  intro p e s m args below meth c s₁ B hml hv
  obtain ⟨rfl, hsz, hP, hK, hD0⟩ := hv
  have hx := B.exec
  have hb := B.bytes
  have hr := B.returns
  have hts := atoms_spec (ws := wmX6_append) B.pre
  have hown : s.vm.findClass RX6 = some m.cls := findClass_of_methodNamed B.named
  have hlocks := B.notSynchronized
  subst hsz
  have hD := hD0.self (sz := s.heap.size)
  generalize hAe : va_A [(h0, .inr (6, [.ref h2, .ref h3, .ref h4, .ref h5, .int 0, .int 0, .int 0, .int 0, .int 1])), (h1, .inl (k0, 2000, .inl (fun _ => 0))), (h3, .inl (k1, 2500, .inl (fun _ => 0)))] s.heap.size = A at hD ⊢
  have hA : ∀ q : Nat, s.heap.size ≤ q → A q := fun q h => by rw [← hAe]; exact Or.inr h
  have hS : va_S A s.heap s.heap [] := va_S.rf
  have hP : va_P (dC, dI) vwCl [(h0, .inr (6, [.ref h2, .ref h3, .ref h4, .ref h5, .int 0, .int 0, .int 0, .int 0, .int 1])), (h1, .inl (k0, 2000, .inl (fun _ => 0))), (h3, .inl (k1, 2500, .inl (fun _ => 0)))] s.heap := hP
  have hl := lv_entry ([.ref h0, .ref h1, .int 0, .int 0]) (n := 4) (Nat.le_of_ble_eq_true rfl)
  rw [lg_entry_eq]
  generalize (lg_sl ([.ref h0, .ref h1, .int 0, .int 0]) ++ List.replicate (4 - (lg_sl ([.ref h0, .ref h1, .int 0, .int 0])).length) Slot.unset).toArray = ls at hl ⊢
  have hl : lv_has ls 4 [(0, .ref h0), (1, .ref h1), (2, .int 0), (3, .int 0)] := hl
  refine lv_aload_n hx hb dX6_append_0 rfl (lv_at hl 0 rfl) ?_
  refine va_get (D := (dC, dI)) (ci := 6) (v := .int 1) (C := RX6) (T := TX6) (N := 9) hx hb hts (fun _ h => List.mem_append_right _ h) hown hK hP 0 rfl rfl 8 (by decide +kernel) (hts (.fieldLink RX6 39 "SpellTurner$Scribe" "fits" "Z") (List.mem_of_getElem? (i := 1) rfl)) (fun _ h9 => h9) rfl dX6_append_1 ?_
  refine lv_if_eq (tgt := 19) hx hb dX6_append_4 (by decide +kernel) (fun h => absurd h (by decide +kernel)) (fun _ => ?_)
  refine lv_iload_n hx hb dX6_append_7 rfl (lv_at hl 3 rfl) ?_
  refine lv_sipush (v := 2500) hx hb dX6_append_8 (by decide +kernel) ?_
  refine lv_aload_n hx hb dX6_append_11 rfl (lv_at hl 0 rfl) ?_
  refine va_get (D := (dC, dI)) (ci := 6) (v := .int 0) (C := RX6) (T := TX6) (N := 9) hx hb hts (fun _ h => List.mem_append_right _ h) hown hK hP 0 rfl rfl 6 (by decide +kernel) (hts (.fieldLink RX6 33 "SpellTurner$Scribe" "size" "I") (List.mem_of_getElem? (i := 2) rfl)) (fun _ h9 => h9) rfl dX6_append_12 ?_
  refine lv_isub hx hb dX6_append_15 ?_
  refine lv_topi (fun x2182 ex2182 => ?_)
  obtain rfl : x2182 = 2500 := ex2182.trans (by decide +kernel)
  refine lv_icmp_le (tgt := 25) hx hb dX6_append_16 (by decide +kernel) (fun _ => ?_) (fun h => absurd (by decide +kernel) h)
  refine lv_aload_n hx hb dX6_append_25 rfl (lv_at hl 1 rfl) ?_
  refine lv_iload_n hx hb dX6_append_26 rfl (lv_at hl 2 rfl) ?_
  refine lv_aload_n hx hb dX6_append_27 rfl (lv_at hl 0 rfl) ?_
  refine va_get (D := (dC, dI)) (ci := 6) (v := .ref h3) (C := RX6) (T := TX6) (N := 9) hx hb hts (fun _ h => List.mem_append_right _ h) hown hK hP 0 rfl rfl 1 (by decide +kernel) (hts (.fieldLink RX6 15 "SpellTurner$Scribe" "page" "[B") (List.mem_of_getElem? (i := 3) rfl)) (fun _ h9 => h9) rfl dX6_append_28 ?_
  refine lv_aload_n hx hb dX6_append_31 rfl (lv_at hl 0 rfl) ?_
  refine va_get (D := (dC, dI)) (ci := 6) (v := .int 0) (C := RX6) (T := TX6) (N := 9) hx hb hts (fun _ h => List.mem_append_right _ h) hown hK hP 0 rfl rfl 6 (by decide +kernel) (hts (.fieldLink RX6 33 "SpellTurner$Scribe" "size" "I") (List.mem_of_getElem? (i := 2) rfl)) (fun _ h9 => h9) rfl dX6_append_32 ?_
  refine lv_iload_n hx hb dX6_append_35 rfl (lv_at hl 3 rfl) ?_
  refine va_copyi (ty := .byte) hx hb (by rw [hml]; exact hl.1.symm) hown (hts (.methodLink RX6 81 arraycopyName) (List.mem_of_getElem? (i := 4) rfl)) (hts (.native arraycopyName) (List.mem_of_getElem? (i := 5) rfl)) (hts (.static arraycopyName) (List.mem_of_getElem? (i := 6) rfl)) (hts (.initialized "java/lang/System") (List.mem_of_getElem? (i := 7) rfl)) hK hP hD hS 1 2 0 1 rfl rfl rfl rfl rfl (by decide +kernel) (by decide +kernel) (by decide +kernel) (by decide +kernel) (by decide +kernel) (fun i h => absurd h (by intro h; exact absurd h (Nat.not_lt_zero _))) (Nat.le_of_ble_eq_true rfl) (Nat.le_of_ble_eq_true rfl) dX6_append_36 (fun H locs hP hD hS => ?_)
  obtain ⟨f2183, hP, hD⟩ : ∃ f2183 : Nat → Int32, va_P (dC, dI) vwCl [(h0, .inr (6, [.ref h2, .ref h3, .ref h4, .ref h5, .int 0, .int 0, .int 0, .int 0, .int 1])), (h1, .inl (k0, 2000, .inl (fun _ => 0))), (h3, .inl (k1, 2500, .inl f2183))] H ∧ va_D A [(h0, .inr (6, [.ref h2, .ref h3, .ref h4, .ref h5, .int 0, .int 0, .int 0, .int 0, .int 1])), (h1, .inl (k0, 2000, .inl (fun _ => 0))), (h3, .inl (k1, 2500, .inl f2183))] := ⟨_, hP, hD⟩
  refine lv_aload_n hx hb dX6_append_39 rfl (lv_at hl 0 rfl) ?_
  refine lv_dup hx hb dX6_append_40 rfl ?_
  refine va_get (D := (dC, dI)) (ci := 6) (v := .int 0) (C := RX6) (T := TX6) (N := 9) hx hb hts (fun _ h => List.mem_append_right _ h) hown hK hP 0 rfl rfl 6 (by decide +kernel) (hts (.fieldLink RX6 33 "SpellTurner$Scribe" "size" "I") (List.mem_of_getElem? (i := 2) rfl)) (fun _ h9 => h9) rfl dX6_append_41 ?_
  refine lv_iload_n hx hb dX6_append_44 rfl (lv_at hl 3 rfl) ?_
  refine lv_iadd hx hb dX6_append_45 ?_
  refine lv_topi (fun x2184 ex2184 => ?_)
  obtain rfl : x2184 = 0 := ex2184.trans (by decide +kernel)
  refine va_put (D := (dC, dI)) (ci := 6) (v := .int 0) (ty := .int) (C := RX6) (T := TX6) (N := 9) hx hb hts (fun _ h => List.mem_append_right _ h) tyX6 tyX6_ok nmX6 hown hK hP hD hS 0 rfl rfl 6 (by decide +kernel) (hts (.fieldLink RX6 33 "SpellTurner$Scribe" "size" "I") (List.mem_of_getElem? (i := 2) rfl)) (fun _ h9 => h9) rfl (by decide +kernel) rfl rfl (Nat.le_of_ble_eq_true rfl) dX6_append_46 (fun H locs hP hD hS => ?_)
  have hP : va_P (dC, dI) vwCl [(h0, .inr (6, [.ref h2, .ref h3, .ref h4, .ref h5, .int 0, .int 0, .int 0, .int 0, .int 1])), (h1, .inl (k0, 2000, .inl (fun _ => 0))), (h3, .inl (k1, 2500, .inl f2183))] H := hP
  have hD : va_D A [(h0, .inr (6, [.ref h2, .ref h3, .ref h4, .ref h5, .int 0, .int 0, .int 0, .int 0, .int 1])), (h1, .inl (k0, 2000, .inl (fun _ => 0))), (h3, .inl (k1, 2500, .inl f2183))] := hD
  refine W.widen (k := 0) (n := 0) (by omega) (by omega) ?_
  have hP9 := hP.sub (ws' := [(h0, .inr (6, [.ref h2, .ref h3, .ref h4, .ref h5, .int 0, .int 0, .int 0, .int 0, .int 1])), (h1, .inl (k0, 2000, .inl (fun _ => 0))), (h3, .inl (k1, 2500, .inl f2183))]) [0, 1, 2] rfl
  have hD9 := hD.sub (ws' := [(h0, .inr (6, [.ref h2, .ref h3, .ref h4, .ref h5, .int 0, .int 0, .int 0, .int 0, .int 1])), (h1, .inl (k0, 2000, .inl (fun _ => 0))), (h3, .inl (k1, 2500, .inl f2183))]) [0, 1, 2] (by decide +kernel) rfl
  have hK9 := hK.sub (tys' := []) [] rfl
  exact W.vret hx hb hr (fun t ht hW => ⟨⟨(), rfl, trivial, f2183, by rw [ht]; exact hP9, va_K.moved hW.alike hK9, hD9⟩, hS.F ht⟩) hS.2.2 dX6_append_49
set_option maxHeartbeats 4000000 in
set_option maxRecDepth 100000 in
theorem c_X6_finish_0 (l : Launch) (dC : Nat → ClassId) (dI : Nat → Nat → Nat) (sz : Nat) (h0 : Nat) (h1 : Nat) (h2 : Nat) (h3 : Nat) (h4 : Nat) (h5 : Nat) (k0 : ClassId) (k1 : ClassId) : Met l yX6_finish wmX6_finish ({ frames := 3, cells := 0, slots := 0, locals := 83 }) (va_Pc [.ref h0, .ref h1, .int 0] (fun U => U.heap.size = sz ∧ va_P (dC, dI) vwCl [(h0, .inr (6, [.ref h2, .ref h3, .ref h4, .ref h5, .int 0, .int 0, .int 0, .int 0, .int 1])), (h1, .inl (k0, 2000, .inl (fun _ => 0))), (h3, .inl (k1, 2500, .inl (fun _ => 0)))] U.heap ∧ va_K (dC, dI) vwCl [(k0, .byte), (k1, .byte)] U ∧ va_D (fun _ => True) [(h0, .inr (6, [.ref h2, .ref h3, .ref h4, .ref h5, .int 0, .int 0, .int 0, .int 0, .int 1])), (h1, .inl (k0, 2000, .inl (fun _ => 0))), (h3, .inl (k1, 2500, .inl (fun _ => 0)))])) (va_Qi (fun (r : Int32) (_ : Unit) => (r = 0)) (fun _ t => ∃ (f2190 : Nat → Int32), va_P (dC, dI) vwCl [(h0, .inr (6, [.ref h3, .ref h2, .ref h5, .ref h4, .int 1, .int 0, .int 0, .int 0, .int 1])), (h1, .inl (k0, 2000, .inl (fun _ => 0))), (h3, .inl (k1, 2500, .inl f2190))] t.heap ∧ va_K (dC, dI) vwCl [] t ∧ va_D (va_A [(h0, .inr (6, [.ref h2, .ref h3, .ref h4, .ref h5, .int 0, .int 0, .int 0, .int 0, .int 1])), (h1, .inl (k0, 2000, .inl (fun _ => 0))), (h3, .inl (k1, 2500, .inl (fun _ => 0)))] sz) [(h0, .inr (6, [.ref h3, .ref h2, .ref h5, .ref h4, .int 1, .int 0, .int 0, .int 0, .int 1])), (h1, .inl (k0, 2000, .inl (fun _ => 0))), (h3, .inl (k1, 2500, .inl f2190))]) (va_A [(h0, .inr (6, [.ref h2, .ref h3, .ref h4, .ref h5, .int 0, .int 0, .int 0, .int 0, .int 1])), (h1, .inl (k0, 2000, .inl (fun _ => 0))), (h3, .inl (k1, 2500, .inl (fun _ => 0)))] sz)) 0 0 (va_A [(h0, .inr (6, [.ref h2, .ref h3, .ref h4, .ref h5, .int 0, .int 0, .int 0, .int 0, .int 1])), (h1, .inl (k0, 2000, .inl (fun _ => 0))), (h3, .inl (k1, 2500, .inl (fun _ => 0)))] sz) := by
  refine Met.ofW (cc := cX6_finish) (maxL := 5) (ret := (some .int)) (by decide +kernel) rfl ?_
  intro p e s m args below meth c s₁ B hml hv
  obtain ⟨rfl, hsz, hP, hK, hD0⟩ := hv
  have hx := B.exec
  have hb := B.bytes
  have hr := B.returns
  have hts := atoms_spec (ws := wmX6_finish) B.pre
  have hown : s.vm.findClass RX6 = some m.cls := findClass_of_methodNamed B.named
  have hlocks := B.notSynchronized
  subst hsz
  have hD := hD0.self (sz := s.heap.size)
  generalize hAe : va_A [(h0, .inr (6, [.ref h2, .ref h3, .ref h4, .ref h5, .int 0, .int 0, .int 0, .int 0, .int 1])), (h1, .inl (k0, 2000, .inl (fun _ => 0))), (h3, .inl (k1, 2500, .inl (fun _ => 0)))] s.heap.size = A at hD ⊢
  have hA : ∀ q : Nat, s.heap.size ≤ q → A q := fun q h => by rw [← hAe]; exact Or.inr h
  have hS : va_S A s.heap s.heap [] := va_S.rf
  have hP : va_P (dC, dI) vwCl [(h0, .inr (6, [.ref h2, .ref h3, .ref h4, .ref h5, .int 0, .int 0, .int 0, .int 0, .int 1])), (h1, .inl (k0, 2000, .inl (fun _ => 0))), (h3, .inl (k1, 2500, .inl (fun _ => 0)))] s.heap := hP
  have hl := lv_entry ([.ref h0, .ref h1, .int 0]) (n := 5) (Nat.le_of_ble_eq_true rfl)
  rw [lg_entry_eq]
  generalize (lg_sl ([.ref h0, .ref h1, .int 0]) ++ List.replicate (5 - (lg_sl ([.ref h0, .ref h1, .int 0])).length) Slot.unset).toArray = ls at hl ⊢
  have hl : lv_has ls 5 [(0, .ref h0), (1, .ref h1), (2, .int 0)] := hl
  refine lv_aload_n hx hb dX6_finish_0 rfl (lv_at hl 0 rfl) ?_
  refine lv_aload_n hx hb dX6_finish_1 rfl (lv_at hl 1 rfl) ?_
  refine lv_aload_n hx hb dX6_finish_2 rfl (lv_at hl 0 rfl) ?_
  refine va_get (D := (dC, dI)) (ci := 6) (v := .int 0) (C := RX6) (T := TX6) (N := 9) hx hb hts (fun _ h => List.mem_append_right _ h) hown hK hP 0 rfl rfl 7 (by decide +kernel) (hts (.fieldLink RX6 36 "SpellTurner$Scribe" "copied" "I") (List.mem_of_getElem? (i := 5) rfl)) (fun _ h9 => h9) rfl dX6_finish_3 ?_
  refine lv_iload_n hx hb dX6_finish_6 rfl (lv_at hl 2 rfl) ?_
  refine lv_aload_n hx hb dX6_finish_7 rfl (lv_at hl 0 rfl) ?_
  refine va_get (D := (dC, dI)) (ci := 6) (v := .int 0) (C := RX6) (T := TX6) (N := 9) hx hb hts (fun _ h => List.mem_append_right _ h) hown hK hP 0 rfl rfl 7 (by decide +kernel) (hts (.fieldLink RX6 36 "SpellTurner$Scribe" "copied" "I") (List.mem_of_getElem? (i := 5) rfl)) (fun _ h9 => h9) rfl dX6_finish_8 ?_
  refine lv_isub hx hb dX6_finish_11 ?_
  refine lv_topi (fun x2191 ex2191 => ?_)
  obtain rfl : x2191 = 0 := ex2191.trans (by decide +kernel)
  have hPc := hP.sub (ws' := [(h0, .inr (6, [.ref h2, .ref h3, .ref h4, .ref h5, .int 0, .int 0, .int 0, .int 0, .int 1])), (h1, .inl (k0, 2000, .inl (fun _ => 0))), (h3, .inl (k1, 2500, .inl (fun _ => 0)))]) [0, 1, 2] rfl
  have hDc := hD.sub (ws' := [(h0, .inr (6, [.ref h2, .ref h3, .ref h4, .ref h5, .int 0, .int 0, .int 0, .int 0, .int 1])), (h1, .inl (k0, 2000, .inl (fun _ => 0))), (h3, .inl (k1, 2500, .inl (fun _ => 0)))]) [0, 1, 2] (by decide +kernel) rfl
  have hKc := hK.sub (tys' := [(k0, .byte), (k1, .byte)]) [0, 1] rfl
  have hFc := va_free (wc := [(h0, .inr (6, [.ref h2, .ref h3, .ref h4, .ref h5, .int 0, .int 0, .int 0, .int 0, .int 1])), (h1, .inl (k0, 2000, .inl (fun _ => 0))), (h3, .inl (k1, 2500, .inl (fun _ => 0)))]) hD hS hA [0, 1, 2] rfl
  refine va_callv (va_runV (As := [.ref h1, .int 0, .int 0]) (rest := []) ⟨hx, hb, hml, hown, hts⟩ (c_X6_append_0 l dC dI s.heap.size h0 h1 h2 h3 h4 h5 k0 k1) (cwV 3 hts gv_X6_finish_X6_append_74 rfl rfl rfl (by decide +kernel) ⟨Nat.le_of_ble_eq_true rfl, Nat.le_of_ble_eq_true rfl⟩) ⟨fun a U g mk q => by obtain ⟨q0, q1, qP, qK, qD⟩ := q; exact ⟨q0, q1, qP, va_K.moved (u := U) (U := U.calling g mk a) (Vm.Alike.refl U.vm) qK, qD⟩, va_recv hKc hPc (ci := 6) (q0 := 0) rfl rfl, fun U hU hW => ⟨rfl, by rw [hU], by rw [hU]; exact hPc, va_K.moved hW.alike hKc, hDc.weaken (fun _ _ _ _ => trivial)⟩⟩ rfl rfl hl.1 rfl (lv_room (Nat.le_of_ble_eq_true rfl)) dX6_finish_12 ⟨Nat.le_of_ble_eq_true rfl, Nat.le_of_ble_eq_true rfl⟩) hS (fun q _ h => hFc q h) hFc (fun u t H1 locs ht hvm hw hB hz1 hk1 hS => ?_)
  obtain ⟨f2196, hP1, hK1, hD1⟩ := hB
  rw [ht] at hP1
  have hK1 := va_K.moved hvm.symm hK1
  obtain ⟨hP, hD⟩ := va_join (wr := []) (w1 := [(h0, .inr (6, [.ref h2, .ref h3, .ref h4, .ref h5, .int 0, .int 0, .int 0, .int 0, .int 1])), (h1, .inl (k0, 2000, .inl (fun _ => 0))), (h3, .inl (k1, 2500, .inl f2196))]) hP hD [0, 1, 2] [] rfl rfl (by decide +kernel) (by decide +kernel) hk1 hFc hP1 hD1
  have hK := (hK.sub (tys' := [(k0, .byte), (k1, .byte)]) [0, 1] rfl).app hK1
  generalize H1 = H at hP hS ⊢
  have hK : va_K (dC, dI) vwCl [(k0, .byte), (k1, .byte)] s := hK
  have hP : va_P (dC, dI) vwCl [(h0, .inr (6, [.ref h2, .ref h3, .ref h4, .ref h5, .int 0, .int 0, .int 0, .int 0, .int 1])), (h1, .inl (k0, 2000, .inl (fun _ => 0))), (h3, .inl (k1, 2500, .inl f2196))] H := hP
  have hD : va_D A [(h0, .inr (6, [.ref h2, .ref h3, .ref h4, .ref h5, .int 0, .int 0, .int 0, .int 0, .int 1])), (h1, .inl (k0, 2000, .inl (fun _ => 0))), (h3, .inl (k1, 2500, .inl f2196))] := hD
  refine lv_aload_n hx hb dX6_finish_15 rfl (lv_at hl 0 rfl) ?_
  refine va_get (D := (dC, dI)) (ci := 6) (v := .int 1) (C := RX6) (T := TX6) (N := 9) hx hb hts (fun _ h => List.mem_append_right _ h) hown hK hP 0 rfl rfl 8 (by decide +kernel) (hts (.fieldLink RX6 39 "SpellTurner$Scribe" "fits" "Z") (List.mem_of_getElem? (i := 6) rfl)) (fun _ h9 => h9) rfl dX6_finish_16 ?_
  refine lv_if_ne (tgt := 24) hx hb dX6_finish_19 (by decide +kernel) (fun _ => ?_) (fun h => absurd h (by decide +kernel))
  refine lv_aload_n hx hb dX6_finish_24 rfl (lv_at hl 0 rfl) ?_
  refine va_get (D := (dC, dI)) (ci := 6) (v := .ref h2) (C := RX6) (T := TX6) (N := 9) hx hb hts (fun _ h => List.mem_append_right _ h) hown hK hP 0 rfl rfl 0 (by decide +kernel) (hts (.fieldLink RX6 9 "SpellTurner$Scribe" "told" "[B") (List.mem_of_getElem? (i := 7) rfl)) (fun _ h9 => h9) rfl dX6_finish_25 ?_
  refine lv_astore_n (lv' := [(3, .ref h2), (0, .ref h0), (1, .ref h1), (2, .int 0)]) hx hb dX6_finish_28 rfl hl (by decide +kernel) rfl (fun ls hl => ?_)
  refine lv_aload_n hx hb dX6_finish_29 rfl (lv_at hl 1 rfl) ?_
  refine lv_aload_n hx hb dX6_finish_30 rfl (lv_at hl 1 rfl) ?_
  refine va_get (D := (dC, dI)) (ci := 6) (v := .ref h3) (C := RX6) (T := TX6) (N := 9) hx hb hts (fun _ h => List.mem_append_right _ h) hown hK hP 0 rfl rfl 1 (by decide +kernel) (hts (.fieldLink RX6 15 "SpellTurner$Scribe" "page" "[B") (List.mem_of_getElem? (i := 8) rfl)) (fun _ h9 => h9) rfl dX6_finish_31 ?_
  refine va_put (D := (dC, dI)) (ci := 6) (v := .ref h3) (ty := .array .byte) (C := RX6) (T := TX6) (N := 9) hx hb hts (fun _ h => List.mem_append_right _ h) tyX6 tyX6_ok nmX6 hown hK hP hD hS 0 rfl rfl 0 (by decide +kernel) (hts (.fieldLink RX6 9 "SpellTurner$Scribe" "told" "[B") (List.mem_of_getElem? (i := 7) rfl)) (fun _ h9 => h9) rfl (by decide +kernel) rfl rfl (Nat.le_of_ble_eq_true rfl) dX6_finish_34 (fun H locs hP hD hS => ?_)
  have hP : va_P (dC, dI) vwCl [(h0, .inr (6, [.ref h3, .ref h3, .ref h4, .ref h5, .int 0, .int 0, .int 0, .int 0, .int 1])), (h1, .inl (k0, 2000, .inl (fun _ => 0))), (h3, .inl (k1, 2500, .inl f2196))] H := hP
  have hD : va_D A [(h0, .inr (6, [.ref h3, .ref h3, .ref h4, .ref h5, .int 0, .int 0, .int 0, .int 0, .int 1])), (h1, .inl (k0, 2000, .inl (fun _ => 0))), (h3, .inl (k1, 2500, .inl f2196))] := hD
  refine lv_aload_n hx hb dX6_finish_37 rfl (lv_at hl 1 rfl) ?_
  refine lv_aload_n hx hb dX6_finish_38 rfl (lv_at hl 0 rfl) ?_
  refine va_put (D := (dC, dI)) (ci := 6) (v := .ref h2) (ty := .array .byte) (C := RX6) (T := TX6) (N := 9) hx hb hts (fun _ h => List.mem_append_right _ h) tyX6 tyX6_ok nmX6 hown hK hP hD hS 0 rfl rfl 1 (by decide +kernel) (hts (.fieldLink RX6 15 "SpellTurner$Scribe" "page" "[B") (List.mem_of_getElem? (i := 8) rfl)) (fun _ h9 => h9) rfl (by decide +kernel) rfl rfl (Nat.le_of_ble_eq_true rfl) dX6_finish_39 (fun H locs hP hD hS => ?_)
  have hP : va_P (dC, dI) vwCl [(h0, .inr (6, [.ref h3, .ref h2, .ref h4, .ref h5, .int 0, .int 0, .int 0, .int 0, .int 1])), (h1, .inl (k0, 2000, .inl (fun _ => 0))), (h3, .inl (k1, 2500, .inl f2196))] H := hP
  have hD : va_D A [(h0, .inr (6, [.ref h3, .ref h2, .ref h4, .ref h5, .int 0, .int 0, .int 0, .int 0, .int 1])), (h1, .inl (k0, 2000, .inl (fun _ => 0))), (h3, .inl (k1, 2500, .inl f2196))] := hD
  refine lv_aload_n hx hb dX6_finish_42 rfl (lv_at hl 1 rfl) ?_
  refine va_get (D := (dC, dI)) (ci := 6) (v := .ref h4) (C := RX6) (T := TX6) (N := 9) hx hb hts (fun _ h => List.mem_append_right _ h) hown hK hP 0 rfl rfl 2 (by decide +kernel) (hts (.fieldLink RX6 18 "SpellTurner$Scribe" "toldTally" "[I") (List.mem_of_getElem? (i := 9) rfl)) (fun _ h9 => h9) rfl dX6_finish_43 ?_
  refine lv_astore (lv' := [(4, .ref h4), (3, .ref h2), (0, .ref h0), (1, .ref h1), (2, .int 0)]) hx hb dX6_finish_46 hl (by decide +kernel) rfl (fun ls hl => ?_)
  refine lv_aload_n hx hb dX6_finish_48 rfl (lv_at hl 2 rfl) ?_
  refine lv_aload_n hx hb dX6_finish_49 rfl (lv_at hl 2 rfl) ?_
  refine va_get (D := (dC, dI)) (ci := 6) (v := .ref h5) (C := RX6) (T := TX6) (N := 9) hx hb hts (fun _ h => List.mem_append_right _ h) hown hK hP 0 rfl rfl 3 (by decide +kernel) (hts (.fieldLink RX6 22 "SpellTurner$Scribe" "tally" "[I") (List.mem_of_getElem? (i := 10) rfl)) (fun _ h9 => h9) rfl dX6_finish_50 ?_
  refine va_put (D := (dC, dI)) (ci := 6) (v := .ref h5) (ty := .array .int) (C := RX6) (T := TX6) (N := 9) hx hb hts (fun _ h => List.mem_append_right _ h) tyX6 tyX6_ok nmX6 hown hK hP hD hS 0 rfl rfl 2 (by decide +kernel) (hts (.fieldLink RX6 18 "SpellTurner$Scribe" "toldTally" "[I") (List.mem_of_getElem? (i := 9) rfl)) (fun _ h9 => h9) rfl (by decide +kernel) rfl rfl (Nat.le_of_ble_eq_true rfl) dX6_finish_53 (fun H locs hP hD hS => ?_)
  have hP : va_P (dC, dI) vwCl [(h0, .inr (6, [.ref h3, .ref h2, .ref h5, .ref h5, .int 0, .int 0, .int 0, .int 0, .int 1])), (h1, .inl (k0, 2000, .inl (fun _ => 0))), (h3, .inl (k1, 2500, .inl f2196))] H := hP
  have hD : va_D A [(h0, .inr (6, [.ref h3, .ref h2, .ref h5, .ref h5, .int 0, .int 0, .int 0, .int 0, .int 1])), (h1, .inl (k0, 2000, .inl (fun _ => 0))), (h3, .inl (k1, 2500, .inl f2196))] := hD
  refine lv_aload_n hx hb dX6_finish_56 rfl (lv_at hl 2 rfl) ?_
  refine lv_aload hx hb dX6_finish_57 (lv_at hl 0 rfl) ?_
  refine va_put (D := (dC, dI)) (ci := 6) (v := .ref h4) (ty := .array .int) (C := RX6) (T := TX6) (N := 9) hx hb hts (fun _ h => List.mem_append_right _ h) tyX6 tyX6_ok nmX6 hown hK hP hD hS 0 rfl rfl 3 (by decide +kernel) (hts (.fieldLink RX6 22 "SpellTurner$Scribe" "tally" "[I") (List.mem_of_getElem? (i := 10) rfl)) (fun _ h9 => h9) rfl (by decide +kernel) rfl rfl (Nat.le_of_ble_eq_true rfl) dX6_finish_59 (fun H locs hP hD hS => ?_)
  have hP : va_P (dC, dI) vwCl [(h0, .inr (6, [.ref h3, .ref h2, .ref h5, .ref h4, .int 0, .int 0, .int 0, .int 0, .int 1])), (h1, .inl (k0, 2000, .inl (fun _ => 0))), (h3, .inl (k1, 2500, .inl f2196))] H := hP
  have hD : va_D A [(h0, .inr (6, [.ref h3, .ref h2, .ref h5, .ref h4, .int 0, .int 0, .int 0, .int 0, .int 1])), (h1, .inl (k0, 2000, .inl (fun _ => 0))), (h3, .inl (k1, 2500, .inl f2196))] := hD
  refine lv_aload_n hx hb dX6_finish_62 rfl (lv_at hl 2 rfl) ?_
  refine lv_iconst (v := 1) hx hb dX6_finish_63 (by decide +kernel) ?_
  refine va_put (D := (dC, dI)) (ci := 6) (v := .int 1) (ty := .boolean) (C := RX6) (T := TX6) (N := 9) hx hb hts (fun _ h => List.mem_append_right _ h) tyX6 tyX6_ok nmX6 hown hK hP hD hS 0 rfl rfl 4 (by decide +kernel) (hts (.fieldLink RX6 25 "SpellTurner$Scribe" "hasTold" "Z") (List.mem_of_getElem? (i := 11) rfl)) (fun _ h9 => h9) rfl (by decide +kernel) rfl rfl (Nat.le_of_ble_eq_true rfl) dX6_finish_64 (fun H locs hP hD hS => ?_)
  have hP : va_P (dC, dI) vwCl [(h0, .inr (6, [.ref h3, .ref h2, .ref h5, .ref h4, .int 1, .int 0, .int 0, .int 0, .int 1])), (h1, .inl (k0, 2000, .inl (fun _ => 0))), (h3, .inl (k1, 2500, .inl f2196))] H := hP
  have hD : va_D A [(h0, .inr (6, [.ref h3, .ref h2, .ref h5, .ref h4, .int 1, .int 0, .int 0, .int 0, .int 1])), (h1, .inl (k0, 2000, .inl (fun _ => 0))), (h3, .inl (k1, 2500, .inl f2196))] := hD
  refine lv_aload_n hx hb dX6_finish_67 rfl (lv_at hl 2 rfl) ?_
  refine lv_aload_n hx hb dX6_finish_68 rfl (lv_at hl 2 rfl) ?_
  refine va_get (D := (dC, dI)) (ci := 6) (v := .int 0) (C := RX6) (T := TX6) (N := 9) hx hb hts (fun _ h => List.mem_append_right _ h) hown hK hP 0 rfl rfl 6 (by decide +kernel) (hts (.fieldLink RX6 33 "SpellTurner$Scribe" "size" "I") (List.mem_of_getElem? (i := 12) rfl)) (fun _ h9 => h9) rfl dX6_finish_69 ?_
  refine va_put (D := (dC, dI)) (ci := 6) (v := .int 0) (ty := .int) (C := RX6) (T := TX6) (N := 9) hx hb hts (fun _ h => List.mem_append_right _ h) tyX6 tyX6_ok nmX6 hown hK hP hD hS 0 rfl rfl 5 (by decide +kernel) (hts (.fieldLink RX6 29 "SpellTurner$Scribe" "toldSize" "I") (List.mem_of_getElem? (i := 13) rfl)) (fun _ h9 => h9) rfl (by decide +kernel) rfl rfl (Nat.le_of_ble_eq_true rfl) dX6_finish_72 (fun H locs hP hD hS => ?_)
  have hP : va_P (dC, dI) vwCl [(h0, .inr (6, [.ref h3, .ref h2, .ref h5, .ref h4, .int 1, .int 0, .int 0, .int 0, .int 1])), (h1, .inl (k0, 2000, .inl (fun _ => 0))), (h3, .inl (k1, 2500, .inl f2196))] H := hP
  have hD : va_D A [(h0, .inr (6, [.ref h3, .ref h2, .ref h5, .ref h4, .int 1, .int 0, .int 0, .int 0, .int 1])), (h1, .inl (k0, 2000, .inl (fun _ => 0))), (h3, .inl (k1, 2500, .inl f2196))] := hD
  refine lv_aload_n hx hb dX6_finish_75 rfl (lv_at hl 2 rfl) ?_
  refine va_get (D := (dC, dI)) (ci := 6) (v := .int 0) (C := RX6) (T := TX6) (N := 9) hx hb hts (fun _ h => List.mem_append_right _ h) hown hK hP 0 rfl rfl 6 (by decide +kernel) (hts (.fieldLink RX6 33 "SpellTurner$Scribe" "size" "I") (List.mem_of_getElem? (i := 12) rfl)) (fun _ h9 => h9) rfl dX6_finish_76 ?_
  refine W.widen (k := 0) (n := 0) (by omega) (by omega) ?_
  have hP9 := hP.sub (ws' := [(h0, .inr (6, [.ref h3, .ref h2, .ref h5, .ref h4, .int 1, .int 0, .int 0, .int 0, .int 1])), (h1, .inl (k0, 2000, .inl (fun _ => 0))), (h3, .inl (k1, 2500, .inl f2196))]) [0, 1, 2] rfl
  have hD9 := hD.sub (ws' := [(h0, .inr (6, [.ref h3, .ref h2, .ref h5, .ref h4, .int 1, .int 0, .int 0, .int 0, .int 1])), (h1, .inl (k0, 2000, .inl (fun _ => 0))), (h3, .inl (k1, 2500, .inl f2196))]) [0, 1, 2] (by decide +kernel) rfl
  have hK9 := hK.sub (tys' := []) [] rfl
  exact W.iret (v := 0) hx hb hr (fun t ht hW => ⟨⟨0, (), rfl, rfl, f2196, by rw [ht]; exact hP9, va_K.moved hW.alike hK9, hD9⟩, hS.F ht⟩) hS.2.2 dX6_finish_79
