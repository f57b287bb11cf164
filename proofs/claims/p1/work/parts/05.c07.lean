set_option maxHeartbeats 4000000 in
set_option maxRecDepth 100000 in
theorem c_X7_append_0 (l : Launch) (dC : Nat → ClassId) (dI : Nat → Nat → Nat) (sz : Nat) (h0 : Nat) (h1 : Nat) (k0 : ClassId) (p0 : Int32) : Met l yX7_append wmX7_append ({ frames := 2, cells := 0, slots := 0, locals := 60 }) (va_Pc [.ref h0, .int p0] (fun U => U.heap.size = sz ∧ va_P (dC, dI) vwCl [(h0, .inr (7, [.ref h1, .int 0])), (h1, .inl (k0, 2000, .inl (fun _ => 0)))] U.heap ∧ va_K (dC, dI) vwCl [(k0, .byte)] U ∧ va_D (fun _ => True) [(h0, .inr (7, [.ref h1, .int 0])), (h1, .inl (k0, 2000, .inl (fun _ => 0)))])) (va_Qv (fun _ : Unit => True) (fun _ t => ∃ (f1223 : Nat → Int32), va_P (dC, dI) vwCl [(h0, .inr (7, [.ref h1, .int 4])), (h1, .inl (k0, 2000, .inl f1223))] t.heap ∧ va_K (dC, dI) vwCl [] t ∧ va_D (va_A [(h0, .inr (7, [.ref h1, .int 0])), (h1, .inl (k0, 2000, .inl (fun _ => 0)))] sz) [(h0, .inr (7, [.ref h1, .int 4])), (h1, .inl (k0, 2000, .inl f1223))]) (va_A [(h0, .inr (7, [.ref h1, .int 0])), (h1, .inl (k0, 2000, .inl (fun _ => 0)))] sz)) 0 0 (va_A [(h0, .inr (7, [.ref h1, .int 0])), (h1, .inl (k0, 2000, .inl (fun _ => 0)))] sz) := by
  refine Met.ofW (cc := cX7_append) (maxL := 3) (ret := none) (by decide +kernel) rfl ?_
  intro p e s m args below meth c s₁ B hml hv
  obtain ⟨rfl, hsz, hP, hK, hD0⟩ := hv
  have hx := B.exec
  have hb := B.bytes
  have hr := B.returns
  have hts := atoms_spec (ws := wmX7_append) B.pre
  have hown : s.vm.findClass RX7 = some m.cls := findClass_of_methodNamed B.named
  have hlocks := B.notSynchronized
  subst hsz
  have hD := hD0.self (sz := s.heap.size)
  generalize hAe : va_A [(h0, .inr (7, [.ref h1, .int 0])), (h1, .inl (k0, 2000, .inl (fun _ => 0)))] s.heap.size = A at hD ⊢
  have hA : ∀ q : Nat, s.heap.size ≤ q → A q := fun q h => by rw [← hAe]; exact Or.inr h
  have hS : va_S A s.heap s.heap [] := va_S.rf
  have hP : va_P (dC, dI) vwCl [(h0, .inr (7, [.ref h1, .int 0])), (h1, .inl (k0, 2000, .inl (fun _ => 0)))] s.heap := hP
  have hl := lv_entry ([.ref h0, .int p0]) (n := 3) (Nat.le_of_ble_eq_true rfl)
  rw [lg_entry_eq]
  generalize (lg_sl ([.ref h0, .int p0]) ++ List.replicate (3 - (lg_sl ([.ref h0, .int p0])).length) Slot.unset).toArray = ls at hl ⊢
  have hl : lv_has ls 3 [(0, .ref h0), (1, .int p0)] := hl
  refine lv_bipush (v := 24) hx hb dX7_append_0 (by decide +kernel) ?_
  refine lv_istore_n (lv' := [(2, .int 24), (0, .ref h0), (1, .int p0)]) hx hb dX7_append_2 rfl hl (by decide +kernel) rfl (fun ls hl => ?_)
  refine lv_iload_n hx hb dX7_append_3 rfl (lv_at hl 0 rfl) ?_
  refine lv_if_lt (tgt := 46) hx hb dX7_append_4 (by decide +kernel) (fun h => absurd h (by decide +kernel)) (fun _ => ?_)
  refine lv_aload_n hx hb dX7_append_7 rfl (lv_at hl 1 rfl) ?_
  refine va_get (D := (dC, dI)) (ci := 7) (v := .int 0) (C := RX7) (T := TX7) (N := 2) hx hb hts (fun _ h => List.mem_append_right _ h) hown hK hP 0 rfl rfl 1 (by decide +kernel) (hts (.fieldLink RX7 15 "SpellTurner$Tape" "length" "I") (List.mem_of_getElem? (i := 1) rfl)) (fun _ h9 => h9) rfl dX7_append_8 ?_
  refine lv_sipush (v := 2000) hx hb dX7_append_11 (by decide +kernel) ?_
  refine lv_icmp_ge (tgt := 46) hx hb dX7_append_14 (by decide +kernel) (fun h => absurd h (by decide +kernel)) (fun _ => ?_)
  refine lv_aload_n hx hb dX7_append_17 rfl (lv_at hl 1 rfl) ?_
  refine va_get (D := (dC, dI)) (ci := 7) (v := .ref h1) (C := RX7) (T := TX7) (N := 2) hx hb hts (fun _ h => List.mem_append_right _ h) hown hK hP 0 rfl rfl 0 (by decide +kernel) (hts (.fieldLink RX7 9 "SpellTurner$Tape" "bytes" "[B") (List.mem_of_getElem? (i := 2) rfl)) (fun _ h9 => h9) rfl dX7_append_18 ?_
  refine lv_aload_n hx hb dX7_append_21 rfl (lv_at hl 1 rfl) ?_
  refine va_get (D := (dC, dI)) (ci := 7) (v := .int 0) (C := RX7) (T := TX7) (N := 2) hx hb hts (fun _ h => List.mem_append_right _ h) hown hK hP 0 rfl rfl 1 (by decide +kernel) (hts (.fieldLink RX7 15 "SpellTurner$Tape" "length" "I") (List.mem_of_getElem? (i := 1) rfl)) (fun _ h9 => h9) rfl dX7_append_22 ?_
  refine lv_iload_n hx hb dX7_append_25 rfl (lv_at hl 2 rfl) ?_
  refine lv_iload_n hx hb dX7_append_26 rfl (lv_at hl 0 rfl) ?_
  refine lv_ishr hx hb dX7_append_27 ?_
  refine lv_topi (fun x1225 ex1225 => ?_)
  clear ex1225
  refine lv_i2b hx hb dX7_append_28 rfl ?_
  refine lv_topi (fun x1226 ex1226 => ?_)
  clear ex1226
  refine va_bast hx hb hK hP hD hS 1 0 rfl rfl (by unfold vp_in; decide) dX7_append_29 (fun H locs hP hD hS => ?_)
  obtain ⟨f1227, hP, hD⟩ : ∃ f1227 : Nat → Int32, va_P (dC, dI) vwCl [(h0, .inr (7, [.ref h1, .int 0])), (h1, .inl (k0, 2000, .inl f1227))] H ∧ va_D A [(h0, .inr (7, [.ref h1, .int 0])), (h1, .inl (k0, 2000, .inl f1227))] := ⟨_, hP, hD⟩
  refine lv_aload_n hx hb dX7_append_30 rfl (lv_at hl 1 rfl) ?_
  refine lv_dup hx hb dX7_append_31 rfl ?_
  refine va_get (D := (dC, dI)) (ci := 7) (v := .int 0) (C := RX7) (T := TX7) (N := 2) hx hb hts (fun _ h => List.mem_append_right _ h) hown hK hP 0 rfl rfl 1 (by decide +kernel) (hts (.fieldLink RX7 15 "SpellTurner$Tape" "length" "I") (List.mem_of_getElem? (i := 1) rfl)) (fun _ h9 => h9) rfl dX7_append_32 ?_
  refine lv_iconst (v := 1) hx hb dX7_append_35 (by decide +kernel) ?_
  refine lv_iadd hx hb dX7_append_36 ?_
  refine lv_topi (fun x1228 ex1228 => ?_)
  obtain rfl : x1228 = 1 := ex1228.trans (by decide +kernel)
  refine va_put (D := (dC, dI)) (ci := 7) (v := .int 1) (ty := .int) (C := RX7) (T := TX7) (N := 2) hx hb hts (fun _ h => List.mem_append_right _ h) tyX7 tyX7_ok nmX7 hown hK hP hD hS 0 rfl rfl 1 (by decide +kernel) (hts (.fieldLink RX7 15 "SpellTurner$Tape" "length" "I") (List.mem_of_getElem? (i := 1) rfl)) (fun _ h9 => h9) rfl (by decide +kernel) rfl rfl (Nat.le_of_ble_eq_true rfl) dX7_append_37 (fun H locs hP hD hS => ?_)
  have hP : va_P (dC, dI) vwCl [(h0, .inr (7, [.ref h1, .int 1])), (h1, .inl (k0, 2000, .inl f1227))] H := hP
  have hD : va_D A [(h0, .inr (7, [.ref h1, .int 1])), (h1, .inl (k0, 2000, .inl f1227))] := hD
  refine lv_iinc (v := 16) (lv' := [(2, .int 16), (0, .ref h0), (1, .int p0)]) hx hb dX7_append_40 hl (k := 0) rfl (by decide +kernel) (by decide +kernel) rfl (fun ls hl => ?_)
  refine lv_goto (tgt := 3) hx hb dX7_append_43 (by decide +kernel) ?_
  refine lv_iload_n hx hb dX7_append_3 rfl (lv_at hl 0 rfl) ?_
  refine lv_if_lt (tgt := 46) hx hb dX7_append_4 (by decide +kernel) (fun h => absurd h (by decide +kernel)) (fun _ => ?_)
  refine lv_aload_n hx hb dX7_append_7 rfl (lv_at hl 1 rfl) ?_
  refine va_get (D := (dC, dI)) (ci := 7) (v := .int 1) (C := RX7) (T := TX7) (N := 2) hx hb hts (fun _ h => List.mem_append_right _ h) hown hK hP 0 rfl rfl 1 (by decide +kernel) (hts (.fieldLink RX7 15 "SpellTurner$Tape" "length" "I") (List.mem_of_getElem? (i := 1) rfl)) (fun _ h9 => h9) rfl dX7_append_8 ?_
  refine lv_sipush (v := 2000) hx hb dX7_append_11 (by decide +kernel) ?_
  refine lv_icmp_ge (tgt := 46) hx hb dX7_append_14 (by decide +kernel) (fun h => absurd h (by decide +kernel)) (fun _ => ?_)
  refine lv_aload_n hx hb dX7_append_17 rfl (lv_at hl 1 rfl) ?_
  refine va_get (D := (dC, dI)) (ci := 7) (v := .ref h1) (C := RX7) (T := TX7) (N := 2) hx hb hts (fun _ h => List.mem_append_right _ h) hown hK hP 0 rfl rfl 0 (by decide +kernel) (hts (.fieldLink RX7 9 "SpellTurner$Tape" "bytes" "[B") (List.mem_of_getElem? (i := 2) rfl)) (fun _ h9 => h9) rfl dX7_append_18 ?_
  refine lv_aload_n hx hb dX7_append_21 rfl (lv_at hl 1 rfl) ?_
  refine va_get (D := (dC, dI)) (ci := 7) (v := .int 1) (C := RX7) (T := TX7) (N := 2) hx hb hts (fun _ h => List.mem_append_right _ h) hown hK hP 0 rfl rfl 1 (by decide +kernel) (hts (.fieldLink RX7 15 "SpellTurner$Tape" "length" "I") (List.mem_of_getElem? (i := 1) rfl)) (fun _ h9 => h9) rfl dX7_append_22 ?_
  refine lv_iload_n hx hb dX7_append_25 rfl (lv_at hl 2 rfl) ?_
  refine lv_iload_n hx hb dX7_append_26 rfl (lv_at hl 0 rfl) ?_
  refine lv_ishr hx hb dX7_append_27 ?_
  refine lv_topi (fun x1229 ex1229 => ?_)
  clear ex1229
  refine lv_i2b hx hb dX7_append_28 rfl ?_
  refine lv_topi (fun x1230 ex1230 => ?_)
  clear ex1230
  refine va_bast hx hb hK hP hD hS 1 0 rfl rfl (by unfold vp_in; decide) dX7_append_29 (fun H locs hP hD hS => ?_)
  obtain ⟨f1231, hP, hD⟩ : ∃ f1231 : Nat → Int32, va_P (dC, dI) vwCl [(h0, .inr (7, [.ref h1, .int 1])), (h1, .inl (k0, 2000, .inl f1231))] H ∧ va_D A [(h0, .inr (7, [.ref h1, .int 1])), (h1, .inl (k0, 2000, .inl f1231))] := ⟨_, hP, hD⟩
  refine lv_aload_n hx hb dX7_append_30 rfl (lv_at hl 1 rfl) ?_
  refine lv_dup hx hb dX7_append_31 rfl ?_
  refine va_get (D := (dC, dI)) (ci := 7) (v := .int 1) (C := RX7) (T := TX7) (N := 2) hx hb hts (fun _ h => List.mem_append_right _ h) hown hK hP 0 rfl rfl 1 (by decide +kernel) (hts (.fieldLink RX7 15 "SpellTurner$Tape" "length" "I") (List.mem_of_getElem? (i := 1) rfl)) (fun _ h9 => h9) rfl dX7_append_32 ?_
  refine lv_iconst (v := 1) hx hb dX7_append_35 (by decide +kernel) ?_
  refine lv_iadd hx hb dX7_append_36 ?_
  refine lv_topi (fun x1232 ex1232 => ?_)
  obtain rfl : x1232 = 2 := ex1232.trans (by decide +kernel)
  refine va_put (D := (dC, dI)) (ci := 7) (v := .int 2) (ty := .int) (C := RX7) (T := TX7) (N := 2) hx hb hts (fun _ h => List.mem_append_right _ h) tyX7 tyX7_ok nmX7 hown hK hP hD hS 0 rfl rfl 1 (by decide +kernel) (hts (.fieldLink RX7 15 "SpellTurner$Tape" "length" "I") (List.mem_of_getElem? (i := 1) rfl)) (fun _ h9 => h9) rfl (by decide +kernel) rfl rfl (Nat.le_of_ble_eq_true rfl) dX7_append_37 (fun H locs hP hD hS => ?_)
  have hP : va_P (dC, dI) vwCl [(h0, .inr (7, [.ref h1, .int 2])), (h1, .inl (k0, 2000, .inl f1231))] H := hP
  have hD : va_D A [(h0, .inr (7, [.ref h1, .int 2])), (h1, .inl (k0, 2000, .inl f1231))] := hD
  refine lv_iinc (v := 8) (lv' := [(2, .int 8), (0, .ref h0), (1, .int p0)]) hx hb dX7_append_40 hl (k := 0) rfl (by decide +kernel) (by decide +kernel) rfl (fun ls hl => ?_)
  refine lv_goto (tgt := 3) hx hb dX7_append_43 (by decide +kernel) ?_
  refine lv_iload_n hx hb dX7_append_3 rfl (lv_at hl 0 rfl) ?_
  refine lv_if_lt (tgt := 46) hx hb dX7_append_4 (by decide +kernel) (fun h => absurd h (by decide +kernel)) (fun _ => ?_)
  refine lv_aload_n hx hb dX7_append_7 rfl (lv_at hl 1 rfl) ?_
  refine va_get (D := (dC, dI)) (ci := 7) (v := .int 2) (C := RX7) (T := TX7) (N := 2) hx hb hts (fun _ h => List.mem_append_right _ h) hown hK hP 0 rfl rfl 1 (by decide +kernel) (hts (.fieldLink RX7 15 "SpellTurner$Tape" "length" "I") (List.mem_of_getElem? (i := 1) rfl)) (fun _ h9 => h9) rfl dX7_append_8 ?_
  refine lv_sipush (v := 2000) hx hb dX7_append_11 (by decide +kernel) ?_
  refine lv_icmp_ge (tgt := 46) hx hb dX7_append_14 (by decide +kernel) (fun h => absurd h (by decide +kernel)) (fun _ => ?_)
  refine lv_aload_n hx hb dX7_append_17 rfl (lv_at hl 1 rfl) ?_
  refine va_get (D := (dC, dI)) (ci := 7) (v := .ref h1) (C := RX7) (T := TX7) (N := 2) hx hb hts (fun _ h => List.mem_append_right _ h) hown hK hP 0 rfl rfl 0 (by decide +kernel) (hts (.fieldLink RX7 9 "SpellTurner$Tape" "bytes" "[B") (List.mem_of_getElem? (i := 2) rfl)) (fun _ h9 => h9) rfl dX7_append_18 ?_
  refine lv_aload_n hx hb dX7_append_21 rfl (lv_at hl 1 rfl) ?_
  refine va_get (D := (dC, dI)) (ci := 7) (v := .int 2) (C := RX7) (T := TX7) (N := 2) hx hb hts (fun _ h => List.mem_append_right _ h) hown hK hP 0 rfl rfl 1 (by decide +kernel) (hts (.fieldLink RX7 15 "SpellTurner$Tape" "length" "I") (List.mem_of_getElem? (i := 1) rfl)) (fun _ h9 => h9) rfl dX7_append_22 ?_
  refine lv_iload_n hx hb dX7_append_25 rfl (lv_at hl 2 rfl) ?_
  refine lv_iload_n hx hb dX7_append_26 rfl (lv_at hl 0 rfl) ?_
  refine lv_ishr hx hb dX7_append_27 ?_
  refine lv_topi (fun x1233 ex1233 => ?_)
  clear ex1233
  refine lv_i2b hx hb dX7_append_28 rfl ?_
  refine lv_topi (fun x1234 ex1234 => ?_)
  clear ex1234
  refine va_bast hx hb hK hP hD hS 1 0 rfl rfl (by unfold vp_in; decide) dX7_append_29 (fun H locs hP hD hS => ?_)
  obtain ⟨f1235, hP, hD⟩ : ∃ f1235 : Nat → Int32, va_P (dC, dI) vwCl [(h0, .inr (7, [.ref h1, .int 2])), (h1, .inl (k0, 2000, .inl f1235))] H ∧ va_D A [(h0, .inr (7, [.ref h1, .int 2])), (h1, .inl (k0, 2000, .inl f1235))] := ⟨_, hP, hD⟩
  refine lv_aload_n hx hb dX7_append_30 rfl (lv_at hl 1 rfl) ?_
  refine lv_dup hx hb dX7_append_31 rfl ?_
  refine va_get (D := (dC, dI)) (ci := 7) (v := .int 2) (C := RX7) (T := TX7) (N := 2) hx hb hts (fun _ h => List.mem_append_right _ h) hown hK hP 0 rfl rfl 1 (by decide +kernel) (hts (.fieldLink RX7 15 "SpellTurner$Tape" "length" "I") (List.mem_of_getElem? (i := 1) rfl)) (fun _ h9 => h9) rfl dX7_append_32 ?_
  refine lv_iconst (v := 1) hx hb dX7_append_35 (by decide +kernel) ?_
  refine lv_iadd hx hb dX7_append_36 ?_
  refine lv_topi (fun x1236 ex1236 => ?_)
  obtain rfl : x1236 = 3 := ex1236.trans (by decide +kernel)
  refine va_put (D := (dC, dI)) (ci := 7) (v := .int 3) (ty := .int) (C := RX7) (T := TX7) (N := 2) hx hb hts (fun _ h => List.mem_append_right _ h) tyX7 tyX7_ok nmX7 hown hK hP hD hS 0 rfl rfl 1 (by decide +kernel) (hts (.fieldLink RX7 15 "SpellTurner$Tape" "length" "I") (List.mem_of_getElem? (i := 1) rfl)) (fun _ h9 => h9) rfl (by decide +kernel) rfl rfl (Nat.le_of_ble_eq_true rfl) dX7_append_37 (fun H locs hP hD hS => ?_)
  have hP : va_P (dC, dI) vwCl [(h0, .inr (7, [.ref h1, .int 3])), (h1, .inl (k0, 2000, .inl f1235))] H := hP
  have hD : va_D A [(h0, .inr (7, [.ref h1, .int 3])), (h1, .inl (k0, 2000, .inl f1235))] := hD
  refine lv_iinc (v := 0) (lv' := [(2, .int 0), (0, .ref h0), (1, .int p0)]) hx hb dX7_append_40 hl (k := 0) rfl (by decide +kernel) (by decide +kernel) rfl (fun ls hl => ?_)
  refine lv_goto (tgt := 3) hx hb dX7_append_43 (by decide +kernel) ?_
  refine lv_iload_n hx hb dX7_append_3 rfl (lv_at hl 0 rfl) ?_
  refine lv_if_lt (tgt := 46) hx hb dX7_append_4 (by decide +kernel) (fun h => absurd h (by decide +kernel)) (fun _ => ?_)
  refine lv_aload_n hx hb dX7_append_7 rfl (lv_at hl 1 rfl) ?_
  refine va_get (D := (dC, dI)) (ci := 7) (v := .int 3) (C := RX7) (T := TX7) (N := 2) hx hb hts (fun _ h => List.mem_append_right _ h) hown hK hP 0 rfl rfl 1 (by decide +kernel) (hts (.fieldLink RX7 15 "SpellTurner$Tape" "length" "I") (List.mem_of_getElem? (i := 1) rfl)) (fun _ h9 => h9) rfl dX7_append_8 ?_
  refine lv_sipush (v := 2000) hx hb dX7_append_11 (by decide +kernel) ?_
  refine lv_icmp_ge (tgt := 46) hx hb dX7_append_14 (by decide +kernel) (fun h => absurd h (by decide +kernel)) (fun _ => ?_)
  refine lv_aload_n hx hb dX7_append_17 rfl (lv_at hl 1 rfl) ?_
  refine va_get (D := (dC, dI)) (ci := 7) (v := .ref h1) (C := RX7) (T := TX7) (N := 2) hx hb hts (fun _ h => List.mem_append_right _ h) hown hK hP 0 rfl rfl 0 (by decide +kernel) (hts (.fieldLink RX7 9 "SpellTurner$Tape" "bytes" "[B") (List.mem_of_getElem? (i := 2) rfl)) (fun _ h9 => h9) rfl dX7_append_18 ?_
  refine lv_aload_n hx hb dX7_append_21 rfl (lv_at hl 1 rfl) ?_
  refine va_get (D := (dC, dI)) (ci := 7) (v := .int 3) (C := RX7) (T := TX7) (N := 2) hx hb hts (fun _ h => List.mem_append_right _ h) hown hK hP 0 rfl rfl 1 (by decide +kernel) (hts (.fieldLink RX7 15 "SpellTurner$Tape" "length" "I") (List.mem_of_getElem? (i := 1) rfl)) (fun _ h9 => h9) rfl dX7_append_22 ?_
  refine lv_iload_n hx hb dX7_append_25 rfl (lv_at hl 2 rfl) ?_
  refine lv_iload_n hx hb dX7_append_26 rfl (lv_at hl 0 rfl) ?_
  refine lv_ishr hx hb dX7_append_27 ?_
  refine lv_topi (fun x1237 ex1237 => ?_)
  clear ex1237
  refine lv_i2b hx hb dX7_append_28 rfl ?_
  refine lv_topi (fun x1238 ex1238 => ?_)
  clear ex1238
  refine va_bast hx hb hK hP hD hS 1 0 rfl rfl (by unfold vp_in; decide) dX7_append_29 (fun H locs hP hD hS => ?_)
  obtain ⟨f1239, hP, hD⟩ : ∃ f1239 : Nat → Int32, va_P (dC, dI) vwCl [(h0, .inr (7, [.ref h1, .int 3])), (h1, .inl (k0, 2000, .inl f1239))] H ∧ va_D A [(h0, .inr (7, [.ref h1, .int 3])), (h1, .inl (k0, 2000, .inl f1239))] := ⟨_, hP, hD⟩
  refine lv_aload_n hx hb dX7_append_30 rfl (lv_at hl 1 rfl) ?_
  refine lv_dup hx hb dX7_append_31 rfl ?_
  refine va_get (D := (dC, dI)) (ci := 7) (v := .int 3) (C := RX7) (T := TX7) (N := 2) hx hb hts (fun _ h => List.mem_append_right _ h) hown hK hP 0 rfl rfl 1 (by decide +kernel) (hts (.fieldLink RX7 15 "SpellTurner$Tape" "length" "I") (List.mem_of_getElem? (i := 1) rfl)) (fun _ h9 => h9) rfl dX7_append_32 ?_
  refine lv_iconst (v := 1) hx hb dX7_append_35 (by decide +kernel) ?_
  refine lv_iadd hx hb dX7_append_36 ?_
  refine lv_topi (fun x1240 ex1240 => ?_)
  obtain rfl : x1240 = 4 := ex1240.trans (by decide +kernel)
  refine va_put (D := (dC, dI)) (ci := 7) (v := .int 4) (ty := .int) (C := RX7) (T := TX7) (N := 2) hx hb hts (fun _ h => List.mem_append_right _ h) tyX7 tyX7_ok nmX7 hown hK hP hD hS 0 rfl rfl 1 (by decide +kernel) (hts (.fieldLink RX7 15 "SpellTurner$Tape" "length" "I") (List.mem_of_getElem? (i := 1) rfl)) (fun _ h9 => h9) rfl (by decide +kernel) rfl rfl (Nat.le_of_ble_eq_true rfl) dX7_append_37 (fun H locs hP hD hS => ?_)
  have hP : va_P (dC, dI) vwCl [(h0, .inr (7, [.ref h1, .int 4])), (h1, .inl (k0, 2000, .inl f1239))] H := hP
  have hD : va_D A [(h0, .inr (7, [.ref h1, .int 4])), (h1, .inl (k0, 2000, .inl f1239))] := hD
  refine lv_iinc (v := (-8)) (lv' := [(2, .int (-8)), (0, .ref h0), (1, .int p0)]) hx hb dX7_append_40 hl (k := 0) rfl (by decide +kernel) (by decide +kernel) rfl (fun ls hl => ?_)
  refine lv_goto (tgt := 3) hx hb dX7_append_43 (by decide +kernel) ?_
  refine lv_iload_n hx hb dX7_append_3 rfl (lv_at hl 0 rfl) ?_
  refine lv_if_lt (tgt := 46) hx hb dX7_append_4 (by decide +kernel) (fun _ => ?_) (fun h => absurd (by decide +kernel) h)
  refine W.widen (k := 0) (n := 0) (by omega) (by omega) ?_
  have hP9 := hP.sub (ws' := [(h0, .inr (7, [.ref h1, .int 4])), (h1, .inl (k0, 2000, .inl f1239))]) [0, 1] rfl
  have hD9 := hD.sub (ws' := [(h0, .inr (7, [.ref h1, .int 4])), (h1, .inl (k0, 2000, .inl f1239))]) [0, 1] (by decide +kernel) rfl
  have hK9 := hK.sub (tys' := []) [] rfl
  exact W.vret hx hb hr (fun t ht hW => ⟨⟨(), rfl, trivial, f1239, by rw [ht]; exact hP9, va_K.moved hW.alike hK9, hD9⟩, hS.F ht⟩) hS.2.2 dX7_append_46
set_option maxHeartbeats 4000000 in
set_option maxRecDepth 100000 in
theorem c_X7_append_1 (l : Launch) (dC : Nat → ClassId) (dI : Nat → Nat → Nat) (sz : Nat) (h0 : Nat) (h1 : Nat) (k0 : ClassId) (f0 : Nat → Int32) (p0 : Int32) : Met l yX7_append wmX7_append ({ frames := 2, cells := 0, slots := 0, locals := 60 }) (va_Pc [.ref h0, .int p0] (fun U => U.heap.size = sz ∧ va_P (dC, dI) vwCl [(h0, .inr (7, [.ref h1, .int 4])), (h1, .inl (k0, 2000, .inl f0))] U.heap ∧ va_K (dC, dI) vwCl [(k0, .byte)] U ∧ va_D (fun _ => True) [(h0, .inr (7, [.ref h1, .int 4])), (h1, .inl (k0, 2000, .inl f0))])) (va_Qv (fun _ : Unit => True) (fun _ t => ∃ (f1272 : Nat → Int32), va_P (dC, dI) vwCl [(h0, .inr (7, [.ref h1, .int 8])), (h1, .inl (k0, 2000, .inl f1272))] t.heap ∧ va_K (dC, dI) vwCl [] t ∧ va_D (va_A [(h0, .inr (7, [.ref h1, .int 4])), (h1, .inl (k0, 2000, .inl f0))] sz) [(h0, .inr (7, [.ref h1, .int 8])), (h1, .inl (k0, 2000, .inl f1272))]) (va_A [(h0, .inr (7, [.ref h1, .int 4])), (h1, .inl (k0, 2000, .inl f0))] sz)) 0 0 (va_A [(h0, .inr (7, [.ref h1, .int 4])), (h1, .inl (k0, 2000, .inl f0))] sz) := by
  refine Met.ofW (cc := cX7_append) (maxL := 3) (ret := none) (by decide +kernel) rfl ?_
  intro p e s m args below meth c s₁ B hml hv
  obtain ⟨rfl, hsz, hP, hK, hD0⟩ := hv
  have hx := B.exec
  have hb := B.bytes
  have hr := B.returns
  have hts := atoms_spec (ws := wmX7_append) B.pre
  have hown : s.vm.findClass RX7 = some m.cls := findClass_of_methodNamed B.named
  have hlocks := B.notSynchronized
  subst hsz
  have hD := hD0.self (sz := s.heap.size)
  generalize hAe : va_A [(h0, .inr (7, [.ref h1, .int 4])), (h1, .inl (k0, 2000, .inl f0))] s.heap.size = A at hD ⊢
  have hA : ∀ q : Nat, s.heap.size ≤ q → A q := fun q h => by rw [← hAe]; exact Or.inr h
  have hS : va_S A s.heap s.heap [] := va_S.rf
  have hP : va_P (dC, dI) vwCl [(h0, .inr (7, [.ref h1, .int 4])), (h1, .inl (k0, 2000, .inl f0))] s.heap := hP
  have hl := lv_entry ([.ref h0, .int p0]) (n := 3) (Nat.le_of_ble_eq_true rfl)
  rw [lg_entry_eq]
  generalize (lg_sl ([.ref h0, .int p0]) ++ List.replicate (3 - (lg_sl ([.ref h0, .int p0])).length) Slot.unset).toArray = ls at hl ⊢
  have hl : lv_has ls 3 [(0, .ref h0), (1, .int p0)] := hl
  refine lv_bipush (v := 24) hx hb dX7_append_0 (by decide +kernel) ?_
  refine lv_istore_n (lv' := [(2, .int 24), (0, .ref h0), (1, .int p0)]) hx hb dX7_append_2 rfl hl (by decide +kernel) rfl (fun ls hl => ?_)
  refine lv_iload_n hx hb dX7_append_3 rfl (lv_at hl 0 rfl) ?_
  refine lv_if_lt (tgt := 46) hx hb dX7_append_4 (by decide +kernel) (fun h => absurd h (by decide +kernel)) (fun _ => ?_)
  refine lv_aload_n hx hb dX7_append_7 rfl (lv_at hl 1 rfl) ?_
  refine va_get (D := (dC, dI)) (ci := 7) (v := .int 4) (C := RX7) (T := TX7) (N := 2) hx hb hts (fun _ h => List.mem_append_right _ h) hown hK hP 0 rfl rfl 1 (by decide +kernel) (hts (.fieldLink RX7 15 "SpellTurner$Tape" "length" "I") (List.mem_of_getElem? (i := 1) rfl)) (fun _ h9 => h9) rfl dX7_append_8 ?_
  refine lv_sipush (v := 2000) hx hb dX7_append_11 (by decide +kernel) ?_
  refine lv_icmp_ge (tgt := 46) hx hb dX7_append_14 (by decide +kernel) (fun h => absurd h (by decide +kernel)) (fun _ => ?_)
  refine lv_aload_n hx hb dX7_append_17 rfl (lv_at hl 1 rfl) ?_
  refine va_get (D := (dC, dI)) (ci := 7) (v := .ref h1) (C := RX7) (T := TX7) (N := 2) hx hb hts (fun _ h => List.mem_append_right _ h) hown hK hP 0 rfl rfl 0 (by decide +kernel) (hts (.fieldLink RX7 9 "SpellTurner$Tape" "bytes" "[B") (List.mem_of_getElem? (i := 2) rfl)) (fun _ h9 => h9) rfl dX7_append_18 ?_
  refine lv_aload_n hx hb dX7_append_21 rfl (lv_at hl 1 rfl) ?_
  refine va_get (D := (dC, dI)) (ci := 7) (v := .int 4) (C := RX7) (T := TX7) (N := 2) hx hb hts (fun _ h => List.mem_append_right _ h) hown hK hP 0 rfl rfl 1 (by decide +kernel) (hts (.fieldLink RX7 15 "SpellTurner$Tape" "length" "I") (List.mem_of_getElem? (i := 1) rfl)) (fun _ h9 => h9) rfl dX7_append_22 ?_
  refine lv_iload_n hx hb dX7_append_25 rfl (lv_at hl 2 rfl) ?_
  refine lv_iload_n hx hb dX7_append_26 rfl (lv_at hl 0 rfl) ?_
  refine lv_ishr hx hb dX7_append_27 ?_
  refine lv_topi (fun x1274 ex1274 => ?_)
  clear ex1274
  refine lv_i2b hx hb dX7_append_28 rfl ?_
  refine lv_topi (fun x1275 ex1275 => ?_)
  clear ex1275
  refine va_bast hx hb hK hP hD hS 1 0 rfl rfl (by unfold vp_in; decide) dX7_append_29 (fun H locs hP hD hS => ?_)
  obtain ⟨f1276, hP, hD⟩ : ∃ f1276 : Nat → Int32, va_P (dC, dI) vwCl [(h0, .inr (7, [.ref h1, .int 4])), (h1, .inl (k0, 2000, .inl f1276))] H ∧ va_D A [(h0, .inr (7, [.ref h1, .int 4])), (h1, .inl (k0, 2000, .inl f1276))] := ⟨_, hP, hD⟩
  refine lv_aload_n hx hb dX7_append_30 rfl (lv_at hl 1 rfl) ?_
  refine lv_dup hx hb dX7_append_31 rfl ?_
  refine va_get (D := (dC, dI)) (ci := 7) (v := .int 4) (C := RX7) (T := TX7) (N := 2) hx hb hts (fun _ h => List.mem_append_right _ h) hown hK hP 0 rfl rfl 1 (by decide +kernel) (hts (.fieldLink RX7 15 "SpellTurner$Tape" "length" "I") (List.mem_of_getElem? (i := 1) rfl)) (fun _ h9 => h9) rfl dX7_append_32 ?_
  refine lv_iconst (v := 1) hx hb dX7_append_35 (by decide +kernel) ?_
  refine lv_iadd hx hb dX7_append_36 ?_
  refine lv_topi (fun x1277 ex1277 => ?_)
  obtain rfl : x1277 = 5 := ex1277.trans (by decide +kernel)
  refine va_put (D := (dC, dI)) (ci := 7) (v := .int 5) (ty := .int) (C := RX7) (T := TX7) (N := 2) hx hb hts (fun _ h => List.mem_append_right _ h) tyX7 tyX7_ok nmX7 hown hK hP hD hS 0 rfl rfl 1 (by decide +kernel) (hts (.fieldLink RX7 15 "SpellTurner$Tape" "length" "I") (List.mem_of_getElem? (i := 1) rfl)) (fun _ h9 => h9) rfl (by decide +kernel) rfl rfl (Nat.le_of_ble_eq_true rfl) dX7_append_37 (fun H locs hP hD hS => ?_)
  have hP : va_P (dC, dI) vwCl [(h0, .inr (7, [.ref h1, .int 5])), (h1, .inl (k0, 2000, .inl f1276))] H := hP
  have hD : va_D A [(h0, .inr (7, [.ref h1, .int 5])), (h1, .inl (k0, 2000, .inl f1276))] := hD
  refine lv_iinc (v := 16) (lv' := [(2, .int 16), (0, .ref h0), (1, .int p0)]) hx hb dX7_append_40 hl (k := 0) rfl (by decide +kernel) (by decide +kernel) rfl (fun ls hl => ?_)
  refine lv_goto (tgt := 3) hx hb dX7_append_43 (by decide +kernel) ?_
  refine lv_iload_n hx hb dX7_append_3 rfl (lv_at hl 0 rfl) ?_
  refine lv_if_lt (tgt := 46) hx hb dX7_append_4 (by decide +kernel) (fun h => absurd h (by decide +kernel)) (fun _ => ?_)
  refine lv_aload_n hx hb dX7_append_7 rfl (lv_at hl 1 rfl) ?_
  refine va_get (D := (dC, dI)) (ci := 7) (v := .int 5) (C := RX7) (T := TX7) (N := 2) hx hb hts (fun _ h => List.mem_append_right _ h) hown hK hP 0 rfl rfl 1 (by decide +kernel) (hts (.fieldLink RX7 15 "SpellTurner$Tape" "length" "I") (List.mem_of_getElem? (i := 1) rfl)) (fun _ h9 => h9) rfl dX7_append_8 ?_
  refine lv_sipush (v := 2000) hx hb dX7_append_11 (by decide +kernel) ?_
  refine lv_icmp_ge (tgt := 46) hx hb dX7_append_14 (by decide +kernel) (fun h => absurd h (by decide +kernel)) (fun _ => ?_)
  refine lv_aload_n hx hb dX7_append_17 rfl (lv_at hl 1 rfl) ?_
  refine va_get (D := (dC, dI)) (ci := 7) (v := .ref h1) (C := RX7) (T := TX7) (N := 2) hx hb hts (fun _ h => List.mem_append_right _ h) hown hK hP 0 rfl rfl 0 (by decide +kernel) (hts (.fieldLink RX7 9 "SpellTurner$Tape" "bytes" "[B") (List.mem_of_getElem? (i := 2) rfl)) (fun _ h9 => h9) rfl dX7_append_18 ?_
  refine lv_aload_n hx hb dX7_append_21 rfl (lv_at hl 1 rfl) ?_
  refine va_get (D := (dC, dI)) (ci := 7) (v := .int 5) (C := RX7) (T := TX7) (N := 2) hx hb hts (fun _ h => List.mem_append_right _ h) hown hK hP 0 rfl rfl 1 (by decide +kernel) (hts (.fieldLink RX7 15 "SpellTurner$Tape" "length" "I") (List.mem_of_getElem? (i := 1) rfl)) (fun _ h9 => h9) rfl dX7_append_22 ?_
  refine lv_iload_n hx hb dX7_append_25 rfl (lv_at hl 2 rfl) ?_
  refine lv_iload_n hx hb dX7_append_26 rfl (lv_at hl 0 rfl) ?_
  refine lv_ishr hx hb dX7_append_27 ?_
  refine lv_topi (fun x1278 ex1278 => ?_)
  clear ex1278
  refine lv_i2b hx hb dX7_append_28 rfl ?_
  refine lv_topi (fun x1279 ex1279 => ?_)
  clear ex1279
  refine va_bast hx hb hK hP hD hS 1 0 rfl rfl (by unfold vp_in; decide) dX7_append_29 (fun H locs hP hD hS => ?_)
  obtain ⟨f1280, hP, hD⟩ : ∃ f1280 : Nat → Int32, va_P (dC, dI) vwCl [(h0, .inr (7, [.ref h1, .int 5])), (h1, .inl (k0, 2000, .inl f1280))] H ∧ va_D A [(h0, .inr (7, [.ref h1, .int 5])), (h1, .inl (k0, 2000, .inl f1280))] := ⟨_, hP, hD⟩
  refine lv_aload_n hx hb dX7_append_30 rfl (lv_at hl 1 rfl) ?_
  refine lv_dup hx hb dX7_append_31 rfl ?_
  refine va_get (D := (dC, dI)) (ci := 7) (v := .int 5) (C := RX7) (T := TX7) (N := 2) hx hb hts (fun _ h => List.mem_append_right _ h) hown hK hP 0 rfl rfl 1 (by decide +kernel) (hts (.fieldLink RX7 15 "SpellTurner$Tape" "length" "I") (List.mem_of_getElem? (i := 1) rfl)) (fun _ h9 => h9) rfl dX7_append_32 ?_
  refine lv_iconst (v := 1) hx hb dX7_append_35 (by decide +kernel) ?_
  refine lv_iadd hx hb dX7_append_36 ?_
  refine lv_topi (fun x1281 ex1281 => ?_)
  obtain rfl : x1281 = 6 := ex1281.trans (by decide +kernel)
  refine va_put (D := (dC, dI)) (ci := 7) (v := .int 6) (ty := .int) (C := RX7) (T := TX7) (N := 2) hx hb hts (fun _ h => List.mem_append_right _ h) tyX7 tyX7_ok nmX7 hown hK hP hD hS 0 rfl rfl 1 (by decide +kernel) (hts (.fieldLink RX7 15 "SpellTurner$Tape" "length" "I") (List.mem_of_getElem? (i := 1) rfl)) (fun _ h9 => h9) rfl (by decide +kernel) rfl rfl (Nat.le_of_ble_eq_true rfl) dX7_append_37 (fun H locs hP hD hS => ?_)
  have hP : va_P (dC, dI) vwCl [(h0, .inr (7, [.ref h1, .int 6])), (h1, .inl (k0, 2000, .inl f1280))] H := hP
  have hD : va_D A [(h0, .inr (7, [.ref h1, .int 6])), (h1, .inl (k0, 2000, .inl f1280))] := hD
  refine lv_iinc (v := 8) (lv' := [(2, .int 8), (0, .ref h0), (1, .int p0)]) hx hb dX7_append_40 hl (k := 0) rfl (by decide +kernel) (by decide +kernel) rfl (fun ls hl => ?_)
  refine lv_goto (tgt := 3) hx hb dX7_append_43 (by decide +kernel) ?_
  refine lv_iload_n hx hb dX7_append_3 rfl (lv_at hl 0 rfl) ?_
  refine lv_if_lt (tgt := 46) hx hb dX7_append_4 (by decide +kernel) (fun h => absurd h (by decide +kernel)) (fun _ => ?_)
  refine lv_aload_n hx hb dX7_append_7 rfl (lv_at hl 1 rfl) ?_
  refine va_get (D := (dC, dI)) (ci := 7) (v := .int 6) (C := RX7) (T := TX7) (N := 2) hx hb hts (fun _ h => List.mem_append_right _ h) hown hK hP 0 rfl rfl 1 (by decide +kernel) (hts (.fieldLink RX7 15 "SpellTurner$Tape" "length" "I") (List.mem_of_getElem? (i := 1) rfl)) (fun _ h9 => h9) rfl dX7_append_8 ?_
  refine lv_sipush (v := 2000) hx hb dX7_append_11 (by decide +kernel) ?_
  refine lv_icmp_ge (tgt := 46) hx hb dX7_append_14 (by decide +kernel) (fun h => absurd h (by decide +kernel)) (fun _ => ?_)
  refine lv_aload_n hx hb dX7_append_17 rfl (lv_at hl 1 rfl) ?_
  refine va_get (D := (dC, dI)) (ci := 7) (v := .ref h1) (C := RX7) (T := TX7) (N := 2) hx hb hts (fun _ h => List.mem_append_right _ h) hown hK hP 0 rfl rfl 0 (by decide +kernel) (hts (.fieldLink RX7 9 "SpellTurner$Tape" "bytes" "[B") (List.mem_of_getElem? (i := 2) rfl)) (fun _ h9 => h9) rfl dX7_append_18 ?_
  refine lv_aload_n hx hb dX7_append_21 rfl (lv_at hl 1 rfl) ?_
  refine va_get (D := (dC, dI)) (ci := 7) (v := .int 6) (C := RX7) (T := TX7) (N := 2) hx hb hts (fun _ h => List.mem_append_right _ h) hown hK hP 0 rfl rfl 1 (by decide +kernel) (hts (.fieldLink RX7 15 "SpellTurner$Tape" "length" "I") (List.mem_of_getElem? (i := 1) rfl)) (fun _ h9 => h9) rfl dX7_append_22 ?_
  refine lv_iload_n hx hb dX7_append_25 rfl (lv_at hl 2 rfl) ?_
  refine lv_iload_n hx hb dX7_append_26 rfl (lv_at hl 0 rfl) ?_
  refine lv_ishr hx hb dX7_append_27 ?_
  refine lv_topi (fun x1282 ex1282 => ?_)
  clear ex1282
  refine lv_i2b hx hb dX7_append_28 rfl ?_
  refine lv_topi (fun x1283 ex1283 => ?_)
  clear ex1283
  refine va_bast hx hb hK hP hD hS 1 0 rfl rfl (by unfold vp_in; decide) dX7_append_29 (fun H locs hP hD hS => ?_)
  obtain ⟨f1284, hP, hD⟩ : ∃ f1284 : Nat → Int32, va_P (dC, dI) vwCl [(h0, .inr (7, [.ref h1, .int 6])), (h1, .inl (k0, 2000, .inl f1284))] H ∧ va_D A [(h0, .inr (7, [.ref h1, .int 6])), (h1, .inl (k0, 2000, .inl f1284))] := ⟨_, hP, hD⟩
  refine lv_aload_n hx hb dX7_append_30 rfl (lv_at hl 1 rfl) ?_
  refine lv_dup hx hb dX7_append_31 rfl ?_
  refine va_get (D := (dC, dI)) (ci := 7) (v := .int 6) (C := RX7) (T := TX7) (N := 2) hx hb hts (fun _ h => List.mem_append_right _ h) hown hK hP 0 rfl rfl 1 (by decide +kernel) (hts (.fieldLink RX7 15 "SpellTurner$Tape" "length" "I") (List.mem_of_getElem? (i := 1) rfl)) (fun _ h9 => h9) rfl dX7_append_32 ?_
  refine lv_iconst (v := 1) hx hb dX7_append_35 (by decide +kernel) ?_
  refine lv_iadd hx hb dX7_append_36 ?_
  refine lv_topi (fun x1285 ex1285 => ?_)
  obtain rfl : x1285 = 7 := ex1285.trans (by decide +kernel)
  refine va_put (D := (dC, dI)) (ci := 7) (v := .int 7) (ty := .int) (C := RX7) (T := TX7) (N := 2) hx hb hts (fun _ h => List.mem_append_right _ h) tyX7 tyX7_ok nmX7 hown hK hP hD hS 0 rfl rfl 1 (by decide +kernel) (hts (.fieldLink RX7 15 "SpellTurner$Tape" "length" "I") (List.mem_of_getElem? (i := 1) rfl)) (fun _ h9 => h9) rfl (by decide +kernel) rfl rfl (Nat.le_of_ble_eq_true rfl) dX7_append_37 (fun H locs hP hD hS => ?_)
  have hP : va_P (dC, dI) vwCl [(h0, .inr (7, [.ref h1, .int 7])), (h1, .inl (k0, 2000, .inl f1284))] H := hP
  have hD : va_D A [(h0, .inr (7, [.ref h1, .int 7])), (h1, .inl (k0, 2000, .inl f1284))] := hD
  refine lv_iinc (v := 0) (lv' := [(2, .int 0), (0, .ref h0), (1, .int p0)]) hx hb dX7_append_40 hl (k := 0) rfl (by decide +kernel) (by decide +kernel) rfl (fun ls hl => ?_)
  refine lv_goto (tgt := 3) hx hb dX7_append_43 (by decide +kernel) ?_
  refine lv_iload_n hx hb dX7_append_3 rfl (lv_at hl 0 rfl) ?_
  refine lv_if_lt (tgt := 46) hx hb dX7_append_4 (by decide +kernel) (fun h => absurd h (by decide +kernel)) (fun _ => ?_)
  refine lv_aload_n hx hb dX7_append_7 rfl (lv_at hl 1 rfl) ?_
  refine va_get (D := (dC, dI)) (ci := 7) (v := .int 7) (C := RX7) (T := TX7) (N := 2) hx hb hts (fun _ h => List.mem_append_right _ h) hown hK hP 0 rfl rfl 1 (by decide +kernel) (hts (.fieldLink RX7 15 "SpellTurner$Tape" "length" "I") (List.mem_of_getElem? (i := 1) rfl)) (fun _ h9 => h9) rfl dX7_append_8 ?_
  refine lv_sipush (v := 2000) hx hb dX7_append_11 (by decide +kernel) ?_
  refine lv_icmp_ge (tgt := 46) hx hb dX7_append_14 (by decide +kernel) (fun h => absurd h (by decide +kernel)) (fun _ => ?_)
  refine lv_aload_n hx hb dX7_append_17 rfl (lv_at hl 1 rfl) ?_
  refine va_get (D := (dC, dI)) (ci := 7) (v := .ref h1) (C := RX7) (T := TX7) (N := 2) hx hb hts (fun _ h => List.mem_append_right _ h) hown hK hP 0 rfl rfl 0 (by decide +kernel) (hts (.fieldLink RX7 9 "SpellTurner$Tape" "bytes" "[B") (List.mem_of_getElem? (i := 2) rfl)) (fun _ h9 => h9) rfl dX7_append_18 ?_
  refine lv_aload_n hx hb dX7_append_21 rfl (lv_at hl 1 rfl) ?_
  refine va_get (D := (dC, dI)) (ci := 7) (v := .int 7) (C := RX7) (T := TX7) (N := 2) hx hb hts (fun _ h => List.mem_append_right _ h) hown hK hP 0 rfl rfl 1 (by decide +kernel) (hts (.fieldLink RX7 15 "SpellTurner$Tape" "length" "I") (List.mem_of_getElem? (i := 1) rfl)) (fun _ h9 => h9) rfl dX7_append_22 ?_
  refine lv_iload_n hx hb dX7_append_25 rfl (lv_at hl 2 rfl) ?_
  refine lv_iload_n hx hb dX7_append_26 rfl (lv_at hl 0 rfl) ?_
  refine lv_ishr hx hb dX7_append_27 ?_
  refine lv_topi (fun x1286 ex1286 => ?_)
  clear ex1286
  refine lv_i2b hx hb dX7_append_28 rfl ?_
  refine lv_topi (fun x1287 ex1287 => ?_)
  clear ex1287
  refine va_bast hx hb hK hP hD hS 1 0 rfl rfl (by unfold vp_in; decide) dX7_append_29 (fun H locs hP hD hS => ?_)
  obtain ⟨f1288, hP, hD⟩ : ∃ f1288 : Nat → Int32, va_P (dC, dI) vwCl [(h0, .inr (7, [.ref h1, .int 7])), (h1, .inl (k0, 2000, .inl f1288))] H ∧ va_D A [(h0, .inr (7, [.ref h1, .int 7])), (h1, .inl (k0, 2000, .inl f1288))] := ⟨_, hP, hD⟩
  refine lv_aload_n hx hb dX7_append_30 rfl (lv_at hl 1 rfl) ?_
  refine lv_dup hx hb dX7_append_31 rfl ?_
  refine va_get (D := (dC, dI)) (ci := 7) (v := .int 7) (C := RX7) (T := TX7) (N := 2) hx hb hts (fun _ h => List.mem_append_right _ h) hown hK hP 0 rfl rfl 1 (by decide +kernel) (hts (.fieldLink RX7 15 "SpellTurner$Tape" "length" "I") (List.mem_of_getElem? (i := 1) rfl)) (fun _ h9 => h9) rfl dX7_append_32 ?_
  refine lv_iconst (v := 1) hx hb dX7_append_35 (by decide +kernel) ?_
  refine lv_iadd hx hb dX7_append_36 ?_
  refine lv_topi (fun x1289 ex1289 => ?_)
  obtain rfl : x1289 = 8 := ex1289.trans (by decide +kernel)
  refine va_put (D := (dC, dI)) (ci := 7) (v := .int 8) (ty := .int) (C := RX7) (T := TX7) (N := 2) hx hb hts (fun _ h => List.mem_append_right _ h) tyX7 tyX7_ok nmX7 hown hK hP hD hS 0 rfl rfl 1 (by decide +kernel) (hts (.fieldLink RX7 15 "SpellTurner$Tape" "length" "I") (List.mem_of_getElem? (i := 1) rfl)) (fun _ h9 => h9) rfl (by decide +kernel) rfl rfl (Nat.le_of_ble_eq_true rfl) dX7_append_37 (fun H locs hP hD hS => ?_)
  have hP : va_P (dC, dI) vwCl [(h0, .inr (7, [.ref h1, .int 8])), (h1, .inl (k0, 2000, .inl f1288))] H := hP
  have hD : va_D A [(h0, .inr (7, [.ref h1, .int 8])), (h1, .inl (k0, 2000, .inl f1288))] := hD
  refine lv_iinc (v := (-8)) (lv' := [(2, .int (-8)), (0, .ref h0), (1, .int p0)]) hx hb dX7_append_40 hl (k := 0) rfl (by decide +kernel) (by decide +kernel) rfl (fun ls hl => ?_)
  refine lv_goto (tgt := 3) hx hb dX7_append_43 (by decide +kernel) ?_
  refine lv_iload_n hx hb dX7_append_3 rfl (lv_at hl 0 rfl) ?_
  refine lv_if_lt (tgt := 46) hx hb dX7_append_4 (by decide +kernel) (fun _ => ?_) (fun h => absurd (by decide +kernel) h)
  refine W.widen (k := 0) (n := 0) (by omega) (by omega) ?_
  have hP9 := hP.sub (ws' := [(h0, .inr (7, [.ref h1, .int 8])), (h1, .inl (k0, 2000, .inl f1288))]) [0, 1] rfl
  have hD9 := hD.sub (ws' := [(h0, .inr (7, [.ref h1, .int 8])), (h1, .inl (k0, 2000, .inl f1288))]) [0, 1] (by decide +kernel) rfl
  have hK9 := hK.sub (tys' := []) [] rfl
  exact W.vret hx hb hr (fun t ht hW => ⟨⟨(), rfl, trivial, f1288, by rw [ht]; exact hP9, va_K.moved hW.alike hK9, hD9⟩, hS.F ht⟩) hS.2.2 dX7_append_46
set_option maxHeartbeats 4000000 in
set_option maxRecDepth 100000 in
theorem c_X7_append_2 (l : Launch) (dC : Nat → ClassId) (dI : Nat → Nat → Nat) (sz : Nat) (h0 : Nat) (h1 : Nat) (k0 : ClassId) (f0 : Nat → Int32) (p0 : Int32) : Met l yX7_append wmX7_append ({ frames := 2, cells := 0, slots := 0, locals := 60 }) (va_Pc [.ref h0, .int p0] (fun U => U.heap.size = sz ∧ va_P (dC, dI) vwCl [(h0, .inr (7, [.ref h1, .int 8])), (h1, .inl (k0, 2000, .inl f0))] U.heap ∧ va_K (dC, dI) vwCl [(k0, .byte)] U ∧ va_D (fun _ => True) [(h0, .inr (7, [.ref h1, .int 8])), (h1, .inl (k0, 2000, .inl f0))])) (va_Qv (fun _ : Unit => True) (fun _ t => ∃ (f1321 : Nat → Int32), va_P (dC, dI) vwCl [(h0, .inr (7, [.ref h1, .int 12])), (h1, .inl (k0, 2000, .inl f1321))] t.heap ∧ va_K (dC, dI) vwCl [] t ∧ va_D (va_A [(h0, .inr (7, [.ref h1, .int 8])), (h1, .inl (k0, 2000, .inl f0))] sz) [(h0, .inr (7, [.ref h1, .int 12])), (h1, .inl (k0, 2000, .inl f1321))]) (va_A [(h0, .inr (7, [.ref h1, .int 8])), (h1, .inl (k0, 2000, .inl f0))] sz)) 0 0 (va_A [(h0, .inr (7, [.ref h1, .int 8])), (h1, .inl (k0, 2000, .inl f0))] sz) := by
  refine Met.ofW (cc := cX7_append) (maxL := 3) (ret := none) (by decide +kernel) rfl ?_
  intro p e s m args below meth c s₁ B hml hv
  obtain ⟨rfl, hsz, hP, hK, hD0⟩ := hv
  have hx := B.exec
  have hb := B.bytes
  have hr := B.returns
  have hts := atoms_spec (ws := wmX7_append) B.pre
  have hown : s.vm.findClass RX7 = some m.cls := findClass_of_methodNamed B.named
  have hlocks := B.notSynchronized
  subst hsz
  have hD := hD0.self (sz := s.heap.size)
  generalize hAe : va_A [(h0, .inr (7, [.ref h1, .int 8])), (h1, .inl (k0, 2000, .inl f0))] s.heap.size = A at hD ⊢
  have hA : ∀ q : Nat, s.heap.size ≤ q → A q := fun q h => by rw [← hAe]; exact Or.inr h
  have hS : va_S A s.heap s.heap [] := va_S.rf
  have hP : va_P (dC, dI) vwCl [(h0, .inr (7, [.ref h1, .int 8])), (h1, .inl (k0, 2000, .inl f0))] s.heap := hP
  have hl := lv_entry ([.ref h0, .int p0]) (n := 3) (Nat.le_of_ble_eq_true rfl)
  rw [lg_entry_eq]
  generalize (lg_sl ([.ref h0, .int p0]) ++ List.replicate (3 - (lg_sl ([.ref h0, .int p0])).length) Slot.unset).toArray = ls at hl ⊢
  have hl : lv_has ls 3 [(0, .ref h0), (1, .int p0)] := hl
  refine lv_bipush (v := 24) hx hb dX7_append_0 (by decide +kernel) ?_
  refine lv_istore_n (lv' := [(2, .int 24), (0, .ref h0), (1, .int p0)]) hx hb dX7_append_2 rfl hl (by decide +kernel) rfl (fun ls hl => ?_)
  refine lv_iload_n hx hb dX7_append_3 rfl (lv_at hl 0 rfl) ?_
  refine lv_if_lt (tgt := 46) hx hb dX7_append_4 (by decide +kernel) (fun h => absurd h (by decide +kernel)) (fun _ => ?_)
  refine lv_aload_n hx hb dX7_append_7 rfl (lv_at hl 1 rfl) ?_
  refine va_get (D := (dC, dI)) (ci := 7) (v := .int 8) (C := RX7) (T := TX7) (N := 2) hx hb hts (fun _ h => List.mem_append_right _ h) hown hK hP 0 rfl rfl 1 (by decide +kernel) (hts (.fieldLink RX7 15 "SpellTurner$Tape" "length" "I") (List.mem_of_getElem? (i := 1) rfl)) (fun _ h9 => h9) rfl dX7_append_8 ?_
  refine lv_sipush (v := 2000) hx hb dX7_append_11 (by decide +kernel) ?_
  refine lv_icmp_ge (tgt := 46) hx hb dX7_append_14 (by decide +kernel) (fun h => absurd h (by decide +kernel)) (fun _ => ?_)
  refine lv_aload_n hx hb dX7_append_17 rfl (lv_at hl 1 rfl) ?_
  refine va_get (D := (dC, dI)) (ci := 7) (v := .ref h1) (C := RX7) (T := TX7) (N := 2) hx hb hts (fun _ h => List.mem_append_right _ h) hown hK hP 0 rfl rfl 0 (by decide +kernel) (hts (.fieldLink RX7 9 "SpellTurner$Tape" "bytes" "[B") (List.mem_of_getElem? (i := 2) rfl)) (fun _ h9 => h9) rfl dX7_append_18 ?_
  refine lv_aload_n hx hb dX7_append_21 rfl (lv_at hl 1 rfl) ?_
  refine va_get (D := (dC, dI)) (ci := 7) (v := .int 8) (C := RX7) (T := TX7) (N := 2) hx hb hts (fun _ h => List.mem_append_right _ h) hown hK hP 0 rfl rfl 1 (by decide +kernel) (hts (.fieldLink RX7 15 "SpellTurner$Tape" "length" "I") (List.mem_of_getElem? (i := 1) rfl)) (fun _ h9 => h9) rfl dX7_append_22 ?_
  refine lv_iload_n hx hb dX7_append_25 rfl (lv_at hl 2 rfl) ?_
  refine lv_iload_n hx hb dX7_append_26 rfl (lv_at hl 0 rfl) ?_
  refine lv_ishr hx hb dX7_append_27 ?_
  refine lv_topi (fun x1323 ex1323 => ?_)
  clear ex1323
  refine lv_i2b hx hb dX7_append_28 rfl ?_
  refine lv_topi (fun x1324 ex1324 => ?_)
  clear ex1324
  refine va_bast hx hb hK hP hD hS 1 0 rfl rfl (by unfold vp_in; decide) dX7_append_29 (fun H locs hP hD hS => ?_)
  obtain ⟨f1325, hP, hD⟩ : ∃ f1325 : Nat → Int32, va_P (dC, dI) vwCl [(h0, .inr (7, [.ref h1, .int 8])), (h1, .inl (k0, 2000, .inl f1325))] H ∧ va_D A [(h0, .inr (7, [.ref h1, .int 8])), (h1, .inl (k0, 2000, .inl f1325))] := ⟨_, hP, hD⟩
  refine lv_aload_n hx hb dX7_append_30 rfl (lv_at hl 1 rfl) ?_
  refine lv_dup hx hb dX7_append_31 rfl ?_
  refine va_get (D := (dC, dI)) (ci := 7) (v := .int 8) (C := RX7) (T := TX7) (N := 2) hx hb hts (fun _ h => List.mem_append_right _ h) hown hK hP 0 rfl rfl 1 (by decide +kernel) (hts (.fieldLink RX7 15 "SpellTurner$Tape" "length" "I") (List.mem_of_getElem? (i := 1) rfl)) (fun _ h9 => h9) rfl dX7_append_32 ?_
  refine lv_iconst (v := 1) hx hb dX7_append_35 (by decide +kernel) ?_
  refine lv_iadd hx hb dX7_append_36 ?_
  refine lv_topi (fun x1326 ex1326 => ?_)
  obtain rfl : x1326 = 9 := ex1326.trans (by decide +kernel)
  refine va_put (D := (dC, dI)) (ci := 7) (v := .int 9) (ty := .int) (C := RX7) (T := TX7) (N := 2) hx hb hts (fun _ h => List.mem_append_right _ h) tyX7 tyX7_ok nmX7 hown hK hP hD hS 0 rfl rfl 1 (by decide +kernel) (hts (.fieldLink RX7 15 "SpellTurner$Tape" "length" "I") (List.mem_of_getElem? (i := 1) rfl)) (fun _ h9 => h9) rfl (by decide +kernel) rfl rfl (Nat.le_of_ble_eq_true rfl) dX7_append_37 (fun H locs hP hD hS => ?_)
  have hP : va_P (dC, dI) vwCl [(h0, .inr (7, [.ref h1, .int 9])), (h1, .inl (k0, 2000, .inl f1325))] H := hP
  have hD : va_D A [(h0, .inr (7, [.ref h1, .int 9])), (h1, .inl (k0, 2000, .inl f1325))] := hD
  refine lv_iinc (v := 16) (lv' := [(2, .int 16), (0, .ref h0), (1, .int p0)]) hx hb dX7_append_40 hl (k := 0) rfl (by decide +kernel) (by decide +kernel) rfl (fun ls hl => ?_)
  refine lv_goto (tgt := 3) hx hb dX7_append_43 (by decide +kernel) ?_
  refine lv_iload_n hx hb dX7_append_3 rfl (lv_at hl 0 rfl) ?_
  refine lv_if_lt (tgt := 46) hx hb dX7_append_4 (by decide +kernel) (fun h => absurd h (by decide +kernel)) (fun _ => ?_)
  refine lv_aload_n hx hb dX7_append_7 rfl (lv_at hl 1 rfl) ?_
  refine va_get (D := (dC, dI)) (ci := 7) (v := .int 9) (C := RX7) (T := TX7) (N := 2) hx hb hts (fun _ h => List.mem_append_right _ h) hown hK hP 0 rfl rfl 1 (by decide +kernel) (hts (.fieldLink RX7 15 "SpellTurner$Tape" "length" "I") (List.mem_of_getElem? (i := 1) rfl)) (fun _ h9 => h9) rfl dX7_append_8 ?_
  refine lv_sipush (v := 2000) hx hb dX7_append_11 (by decide +kernel) ?_
  refine lv_icmp_ge (tgt := 46) hx hb dX7_append_14 (by decide +kernel) (fun h => absurd h (by decide +kernel)) (fun _ => ?_)
  refine lv_aload_n hx hb dX7_append_17 rfl (lv_at hl 1 rfl) ?_
  refine va_get (D := (dC, dI)) (ci := 7) (v := .ref h1) (C := RX7) (T := TX7) (N := 2) hx hb hts (fun _ h => List.mem_append_right _ h) hown hK hP 0 rfl rfl 0 (by decide +kernel) (hts (.fieldLink RX7 9 "SpellTurner$Tape" "bytes" "[B") (List.mem_of_getElem? (i := 2) rfl)) (fun _ h9 => h9) rfl dX7_append_18 ?_
  refine lv_aload_n hx hb dX7_append_21 rfl (lv_at hl 1 rfl) ?_
  refine va_get (D := (dC, dI)) (ci := 7) (v := .int 9) (C := RX7) (T := TX7) (N := 2) hx hb hts (fun _ h => List.mem_append_right _ h) hown hK hP 0 rfl rfl 1 (by decide +kernel) (hts (.fieldLink RX7 15 "SpellTurner$Tape" "length" "I") (List.mem_of_getElem? (i := 1) rfl)) (fun _ h9 => h9) rfl dX7_append_22 ?_
  refine lv_iload_n hx hb dX7_append_25 rfl (lv_at hl 2 rfl) ?_
  refine lv_iload_n hx hb dX7_append_26 rfl (lv_at hl 0 rfl) ?_
  refine lv_ishr hx hb dX7_append_27 ?_
  refine lv_topi (fun x1327 ex1327 => ?_)
  clear ex1327
  refine lv_i2b hx hb dX7_append_28 rfl ?_
  refine lv_topi (fun x1328 ex1328 => ?_)
  clear ex1328
  refine va_bast hx hb hK hP hD hS 1 0 rfl rfl (by unfold vp_in; decide) dX7_append_29 (fun H locs hP hD hS => ?_)
  obtain ⟨f1329, hP, hD⟩ : ∃ f1329 : Nat → Int32, va_P (dC, dI) vwCl [(h0, .inr (7, [.ref h1, .int 9])), (h1, .inl (k0, 2000, .inl f1329))] H ∧ va_D A [(h0, .inr (7, [.ref h1, .int 9])), (h1, .inl (k0, 2000, .inl f1329))] := ⟨_, hP, hD⟩
  refine lv_aload_n hx hb dX7_append_30 rfl (lv_at hl 1 rfl) ?_
  refine lv_dup hx hb dX7_append_31 rfl ?_
  refine va_get (D := (dC, dI)) (ci := 7) (v := .int 9) (C := RX7) (T := TX7) (N := 2) hx hb hts (fun _ h => List.mem_append_right _ h) hown hK hP 0 rfl rfl 1 (by decide +kernel) (hts (.fieldLink RX7 15 "SpellTurner$Tape" "length" "I") (List.mem_of_getElem? (i := 1) rfl)) (fun _ h9 => h9) rfl dX7_append_32 ?_
  refine lv_iconst (v := 1) hx hb dX7_append_35 (by decide +kernel) ?_
  refine lv_iadd hx hb dX7_append_36 ?_
  refine lv_topi (fun x1330 ex1330 => ?_)
  obtain rfl : x1330 = 10 := ex1330.trans (by decide +kernel)
  refine va_put (D := (dC, dI)) (ci := 7) (v := .int 10) (ty := .int) (C := RX7) (T := TX7) (N := 2) hx hb hts (fun _ h => List.mem_append_right _ h) tyX7 tyX7_ok nmX7 hown hK hP hD hS 0 rfl rfl 1 (by decide +kernel) (hts (.fieldLink RX7 15 "SpellTurner$Tape" "length" "I") (List.mem_of_getElem? (i := 1) rfl)) (fun _ h9 => h9) rfl (by decide +kernel) rfl rfl (Nat.le_of_ble_eq_true rfl) dX7_append_37 (fun H locs hP hD hS => ?_)
  have hP : va_P (dC, dI) vwCl [(h0, .inr (7, [.ref h1, .int 10])), (h1, .inl (k0, 2000, .inl f1329))] H := hP
  have hD : va_D A [(h0, .inr (7, [.ref h1, .int 10])), (h1, .inl (k0, 2000, .inl f1329))] := hD
  refine lv_iinc (v := 8) (lv' := [(2, .int 8), (0, .ref h0), (1, .int p0)]) hx hb dX7_append_40 hl (k := 0) rfl (by decide +kernel) (by decide +kernel) rfl (fun ls hl => ?_)
  refine lv_goto (tgt := 3) hx hb dX7_append_43 (by decide +kernel) ?_
  refine lv_iload_n hx hb dX7_append_3 rfl (lv_at hl 0 rfl) ?_
  refine lv_if_lt (tgt := 46) hx hb dX7_append_4 (by decide +kernel) (fun h => absurd h (by decide +kernel)) (fun _ => ?_)
  refine lv_aload_n hx hb dX7_append_7 rfl (lv_at hl 1 rfl) ?_
  refine va_get (D := (dC, dI)) (ci := 7) (v := .int 10) (C := RX7) (T := TX7) (N := 2) hx hb hts (fun _ h => List.mem_append_right _ h) hown hK hP 0 rfl rfl 1 (by decide +kernel) (hts (.fieldLink RX7 15 "SpellTurner$Tape" "length" "I") (List.mem_of_getElem? (i := 1) rfl)) (fun _ h9 => h9) rfl dX7_append_8 ?_
  refine lv_sipush (v := 2000) hx hb dX7_append_11 (by decide +kernel) ?_
  refine lv_icmp_ge (tgt := 46) hx hb dX7_append_14 (by decide +kernel) (fun h => absurd h (by decide +kernel)) (fun _ => ?_)
  refine lv_aload_n hx hb dX7_append_17 rfl (lv_at hl 1 rfl) ?_
  refine va_get (D := (dC, dI)) (ci := 7) (v := .ref h1) (C := RX7) (T := TX7) (N := 2) hx hb hts (fun _ h => List.mem_append_right _ h) hown hK hP 0 rfl rfl 0 (by decide +kernel) (hts (.fieldLink RX7 9 "SpellTurner$Tape" "bytes" "[B") (List.mem_of_getElem? (i := 2) rfl)) (fun _ h9 => h9) rfl dX7_append_18 ?_
  refine lv_aload_n hx hb dX7_append_21 rfl (lv_at hl 1 rfl) ?_
  refine va_get (D := (dC, dI)) (ci := 7) (v := .int 10) (C := RX7) (T := TX7) (N := 2) hx hb hts (fun _ h => List.mem_append_right _ h) hown hK hP 0 rfl rfl 1 (by decide +kernel) (hts (.fieldLink RX7 15 "SpellTurner$Tape" "length" "I") (List.mem_of_getElem? (i := 1) rfl)) (fun _ h9 => h9) rfl dX7_append_22 ?_
  refine lv_iload_n hx hb dX7_append_25 rfl (lv_at hl 2 rfl) ?_
  refine lv_iload_n hx hb dX7_append_26 rfl (lv_at hl 0 rfl) ?_
  refine lv_ishr hx hb dX7_append_27 ?_
  refine lv_topi (fun x1331 ex1331 => ?_)
  clear ex1331
  refine lv_i2b hx hb dX7_append_28 rfl ?_
  refine lv_topi (fun x1332 ex1332 => ?_)
  clear ex1332
  refine va_bast hx hb hK hP hD hS 1 0 rfl rfl (by unfold vp_in; decide) dX7_append_29 (fun H locs hP hD hS => ?_)
  obtain ⟨f1333, hP, hD⟩ : ∃ f1333 : Nat → Int32, va_P (dC, dI) vwCl [(h0, .inr (7, [.ref h1, .int 10])), (h1, .inl (k0, 2000, .inl f1333))] H ∧ va_D A [(h0, .inr (7, [.ref h1, .int 10])), (h1, .inl (k0, 2000, .inl f1333))] := ⟨_, hP, hD⟩
  refine lv_aload_n hx hb dX7_append_30 rfl (lv_at hl 1 rfl) ?_
  refine lv_dup hx hb dX7_append_31 rfl ?_
  refine va_get (D := (dC, dI)) (ci := 7) (v := .int 10) (C := RX7) (T := TX7) (N := 2) hx hb hts (fun _ h => List.mem_append_right _ h) hown hK hP 0 rfl rfl 1 (by decide +kernel) (hts (.fieldLink RX7 15 "SpellTurner$Tape" "length" "I") (List.mem_of_getElem? (i := 1) rfl)) (fun _ h9 => h9) rfl dX7_append_32 ?_
  refine lv_iconst (v := 1) hx hb dX7_append_35 (by decide +kernel) ?_
  refine lv_iadd hx hb dX7_append_36 ?_
  refine lv_topi (fun x1334 ex1334 => ?_)
  obtain rfl : x1334 = 11 := ex1334.trans (by decide +kernel)
  refine va_put (D := (dC, dI)) (ci := 7) (v := .int 11) (ty := .int) (C := RX7) (T := TX7) (N := 2) hx hb hts (fun _ h => List.mem_append_right _ h) tyX7 tyX7_ok nmX7 hown hK hP hD hS 0 rfl rfl 1 (by decide +kernel) (hts (.fieldLink RX7 15 "SpellTurner$Tape" "length" "I") (List.mem_of_getElem? (i := 1) rfl)) (fun _ h9 => h9) rfl (by decide +kernel) rfl rfl (Nat.le_of_ble_eq_true rfl) dX7_append_37 (fun H locs hP hD hS => ?_)
  have hP : va_P (dC, dI) vwCl [(h0, .inr (7, [.ref h1, .int 11])), (h1, .inl (k0, 2000, .inl f1333))] H := hP
  have hD : va_D A [(h0, .inr (7, [.ref h1, .int 11])), (h1, .inl (k0, 2000, .inl f1333))] := hD
  refine lv_iinc (v := 0) (lv' := [(2, .int 0), (0, .ref h0), (1, .int p0)]) hx hb dX7_append_40 hl (k := 0) rfl (by decide +kernel) (by decide +kernel) rfl (fun ls hl => ?_)
  refine lv_goto (tgt := 3) hx hb dX7_append_43 (by decide +kernel) ?_
  refine lv_iload_n hx hb dX7_append_3 rfl (lv_at hl 0 rfl) ?_
  refine lv_if_lt (tgt := 46) hx hb dX7_append_4 (by decide +kernel) (fun h => absurd h (by decide +kernel)) (fun _ => ?_)
  refine lv_aload_n hx hb dX7_append_7 rfl (lv_at hl 1 rfl) ?_
  refine va_get (D := (dC, dI)) (ci := 7) (v := .int 11) (C := RX7) (T := TX7) (N := 2) hx hb hts (fun _ h => List.mem_append_right _ h) hown hK hP 0 rfl rfl 1 (by decide +kernel) (hts (.fieldLink RX7 15 "SpellTurner$Tape" "length" "I") (List.mem_of_getElem? (i := 1) rfl)) (fun _ h9 => h9) rfl dX7_append_8 ?_
  refine lv_sipush (v := 2000) hx hb dX7_append_11 (by decide +kernel) ?_
  refine lv_icmp_ge (tgt := 46) hx hb dX7_append_14 (by decide +kernel) (fun h => absurd h (by decide +kernel)) (fun _ => ?_)
  refine lv_aload_n hx hb dX7_append_17 rfl (lv_at hl 1 rfl) ?_
  refine va_get (D := (dC, dI)) (ci := 7) (v := .ref h1) (C := RX7) (T := TX7) (N := 2) hx hb hts (fun _ h => List.mem_append_right _ h) hown hK hP 0 rfl rfl 0 (by decide +kernel) (hts (.fieldLink RX7 9 "SpellTurner$Tape" "bytes" "[B") (List.mem_of_getElem? (i := 2) rfl)) (fun _ h9 => h9) rfl dX7_append_18 ?_
  refine lv_aload_n hx hb dX7_append_21 rfl (lv_at hl 1 rfl) ?_
  refine va_get (D := (dC, dI)) (ci := 7) (v := .int 11) (C := RX7) (T := TX7) (N := 2) hx hb hts (fun _ h => List.mem_append_right _ h) hown hK hP 0 rfl rfl 1 (by decide +kernel) (hts (.fieldLink RX7 15 "SpellTurner$Tape" "length" "I") (List.mem_of_getElem? (i := 1) rfl)) (fun _ h9 => h9) rfl dX7_append_22 ?_
  refine lv_iload_n hx hb dX7_append_25 rfl (lv_at hl 2 rfl) ?_
  refine lv_iload_n hx hb dX7_append_26 rfl (lv_at hl 0 rfl) ?_
  refine lv_ishr hx hb dX7_append_27 ?_
  refine lv_topi (fun x1335 ex1335 => ?_)
  clear ex1335
  refine lv_i2b hx hb dX7_append_28 rfl ?_
  refine lv_topi (fun x1336 ex1336 => ?_)
  clear ex1336
  refine va_bast hx hb hK hP hD hS 1 0 rfl rfl (by unfold vp_in; decide) dX7_append_29 (fun H locs hP hD hS => ?_)
  obtain ⟨f1337, hP, hD⟩ : ∃ f1337 : Nat → Int32, va_P (dC, dI) vwCl [(h0, .inr (7, [.ref h1, .int 11])), (h1, .inl (k0, 2000, .inl f1337))] H ∧ va_D A [(h0, .inr (7, [.ref h1, .int 11])), (h1, .inl (k0, 2000, .inl f1337))] := ⟨_, hP, hD⟩
  refine lv_aload_n hx hb dX7_append_30 rfl (lv_at hl 1 rfl) ?_
  refine lv_dup hx hb dX7_append_31 rfl ?_
  refine va_get (D := (dC, dI)) (ci := 7) (v := .int 11) (C := RX7) (T := TX7) (N := 2) hx hb hts (fun _ h => List.mem_append_right _ h) hown hK hP 0 rfl rfl 1 (by decide +kernel) (hts (.fieldLink RX7 15 "SpellTurner$Tape" "length" "I") (List.mem_of_getElem? (i := 1) rfl)) (fun _ h9 => h9) rfl dX7_append_32 ?_
  refine lv_iconst (v := 1) hx hb dX7_append_35 (by decide +kernel) ?_
  refine lv_iadd hx hb dX7_append_36 ?_
  refine lv_topi (fun x1338 ex1338 => ?_)
  obtain rfl : x1338 = 12 := ex1338.trans (by decide +kernel)
  refine va_put (D := (dC, dI)) (ci := 7) (v := .int 12) (ty := .int) (C := RX7) (T := TX7) (N := 2) hx hb hts (fun _ h => List.mem_append_right _ h) tyX7 tyX7_ok nmX7 hown hK hP hD hS 0 rfl rfl 1 (by decide +kernel) (hts (.fieldLink RX7 15 "SpellTurner$Tape" "length" "I") (List.mem_of_getElem? (i := 1) rfl)) (fun _ h9 => h9) rfl (by decide +kernel) rfl rfl (Nat.le_of_ble_eq_true rfl) dX7_append_37 (fun H locs hP hD hS => ?_)
  have hP : va_P (dC, dI) vwCl [(h0, .inr (7, [.ref h1, .int 12])), (h1, .inl (k0, 2000, .inl f1337))] H := hP
  have hD : va_D A [(h0, .inr (7, [.ref h1, .int 12])), (h1, .inl (k0, 2000, .inl f1337))] := hD
  refine lv_iinc (v := (-8)) (lv' := [(2, .int (-8)), (0, .ref h0), (1, .int p0)]) hx hb dX7_append_40 hl (k := 0) rfl (by decide +kernel) (by decide +kernel) rfl (fun ls hl => ?_)
  refine lv_goto (tgt := 3) hx hb dX7_append_43 (by decide +kernel) ?_
  refine lv_iload_n hx hb dX7_append_3 rfl (lv_at hl 0 rfl) ?_
  refine lv_if_lt (tgt := 46) hx hb dX7_append_4 (by decide +kernel) (fun _ => ?_) (fun h => absurd (by decide +kernel) h)
  refine W.widen (k := 0) (n := 0) (by omega) (by omega) ?_
  have hP9 := hP.sub (ws' := [(h0, .inr (7, [.ref h1, .int 12])), (h1, .inl (k0, 2000, .inl f1337))]) [0, 1] rfl
  have hD9 := hD.sub (ws' := [(h0, .inr (7, [.ref h1, .int 12])), (h1, .inl (k0, 2000, .inl f1337))]) [0, 1] (by decide +kernel) rfl
  have hK9 := hK.sub (tys' := []) [] rfl
  exact W.vret hx hb hr (fun t ht hW => ⟨⟨(), rfl, trivial, f1337, by rw [ht]; exact hP9, va_K.moved hW.alike hK9, hD9⟩, hS.F ht⟩) hS.2.2 dX7_append_46
