set_option maxHeartbeats 4000000 in
set_option maxRecDepth 100000 in
theorem c_X0_init_0 (l : Launch) (dC : Nat → ClassId) (dI : Nat → Nat → Nat) (sz : Nat) (h0 : Nat) : Met l yX0_init wmX0_init ({ frames := 3, cells := 12, slots := 4119, locals := 82 }) (va_Pc [.ref h0] (fun U => U.heap.size = sz ∧ va_P (dC, dI) vwCl [(h0, .inr (0, [.null, .null, .null, .null, .null, .null]))] U.heap ∧ va_K (dC, dI) vwCl [] U ∧ va_D (fun _ => True) [(h0, .inr (0, [.null, .null, .null, .null, .null, .null]))] ∧ EnvOK U)) (va_Qv (fun _ : Unit => True) (fun _ t => ∃ (q473 : Nat), ∃ (q481 : Nat), ∃ (q483 : Nat), ∃ (q485 : Nat), ∃ (q487 : Nat), ∃ (q495 : Nat), ∃ (q479 : Nat), ∃ (q480 : Nat), ∃ (k486 : ClassId), ∃ (q493 : Nat), ∃ (q494 : Nat), va_P (dC, dI) vwCl [(h0, .inr (0, [.ref q473, .ref q481, .ref q483, .ref q485, .ref q487, .ref q495])), (q473, .inr (10, [.int 24, .ref q479, .ref q480, .int 0])), (q485, .inl (k486, 7, .inl (fun _ => 0))), (q487, .inr (10, [.int 24, .ref q493, .ref q494, .int 0]))] t.heap ∧ va_K (dC, dI) vwCl [(k486, .int)] t ∧ va_D (va_A [(h0, .inr (0, [.null, .null, .null, .null, .null, .null]))] sz) [(h0, .inr (0, [.ref q473, .ref q481, .ref q483, .ref q485, .ref q487, .ref q495])), (q473, .inr (10, [.int 24, .ref q479, .ref q480, .int 0])), (q485, .inl (k486, 7, .inl (fun _ => 0))), (q487, .inr (10, [.int 24, .ref q493, .ref q494, .int 0]))]) (va_A [(h0, .inr (0, [.null, .null, .null, .null, .null, .null]))] sz)) 12 4119 (va_A [(h0, .inr (0, [.null, .null, .null, .null, .null, .null]))] sz) := by
  refine Met.ofW (cc := cX0_init) (maxL := 1) (ret := none) (by decide +kernel) rfl ?_
  intro p e s m args below meth c s₁ B hml hv
  obtain ⟨rfl, hsz, hP, hK, hD0, hE⟩ := hv
  have hx := B.exec
  have hb := B.bytes
  have hr := B.returns
  have hts := atoms_spec (ws := wmX0_init) B.pre
  have hown : s.vm.findClass RX0 = some m.cls := findClass_of_methodNamed B.named
  have hlocks := B.notSynchronized
  have hin : meth.name = "<init>" := (name_of_methodNamed B.named B.method).1
  subst hsz
  have hD := hD0.self (sz := s.heap.size)
  generalize hAe : va_A [(h0, .inr (0, [.null, .null, .null, .null, .null, .null]))] s.heap.size = A at hD ⊢
  have hA : ∀ q : Nat, s.heap.size ≤ q → A q := fun q h => by rw [← hAe]; exact Or.inr h
  have hS : va_S A s.heap s.heap [] := va_S.rf
  have hP : va_P (dC, dI) vwCl [(h0, .inr (0, [.null, .null, .null, .null, .null, .null]))] s.heap := hP
  have hl := lv_entry ([.ref h0]) (n := 1) (Nat.le_of_ble_eq_true rfl)
  rw [lg_entry_eq]
  generalize (lg_sl ([.ref h0]) ++ List.replicate (1 - (lg_sl ([.ref h0])).length) Slot.unset).toArray = ls at hl ⊢
  have hl : lv_has ls 1 [(0, .ref h0)] := hl
  refine lv_aload_n hx hb dX0_init_0 rfl (lv_at hl 0 rfl) ?_
  refine W.objInit hx hb hown (hts (.methodLink RX0 3 objectInit) (List.mem_of_getElem? (i := 1) rfl)) (hts (.instanceMethod objectInit) (List.mem_of_getElem? (i := 2) rfl)) (hts (.code objectInit ⟨#[0xb1]⟩ 1 none) (List.mem_of_getElem? (i := 3) rfl)) rfl (by rw [hml]; exact hl.1) rfl dX0_init_1 (Nat.le_of_ble_eq_true rfl) (Nat.le_of_ble_eq_true rfl) ?_
  refine W.eq (g2 := F0 m 4 ls []) rfl ?_
  refine lv_aload_n hx hb dX0_init_4 rfl (lv_at hl 0 rfl) ?_
  refine va_new (ci := 10) (fs := [.int 0, .null, .null, .int 0]) (C := RX10) (T := TX10) (N := 4) hx hb hts (fun _ h => List.mem_append_left _ (List.mem_append_right _ h)) tyX10 tyX10_ok hown (hts (.classLink RX0 9 RX10) (List.mem_of_getElem? (i := 4) rfl)) (hts (.instantiable RX10 4) (List.mem_of_getElem? (i := 5) rfl)) (hts (.initialized RX10) (List.mem_of_getElem? (i := 6) rfl)) hK hP hD hS hA rfl (fun j hj => match j, hj with | 0, _ => rfl | 1, _ => rfl | 2, _ => rfl | 3, _ => rfl | j + 4, hj => absurd hj (by omega)) (Nat.le_of_ble_eq_true rfl) (Nat.le_of_ble_eq_true rfl) dX0_init_5 (fun q503 H hP hD hS => ?_)
  have hP : va_P (dC, dI) vwCl [(h0, .inr (0, [.null, .null, .null, .null, .null, .null])), (q503, .inr (10, [.int 0, .null, .null, .int 0]))] H := hP
  have hD : va_D A [(h0, .inr (0, [.null, .null, .null, .null, .null, .null])), (q503, .inr (10, [.int 0, .null, .null, .int 0]))] := hD
  refine lv_dup hx hb dX0_init_8 rfl ?_
  refine lv_bipush (v := 100) hx hb dX0_init_9 (by decide +kernel) ?_
  refine lv_bipush (v := 24) hx hb dX0_init_11 (by decide +kernel) ?_
  have hPc := hP.sub (ws' := [(q503, .inr (10, [.int 0, .null, .null, .int 0]))]) [1] rfl
  have hDc := hD.sub (ws' := [(q503, .inr (10, [.int 0, .null, .null, .int 0]))]) [1] (by decide +kernel) rfl
  have hKc := hK.sub (tys' := []) [] rfl
  have hFc := va_free (wc := [(q503, .inr (10, [.int 0, .null, .null, .int 0]))]) hD hS hA [1] rfl
  refine va_callv (va_runI (As := [.int 100, .int 24]) (rest := [.ref q503, .ref h0]) ⟨hx, hb, hml, hown, hts⟩ (c_X10_init_4 l dC dI H.size q503) (cwI 2 hts gm_X0_init_X10_init rfl rfl rfl (hts (.initialized RX10) (List.mem_of_getElem? (i := 6) rfl)) (hts (.methodLink RX0 11 yX10_init) (List.mem_of_getElem? (i := 7) rfl)) (hts (.instanceMethod yX10_init) (List.mem_of_getElem? (i := 8) rfl)) rfl (by decide +kernel) ⟨Nat.le_of_ble_eq_true rfl, Nat.le_of_ble_eq_true rfl⟩) ⟨fun a U g mk q => by obtain ⟨q0, q1, qP, qK, qD⟩ := q; exact ⟨q0, q1, qP, va_K.moved (u := U) (U := U.calling g mk a) (Vm.Alike.refl U.vm) qK, qD⟩, fun U hU hW => ⟨rfl, by rw [hU], by rw [hU]; exact hPc, va_K.moved hW.alike hKc, hDc.weaken (fun _ _ _ _ => trivial)⟩⟩ rfl rfl hl.1 rfl (lv_room (Nat.le_of_ble_eq_true rfl)) dX0_init_13 ⟨Nat.le_of_ble_eq_true rfl, Nat.le_of_ble_eq_true rfl⟩) hS (fun q _ h => hFc q h) hFc (fun u t H1 locs ht hvm hw hB hz1 hk1 hS => ?_)
  obtain ⟨q510, q511, hP1, hK1, hD1⟩ := hB
  rw [ht] at hP1
  have hK1 := va_K.moved hvm.symm hK1
  obtain ⟨hP, hD⟩ := va_join (wr := [(h0, .inr (0, [.null, .null, .null, .null, .null, .null]))]) (w1 := [(q503, .inr (10, [.int 24, .ref q510, .ref q511, .int 0]))]) hP hD [1] [0] rfl rfl (by decide +kernel) (by decide +kernel) hk1 hFc hP1 hD1
  have hK := (hK.sub (tys' := []) [] rfl).app hK1
  generalize H1 = H at hP hS ⊢
  have hK : va_K (dC, dI) vwCl [] s := hK
  have hP : va_P (dC, dI) vwCl [(h0, .inr (0, [.null, .null, .null, .null, .null, .null])), (q503, .inr (10, [.int 24, .ref q510, .ref q511, .int 0]))] H := hP
  have hD : va_D A [(h0, .inr (0, [.null, .null, .null, .null, .null, .null])), (q503, .inr (10, [.int 24, .ref q510, .ref q511, .int 0]))] := hD
  refine va_putF (D := (dC, dI)) (ci := 0) (v := .ref q503) (ty := .object "SpellTurner$WordRow") (C := RX0) (T := TX0) (N := 6) hx hb hts (fun _ h => List.mem_append_right _ h) tyX0 tyX0_ok nmX0 hown hK hP hD hS 0 rfl rfl 0 (by decide +kernel) (hts (.fieldLink RX0 14 "SpellTurner$Book" "words" "LSpellTurner$WordRow;") (List.mem_of_getElem? (i := 11) rfl)) (fun _ h9 => h9) rfl hin rfl (by decide +kernel) rfl rfl (Nat.le_of_ble_eq_true rfl) dX0_init_16 (fun H locs hP hD hS => ?_)
  have hP : va_P (dC, dI) vwCl [(h0, .inr (0, [.ref q503, .null, .null, .null, .null, .null])), (q503, .inr (10, [.int 24, .ref q510, .ref q511, .int 0]))] H := hP
  have hD : va_D A [(h0, .inr (0, [.ref q503, .null, .null, .null, .null, .null])), (q503, .inr (10, [.int 24, .ref q510, .ref q511, .int 0]))] := hD
  refine lv_aload_n hx hb dX0_init_19 rfl (lv_at hl 0 rfl) ?_
  refine lv_sipush (v := 700) hx hb dX0_init_20 (by decide +kernel) ?_
  refine va_newq hx hb hown (hts (.classLink RX0 9 RX10) (List.mem_of_getElem? (i := 4) rfl)) (en_aoRX10 hE) hK hP hD hS hA (by decide +kernel) (N' := 700) (by decide +kernel) (by decide +kernel) (Nat.le_of_ble_eq_true rfl) (Nat.le_of_ble_eq_true rfl) dX0_init_23 (fun q512 k513 H hK hP hD hS => ?_)
  have hK : va_K (dC, dI) vwCl [(k513, .object RX10)] s := hK
  have hP : va_P (dC, dI) vwCl [(h0, .inr (0, [.ref q503, .null, .null, .null, .null, .null])), (q503, .inr (10, [.int 24, .ref q510, .ref q511, .int 0])), (q512, .inl (k513, 700, .inr (.inr (.inr (.inr (fun _ => none))))))] H := hP
  have hD : va_D A [(h0, .inr (0, [.ref q503, .null, .null, .null, .null, .null])), (q503, .inr (10, [.int 24, .ref q510, .ref q511, .int 0])), (q512, .inl (k513, 700, .inr (.inr (.inr (.inr (fun _ => none))))))] := hD
  refine va_putF (D := (dC, dI)) (ci := 0) (v := .ref q512) (ty := .array (.object "SpellTurner$WordRow")) (C := RX0) (T := TX0) (N := 6) hx hb hts (fun _ h => List.mem_append_right _ h) tyX0 tyX0_ok nmX0 hown hK hP hD hS 0 rfl rfl 1 (by decide +kernel) (hts (.fieldLink RX0 20 "SpellTurner$Book" "forms" "[LSpellTurner$WordRow;") (List.mem_of_getElem? (i := 12) rfl)) (fun _ h9 => h9) rfl hin rfl (by decide +kernel) rfl rfl (Nat.le_of_ble_eq_true rfl) dX0_init_26 (fun H locs hP hD hS => ?_)
  have hP : va_P (dC, dI) vwCl [(h0, .inr (0, [.ref q503, .ref q512, .null, .null, .null, .null])), (q503, .inr (10, [.int 24, .ref q510, .ref q511, .int 0])), (q512, .inl (k513, 700, .inr (.inr (.inr (.inr (fun _ => none))))))] H := hP
  have hD : va_D A [(h0, .inr (0, [.ref q503, .ref q512, .null, .null, .null, .null])), (q503, .inr (10, [.int 24, .ref q510, .ref q511, .int 0])), (q512, .inl (k513, 700, .inr (.inr (.inr (.inr (fun _ => none))))))] := hD
  have hP := hP.sub (ws' := [(h0, .inr (0, [.ref q503, .ref q512, .null, .null, .null, .null])), (q503, .inr (10, [.int 24, .ref q510, .ref q511, .int 0]))]) [0, 1] rfl
  have hD := hD.sub (ws' := [(h0, .inr (0, [.ref q503, .ref q512, .null, .null, .null, .null])), (q503, .inr (10, [.int 24, .ref q510, .ref q511, .int 0]))]) [0, 1] (by decide +kernel) rfl
  refine lv_aload_n hx hb dX0_init_29 rfl (lv_at hl 0 rfl) ?_
  refine lv_sipush (v := 600) hx hb dX0_init_30 (by decide +kernel) ?_
  refine va_newa (atype := .long) (a0 := (600, .inr (.inl (fun _ => 0)))) (ty := .long) (N' := 600) hx hb (hts (.arrayClass .long) (List.mem_of_getElem? (i := 9) rfl)) rfl hK hP hD hS hA (fun _ => rfl) (by decide +kernel) (by decide +kernel) (by decide +kernel) (Nat.le_of_ble_eq_true rfl) (Nat.le_of_ble_eq_true rfl) dX0_init_33 (fun q514 k515 H hK hP hD hS => ?_)
  have hK : va_K (dC, dI) vwCl [(k513, .object RX10), (k515, .long)] s := hK
  have hP : va_P (dC, dI) vwCl [(h0, .inr (0, [.ref q503, .ref q512, .null, .null, .null, .null])), (q503, .inr (10, [.int 24, .ref q510, .ref q511, .int 0])), (q514, .inl (k515, 600, .inr (.inl (fun _ => 0))))] H := hP
  have hD : va_D A [(h0, .inr (0, [.ref q503, .ref q512, .null, .null, .null, .null])), (q503, .inr (10, [.int 24, .ref q510, .ref q511, .int 0])), (q514, .inl (k515, 600, .inr (.inl (fun _ => 0))))] := hD
  refine va_putF (D := (dC, dI)) (ci := 0) (v := .ref q514) (ty := .array .long) (C := RX0) (T := TX0) (N := 6) hx hb hts (fun _ h => List.mem_append_right _ h) tyX0 tyX0_ok nmX0 hown hK hP hD hS 0 rfl rfl 2 (by decide +kernel) (hts (.fieldLink RX0 24 "SpellTurner$Book" "lawsUsed" "[J") (List.mem_of_getElem? (i := 13) rfl)) (fun _ h9 => h9) rfl hin rfl (by decide +kernel) rfl rfl (Nat.le_of_ble_eq_true rfl) dX0_init_35 (fun H locs hP hD hS => ?_)
  have hP : va_P (dC, dI) vwCl [(h0, .inr (0, [.ref q503, .ref q512, .ref q514, .null, .null, .null])), (q503, .inr (10, [.int 24, .ref q510, .ref q511, .int 0])), (q514, .inl (k515, 600, .inr (.inl (fun _ => 0))))] H := hP
  have hD : va_D A [(h0, .inr (0, [.ref q503, .ref q512, .ref q514, .null, .null, .null])), (q503, .inr (10, [.int 24, .ref q510, .ref q511, .int 0])), (q514, .inl (k515, 600, .inr (.inl (fun _ => 0))))] := hD
  have hP := hP.sub (ws' := [(h0, .inr (0, [.ref q503, .ref q512, .ref q514, .null, .null, .null])), (q503, .inr (10, [.int 24, .ref q510, .ref q511, .int 0]))]) [0, 1] rfl
  have hD := hD.sub (ws' := [(h0, .inr (0, [.ref q503, .ref q512, .ref q514, .null, .null, .null])), (q503, .inr (10, [.int 24, .ref q510, .ref q511, .int 0]))]) [0, 1] (by decide +kernel) rfl
  refine lv_aload_n hx hb dX0_init_38 rfl (lv_at hl 0 rfl) ?_
  refine lv_bipush (v := 7) hx hb dX0_init_39 (by decide +kernel) ?_
  refine va_newa (atype := .int) (a0 := (7, .inl (fun _ => 0))) (ty := .int) (N' := 7) hx hb (hts (.arrayClass .int) (List.mem_of_getElem? (i := 10) rfl)) rfl hK hP hD hS hA (fun _ => rfl) (by decide +kernel) (by decide +kernel) (by decide +kernel) (Nat.le_of_ble_eq_true rfl) (Nat.le_of_ble_eq_true rfl) dX0_init_41 (fun q516 k517 H hK hP hD hS => ?_)
  have hK : va_K (dC, dI) vwCl [(k513, .object RX10), (k515, .long), (k517, .int)] s := hK
  have hP : va_P (dC, dI) vwCl [(h0, .inr (0, [.ref q503, .ref q512, .ref q514, .null, .null, .null])), (q503, .inr (10, [.int 24, .ref q510, .ref q511, .int 0])), (q516, .inl (k517, 7, .inl (fun _ => 0)))] H := hP
  have hD : va_D A [(h0, .inr (0, [.ref q503, .ref q512, .ref q514, .null, .null, .null])), (q503, .inr (10, [.int 24, .ref q510, .ref q511, .int 0])), (q516, .inl (k517, 7, .inl (fun _ => 0)))] := hD
  refine va_putF (D := (dC, dI)) (ci := 0) (v := .ref q516) (ty := .array .int) (C := RX0) (T := TX0) (N := 6) hx hb hts (fun _ h => List.mem_append_right _ h) tyX0 tyX0_ok nmX0 hown hK hP hD hS 0 rfl rfl 3 (by decide +kernel) (hts (.fieldLink RX0 28 "SpellTurner$Book" "filled" "[I") (List.mem_of_getElem? (i := 14) rfl)) (fun _ h9 => h9) rfl hin rfl (by decide +kernel) rfl rfl (Nat.le_of_ble_eq_true rfl) dX0_init_43 (fun H locs hP hD hS => ?_)
  have hP : va_P (dC, dI) vwCl [(h0, .inr (0, [.ref q503, .ref q512, .ref q514, .ref q516, .null, .null])), (q503, .inr (10, [.int 24, .ref q510, .ref q511, .int 0])), (q516, .inl (k517, 7, .inl (fun _ => 0)))] H := hP
  have hD : va_D A [(h0, .inr (0, [.ref q503, .ref q512, .ref q514, .ref q516, .null, .null])), (q503, .inr (10, [.int 24, .ref q510, .ref q511, .int 0])), (q516, .inl (k517, 7, .inl (fun _ => 0)))] := hD
  refine lv_aload_n hx hb dX0_init_46 rfl (lv_at hl 0 rfl) ?_
  refine va_new (ci := 10) (fs := [.int 0, .null, .null, .int 0]) (C := RX10) (T := TX10) (N := 4) hx hb hts (fun _ h => List.mem_append_left _ (List.mem_append_right _ h)) tyX10 tyX10_ok hown (hts (.classLink RX0 9 RX10) (List.mem_of_getElem? (i := 4) rfl)) (hts (.instantiable RX10 4) (List.mem_of_getElem? (i := 5) rfl)) (hts (.initialized RX10) (List.mem_of_getElem? (i := 6) rfl)) hK hP hD hS hA rfl (fun j hj => match j, hj with | 0, _ => rfl | 1, _ => rfl | 2, _ => rfl | 3, _ => rfl | j + 4, hj => absurd hj (by omega)) (Nat.le_of_ble_eq_true rfl) (Nat.le_of_ble_eq_true rfl) dX0_init_47 (fun q518 H hP hD hS => ?_)
  have hP : va_P (dC, dI) vwCl [(h0, .inr (0, [.ref q503, .ref q512, .ref q514, .ref q516, .null, .null])), (q503, .inr (10, [.int 24, .ref q510, .ref q511, .int 0])), (q516, .inl (k517, 7, .inl (fun _ => 0))), (q518, .inr (10, [.int 0, .null, .null, .int 0]))] H := hP
  have hD : va_D A [(h0, .inr (0, [.ref q503, .ref q512, .ref q514, .ref q516, .null, .null])), (q503, .inr (10, [.int 24, .ref q510, .ref q511, .int 0])), (q516, .inl (k517, 7, .inl (fun _ => 0))), (q518, .inr (10, [.int 0, .null, .null, .int 0]))] := hD
  refine lv_dup hx hb dX0_init_50 rfl ?_
  refine lv_bipush (v := 12) hx hb dX0_init_51 (by decide +kernel) ?_
  refine lv_bipush (v := 24) hx hb dX0_init_53 (by decide +kernel) ?_
  have hPc := hP.sub (ws' := [(q518, .inr (10, [.int 0, .null, .null, .int 0]))]) [3] rfl
  have hDc := hD.sub (ws' := [(q518, .inr (10, [.int 0, .null, .null, .int 0]))]) [3] (by decide +kernel) rfl
  have hKc := hK.sub (tys' := []) [] rfl
  have hFc := va_free (wc := [(q518, .inr (10, [.int 0, .null, .null, .int 0]))]) hD hS hA [3] rfl
  refine va_callv (va_runI (As := [.int 12, .int 24]) (rest := [.ref q518, .ref h0]) ⟨hx, hb, hml, hown, hts⟩ (c_X10_init_3 l dC dI H.size q518) (cwI 2 hts gm_X0_init_X10_init rfl rfl rfl (hts (.initialized RX10) (List.mem_of_getElem? (i := 6) rfl)) (hts (.methodLink RX0 11 yX10_init) (List.mem_of_getElem? (i := 7) rfl)) (hts (.instanceMethod yX10_init) (List.mem_of_getElem? (i := 8) rfl)) rfl (by decide +kernel) ⟨Nat.le_of_ble_eq_true rfl, Nat.le_of_ble_eq_true rfl⟩) ⟨fun a U g mk q => by obtain ⟨q0, q1, qP, qK, qD⟩ := q; exact ⟨q0, q1, qP, va_K.moved (u := U) (U := U.calling g mk a) (Vm.Alike.refl U.vm) qK, qD⟩, fun U hU hW => ⟨rfl, by rw [hU], by rw [hU]; exact hPc, va_K.moved hW.alike hKc, hDc.weaken (fun _ _ _ _ => trivial)⟩⟩ rfl rfl hl.1 rfl (lv_room (Nat.le_of_ble_eq_true rfl)) dX0_init_55 ⟨Nat.le_of_ble_eq_true rfl, Nat.le_of_ble_eq_true rfl⟩) hS (fun q _ h => hFc q h) hFc (fun u t H1 locs ht hvm hw hB hz1 hk1 hS => ?_)
  obtain ⟨q525, q526, hP1, hK1, hD1⟩ := hB
  rw [ht] at hP1
  have hK1 := va_K.moved hvm.symm hK1
  obtain ⟨hP, hD⟩ := va_join (wr := [(h0, .inr (0, [.ref q503, .ref q512, .ref q514, .ref q516, .null, .null])), (q503, .inr (10, [.int 24, .ref q510, .ref q511, .int 0])), (q516, .inl (k517, 7, .inl (fun _ => 0)))]) (w1 := [(q518, .inr (10, [.int 24, .ref q525, .ref q526, .int 0]))]) hP hD [3] [0, 1, 2] rfl rfl (by decide +kernel) (by decide +kernel) hk1 hFc hP1 hD1
  have hK := (hK.sub (tys' := [(k513, .object RX10), (k515, .long), (k517, .int)]) [0, 1, 2] rfl).app hK1
  generalize H1 = H at hP hS ⊢
  have hK : va_K (dC, dI) vwCl [(k513, .object RX10), (k515, .long), (k517, .int)] s := hK
  have hP : va_P (dC, dI) vwCl [(h0, .inr (0, [.ref q503, .ref q512, .ref q514, .ref q516, .null, .null])), (q503, .inr (10, [.int 24, .ref q510, .ref q511, .int 0])), (q516, .inl (k517, 7, .inl (fun _ => 0))), (q518, .inr (10, [.int 24, .ref q525, .ref q526, .int 0]))] H := hP
  have hD : va_D A [(h0, .inr (0, [.ref q503, .ref q512, .ref q514, .ref q516, .null, .null])), (q503, .inr (10, [.int 24, .ref q510, .ref q511, .int 0])), (q516, .inl (k517, 7, .inl (fun _ => 0))), (q518, .inr (10, [.int 24, .ref q525, .ref q526, .int 0]))] := hD
  refine va_putF (D := (dC, dI)) (ci := 0) (v := .ref q518) (ty := .object "SpellTurner$WordRow") (C := RX0) (T := TX0) (N := 6) hx hb hts (fun _ h => List.mem_append_right _ h) tyX0 tyX0_ok nmX0 hown hK hP hD hS 0 rfl rfl 4 (by decide +kernel) (hts (.fieldLink RX0 32 "SpellTurner$Book" "spare" "LSpellTurner$WordRow;") (List.mem_of_getElem? (i := 15) rfl)) (fun _ h9 => h9) rfl hin rfl (by decide +kernel) rfl rfl (Nat.le_of_ble_eq_true rfl) dX0_init_58 (fun H locs hP hD hS => ?_)
  have hP : va_P (dC, dI) vwCl [(h0, .inr (0, [.ref q503, .ref q512, .ref q514, .ref q516, .ref q518, .null])), (q503, .inr (10, [.int 24, .ref q510, .ref q511, .int 0])), (q516, .inl (k517, 7, .inl (fun _ => 0))), (q518, .inr (10, [.int 24, .ref q525, .ref q526, .int 0]))] H := hP
  have hD : va_D A [(h0, .inr (0, [.ref q503, .ref q512, .ref q514, .ref q516, .ref q518, .null])), (q503, .inr (10, [.int 24, .ref q510, .ref q511, .int 0])), (q516, .inl (k517, 7, .inl (fun _ => 0))), (q518, .inr (10, [.int 24, .ref q525, .ref q526, .int 0]))] := hD
  refine lv_aload_n hx hb dX0_init_61 rfl (lv_at hl 0 rfl) ?_
  refine va_new (ci := 10) (fs := [.int 0, .null, .null, .int 0]) (C := RX10) (T := TX10) (N := 4) hx hb hts (fun _ h => List.mem_append_left _ (List.mem_append_right _ h)) tyX10 tyX10_ok hown (hts (.classLink RX0 9 RX10) (List.mem_of_getElem? (i := 4) rfl)) (hts (.instantiable RX10 4) (List.mem_of_getElem? (i := 5) rfl)) (hts (.initialized RX10) (List.mem_of_getElem? (i := 6) rfl)) hK hP hD hS hA rfl (fun j hj => match j, hj with | 0, _ => rfl | 1, _ => rfl | 2, _ => rfl | 3, _ => rfl | j + 4, hj => absurd hj (by omega)) (Nat.le_of_ble_eq_true rfl) (Nat.le_of_ble_eq_true rfl) dX0_init_62 (fun q527 H hP hD hS => ?_)
  have hP : va_P (dC, dI) vwCl [(h0, .inr (0, [.ref q503, .ref q512, .ref q514, .ref q516, .ref q518, .null])), (q503, .inr (10, [.int 24, .ref q510, .ref q511, .int 0])), (q516, .inl (k517, 7, .inl (fun _ => 0))), (q518, .inr (10, [.int 24, .ref q525, .ref q526, .int 0])), (q527, .inr (10, [.int 0, .null, .null, .int 0]))] H := hP
  have hD : va_D A [(h0, .inr (0, [.ref q503, .ref q512, .ref q514, .ref q516, .ref q518, .null])), (q503, .inr (10, [.int 24, .ref q510, .ref q511, .int 0])), (q516, .inl (k517, 7, .inl (fun _ => 0))), (q518, .inr (10, [.int 24, .ref q525, .ref q526, .int 0])), (q527, .inr (10, [.int 0, .null, .null, .int 0]))] := hD
  refine lv_dup hx hb dX0_init_65 rfl ?_
  refine lv_iconst (v := 0) hx hb dX0_init_66 (by decide +kernel) ?_
  refine lv_iconst (v := 0) hx hb dX0_init_67 (by decide +kernel) ?_
  have hPc := hP.sub (ws' := [(q527, .inr (10, [.int 0, .null, .null, .int 0]))]) [4] rfl
  have hDc := hD.sub (ws' := [(q527, .inr (10, [.int 0, .null, .null, .int 0]))]) [4] (by decide +kernel) rfl
  have hKc := hK.sub (tys' := []) [] rfl
  have hFc := va_free (wc := [(q527, .inr (10, [.int 0, .null, .null, .int 0]))]) hD hS hA [4] rfl
  refine va_callv (va_runI (As := [.int 0, .int 0]) (rest := [.ref q527, .ref h0]) ⟨hx, hb, hml, hown, hts⟩ (c_X10_init_2 l dC dI H.size q527) (cwI 2 hts gm_X0_init_X10_init rfl rfl rfl (hts (.initialized RX10) (List.mem_of_getElem? (i := 6) rfl)) (hts (.methodLink RX0 11 yX10_init) (List.mem_of_getElem? (i := 7) rfl)) (hts (.instanceMethod yX10_init) (List.mem_of_getElem? (i := 8) rfl)) rfl (by decide +kernel) ⟨Nat.le_of_ble_eq_true rfl, Nat.le_of_ble_eq_true rfl⟩) ⟨fun a U g mk q => by obtain ⟨q0, q1, qP, qK, qD⟩ := q; exact ⟨q0, q1, qP, va_K.moved (u := U) (U := U.calling g mk a) (Vm.Alike.refl U.vm) qK, qD⟩, fun U hU hW => ⟨rfl, by rw [hU], by rw [hU]; exact hPc, va_K.moved hW.alike hKc, hDc.weaken (fun _ _ _ _ => trivial)⟩⟩ rfl rfl hl.1 rfl (lv_room (Nat.le_of_ble_eq_true rfl)) dX0_init_68 ⟨Nat.le_of_ble_eq_true rfl, Nat.le_of_ble_eq_true rfl⟩) hS (fun q _ h => hFc q h) hFc (fun u t H1 locs ht hvm hw hB hz1 hk1 hS => ?_)
  obtain ⟨q534, q535, hP1, hK1, hD1⟩ := hB
  rw [ht] at hP1
  have hK1 := va_K.moved hvm.symm hK1
  obtain ⟨hP, hD⟩ := va_join (wr := [(h0, .inr (0, [.ref q503, .ref q512, .ref q514, .ref q516, .ref q518, .null])), (q503, .inr (10, [.int 24, .ref q510, .ref q511, .int 0])), (q516, .inl (k517, 7, .inl (fun _ => 0))), (q518, .inr (10, [.int 24, .ref q525, .ref q526, .int 0]))]) (w1 := [(q527, .inr (10, [.int 0, .ref q534, .ref q535, .int 0]))]) hP hD [4] [0, 1, 2, 3] rfl rfl (by decide +kernel) (by decide +kernel) hk1 hFc hP1 hD1
  have hK := (hK.sub (tys' := [(k513, .object RX10), (k515, .long), (k517, .int)]) [0, 1, 2] rfl).app hK1
  generalize H1 = H at hP hS ⊢
  have hK : va_K (dC, dI) vwCl [(k513, .object RX10), (k515, .long), (k517, .int)] s := hK
  have hP : va_P (dC, dI) vwCl [(h0, .inr (0, [.ref q503, .ref q512, .ref q514, .ref q516, .ref q518, .null])), (q503, .inr (10, [.int 24, .ref q510, .ref q511, .int 0])), (q516, .inl (k517, 7, .inl (fun _ => 0))), (q518, .inr (10, [.int 24, .ref q525, .ref q526, .int 0])), (q527, .inr (10, [.int 0, .ref q534, .ref q535, .int 0]))] H := hP
  have hD : va_D A [(h0, .inr (0, [.ref q503, .ref q512, .ref q514, .ref q516, .ref q518, .null])), (q503, .inr (10, [.int 24, .ref q510, .ref q511, .int 0])), (q516, .inl (k517, 7, .inl (fun _ => 0))), (q518, .inr (10, [.int 24, .ref q525, .ref q526, .int 0])), (q527, .inr (10, [.int 0, .ref q534, .ref q535, .int 0]))] := hD
  refine va_putF (D := (dC, dI)) (ci := 0) (v := .ref q527) (ty := .object "SpellTurner$WordRow") (C := RX0) (T := TX0) (N := 6) hx hb hts (fun _ h => List.mem_append_right _ h) tyX0 tyX0_ok nmX0 hown hK hP hD hS 0 rfl rfl 5 (by decide +kernel) (hts (.fieldLink RX0 35 "SpellTurner$Book" "nothing" "LSpellTurner$WordRow;") (List.mem_of_getElem? (i := 16) rfl)) (fun _ h9 => h9) rfl hin rfl (by decide +kernel) rfl rfl (Nat.le_of_ble_eq_true rfl) dX0_init_71 (fun H locs hP hD hS => ?_)
  have hP : va_P (dC, dI) vwCl [(h0, .inr (0, [.ref q503, .ref q512, .ref q514, .ref q516, .ref q518, .ref q527])), (q503, .inr (10, [.int 24, .ref q510, .ref q511, .int 0])), (q516, .inl (k517, 7, .inl (fun _ => 0))), (q518, .inr (10, [.int 24, .ref q525, .ref q526, .int 0])), (q527, .inr (10, [.int 0, .ref q534, .ref q535, .int 0]))] H := hP
  have hD : va_D A [(h0, .inr (0, [.ref q503, .ref q512, .ref q514, .ref q516, .ref q518, .ref q527])), (q503, .inr (10, [.int 24, .ref q510, .ref q511, .int 0])), (q516, .inl (k517, 7, .inl (fun _ => 0))), (q518, .inr (10, [.int 24, .ref q525, .ref q526, .int 0])), (q527, .inr (10, [.int 0, .ref q534, .ref q535, .int 0]))] := hD
  have hP := hP.sub (ws' := [(h0, .inr (0, [.ref q503, .ref q512, .ref q514, .ref q516, .ref q518, .ref q527])), (q503, .inr (10, [.int 24, .ref q510, .ref q511, .int 0])), (q516, .inl (k517, 7, .inl (fun _ => 0))), (q518, .inr (10, [.int 24, .ref q525, .ref q526, .int 0]))]) [0, 1, 2, 3] rfl
  have hD := hD.sub (ws' := [(h0, .inr (0, [.ref q503, .ref q512, .ref q514, .ref q516, .ref q518, .ref q527])), (q503, .inr (10, [.int 24, .ref q510, .ref q511, .int 0])), (q516, .inl (k517, 7, .inl (fun _ => 0))), (q518, .inr (10, [.int 24, .ref q525, .ref q526, .int 0]))]) [0, 1, 2, 3] (by decide +kernel) rfl
  refine W.widen (k := 12) (n := 4119) (by omega) (by omega) ?_
  have hP9 := hP.sub (ws' := [(h0, .inr (0, [.ref q503, .ref q512, .ref q514, .ref q516, .ref q518, .ref q527])), (q503, .inr (10, [.int 24, .ref q510, .ref q511, .int 0])), (q516, .inl (k517, 7, .inl (fun _ => 0))), (q518, .inr (10, [.int 24, .ref q525, .ref q526, .int 0]))]) [0, 1, 2, 3] rfl
  have hD9 := hD.sub (ws' := [(h0, .inr (0, [.ref q503, .ref q512, .ref q514, .ref q516, .ref q518, .ref q527])), (q503, .inr (10, [.int 24, .ref q510, .ref q511, .int 0])), (q516, .inl (k517, 7, .inl (fun _ => 0))), (q518, .inr (10, [.int 24, .ref q525, .ref q526, .int 0]))]) [0, 1, 2, 3] (by decide +kernel) rfl
  have hK9 := hK.sub (tys' := [(k517, .int)]) [2] rfl
  exact W.vret hx hb hr (fun t ht hW => ⟨⟨(), rfl, trivial, q503, q512, q514, q516, q518, q527, q510, q511, k517, q525, q526, by rw [ht]; exact hP9, va_K.moved hW.alike hK9, hD9⟩, hS.F ht⟩) hS.2.2 dX0_init_74
set_option maxHeartbeats 4000000 in
set_option maxRecDepth 100000 in
theorem c_X8_init_0 (l : Launch) (dC : Nat → ClassId) (dI : Nat → Nat → Nat) (sz : Nat) (h0 : Nat) : Met l yX8_init wmX8_init ({ frames := 2, cells := 1, slots := 0, locals := 60 }) (va_Pc [.ref h0] (fun U => U.heap.size = sz ∧ va_P (dC, dI) vwCl [(h0, .inr (8, [.int 0, .int 0, .int 0, .int 0, .null, .int 0, .int 0, .int 0]))] U.heap ∧ va_K (dC, dI) vwCl [] U ∧ va_D (fun _ => True) [(h0, .inr (8, [.int 0, .int 0, .int 0, .int 0, .null, .int 0, .int 0, .int 0]))])) (va_Qv (fun _ : Unit => True) (fun _ t => ∃ (q554 : Nat), va_P (dC, dI) vwCl [(h0, .inr (8, [.int 0, .int 0, .int 0, .int 0, .ref q554, .int 0, .int 0, .int 0]))] t.heap ∧ va_K (dC, dI) vwCl [] t ∧ va_D (va_A [(h0, .inr (8, [.int 0, .int 0, .int 0, .int 0, .null, .int 0, .int 0, .int 0]))] sz) [(h0, .inr (8, [.int 0, .int 0, .int 0, .int 0, .ref q554, .int 0, .int 0, .int 0]))]) (va_A [(h0, .inr (8, [.int 0, .int 0, .int 0, .int 0, .null, .int 0, .int 0, .int 0]))] sz)) 1 0 (va_A [(h0, .inr (8, [.int 0, .int 0, .int 0, .int 0, .null, .int 0, .int 0, .int 0]))] sz) := by
  refine Met.ofW (cc := cX8_init) (maxL := 1) (ret := none) (by decide +kernel) rfl ?_
  intro p e s m args below meth c s₁ B hml hv
  obtain ⟨rfl, hsz, hP, hK, hD0⟩ := hv
  have hx := B.exec
  have hb := B.bytes
  have hr := B.returns
  have hts := atoms_spec (ws := wmX8_init) B.pre
  have hown : s.vm.findClass RX8 = some m.cls := findClass_of_methodNamed B.named
  have hlocks := B.notSynchronized
  have hin : meth.name = "<init>" := (name_of_methodNamed B.named B.method).1
  subst hsz
  have hD := hD0.self (sz := s.heap.size)
  generalize hAe : va_A [(h0, .inr (8, [.int 0, .int 0, .int 0, .int 0, .null, .int 0, .int 0, .int 0]))] s.heap.size = A at hD ⊢
  have hA : ∀ q : Nat, s.heap.size ≤ q → A q := fun q h => by rw [← hAe]; exact Or.inr h
  have hS : va_S A s.heap s.heap [] := va_S.rf
  have hP : va_P (dC, dI) vwCl [(h0, .inr (8, [.int 0, .int 0, .int 0, .int 0, .null, .int 0, .int 0, .int 0]))] s.heap := hP
  have hl := lv_entry ([.ref h0]) (n := 1) (Nat.le_of_ble_eq_true rfl)
  rw [lg_entry_eq]
  generalize (lg_sl ([.ref h0]) ++ List.replicate (1 - (lg_sl ([.ref h0])).length) Slot.unset).toArray = ls at hl ⊢
  have hl : lv_has ls 1 [(0, .ref h0)] := hl
  refine lv_aload_n hx hb dX8_init_0 rfl (lv_at hl 0 rfl) ?_
  refine W.objInit hx hb hown (hts (.methodLink RX8 3 objectInit) (List.mem_of_getElem? (i := 1) rfl)) (hts (.instanceMethod objectInit) (List.mem_of_getElem? (i := 2) rfl)) (hts (.code objectInit ⟨#[0xb1]⟩ 1 none) (List.mem_of_getElem? (i := 3) rfl)) rfl (by rw [hml]; exact hl.1) rfl dX8_init_1 (Nat.le_of_ble_eq_true rfl) (Nat.le_of_ble_eq_true rfl) ?_
  refine W.eq (g2 := F0 m 4 ls []) rfl ?_
  refine lv_aload_n hx hb dX8_init_4 rfl (lv_at hl 0 rfl) ?_
  refine lv_iconst (v := 0) hx hb dX8_init_5 (by decide +kernel) ?_
  refine va_put (D := (dC, dI)) (ci := 8) (v := .int 0) (ty := .int) (C := RX8) (T := TX8) (N := 8) hx hb hts (fun _ h => List.mem_append_right _ h) tyX8 tyX8_ok nmX8 hown hK hP hD hS 0 rfl rfl 0 (by decide +kernel) (hts (.fieldLink RX8 9 "SpellTurner$TextWords" "start" "I") (List.mem_of_getElem? (i := 5) rfl)) (fun _ h9 => h9) rfl (by decide +kernel) rfl rfl (Nat.le_of_ble_eq_true rfl) dX8_init_6 (fun H locs hP hD hS => ?_)
  have hP : va_P (dC, dI) vwCl [(h0, .inr (8, [.int 0, .int 0, .int 0, .int 0, .null, .int 0, .int 0, .int 0]))] H := hP
  have hD : va_D A [(h0, .inr (8, [.int 0, .int 0, .int 0, .int 0, .null, .int 0, .int 0, .int 0]))] := hD
  refine lv_aload_n hx hb dX8_init_9 rfl (lv_at hl 0 rfl) ?_
  refine lv_iconst (v := 0) hx hb dX8_init_10 (by decide +kernel) ?_
  refine va_put (D := (dC, dI)) (ci := 8) (v := .int 0) (ty := .int) (C := RX8) (T := TX8) (N := 8) hx hb hts (fun _ h => List.mem_append_right _ h) tyX8 tyX8_ok nmX8 hown hK hP hD hS 0 rfl rfl 1 (by decide +kernel) (hts (.fieldLink RX8 15 "SpellTurner$TextWords" "length" "I") (List.mem_of_getElem? (i := 6) rfl)) (fun _ h9 => h9) rfl (by decide +kernel) rfl rfl (Nat.le_of_ble_eq_true rfl) dX8_init_11 (fun H locs hP hD hS => ?_)
  have hP : va_P (dC, dI) vwCl [(h0, .inr (8, [.int 0, .int 0, .int 0, .int 0, .null, .int 0, .int 0, .int 0]))] H := hP
  have hD : va_D A [(h0, .inr (8, [.int 0, .int 0, .int 0, .int 0, .null, .int 0, .int 0, .int 0]))] := hD
  refine lv_aload_n hx hb dX8_init_14 rfl (lv_at hl 0 rfl) ?_
  refine lv_iconst (v := 0) hx hb dX8_init_15 (by decide +kernel) ?_
  refine va_put (D := (dC, dI)) (ci := 8) (v := .int 0) (ty := .int) (C := RX8) (T := TX8) (N := 8) hx hb hts (fun _ h => List.mem_append_right _ h) tyX8 tyX8_ok nmX8 hown hK hP hD hS 0 rfl rfl 2 (by decide +kernel) (hts (.fieldLink RX8 18 "SpellTurner$TextWords" "lineNumber" "I") (List.mem_of_getElem? (i := 7) rfl)) (fun _ h9 => h9) rfl (by decide +kernel) rfl rfl (Nat.le_of_ble_eq_true rfl) dX8_init_16 (fun H locs hP hD hS => ?_)
  have hP : va_P (dC, dI) vwCl [(h0, .inr (8, [.int 0, .int 0, .int 0, .int 0, .null, .int 0, .int 0, .int 0]))] H := hP
  have hD : va_D A [(h0, .inr (8, [.int 0, .int 0, .int 0, .int 0, .null, .int 0, .int 0, .int 0]))] := hD
  refine lv_aload_n hx hb dX8_init_19 rfl (lv_at hl 0 rfl) ?_
  refine lv_iconst (v := 0) hx hb dX8_init_20 (by decide +kernel) ?_
  refine va_put (D := (dC, dI)) (ci := 8) (v := .int 0) (ty := .boolean) (C := RX8) (T := TX8) (N := 8) hx hb hts (fun _ h => List.mem_append_right _ h) tyX8 tyX8_ok nmX8 hown hK hP hD hS 0 rfl rfl 3 (by decide +kernel) (hts (.fieldLink RX8 21 "SpellTurner$TextWords" "isName" "Z") (List.mem_of_getElem? (i := 8) rfl)) (fun _ h9 => h9) rfl (by decide +kernel) rfl rfl (Nat.le_of_ble_eq_true rfl) dX8_init_21 (fun H locs hP hD hS => ?_)
  have hP : va_P (dC, dI) vwCl [(h0, .inr (8, [.int 0, .int 0, .int 0, .int 0, .null, .int 0, .int 0, .int 0]))] H := hP
  have hD : va_D A [(h0, .inr (8, [.int 0, .int 0, .int 0, .int 0, .null, .int 0, .int 0, .int 0]))] := hD
  refine lv_aload_n hx hb dX8_init_24 rfl (lv_at hl 0 rfl) ?_
  refine lv_iconst (v := 0) hx hb dX8_init_25 (by decide +kernel) ?_
  refine va_newa (atype := .byte) (a0 := (0, .inl (fun _ => 0))) (ty := .byte) (N' := 0) hx hb (hts (.arrayClass .byte) (List.mem_of_getElem? (i := 4) rfl)) rfl hK hP hD hS hA (fun _ => rfl) (by decide +kernel) (by decide +kernel) (by decide +kernel) (Nat.le_of_ble_eq_true rfl) (Nat.le_of_ble_eq_true rfl) dX8_init_26 (fun q556 k557 H hK hP hD hS => ?_)
  have hK : va_K (dC, dI) vwCl [(k557, .byte)] s := hK
  have hP : va_P (dC, dI) vwCl [(h0, .inr (8, [.int 0, .int 0, .int 0, .int 0, .null, .int 0, .int 0, .int 0])), (q556, .inl (k557, 0, .inl (fun _ => 0)))] H := hP
  have hD : va_D A [(h0, .inr (8, [.int 0, .int 0, .int 0, .int 0, .null, .int 0, .int 0, .int 0])), (q556, .inl (k557, 0, .inl (fun _ => 0)))] := hD
  refine va_put (D := (dC, dI)) (ci := 8) (v := .ref q556) (ty := .array .byte) (C := RX8) (T := TX8) (N := 8) hx hb hts (fun _ h => List.mem_append_right _ h) tyX8 tyX8_ok nmX8 hown hK hP hD hS 0 rfl rfl 4 (by decide +kernel) (hts (.fieldLink RX8 25 "SpellTurner$TextWords" "text" "[B") (List.mem_of_getElem? (i := 9) rfl)) (fun _ h9 => h9) rfl (by decide +kernel) rfl rfl (Nat.le_of_ble_eq_true rfl) dX8_init_28 (fun H locs hP hD hS => ?_)
  have hP : va_P (dC, dI) vwCl [(h0, .inr (8, [.int 0, .int 0, .int 0, .int 0, .ref q556, .int 0, .int 0, .int 0])), (q556, .inl (k557, 0, .inl (fun _ => 0)))] H := hP
  have hD : va_D A [(h0, .inr (8, [.int 0, .int 0, .int 0, .int 0, .ref q556, .int 0, .int 0, .int 0])), (q556, .inl (k557, 0, .inl (fun _ => 0)))] := hD
  have hP := hP.sub (ws' := [(h0, .inr (8, [.int 0, .int 0, .int 0, .int 0, .ref q556, .int 0, .int 0, .int 0]))]) [0] rfl
  have hD := hD.sub (ws' := [(h0, .inr (8, [.int 0, .int 0, .int 0, .int 0, .ref q556, .int 0, .int 0, .int 0]))]) [0] (by decide +kernel) rfl
  refine lv_aload_n hx hb dX8_init_31 rfl (lv_at hl 0 rfl) ?_
  refine lv_iconst (v := 0) hx hb dX8_init_32 (by decide +kernel) ?_
  refine va_put (D := (dC, dI)) (ci := 8) (v := .int 0) (ty := .int) (C := RX8) (T := TX8) (N := 8) hx hb hts (fun _ h => List.mem_append_right _ h) tyX8 tyX8_ok nmX8 hown hK hP hD hS 0 rfl rfl 5 (by decide +kernel) (hts (.fieldLink RX8 29 "SpellTurner$TextWords" "size" "I") (List.mem_of_getElem? (i := 10) rfl)) (fun _ h9 => h9) rfl (by decide +kernel) rfl rfl (Nat.le_of_ble_eq_true rfl) dX8_init_33 (fun H locs hP hD hS => ?_)
  have hP : va_P (dC, dI) vwCl [(h0, .inr (8, [.int 0, .int 0, .int 0, .int 0, .ref q556, .int 0, .int 0, .int 0]))] H := hP
  have hD : va_D A [(h0, .inr (8, [.int 0, .int 0, .int 0, .int 0, .ref q556, .int 0, .int 0, .int 0]))] := hD
  refine lv_aload_n hx hb dX8_init_36 rfl (lv_at hl 0 rfl) ?_
  refine lv_iconst (v := 0) hx hb dX8_init_37 (by decide +kernel) ?_
  refine va_put (D := (dC, dI)) (ci := 8) (v := .int 0) (ty := .int) (C := RX8) (T := TX8) (N := 8) hx hb hts (fun _ h => List.mem_append_right _ h) tyX8 tyX8_ok nmX8 hown hK hP hD hS 0 rfl rfl 6 (by decide +kernel) (hts (.fieldLink RX8 32 "SpellTurner$TextWords" "at" "I") (List.mem_of_getElem? (i := 11) rfl)) (fun _ h9 => h9) rfl (by decide +kernel) rfl rfl (Nat.le_of_ble_eq_true rfl) dX8_init_38 (fun H locs hP hD hS => ?_)
  have hP : va_P (dC, dI) vwCl [(h0, .inr (8, [.int 0, .int 0, .int 0, .int 0, .ref q556, .int 0, .int 0, .int 0]))] H := hP
  have hD : va_D A [(h0, .inr (8, [.int 0, .int 0, .int 0, .int 0, .ref q556, .int 0, .int 0, .int 0]))] := hD
  refine lv_aload_n hx hb dX8_init_41 rfl (lv_at hl 0 rfl) ?_
  refine lv_iconst (v := 0) hx hb dX8_init_42 (by decide +kernel) ?_
  refine va_put (D := (dC, dI)) (ci := 8) (v := .int 0) (ty := .boolean) (C := RX8) (T := TX8) (N := 8) hx hb hts (fun _ h => List.mem_append_right _ h) tyX8 tyX8_ok nmX8 hown hK hP hD hS 0 rfl rfl 7 (by decide +kernel) (hts (.fieldLink RX8 35 "SpellTurner$TextWords" "quoted" "Z") (List.mem_of_getElem? (i := 12) rfl)) (fun _ h9 => h9) rfl (by decide +kernel) rfl rfl (Nat.le_of_ble_eq_true rfl) dX8_init_43 (fun H locs hP hD hS => ?_)
  have hP : va_P (dC, dI) vwCl [(h0, .inr (8, [.int 0, .int 0, .int 0, .int 0, .ref q556, .int 0, .int 0, .int 0]))] H := hP
  have hD : va_D A [(h0, .inr (8, [.int 0, .int 0, .int 0, .int 0, .ref q556, .int 0, .int 0, .int 0]))] := hD
  refine W.widen (k := 1) (n := 0) (by omega) (by omega) ?_
  have hP9 := hP.sub (ws' := [(h0, .inr (8, [.int 0, .int 0, .int 0, .int 0, .ref q556, .int 0, .int 0, .int 0]))]) [0] rfl
  have hD9 := hD.sub (ws' := [(h0, .inr (8, [.int 0, .int 0, .int 0, .int 0, .ref q556, .int 0, .int 0, .int 0]))]) [0] (by decide +kernel) rfl
  have hK9 := hK.sub (tys' := []) [] rfl
  exact W.vret hx hb hr (fun t ht hW => ⟨⟨(), rfl, trivial, q556, by rw [ht]; exact hP9, va_K.moved hW.alike hK9, hD9⟩, hS.F ht⟩) hS.2.2 dX8_init_46
set_option maxHeartbeats 4000000 in
set_option maxRecDepth 100000 in
theorem c_X6_init_0 (l : Launch) (dC : Nat → ClassId) (dI : Nat → Nat → Nat) (sz : Nat) (h0 : Nat) : Met l yX6_init wmX6_init ({ frames := 2, cells := 4, slots := 5010, locals := 60 }) (va_Pc [.ref h0] (fun U => U.heap.size = sz ∧ va_P (dC, dI) vwCl [(h0, .inr (6, [.null, .null, .null, .null, .int 0, .int 0, .int 0, .int 0, .int 0]))] U.heap ∧ va_K (dC, dI) vwCl [] U ∧ va_D (fun _ => True) [(h0, .inr (6, [.null, .null, .null, .null, .int 0, .int 0, .int 0, .int 0, .int 0]))])) (va_Qv (fun _ : Unit => True) (fun _ t => ∃ (q568 : Nat), ∃ (q570 : Nat), ∃ (q572 : Nat), ∃ (q574 : Nat), ∃ (k571 : ClassId), ∃ (k575 : ClassId), va_P (dC, dI) vwCl [(h0, .inr (6, [.ref q568, .ref q570, .ref q572, .ref q574, .int 0, .int 0, .int 0, .int 0, .int 1])), (q570, .inl (k571, 2500, .inl (fun _ => 0))), (q574, .inl (k575, 5, .inl (fun _ => 0)))] t.heap ∧ va_K (dC, dI) vwCl [(k571, .byte), (k575, .int)] t ∧ va_D (va_A [(h0, .inr (6, [.null, .null, .null, .null, .int 0, .int 0, .int 0, .int 0, .int 0]))] sz) [(h0, .inr (6, [.ref q568, .ref q570, .ref q572, .ref q574, .int 0, .int 0, .int 0, .int 0, .int 1])), (q570, .inl (k571, 2500, .inl (fun _ => 0))), (q574, .inl (k575, 5, .inl (fun _ => 0)))]) (va_A [(h0, .inr (6, [.null, .null, .null, .null, .int 0, .int 0, .int 0, .int 0, .int 0]))] sz)) 4 5010 (va_A [(h0, .inr (6, [.null, .null, .null, .null, .int 0, .int 0, .int 0, .int 0, .int 0]))] sz) := by
  refine Met.ofW (cc := cX6_init) (maxL := 1) (ret := none) (by decide +kernel) rfl ?_
  intro p e s m args below meth c s₁ B hml hv
  obtain ⟨rfl, hsz, hP, hK, hD0⟩ := hv
  have hx := B.exec
  have hb := B.bytes
  have hr := B.returns
  have hts := atoms_spec (ws := wmX6_init) B.pre
  have hown : s.vm.findClass RX6 = some m.cls := findClass_of_methodNamed B.named
  have hlocks := B.notSynchronized
  have hin : meth.name = "<init>" := (name_of_methodNamed B.named B.method).1
  subst hsz
  have hD := hD0.self (sz := s.heap.size)
  generalize hAe : va_A [(h0, .inr (6, [.null, .null, .null, .null, .int 0, .int 0, .int 0, .int 0, .int 0]))] s.heap.size = A at hD ⊢
  have hA : ∀ q : Nat, s.heap.size ≤ q → A q := fun q h => by rw [← hAe]; exact Or.inr h
  have hS : va_S A s.heap s.heap [] := va_S.rf
  have hP : va_P (dC, dI) vwCl [(h0, .inr (6, [.null, .null, .null, .null, .int 0, .int 0, .int 0, .int 0, .int 0]))] s.heap := hP
  have hl := lv_entry ([.ref h0]) (n := 1) (Nat.le_of_ble_eq_true rfl)
  rw [lg_entry_eq]
  generalize (lg_sl ([.ref h0]) ++ List.replicate (1 - (lg_sl ([.ref h0])).length) Slot.unset).toArray = ls at hl ⊢
  have hl : lv_has ls 1 [(0, .ref h0)] := hl
  refine lv_aload_n hx hb dX6_init_0 rfl (lv_at hl 0 rfl) ?_
  refine W.objInit hx hb hown (hts (.methodLink RX6 3 objectInit) (List.mem_of_getElem? (i := 1) rfl)) (hts (.instanceMethod objectInit) (List.mem_of_getElem? (i := 2) rfl)) (hts (.code objectInit ⟨#[0xb1]⟩ 1 none) (List.mem_of_getElem? (i := 3) rfl)) rfl (by rw [hml]; exact hl.1) rfl dX6_init_1 (Nat.le_of_ble_eq_true rfl) (Nat.le_of_ble_eq_true rfl) ?_
  refine W.eq (g2 := F0 m 4 ls []) rfl ?_
  refine lv_aload_n hx hb dX6_init_4 rfl (lv_at hl 0 rfl) ?_
  refine lv_sipush (v := 2500) hx hb dX6_init_5 (by decide +kernel) ?_
  refine va_newa (atype := .byte) (a0 := (2500, .inl (fun _ => 0))) (ty := .byte) (N' := 2500) hx hb (hts (.arrayClass .byte) (List.mem_of_getElem? (i := 4) rfl)) rfl hK hP hD hS hA (fun _ => rfl) (by decide +kernel) (by decide +kernel) (by decide +kernel) (Nat.le_of_ble_eq_true rfl) (Nat.le_of_ble_eq_true rfl) dX6_init_8 (fun q576 k577 H hK hP hD hS => ?_)
  have hK : va_K (dC, dI) vwCl [(k577, .byte)] s := hK
  have hP : va_P (dC, dI) vwCl [(h0, .inr (6, [.null, .null, .null, .null, .int 0, .int 0, .int 0, .int 0, .int 0])), (q576, .inl (k577, 2500, .inl (fun _ => 0)))] H := hP
  have hD : va_D A [(h0, .inr (6, [.null, .null, .null, .null, .int 0, .int 0, .int 0, .int 0, .int 0])), (q576, .inl (k577, 2500, .inl (fun _ => 0)))] := hD
  refine va_put (D := (dC, dI)) (ci := 6) (v := .ref q576) (ty := .array .byte) (C := RX6) (T := TX6) (N := 9) hx hb hts (fun _ h => List.mem_append_right _ h) tyX6 tyX6_ok nmX6 hown hK hP hD hS 0 rfl rfl 0 (by decide +kernel) (hts (.fieldLink RX6 9 "SpellTurner$Scribe" "told" "[B") (List.mem_of_getElem? (i := 6) rfl)) (fun _ h9 => h9) rfl (by decide +kernel) rfl rfl (Nat.le_of_ble_eq_true rfl) dX6_init_10 (fun H locs hP hD hS => ?_)
  have hP : va_P (dC, dI) vwCl [(h0, .inr (6, [.ref q576, .null, .null, .null, .int 0, .int 0, .int 0, .int 0, .int 0])), (q576, .inl (k577, 2500, .inl (fun _ => 0)))] H := hP
  have hD : va_D A [(h0, .inr (6, [.ref q576, .null, .null, .null, .int 0, .int 0, .int 0, .int 0, .int 0])), (q576, .inl (k577, 2500, .inl (fun _ => 0)))] := hD
  have hP := hP.sub (ws' := [(h0, .inr (6, [.ref q576, .null, .null, .null, .int 0, .int 0, .int 0, .int 0, .int 0]))]) [0] rfl
  have hD := hD.sub (ws' := [(h0, .inr (6, [.ref q576, .null, .null, .null, .int 0, .int 0, .int 0, .int 0, .int 0]))]) [0] (by decide +kernel) rfl
  refine lv_aload_n hx hb dX6_init_13 rfl (lv_at hl 0 rfl) ?_
  refine lv_sipush (v := 2500) hx hb dX6_init_14 (by decide +kernel) ?_
  refine va_newa (atype := .byte) (a0 := (2500, .inl (fun _ => 0))) (ty := .byte) (N' := 2500) hx hb (hts (.arrayClass .byte) (List.mem_of_getElem? (i := 4) rfl)) rfl hK hP hD hS hA (fun _ => rfl) (by decide +kernel) (by decide +kernel) (by decide +kernel) (Nat.le_of_ble_eq_true rfl) (Nat.le_of_ble_eq_true rfl) dX6_init_17 (fun q578 k579 H hK hP hD hS => ?_)
  have hK : va_K (dC, dI) vwCl [(k577, .byte), (k579, .byte)] s := hK
  have hP : va_P (dC, dI) vwCl [(h0, .inr (6, [.ref q576, .null, .null, .null, .int 0, .int 0, .int 0, .int 0, .int 0])), (q578, .inl (k579, 2500, .inl (fun _ => 0)))] H := hP
  have hD : va_D A [(h0, .inr (6, [.ref q576, .null, .null, .null, .int 0, .int 0, .int 0, .int 0, .int 0])), (q578, .inl (k579, 2500, .inl (fun _ => 0)))] := hD
  refine va_put (D := (dC, dI)) (ci := 6) (v := .ref q578) (ty := .array .byte) (C := RX6) (T := TX6) (N := 9) hx hb hts (fun _ h => List.mem_append_right _ h) tyX6 tyX6_ok nmX6 hown hK hP hD hS 0 rfl rfl 1 (by decide +kernel) (hts (.fieldLink RX6 15 "SpellTurner$Scribe" "page" "[B") (List.mem_of_getElem? (i := 7) rfl)) (fun _ h9 => h9) rfl (by decide +kernel) rfl rfl (Nat.le_of_ble_eq_true rfl) dX6_init_19 (fun H locs hP hD hS => ?_)
  have hP : va_P (dC, dI) vwCl [(h0, .inr (6, [.ref q576, .ref q578, .null, .null, .int 0, .int 0, .int 0, .int 0, .int 0])), (q578, .inl (k579, 2500, .inl (fun _ => 0)))] H := hP
  have hD : va_D A [(h0, .inr (6, [.ref q576, .ref q578, .null, .null, .int 0, .int 0, .int 0, .int 0, .int 0])), (q578, .inl (k579, 2500, .inl (fun _ => 0)))] := hD
  refine lv_aload_n hx hb dX6_init_22 rfl (lv_at hl 0 rfl) ?_
  refine lv_iconst (v := 5) hx hb dX6_init_23 (by decide +kernel) ?_
  refine va_newa (atype := .int) (a0 := (5, .inl (fun _ => 0))) (ty := .int) (N' := 5) hx hb (hts (.arrayClass .int) (List.mem_of_getElem? (i := 5) rfl)) rfl hK hP hD hS hA (fun _ => rfl) (by decide +kernel) (by decide +kernel) (by decide +kernel) (Nat.le_of_ble_eq_true rfl) (Nat.le_of_ble_eq_true rfl) dX6_init_24 (fun q580 k581 H hK hP hD hS => ?_)
  have hK : va_K (dC, dI) vwCl [(k577, .byte), (k579, .byte), (k581, .int)] s := hK
  have hP : va_P (dC, dI) vwCl [(h0, .inr (6, [.ref q576, .ref q578, .null, .null, .int 0, .int 0, .int 0, .int 0, .int 0])), (q578, .inl (k579, 2500, .inl (fun _ => 0))), (q580, .inl (k581, 5, .inl (fun _ => 0)))] H := hP
  have hD : va_D A [(h0, .inr (6, [.ref q576, .ref q578, .null, .null, .int 0, .int 0, .int 0, .int 0, .int 0])), (q578, .inl (k579, 2500, .inl (fun _ => 0))), (q580, .inl (k581, 5, .inl (fun _ => 0)))] := hD
  refine va_put (D := (dC, dI)) (ci := 6) (v := .ref q580) (ty := .array .int) (C := RX6) (T := TX6) (N := 9) hx hb hts (fun _ h => List.mem_append_right _ h) tyX6 tyX6_ok nmX6 hown hK hP hD hS 0 rfl rfl 2 (by decide +kernel) (hts (.fieldLink RX6 18 "SpellTurner$Scribe" "toldTally" "[I") (List.mem_of_getElem? (i := 8) rfl)) (fun _ h9 => h9) rfl (by decide +kernel) rfl rfl (Nat.le_of_ble_eq_true rfl) dX6_init_26 (fun H locs hP hD hS => ?_)
  have hP : va_P (dC, dI) vwCl [(h0, .inr (6, [.ref q576, .ref q578, .ref q580, .null, .int 0, .int 0, .int 0, .int 0, .int 0])), (q578, .inl (k579, 2500, .inl (fun _ => 0))), (q580, .inl (k581, 5, .inl (fun _ => 0)))] H := hP
  have hD : va_D A [(h0, .inr (6, [.ref q576, .ref q578, .ref q580, .null, .int 0, .int 0, .int 0, .int 0, .int 0])), (q578, .inl (k579, 2500, .inl (fun _ => 0))), (q580, .inl (k581, 5, .inl (fun _ => 0)))] := hD
  have hP := hP.sub (ws' := [(h0, .inr (6, [.ref q576, .ref q578, .ref q580, .null, .int 0, .int 0, .int 0, .int 0, .int 0])), (q578, .inl (k579, 2500, .inl (fun _ => 0)))]) [0, 1] rfl
  have hD := hD.sub (ws' := [(h0, .inr (6, [.ref q576, .ref q578, .ref q580, .null, .int 0, .int 0, .int 0, .int 0, .int 0])), (q578, .inl (k579, 2500, .inl (fun _ => 0)))]) [0, 1] (by decide +kernel) rfl
  refine lv_aload_n hx hb dX6_init_29 rfl (lv_at hl 0 rfl) ?_
  refine lv_iconst (v := 5) hx hb dX6_init_30 (by decide +kernel) ?_
  refine va_newa (atype := .int) (a0 := (5, .inl (fun _ => 0))) (ty := .int) (N' := 5) hx hb (hts (.arrayClass .int) (List.mem_of_getElem? (i := 5) rfl)) rfl hK hP hD hS hA (fun _ => rfl) (by decide +kernel) (by decide +kernel) (by decide +kernel) (Nat.le_of_ble_eq_true rfl) (Nat.le_of_ble_eq_true rfl) dX6_init_31 (fun q582 k583 H hK hP hD hS => ?_)
  have hK : va_K (dC, dI) vwCl [(k577, .byte), (k579, .byte), (k581, .int), (k583, .int)] s := hK
  have hP : va_P (dC, dI) vwCl [(h0, .inr (6, [.ref q576, .ref q578, .ref q580, .null, .int 0, .int 0, .int 0, .int 0, .int 0])), (q578, .inl (k579, 2500, .inl (fun _ => 0))), (q582, .inl (k583, 5, .inl (fun _ => 0)))] H := hP
  have hD : va_D A [(h0, .inr (6, [.ref q576, .ref q578, .ref q580, .null, .int 0, .int 0, .int 0, .int 0, .int 0])), (q578, .inl (k579, 2500, .inl (fun _ => 0))), (q582, .inl (k583, 5, .inl (fun _ => 0)))] := hD
  refine va_put (D := (dC, dI)) (ci := 6) (v := .ref q582) (ty := .array .int) (C := RX6) (T := TX6) (N := 9) hx hb hts (fun _ h => List.mem_append_right _ h) tyX6 tyX6_ok nmX6 hown hK hP hD hS 0 rfl rfl 3 (by decide +kernel) (hts (.fieldLink RX6 22 "SpellTurner$Scribe" "tally" "[I") (List.mem_of_getElem? (i := 9) rfl)) (fun _ h9 => h9) rfl (by decide +kernel) rfl rfl (Nat.le_of_ble_eq_true rfl) dX6_init_33 (fun H locs hP hD hS => ?_)
  have hP : va_P (dC, dI) vwCl [(h0, .inr (6, [.ref q576, .ref q578, .ref q580, .ref q582, .int 0, .int 0, .int 0, .int 0, .int 0])), (q578, .inl (k579, 2500, .inl (fun _ => 0))), (q582, .inl (k583, 5, .inl (fun _ => 0)))] H := hP
  have hD : va_D A [(h0, .inr (6, [.ref q576, .ref q578, .ref q580, .ref q582, .int 0, .int 0, .int 0, .int 0, .int 0])), (q578, .inl (k579, 2500, .inl (fun _ => 0))), (q582, .inl (k583, 5, .inl (fun _ => 0)))] := hD
  refine lv_aload_n hx hb dX6_init_36 rfl (lv_at hl 0 rfl) ?_
  refine lv_iconst (v := 0) hx hb dX6_init_37 (by decide +kernel) ?_
  refine va_put (D := (dC, dI)) (ci := 6) (v := .int 0) (ty := .boolean) (C := RX6) (T := TX6) (N := 9) hx hb hts (fun _ h => List.mem_append_right _ h) tyX6 tyX6_ok nmX6 hown hK hP hD hS 0 rfl rfl 4 (by decide +kernel) (hts (.fieldLink RX6 25 "SpellTurner$Scribe" "hasTold" "Z") (List.mem_of_getElem? (i := 10) rfl)) (fun _ h9 => h9) rfl (by decide +kernel) rfl rfl (Nat.le_of_ble_eq_true rfl) dX6_init_38 (fun H locs hP hD hS => ?_)
  have hP : va_P (dC, dI) vwCl [(h0, .inr (6, [.ref q576, .ref q578, .ref q580, .ref q582, .int 0, .int 0, .int 0, .int 0, .int 0])), (q578, .inl (k579, 2500, .inl (fun _ => 0))), (q582, .inl (k583, 5, .inl (fun _ => 0)))] H := hP
  have hD : va_D A [(h0, .inr (6, [.ref q576, .ref q578, .ref q580, .ref q582, .int 0, .int 0, .int 0, .int 0, .int 0])), (q578, .inl (k579, 2500, .inl (fun _ => 0))), (q582, .inl (k583, 5, .inl (fun _ => 0)))] := hD
  refine lv_aload_n hx hb dX6_init_41 rfl (lv_at hl 0 rfl) ?_
  refine lv_iconst (v := 0) hx hb dX6_init_42 (by decide +kernel) ?_
  refine va_put (D := (dC, dI)) (ci := 6) (v := .int 0) (ty := .int) (C := RX6) (T := TX6) (N := 9) hx hb hts (fun _ h => List.mem_append_right _ h) tyX6 tyX6_ok nmX6 hown hK hP hD hS 0 rfl rfl 5 (by decide +kernel) (hts (.fieldLink RX6 29 "SpellTurner$Scribe" "toldSize" "I") (List.mem_of_getElem? (i := 11) rfl)) (fun _ h9 => h9) rfl (by decide +kernel) rfl rfl (Nat.le_of_ble_eq_true rfl) dX6_init_43 (fun H locs hP hD hS => ?_)
  have hP : va_P (dC, dI) vwCl [(h0, .inr (6, [.ref q576, .ref q578, .ref q580, .ref q582, .int 0, .int 0, .int 0, .int 0, .int 0])), (q578, .inl (k579, 2500, .inl (fun _ => 0))), (q582, .inl (k583, 5, .inl (fun _ => 0)))] H := hP
  have hD : va_D A [(h0, .inr (6, [.ref q576, .ref q578, .ref q580, .ref q582, .int 0, .int 0, .int 0, .int 0, .int 0])), (q578, .inl (k579, 2500, .inl (fun _ => 0))), (q582, .inl (k583, 5, .inl (fun _ => 0)))] := hD
  refine lv_aload_n hx hb dX6_init_46 rfl (lv_at hl 0 rfl) ?_
  refine lv_iconst (v := 0) hx hb dX6_init_47 (by decide +kernel) ?_
  refine va_put (D := (dC, dI)) (ci := 6) (v := .int 0) (ty := .int) (C := RX6) (T := TX6) (N := 9) hx hb hts (fun _ h => List.mem_append_right _ h) tyX6 tyX6_ok nmX6 hown hK hP hD hS 0 rfl rfl 6 (by decide +kernel) (hts (.fieldLink RX6 33 "SpellTurner$Scribe" "size" "I") (List.mem_of_getElem? (i := 12) rfl)) (fun _ h9 => h9) rfl (by decide +kernel) rfl rfl (Nat.le_of_ble_eq_true rfl) dX6_init_48 (fun H locs hP hD hS => ?_)
  have hP : va_P (dC, dI) vwCl [(h0, .inr (6, [.ref q576, .ref q578, .ref q580, .ref q582, .int 0, .int 0, .int 0, .int 0, .int 0])), (q578, .inl (k579, 2500, .inl (fun _ => 0))), (q582, .inl (k583, 5, .inl (fun _ => 0)))] H := hP
  have hD : va_D A [(h0, .inr (6, [.ref q576, .ref q578, .ref q580, .ref q582, .int 0, .int 0, .int 0, .int 0, .int 0])), (q578, .inl (k579, 2500, .inl (fun _ => 0))), (q582, .inl (k583, 5, .inl (fun _ => 0)))] := hD
  refine lv_aload_n hx hb dX6_init_51 rfl (lv_at hl 0 rfl) ?_
  refine lv_iconst (v := 0) hx hb dX6_init_52 (by decide +kernel) ?_
  refine va_put (D := (dC, dI)) (ci := 6) (v := .int 0) (ty := .int) (C := RX6) (T := TX6) (N := 9) hx hb hts (fun _ h => List.mem_append_right _ h) tyX6 tyX6_ok nmX6 hown hK hP hD hS 0 rfl rfl 7 (by decide +kernel) (hts (.fieldLink RX6 36 "SpellTurner$Scribe" "copied" "I") (List.mem_of_getElem? (i := 13) rfl)) (fun _ h9 => h9) rfl (by decide +kernel) rfl rfl (Nat.le_of_ble_eq_true rfl) dX6_init_53 (fun H locs hP hD hS => ?_)
  have hP : va_P (dC, dI) vwCl [(h0, .inr (6, [.ref q576, .ref q578, .ref q580, .ref q582, .int 0, .int 0, .int 0, .int 0, .int 0])), (q578, .inl (k579, 2500, .inl (fun _ => 0))), (q582, .inl (k583, 5, .inl (fun _ => 0)))] H := hP
  have hD : va_D A [(h0, .inr (6, [.ref q576, .ref q578, .ref q580, .ref q582, .int 0, .int 0, .int 0, .int 0, .int 0])), (q578, .inl (k579, 2500, .inl (fun _ => 0))), (q582, .inl (k583, 5, .inl (fun _ => 0)))] := hD
  refine lv_aload_n hx hb dX6_init_56 rfl (lv_at hl 0 rfl) ?_
  refine lv_iconst (v := 1) hx hb dX6_init_57 (by decide +kernel) ?_
  refine va_put (D := (dC, dI)) (ci := 6) (v := .int 1) (ty := .boolean) (C := RX6) (T := TX6) (N := 9) hx hb hts (fun _ h => List.mem_append_right _ h) tyX6 tyX6_ok nmX6 hown hK hP hD hS 0 rfl rfl 8 (by decide +kernel) (hts (.fieldLink RX6 39 "SpellTurner$Scribe" "fits" "Z") (List.mem_of_getElem? (i := 14) rfl)) (fun _ h9 => h9) rfl (by decide +kernel) rfl rfl (Nat.le_of_ble_eq_true rfl) dX6_init_58 (fun H locs hP hD hS => ?_)
  have hP : va_P (dC, dI) vwCl [(h0, .inr (6, [.ref q576, .ref q578, .ref q580, .ref q582, .int 0, .int 0, .int 0, .int 0, .int 1])), (q578, .inl (k579, 2500, .inl (fun _ => 0))), (q582, .inl (k583, 5, .inl (fun _ => 0)))] H := hP
  have hD : va_D A [(h0, .inr (6, [.ref q576, .ref q578, .ref q580, .ref q582, .int 0, .int 0, .int 0, .int 0, .int 1])), (q578, .inl (k579, 2500, .inl (fun _ => 0))), (q582, .inl (k583, 5, .inl (fun _ => 0)))] := hD
  refine W.widen (k := 4) (n := 5010) (by omega) (by omega) ?_
  have hP9 := hP.sub (ws' := [(h0, .inr (6, [.ref q576, .ref q578, .ref q580, .ref q582, .int 0, .int 0, .int 0, .int 0, .int 1])), (q578, .inl (k579, 2500, .inl (fun _ => 0))), (q582, .inl (k583, 5, .inl (fun _ => 0)))]) [0, 1, 2] rfl
  have hD9 := hD.sub (ws' := [(h0, .inr (6, [.ref q576, .ref q578, .ref q580, .ref q582, .int 0, .int 0, .int 0, .int 0, .int 1])), (q578, .inl (k579, 2500, .inl (fun _ => 0))), (q582, .inl (k583, 5, .inl (fun _ => 0)))]) [0, 1, 2] (by decide +kernel) rfl
  have hK9 := hK.sub (tys' := [(k579, .byte), (k583, .int)]) [1, 3] rfl
  exact W.vret hx hb hr (fun t ht hW => ⟨⟨(), rfl, trivial, q576, q578, q580, q582, k579, k583, by rw [ht]; exact hP9, va_K.moved hW.alike hK9, hD9⟩, hS.F ht⟩) hS.2.2 dX6_init_61
