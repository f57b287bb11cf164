set_option maxHeartbeats 4000000 in
set_option maxRecDepth 100000 in
theorem c_X5_init_0 (l : Launch) (dC : Nat → ClassId) (dI : Nat → Nat → Nat) (sz : Nat) (h0 : Nat) : Met l yX5_init wmX5_init ({ frames := 3, cells := 16, slots := 3216, locals := 82 }) (va_Pc [.ref h0] (fun U => U.heap.size = sz ∧ va_P (dC, dI) vwCl [(h0, .inr (5, [.int 0, .null, .int 0, .null, .null, .null, .null, .int 0, .null, .null, .null]))] U.heap ∧ va_K (dC, dI) vwCl [] U ∧ va_D (fun _ => True) [(h0, .inr (5, [.int 0, .null, .int 0, .null, .null, .null, .null, .int 0, .null, .null, .null]))] ∧ EnvOK U)) (va_Qv (fun _ : Unit => True) (fun _ t => ∃ (q73 : Nat), ∃ (q75 : Nat), ∃ (q83 : Nat), ∃ (q91 : Nat), ∃ (q99 : Nat), ∃ (q101 : Nat), ∃ (q109 : Nat), ∃ (q111 : Nat), ∃ (q81 : Nat), ∃ (q82 : Nat), ∃ (q89 : Nat), ∃ (q90 : Nat), ∃ (q97 : Nat), ∃ (q98 : Nat), ∃ (q107 : Nat), ∃ (q108 : Nat), va_P (dC, dI) vwCl [(h0, .inr (5, [.int 0, .ref q73, .int 0, .ref q75, .ref q83, .ref q91, .ref q99, .int 0, .ref q101, .ref q109, .ref q111])), (q75, .inr (10, [.int 16, .ref q81, .ref q82, .int 0])), (q83, .inr (10, [.int 16, .ref q89, .ref q90, .int 0])), (q91, .inr (10, [.int 16, .ref q97, .ref q98, .int 0])), (q101, .inr (10, [.int 24, .ref q107, .ref q108, .int 0]))] t.heap ∧ va_K (dC, dI) vwCl [] t ∧ va_D (va_A [(h0, .inr (5, [.int 0, .null, .int 0, .null, .null, .null, .null, .int 0, .null, .null, .null]))] sz) [(h0, .inr (5, [.int 0, .ref q73, .int 0, .ref q75, .ref q83, .ref q91, .ref q99, .int 0, .ref q101, .ref q109, .ref q111])), (q75, .inr (10, [.int 16, .ref q81, .ref q82, .int 0])), (q83, .inr (10, [.int 16, .ref q89, .ref q90, .int 0])), (q91, .inr (10, [.int 16, .ref q97, .ref q98, .int 0])), (q101, .inr (10, [.int 24, .ref q107, .ref q108, .int 0]))]) (va_A [(h0, .inr (5, [.int 0, .null, .int 0, .null, .null, .null, .null, .int 0, .null, .null, .null]))] sz)) 16 3216 (va_A [(h0, .inr (5, [.int 0, .null, .int 0, .null, .null, .null, .null, .int 0, .null, .null, .null]))] sz) := by
  refine Met.ofW (cc := cX5_init) (maxL := 1) (ret := none) (by decide +kernel) rfl ?_
  intro p e s m args below meth c s₁ B hml hv
  obtain ⟨rfl, hsz, hP, hK, hD0, hE⟩ := hv
  have hx := B.exec
  have hb := B.bytes
  have hr := B.returns
  have hts := atoms_spec (ws := wmX5_init) B.pre
  have hown : s.vm.findClass RX5 = some m.cls := findClass_of_methodNamed B.named
  have hlocks := B.notSynchronized
  have hin : meth.name = "<init>" := (name_of_methodNamed B.named B.method).1
  subst hsz
  have hD := hD0.self (sz := s.heap.size)
  generalize hAe : va_A [(h0, .inr (5, [.int 0, .null, .int 0, .null, .null, .null, .null, .int 0, .null, .null, .null]))] s.heap.size = A at hD ⊢
  have hA : ∀ q : Nat, s.heap.size ≤ q → A q := fun q h => by rw [← hAe]; exact Or.inr h
  have hS : va_S A s.heap s.heap [] := va_S.rf
  have hP : va_P (dC, dI) vwCl [(h0, .inr (5, [.int 0, .null, .int 0, .null, .null, .null, .null, .int 0, .null, .null, .null]))] s.heap := hP
  have hl := lv_entry ([.ref h0]) (n := 1) (Nat.le_of_ble_eq_true rfl)
  rw [lg_entry_eq]
  generalize (lg_sl ([.ref h0]) ++ List.replicate (1 - (lg_sl ([.ref h0])).length) Slot.unset).toArray = ls at hl ⊢
  have hl : lv_has ls 1 [(0, .ref h0)] := hl
  refine lv_aload_n hx hb dX5_init_0 rfl (lv_at hl 0 rfl) ?_
  refine W.objInit hx hb hown (hts (.methodLink RX5 3 objectInit) (List.mem_of_getElem? (i := 1) rfl)) (hts (.instanceMethod objectInit) (List.mem_of_getElem? (i := 2) rfl)) (hts (.code objectInit ⟨#[0xb1]⟩ 1 none) (List.mem_of_getElem? (i := 3) rfl)) rfl (by rw [hml]; exact hl.1) rfl dX5_init_1 (Nat.le_of_ble_eq_true rfl) (Nat.le_of_ble_eq_true rfl) ?_
  refine W.eq (g2 := F0 m 4 ls []) rfl ?_
  refine lv_aload_n hx hb dX5_init_4 rfl (lv_at hl 0 rfl) ?_
  refine lv_iconst (v := 0) hx hb dX5_init_5 (by decide +kernel) ?_
  refine va_put (D := (dC, dI)) (ci := 5) (v := .int 0) (ty := .int) (C := RX5) (T := TX5) (N := 11) hx hb hts (fun _ h => List.mem_append_right _ h) tyX5 tyX5_ok nmX5 hown hK hP hD hS 0 rfl rfl 0 (by decide +kernel) (hts (.fieldLink RX5 9 "SpellTurner$Reform" "day" "I") (List.mem_of_getElem? (i := 12) rfl)) (fun _ h9 => h9) rfl (by decide +kernel) rfl rfl (Nat.le_of_ble_eq_true rfl) dX5_init_6 (fun H locs hP hD hS => ?_)
  have hP : va_P (dC, dI) vwCl [(h0, .inr (5, [.int 0, .null, .int 0, .null, .null, .null, .null, .int 0, .null, .null, .null]))] H := hP
  have hD : va_D A [(h0, .inr (5, [.int 0, .null, .int 0, .null, .null, .null, .null, .int 0, .null, .null, .null]))] := hD
  refine lv_aload_n hx hb dX5_init_9 rfl (lv_at hl 0 rfl) ?_
  refine lv_bipush (v := 40) hx hb dX5_init_10 (by decide +kernel) ?_
  refine va_newq hx hb hown (hts (.classLink RX5 15 RX1) (List.mem_of_getElem? (i := 4) rfl)) (en_aoRX1 hE) hK hP hD hS hA (by decide +kernel) (N' := 40) (by decide +kernel) (by decide +kernel) (Nat.le_of_ble_eq_true rfl) (Nat.le_of_ble_eq_true rfl) dX5_init_12 (fun q113 k114 H hK hP hD hS => ?_)
  have hK : va_K (dC, dI) vwCl [(k114, .object RX1)] s := hK
  have hP : va_P (dC, dI) vwCl [(h0, .inr (5, [.int 0, .null, .int 0, .null, .null, .null, .null, .int 0, .null, .null, .null])), (q113, .inl (k114, 40, .inr (.inr (.inr (.inr (fun _ => none))))))] H := hP
  have hD : va_D A [(h0, .inr (5, [.int 0, .null, .int 0, .null, .null, .null, .null, .int 0, .null, .null, .null])), (q113, .inl (k114, 40, .inr (.inr (.inr (.inr (fun _ => none))))))] := hD
  refine va_putF (D := (dC, dI)) (ci := 5) (v := .ref q113) (ty := .array (.object "SpellTurner$Law")) (C := RX5) (T := TX5) (N := 11) hx hb hts (fun _ h => List.mem_append_right _ h) tyX5 tyX5_ok nmX5 hown hK hP hD hS 0 rfl rfl 1 (by decide +kernel) (hts (.fieldLink RX5 17 "SpellTurner$Reform" "laws" "[LSpellTurner$Law;") (List.mem_of_getElem? (i := 13) rfl)) (fun _ h9 => h9) rfl hin rfl (by decide +kernel) rfl rfl (Nat.le_of_ble_eq_true rfl) dX5_init_15 (fun H locs hP hD hS => ?_)
  have hP : va_P (dC, dI) vwCl [(h0, .inr (5, [.int 0, .ref q113, .int 0, .null, .null, .null, .null, .int 0, .null, .null, .null])), (q113, .inl (k114, 40, .inr (.inr (.inr (.inr (fun _ => none))))))] H := hP
  have hD : va_D A [(h0, .inr (5, [.int 0, .ref q113, .int 0, .null, .null, .null, .null, .int 0, .null, .null, .null])), (q113, .inl (k114, 40, .inr (.inr (.inr (.inr (fun _ => none))))))] := hD
  have hP := hP.sub (ws' := [(h0, .inr (5, [.int 0, .ref q113, .int 0, .null, .null, .null, .null, .int 0, .null, .null, .null]))]) [0] rfl
  have hD := hD.sub (ws' := [(h0, .inr (5, [.int 0, .ref q113, .int 0, .null, .null, .null, .null, .int 0, .null, .null, .null]))]) [0] (by decide +kernel) rfl
  refine lv_aload_n hx hb dX5_init_18 rfl (lv_at hl 0 rfl) ?_
  refine lv_iconst (v := 0) hx hb dX5_init_19 (by decide +kernel) ?_
  refine va_put (D := (dC, dI)) (ci := 5) (v := .int 0) (ty := .int) (C := RX5) (T := TX5) (N := 11) hx hb hts (fun _ h => List.mem_append_right _ h) tyX5 tyX5_ok nmX5 hown hK hP hD hS 0 rfl rfl 2 (by decide +kernel) (hts (.fieldLink RX5 21 "SpellTurner$Reform" "lawCount" "I") (List.mem_of_getElem? (i := 14) rfl)) (fun _ h9 => h9) rfl (by decide +kernel) rfl rfl (Nat.le_of_ble_eq_true rfl) dX5_init_20 (fun H locs hP hD hS => ?_)
  have hP : va_P (dC, dI) vwCl [(h0, .inr (5, [.int 0, .ref q113, .int 0, .null, .null, .null, .null, .int 0, .null, .null, .null]))] H := hP
  have hD : va_D A [(h0, .inr (5, [.int 0, .ref q113, .int 0, .null, .null, .null, .null, .int 0, .null, .null, .null]))] := hD
  refine lv_aload_n hx hb dX5_init_23 rfl (lv_at hl 0 rfl) ?_
  refine va_new (ci := 10) (fs := [.int 0, .null, .null, .int 0]) (C := RX10) (T := TX10) (N := 4) hx hb hts (fun _ h => List.mem_append_left _ (List.mem_append_right _ h)) tyX10 tyX10_ok hown (hts (.classLink RX5 24 RX10) (List.mem_of_getElem? (i := 5) rfl)) (hts (.instantiable RX10 4) (List.mem_of_getElem? (i := 6) rfl)) (hts (.initialized RX10) (List.mem_of_getElem? (i := 7) rfl)) hK hP hD hS hA rfl (fun j hj => match j, hj with | 0, _ => rfl | 1, _ => rfl | 2, _ => rfl | 3, _ => rfl | j + 4, hj => absurd hj (by omega)) (Nat.le_of_ble_eq_true rfl) (Nat.le_of_ble_eq_true rfl) dX5_init_24 (fun q115 H hP hD hS => ?_)
  have hP : va_P (dC, dI) vwCl [(h0, .inr (5, [.int 0, .ref q113, .int 0, .null, .null, .null, .null, .int 0, .null, .null, .null])), (q115, .inr (10, [.int 0, .null, .null, .int 0]))] H := hP
  have hD : va_D A [(h0, .inr (5, [.int 0, .ref q113, .int 0, .null, .null, .null, .null, .int 0, .null, .null, .null])), (q115, .inr (10, [.int 0, .null, .null, .int 0]))] := hD
  refine lv_dup hx hb dX5_init_27 rfl ?_
  refine lv_bipush (v := 40) hx hb dX5_init_28 (by decide +kernel) ?_
  refine lv_bipush (v := 16) hx hb dX5_init_30 (by decide +kernel) ?_
  have hPc := hP.sub (ws' := [(q115, .inr (10, [.int 0, .null, .null, .int 0]))]) [1] rfl
  have hDc := hD.sub (ws' := [(q115, .inr (10, [.int 0, .null, .null, .int 0]))]) [1] (by decide +kernel) rfl
  have hKc := hK.sub (tys' := []) [] rfl
  have hFc := va_free (wc := [(q115, .inr (10, [.int 0, .null, .null, .int 0]))]) hD hS hA [1] rfl
  refine va_callv (va_runI (As := [.int 40, .int 16]) (rest := [.ref q115, .ref h0]) ⟨hx, hb, hml, hown, hts⟩ (c_X10_init_0 l dC dI H.size q115) (cwI 2 hts gm_X5_init_X10_init rfl rfl rfl (hts (.initialized RX10) (List.mem_of_getElem? (i := 7) rfl)) (hts (.methodLink RX5 26 yX10_init) (List.mem_of_getElem? (i := 8) rfl)) (hts (.instanceMethod yX10_init) (List.mem_of_getElem? (i := 9) rfl)) rfl (by decide +kernel) ⟨Nat.le_of_ble_eq_true rfl, Nat.le_of_ble_eq_true rfl⟩) ⟨fun a U g mk q => by obtain ⟨q0, q1, qP, qK, qD⟩ := q; exact ⟨q0, q1, qP, va_K.moved (u := U) (U := U.calling g mk a) (Vm.Alike.refl U.vm) qK, qD⟩, fun U hU hW => ⟨rfl, by rw [hU], by rw [hU]; exact hPc, va_K.moved hW.alike hKc, hDc.weaken (fun _ _ _ _ => trivial)⟩⟩ rfl rfl hl.1 rfl (lv_room (Nat.le_of_ble_eq_true rfl)) dX5_init_32 ⟨Nat.le_of_ble_eq_true rfl, Nat.le_of_ble_eq_true rfl⟩) hS (fun q _ h => hFc q h) hFc (fun u t H1 locs ht hvm hw hB hz1 hk1 hS => ?_)
  obtain ⟨q122, q123, hP1, hK1, hD1⟩ := hB
  rw [ht] at hP1
  have hK1 := va_K.moved hvm.symm hK1
  obtain ⟨hP, hD⟩ := va_join (wr := [(h0, .inr (5, [.int 0, .ref q113, .int 0, .null, .null, .null, .null, .int 0, .null, .null, .null]))]) (w1 := [(q115, .inr (10, [.int 16, .ref q122, .ref q123, .int 0]))]) hP hD [1] [0] rfl rfl (by decide +kernel) (by decide +kernel) hk1 hFc hP1 hD1
  have hK := (hK.sub (tys' := [(k114, .object RX1)]) [0] rfl).app hK1
  generalize H1 = H at hP hS ⊢
  have hK : va_K (dC, dI) vwCl [(k114, .object RX1)] s := hK
  have hP : va_P (dC, dI) vwCl [(h0, .inr (5, [.int 0, .ref q113, .int 0, .null, .null, .null, .null, .int 0, .null, .null, .null])), (q115, .inr (10, [.int 16, .ref q122, .ref q123, .int 0]))] H := hP
  have hD : va_D A [(h0, .inr (5, [.int 0, .ref q113, .int 0, .null, .null, .null, .null, .int 0, .null, .null, .null])), (q115, .inr (10, [.int 16, .ref q122, .ref q123, .int 0]))] := hD
  refine va_putF (D := (dC, dI)) (ci := 5) (v := .ref q115) (ty := .object "SpellTurner$WordRow") (C := RX5) (T := TX5) (N := 11) hx hb hts (fun _ h => List.mem_append_right _ h) tyX5 tyX5_ok nmX5 hown hK hP hD hS 0 rfl rfl 3 (by decide +kernel) (hts (.fieldLink RX5 29 "SpellTurner$Reform" "parts" "LSpellTurner$WordRow;") (List.mem_of_getElem? (i := 15) rfl)) (fun _ h9 => h9) rfl hin rfl (by decide +kernel) rfl rfl (Nat.le_of_ble_eq_true rfl) dX5_init_35 (fun H locs hP hD hS => ?_)
  have hP : va_P (dC, dI) vwCl [(h0, .inr (5, [.int 0, .ref q113, .int 0, .ref q115, .null, .null, .null, .int 0, .null, .null, .null])), (q115, .inr (10, [.int 16, .ref q122, .ref q123, .int 0]))] H := hP
  have hD : va_D A [(h0, .inr (5, [.int 0, .ref q113, .int 0, .ref q115, .null, .null, .null, .int 0, .null, .null, .null])), (q115, .inr (10, [.int 16, .ref q122, .ref q123, .int 0]))] := hD
  refine lv_aload_n hx hb dX5_init_38 rfl (lv_at hl 0 rfl) ?_
  refine va_new (ci := 10) (fs := [.int 0, .null, .null, .int 0]) (C := RX10) (T := TX10) (N := 4) hx hb hts (fun _ h => List.mem_append_left _ (List.mem_append_right _ h)) tyX10 tyX10_ok hown (hts (.classLink RX5 24 RX10) (List.mem_of_getElem? (i := 5) rfl)) (hts (.instantiable RX10 4) (List.mem_of_getElem? (i := 6) rfl)) (hts (.initialized RX10) (List.mem_of_getElem? (i := 7) rfl)) hK hP hD hS hA rfl (fun j hj => match j, hj with | 0, _ => rfl | 1, _ => rfl | 2, _ => rfl | 3, _ => rfl | j + 4, hj => absurd hj (by omega)) (Nat.le_of_ble_eq_true rfl) (Nat.le_of_ble_eq_true rfl) dX5_init_39 (fun q124 H hP hD hS => ?_)
  have hP : va_P (dC, dI) vwCl [(h0, .inr (5, [.int 0, .ref q113, .int 0, .ref q115, .null, .null, .null, .int 0, .null, .null, .null])), (q115, .inr (10, [.int 16, .ref q122, .ref q123, .int 0])), (q124, .inr (10, [.int 0, .null, .null, .int 0]))] H := hP
  have hD : va_D A [(h0, .inr (5, [.int 0, .ref q113, .int 0, .ref q115, .null, .null, .null, .int 0, .null, .null, .null])), (q115, .inr (10, [.int 16, .ref q122, .ref q123, .int 0])), (q124, .inr (10, [.int 0, .null, .null, .int 0]))] := hD
  refine lv_dup hx hb dX5_init_42 rfl ?_
  refine lv_bipush (v := 40) hx hb dX5_init_43 (by decide +kernel) ?_
  refine lv_bipush (v := 16) hx hb dX5_init_45 (by decide +kernel) ?_
  have hPc := hP.sub (ws' := [(q124, .inr (10, [.int 0, .null, .null, .int 0]))]) [2] rfl
  have hDc := hD.sub (ws' := [(q124, .inr (10, [.int 0, .null, .null, .int 0]))]) [2] (by decide +kernel) rfl
  have hKc := hK.sub (tys' := []) [] rfl
  have hFc := va_free (wc := [(q124, .inr (10, [.int 0, .null, .null, .int 0]))]) hD hS hA [2] rfl
  refine va_callv (va_runI (As := [.int 40, .int 16]) (rest := [.ref q124, .ref h0]) ⟨hx, hb, hml, hown, hts⟩ (c_X10_init_0 l dC dI H.size q124) (cwI 2 hts gm_X5_init_X10_init rfl rfl rfl (hts (.initialized RX10) (List.mem_of_getElem? (i := 7) rfl)) (hts (.methodLink RX5 26 yX10_init) (List.mem_of_getElem? (i := 8) rfl)) (hts (.instanceMethod yX10_init) (List.mem_of_getElem? (i := 9) rfl)) rfl (by decide +kernel) ⟨Nat.le_of_ble_eq_true rfl, Nat.le_of_ble_eq_true rfl⟩) ⟨fun a U g mk q => by obtain ⟨q0, q1, qP, qK, qD⟩ := q; exact ⟨q0, q1, qP, va_K.moved (u := U) (U := U.calling g mk a) (Vm.Alike.refl U.vm) qK, qD⟩, fun U hU hW => ⟨rfl, by rw [hU], by rw [hU]; exact hPc, va_K.moved hW.alike hKc, hDc.weaken (fun _ _ _ _ => trivial)⟩⟩ rfl rfl hl.1 rfl (lv_room (Nat.le_of_ble_eq_true rfl)) dX5_init_47 ⟨Nat.le_of_ble_eq_true rfl, Nat.le_of_ble_eq_true rfl⟩) hS (fun q _ h => hFc q h) hFc (fun u t H1 locs ht hvm hw hB hz1 hk1 hS => ?_)
  obtain ⟨q131, q132, hP1, hK1, hD1⟩ := hB
  rw [ht] at hP1
  have hK1 := va_K.moved hvm.symm hK1
  obtain ⟨hP, hD⟩ := va_join (wr := [(h0, .inr (5, [.int 0, .ref q113, .int 0, .ref q115, .null, .null, .null, .int 0, .null, .null, .null])), (q115, .inr (10, [.int 16, .ref q122, .ref q123, .int 0]))]) (w1 := [(q124, .inr (10, [.int 16, .ref q131, .ref q132, .int 0]))]) hP hD [2] [0, 1] rfl rfl (by decide +kernel) (by decide +kernel) hk1 hFc hP1 hD1
  have hK := (hK.sub (tys' := [(k114, .object RX1)]) [0] rfl).app hK1
  generalize H1 = H at hP hS ⊢
  have hK : va_K (dC, dI) vwCl [(k114, .object RX1)] s := hK
  have hP : va_P (dC, dI) vwCl [(h0, .inr (5, [.int 0, .ref q113, .int 0, .ref q115, .null, .null, .null, .int 0, .null, .null, .null])), (q115, .inr (10, [.int 16, .ref q122, .ref q123, .int 0])), (q124, .inr (10, [.int 16, .ref q131, .ref q132, .int 0]))] H := hP
  have hD : va_D A [(h0, .inr (5, [.int 0, .ref q113, .int 0, .ref q115, .null, .null, .null, .int 0, .null, .null, .null])), (q115, .inr (10, [.int 16, .ref q122, .ref q123, .int 0])), (q124, .inr (10, [.int 16, .ref q131, .ref q132, .int 0]))] := hD
  refine va_putF (D := (dC, dI)) (ci := 5) (v := .ref q124) (ty := .object "SpellTurner$WordRow") (C := RX5) (T := TX5) (N := 11) hx hb hts (fun _ h => List.mem_append_right _ h) tyX5 tyX5_ok nmX5 hown hK hP hD hS 0 rfl rfl 4 (by decide +kernel) (hts (.fieldLink RX5 33 "SpellTurner$Reform" "entries" "LSpellTurner$WordRow;") (List.mem_of_getElem? (i := 16) rfl)) (fun _ h9 => h9) rfl hin rfl (by decide +kernel) rfl rfl (Nat.le_of_ble_eq_true rfl) dX5_init_50 (fun H locs hP hD hS => ?_)
  have hP : va_P (dC, dI) vwCl [(h0, .inr (5, [.int 0, .ref q113, .int 0, .ref q115, .ref q124, .null, .null, .int 0, .null, .null, .null])), (q115, .inr (10, [.int 16, .ref q122, .ref q123, .int 0])), (q124, .inr (10, [.int 16, .ref q131, .ref q132, .int 0]))] H := hP
  have hD : va_D A [(h0, .inr (5, [.int 0, .ref q113, .int 0, .ref q115, .ref q124, .null, .null, .int 0, .null, .null, .null])), (q115, .inr (10, [.int 16, .ref q122, .ref q123, .int 0])), (q124, .inr (10, [.int 16, .ref q131, .ref q132, .int 0]))] := hD
  refine lv_aload_n hx hb dX5_init_53 rfl (lv_at hl 0 rfl) ?_
  refine va_new (ci := 10) (fs := [.int 0, .null, .null, .int 0]) (C := RX10) (T := TX10) (N := 4) hx hb hts (fun _ h => List.mem_append_left _ (List.mem_append_right _ h)) tyX10 tyX10_ok hown (hts (.classLink RX5 24 RX10) (List.mem_of_getElem? (i := 5) rfl)) (hts (.instantiable RX10 4) (List.mem_of_getElem? (i := 6) rfl)) (hts (.initialized RX10) (List.mem_of_getElem? (i := 7) rfl)) hK hP hD hS hA rfl (fun j hj => match j, hj with | 0, _ => rfl | 1, _ => rfl | 2, _ => rfl | 3, _ => rfl | j + 4, hj => absurd hj (by omega)) (Nat.le_of_ble_eq_true rfl) (Nat.le_of_ble_eq_true rfl) dX5_init_54 (fun q133 H hP hD hS => ?_)
  have hP : va_P (dC, dI) vwCl [(h0, .inr (5, [.int 0, .ref q113, .int 0, .ref q115, .ref q124, .null, .null, .int 0, .null, .null, .null])), (q115, .inr (10, [.int 16, .ref q122, .ref q123, .int 0])), (q124, .inr (10, [.int 16, .ref q131, .ref q132, .int 0])), (q133, .inr (10, [.int 0, .null, .null, .int 0]))] H := hP
  have hD : va_D A [(h0, .inr (5, [.int 0, .ref q113, .int 0, .ref q115, .ref q124, .null, .null, .int 0, .null, .null, .null])), (q115, .inr (10, [.int 16, .ref q122, .ref q123, .int 0])), (q124, .inr (10, [.int 16, .ref q131, .ref q132, .int 0])), (q133, .inr (10, [.int 0, .null, .null, .int 0]))] := hD
  refine lv_dup hx hb dX5_init_57 rfl ?_
  refine lv_bipush (v := 40) hx hb dX5_init_58 (by decide +kernel) ?_
  refine lv_bipush (v := 16) hx hb dX5_init_60 (by decide +kernel) ?_
  have hPc := hP.sub (ws' := [(q133, .inr (10, [.int 0, .null, .null, .int 0]))]) [3] rfl
  have hDc := hD.sub (ws' := [(q133, .inr (10, [.int 0, .null, .null, .int 0]))]) [3] (by decide +kernel) rfl
  have hKc := hK.sub (tys' := []) [] rfl
  have hFc := va_free (wc := [(q133, .inr (10, [.int 0, .null, .null, .int 0]))]) hD hS hA [3] rfl
  refine va_callv (va_runI (As := [.int 40, .int 16]) (rest := [.ref q133, .ref h0]) ⟨hx, hb, hml, hown, hts⟩ (c_X10_init_0 l dC dI H.size q133) (cwI 2 hts gm_X5_init_X10_init rfl rfl rfl (hts (.initialized RX10) (List.mem_of_getElem? (i := 7) rfl)) (hts (.methodLink RX5 26 yX10_init) (List.mem_of_getElem? (i := 8) rfl)) (hts (.instanceMethod yX10_init) (List.mem_of_getElem? (i := 9) rfl)) rfl (by decide +kernel) ⟨Nat.le_of_ble_eq_true rfl, Nat.le_of_ble_eq_true rfl⟩) ⟨fun a U g mk q => by obtain ⟨q0, q1, qP, qK, qD⟩ := q; exact ⟨q0, q1, qP, va_K.moved (u := U) (U := U.calling g mk a) (Vm.Alike.refl U.vm) qK, qD⟩, fun U hU hW => ⟨rfl, by rw [hU], by rw [hU]; exact hPc, va_K.moved hW.alike hKc, hDc.weaken (fun _ _ _ _ => trivial)⟩⟩ rfl rfl hl.1 rfl (lv_room (Nat.le_of_ble_eq_true rfl)) dX5_init_62 ⟨Nat.le_of_ble_eq_true rfl, Nat.le_of_ble_eq_true rfl⟩) hS (fun q _ h => hFc q h) hFc (fun u t H1 locs ht hvm hw hB hz1 hk1 hS => ?_)
  obtain ⟨q140, q141, hP1, hK1, hD1⟩ := hB
  rw [ht] at hP1
  have hK1 := va_K.moved hvm.symm hK1
  obtain ⟨hP, hD⟩ := va_join (wr := [(h0, .inr (5, [.int 0, .ref q113, .int 0, .ref q115, .ref q124, .null, .null, .int 0, .null, .null, .null])), (q115, .inr (10, [.int 16, .ref q122, .ref q123, .int 0])), (q124, .inr (10, [.int 16, .ref q131, .ref q132, .int 0]))]) (w1 := [(q133, .inr (10, [.int 16, .ref q140, .ref q141, .int 0]))]) hP hD [3] [0, 1, 2] rfl rfl (by decide +kernel) (by decide +kernel) hk1 hFc hP1 hD1
  have hK := (hK.sub (tys' := [(k114, .object RX1)]) [0] rfl).app hK1
  generalize H1 = H at hP hS ⊢
  have hK : va_K (dC, dI) vwCl [(k114, .object RX1)] s := hK
  have hP : va_P (dC, dI) vwCl [(h0, .inr (5, [.int 0, .ref q113, .int 0, .ref q115, .ref q124, .null, .null, .int 0, .null, .null, .null])), (q115, .inr (10, [.int 16, .ref q122, .ref q123, .int 0])), (q124, .inr (10, [.int 16, .ref q131, .ref q132, .int 0])), (q133, .inr (10, [.int 16, .ref q140, .ref q141, .int 0]))] H := hP
  have hD : va_D A [(h0, .inr (5, [.int 0, .ref q113, .int 0, .ref q115, .ref q124, .null, .null, .int 0, .null, .null, .null])), (q115, .inr (10, [.int 16, .ref q122, .ref q123, .int 0])), (q124, .inr (10, [.int 16, .ref q131, .ref q132, .int 0])), (q133, .inr (10, [.int 16, .ref q140, .ref q141, .int 0]))] := hD
  refine va_putF (D := (dC, dI)) (ci := 5) (v := .ref q133) (ty := .object "SpellTurner$WordRow") (C := RX5) (T := TX5) (N := 11) hx hb hts (fun _ h => List.mem_append_right _ h) tyX5 tyX5_ok nmX5 hown hK hP hD hS 0 rfl rfl 5 (by decide +kernel) (hts (.fieldLink RX5 36 "SpellTurner$Reform" "becomes" "LSpellTurner$WordRow;") (List.mem_of_getElem? (i := 17) rfl)) (fun _ h9 => h9) rfl hin rfl (by decide +kernel) rfl rfl (Nat.le_of_ble_eq_true rfl) dX5_init_65 (fun H locs hP hD hS => ?_)
  have hP : va_P (dC, dI) vwCl [(h0, .inr (5, [.int 0, .ref q113, .int 0, .ref q115, .ref q124, .ref q133, .null, .int 0, .null, .null, .null])), (q115, .inr (10, [.int 16, .ref q122, .ref q123, .int 0])), (q124, .inr (10, [.int 16, .ref q131, .ref q132, .int 0])), (q133, .inr (10, [.int 16, .ref q140, .ref q141, .int 0]))] H := hP
  have hD : va_D A [(h0, .inr (5, [.int 0, .ref q113, .int 0, .ref q115, .ref q124, .ref q133, .null, .int 0, .null, .null, .null])), (q115, .inr (10, [.int 16, .ref q122, .ref q123, .int 0])), (q124, .inr (10, [.int 16, .ref q131, .ref q132, .int 0])), (q133, .inr (10, [.int 16, .ref q140, .ref q141, .int 0]))] := hD
  refine lv_aload_n hx hb dX5_init_68 rfl (lv_at hl 0 rfl) ?_
  refine lv_bipush (v := 40) hx hb dX5_init_69 (by decide +kernel) ?_
  refine va_newa (atype := .boolean) (a0 := (40, .inl (fun _ => 0))) (ty := .boolean) (N' := 40) hx hb (hts (.arrayClass .boolean) (List.mem_of_getElem? (i := 10) rfl)) rfl hK hP hD hS hA (fun _ => rfl) (by decide +kernel) (by decide +kernel) (by decide +kernel) (Nat.le_of_ble_eq_true rfl) (Nat.le_of_ble_eq_true rfl) dX5_init_71 (fun q142 k143 H hK hP hD hS => ?_)
  have hK : va_K (dC, dI) vwCl [(k114, .object RX1), (k143, .boolean)] s := hK
  have hP : va_P (dC, dI) vwCl [(h0, .inr (5, [.int 0, .ref q113, .int 0, .ref q115, .ref q124, .ref q133, .null, .int 0, .null, .null, .null])), (q115, .inr (10, [.int 16, .ref q122, .ref q123, .int 0])), (q124, .inr (10, [.int 16, .ref q131, .ref q132, .int 0])), (q133, .inr (10, [.int 16, .ref q140, .ref q141, .int 0])), (q142, .inl (k143, 40, .inl (fun _ => 0)))] H := hP
  have hD : va_D A [(h0, .inr (5, [.int 0, .ref q113, .int 0, .ref q115, .ref q124, .ref q133, .null, .int 0, .null, .null, .null])), (q115, .inr (10, [.int 16, .ref q122, .ref q123, .int 0])), (q124, .inr (10, [.int 16, .ref q131, .ref q132, .int 0])), (q133, .inr (10, [.int 16, .ref q140, .ref q141, .int 0])), (q142, .inl (k143, 40, .inl (fun _ => 0)))] := hD
  refine va_putF (D := (dC, dI)) (ci := 5) (v := .ref q142) (ty := .array .boolean) (C := RX5) (T := TX5) (N := 11) hx hb hts (fun _ h => List.mem_append_right _ h) tyX5 tyX5_ok nmX5 hown hK hP hD hS 0 rfl rfl 6 (by decide +kernel) (hts (.fieldLink RX5 39 "SpellTurner$Reform" "kept" "[Z") (List.mem_of_getElem? (i := 18) rfl)) (fun _ h9 => h9) rfl hin rfl (by decide +kernel) rfl rfl (Nat.le_of_ble_eq_true rfl) dX5_init_73 (fun H locs hP hD hS => ?_)
  have hP : va_P (dC, dI) vwCl [(h0, .inr (5, [.int 0, .ref q113, .int 0, .ref q115, .ref q124, .ref q133, .ref q142, .int 0, .null, .null, .null])), (q115, .inr (10, [.int 16, .ref q122, .ref q123, .int 0])), (q124, .inr (10, [.int 16, .ref q131, .ref q132, .int 0])), (q133, .inr (10, [.int 16, .ref q140, .ref q141, .int 0])), (q142, .inl (k143, 40, .inl (fun _ => 0)))] H := hP
  have hD : va_D A [(h0, .inr (5, [.int 0, .ref q113, .int 0, .ref q115, .ref q124, .ref q133, .ref q142, .int 0, .null, .null, .null])), (q115, .inr (10, [.int 16, .ref q122, .ref q123, .int 0])), (q124, .inr (10, [.int 16, .ref q131, .ref q132, .int 0])), (q133, .inr (10, [.int 16, .ref q140, .ref q141, .int 0])), (q142, .inl (k143, 40, .inl (fun _ => 0)))] := hD
  have hP := hP.sub (ws' := [(h0, .inr (5, [.int 0, .ref q113, .int 0, .ref q115, .ref q124, .ref q133, .ref q142, .int 0, .null, .null, .null])), (q115, .inr (10, [.int 16, .ref q122, .ref q123, .int 0])), (q124, .inr (10, [.int 16, .ref q131, .ref q132, .int 0])), (q133, .inr (10, [.int 16, .ref q140, .ref q141, .int 0]))]) [0, 1, 2, 3] rfl
  have hD := hD.sub (ws' := [(h0, .inr (5, [.int 0, .ref q113, .int 0, .ref q115, .ref q124, .ref q133, .ref q142, .int 0, .null, .null, .null])), (q115, .inr (10, [.int 16, .ref q122, .ref q123, .int 0])), (q124, .inr (10, [.int 16, .ref q131, .ref q132, .int 0])), (q133, .inr (10, [.int 16, .ref q140, .ref q141, .int 0]))]) [0, 1, 2, 3] (by decide +kernel) rfl
  refine lv_aload_n hx hb dX5_init_76 rfl (lv_at hl 0 rfl) ?_
  refine lv_iconst (v := 0) hx hb dX5_init_77 (by decide +kernel) ?_
  refine va_put (D := (dC, dI)) (ci := 5) (v := .int 0) (ty := .int) (C := RX5) (T := TX5) (N := 11) hx hb hts (fun _ h => List.mem_append_right _ h) tyX5 tyX5_ok nmX5 hown hK hP hD hS 0 rfl rfl 7 (by decide +kernel) (hts (.fieldLink RX5 43 "SpellTurner$Reform" "keptCount" "I") (List.mem_of_getElem? (i := 19) rfl)) (fun _ h9 => h9) rfl (by decide +kernel) rfl rfl (Nat.le_of_ble_eq_true rfl) dX5_init_78 (fun H locs hP hD hS => ?_)
  have hP : va_P (dC, dI) vwCl [(h0, .inr (5, [.int 0, .ref q113, .int 0, .ref q115, .ref q124, .ref q133, .ref q142, .int 0, .null, .null, .null])), (q115, .inr (10, [.int 16, .ref q122, .ref q123, .int 0])), (q124, .inr (10, [.int 16, .ref q131, .ref q132, .int 0])), (q133, .inr (10, [.int 16, .ref q140, .ref q141, .int 0]))] H := hP
  have hD : va_D A [(h0, .inr (5, [.int 0, .ref q113, .int 0, .ref q115, .ref q124, .ref q133, .ref q142, .int 0, .null, .null, .null])), (q115, .inr (10, [.int 16, .ref q122, .ref q123, .int 0])), (q124, .inr (10, [.int 16, .ref q131, .ref q132, .int 0])), (q133, .inr (10, [.int 16, .ref q140, .ref q141, .int 0]))] := hD
  refine lv_aload_n hx hb dX5_init_81 rfl (lv_at hl 0 rfl) ?_
  refine va_new (ci := 10) (fs := [.int 0, .null, .null, .int 0]) (C := RX10) (T := TX10) (N := 4) hx hb hts (fun _ h => List.mem_append_left _ (List.mem_append_right _ h)) tyX10 tyX10_ok hown (hts (.classLink RX5 24 RX10) (List.mem_of_getElem? (i := 5) rfl)) (hts (.instantiable RX10 4) (List.mem_of_getElem? (i := 6) rfl)) (hts (.initialized RX10) (List.mem_of_getElem? (i := 7) rfl)) hK hP hD hS hA rfl (fun j hj => match j, hj with | 0, _ => rfl | 1, _ => rfl | 2, _ => rfl | 3, _ => rfl | j + 4, hj => absurd hj (by omega)) (Nat.le_of_ble_eq_true rfl) (Nat.le_of_ble_eq_true rfl) dX5_init_82 (fun q144 H hP hD hS => ?_)
  have hP : va_P (dC, dI) vwCl [(h0, .inr (5, [.int 0, .ref q113, .int 0, .ref q115, .ref q124, .ref q133, .ref q142, .int 0, .null, .null, .null])), (q115, .inr (10, [.int 16, .ref q122, .ref q123, .int 0])), (q124, .inr (10, [.int 16, .ref q131, .ref q132, .int 0])), (q133, .inr (10, [.int 16, .ref q140, .ref q141, .int 0])), (q144, .inr (10, [.int 0, .null, .null, .int 0]))] H := hP
  have hD : va_D A [(h0, .inr (5, [.int 0, .ref q113, .int 0, .ref q115, .ref q124, .ref q133, .ref q142, .int 0, .null, .null, .null])), (q115, .inr (10, [.int 16, .ref q122, .ref q123, .int 0])), (q124, .inr (10, [.int 16, .ref q131, .ref q132, .int 0])), (q133, .inr (10, [.int 16, .ref q140, .ref q141, .int 0])), (q144, .inr (10, [.int 0, .null, .null, .int 0]))] := hD
  refine lv_dup hx hb dX5_init_85 rfl ?_
  refine lv_bipush (v := 40) hx hb dX5_init_86 (by decide +kernel) ?_
  refine lv_bipush (v := 24) hx hb dX5_init_88 (by decide +kernel) ?_
  have hPc := hP.sub (ws' := [(q144, .inr (10, [.int 0, .null, .null, .int 0]))]) [4] rfl
  have hDc := hD.sub (ws' := [(q144, .inr (10, [.int 0, .null, .null, .int 0]))]) [4] (by decide +kernel) rfl
  have hKc := hK.sub (tys' := []) [] rfl
  have hFc := va_free (wc := [(q144, .inr (10, [.int 0, .null, .null, .int 0]))]) hD hS hA [4] rfl
  refine va_callv (va_runI (As := [.int 40, .int 24]) (rest := [.ref q144, .ref h0]) ⟨hx, hb, hml, hown, hts⟩ (c_X10_init_1 l dC dI H.size q144) (cwI 2 hts gm_X5_init_X10_init rfl rfl rfl (hts (.initialized RX10) (List.mem_of_getElem? (i := 7) rfl)) (hts (.methodLink RX5 26 yX10_init) (List.mem_of_getElem? (i := 8) rfl)) (hts (.instanceMethod yX10_init) (List.mem_of_getElem? (i := 9) rfl)) rfl (by decide +kernel) ⟨Nat.le_of_ble_eq_true rfl, Nat.le_of_ble_eq_true rfl⟩) ⟨fun a U g mk q => by obtain ⟨q0, q1, qP, qK, qD⟩ := q; exact ⟨q0, q1, qP, va_K.moved (u := U) (U := U.calling g mk a) (Vm.Alike.refl U.vm) qK, qD⟩, fun U hU hW => ⟨rfl, by rw [hU], by rw [hU]; exact hPc, va_K.moved hW.alike hKc, hDc.weaken (fun _ _ _ _ => trivial)⟩⟩ rfl rfl hl.1 rfl (lv_room (Nat.le_of_ble_eq_true rfl)) dX5_init_90 ⟨Nat.le_of_ble_eq_true rfl, Nat.le_of_ble_eq_true rfl⟩) hS (fun q _ h => hFc q h) hFc (fun u t H1 locs ht hvm hw hB hz1 hk1 hS => ?_)
  obtain ⟨q151, q152, hP1, hK1, hD1⟩ := hB
  rw [ht] at hP1
  have hK1 := va_K.moved hvm.symm hK1
  obtain ⟨hP, hD⟩ := va_join (wr := [(h0, .inr (5, [.int 0, .ref q113, .int 0, .ref q115, .ref q124, .ref q133, .ref q142, .int 0, .null, .null, .null])), (q115, .inr (10, [.int 16, .ref q122, .ref q123, .int 0])), (q124, .inr (10, [.int 16, .ref q131, .ref q132, .int 0])), (q133, .inr (10, [.int 16, .ref q140, .ref q141, .int 0]))]) (w1 := [(q144, .inr (10, [.int 24, .ref q151, .ref q152, .int 0]))]) hP hD [4] [0, 1, 2, 3] rfl rfl (by decide +kernel) (by decide +kernel) hk1 hFc hP1 hD1
  have hK := (hK.sub (tys' := [(k114, .object RX1), (k143, .boolean)]) [0, 1] rfl).app hK1
  generalize H1 = H at hP hS ⊢
  have hK : va_K (dC, dI) vwCl [(k114, .object RX1), (k143, .boolean)] s := hK
  have hP : va_P (dC, dI) vwCl [(h0, .inr (5, [.int 0, .ref q113, .int 0, .ref q115, .ref q124, .ref q133, .ref q142, .int 0, .null, .null, .null])), (q115, .inr (10, [.int 16, .ref q122, .ref q123, .int 0])), (q124, .inr (10, [.int 16, .ref q131, .ref q132, .int 0])), (q133, .inr (10, [.int 16, .ref q140, .ref q141, .int 0])), (q144, .inr (10, [.int 24, .ref q151, .ref q152, .int 0]))] H := hP
  have hD : va_D A [(h0, .inr (5, [.int 0, .ref q113, .int 0, .ref q115, .ref q124, .ref q133, .ref q142, .int 0, .null, .null, .null])), (q115, .inr (10, [.int 16, .ref q122, .ref q123, .int 0])), (q124, .inr (10, [.int 16, .ref q131, .ref q132, .int 0])), (q133, .inr (10, [.int 16, .ref q140, .ref q141, .int 0])), (q144, .inr (10, [.int 24, .ref q151, .ref q152, .int 0]))] := hD
  refine va_putF (D := (dC, dI)) (ci := 5) (v := .ref q144) (ty := .object "SpellTurner$WordRow") (C := RX5) (T := TX5) (N := 11) hx hb hts (fun _ h => List.mem_append_right _ h) tyX5 tyX5_ok nmX5 hown hK hP hD hS 0 rfl rfl 8 (by decide +kernel) (hts (.fieldLink RX5 46 "SpellTurner$Reform" "turnedParts" "LSpellTurner$WordRow;") (List.mem_of_getElem? (i := 20) rfl)) (fun _ h9 => h9) rfl hin rfl (by decide +kernel) rfl rfl (Nat.le_of_ble_eq_true rfl) dX5_init_93 (fun H locs hP hD hS => ?_)
  have hP : va_P (dC, dI) vwCl [(h0, .inr (5, [.int 0, .ref q113, .int 0, .ref q115, .ref q124, .ref q133, .ref q142, .int 0, .ref q144, .null, .null])), (q115, .inr (10, [.int 16, .ref q122, .ref q123, .int 0])), (q124, .inr (10, [.int 16, .ref q131, .ref q132, .int 0])), (q133, .inr (10, [.int 16, .ref q140, .ref q141, .int 0])), (q144, .inr (10, [.int 24, .ref q151, .ref q152, .int 0]))] H := hP
  have hD : va_D A [(h0, .inr (5, [.int 0, .ref q113, .int 0, .ref q115, .ref q124, .ref q133, .ref q142, .int 0, .ref q144, .null, .null])), (q115, .inr (10, [.int 16, .ref q122, .ref q123, .int 0])), (q124, .inr (10, [.int 16, .ref q131, .ref q132, .int 0])), (q133, .inr (10, [.int 16, .ref q140, .ref q141, .int 0])), (q144, .inr (10, [.int 24, .ref q151, .ref q152, .int 0]))] := hD
  refine lv_aload_n hx hb dX5_init_96 rfl (lv_at hl 0 rfl) ?_
  refine lv_bipush (v := 40) hx hb dX5_init_97 (by decide +kernel) ?_
  refine va_newa (atype := .boolean) (a0 := (40, .inl (fun _ => 0))) (ty := .boolean) (N' := 40) hx hb (hts (.arrayClass .boolean) (List.mem_of_getElem? (i := 10) rfl)) rfl hK hP hD hS hA (fun _ => rfl) (by decide +kernel) (by decide +kernel) (by decide +kernel) (Nat.le_of_ble_eq_true rfl) (Nat.le_of_ble_eq_true rfl) dX5_init_99 (fun q153 k154 H hK hP hD hS => ?_)
  have hK : va_K (dC, dI) vwCl [(k114, .object RX1), (k143, .boolean), (k154, .boolean)] s := hK
  have hP : va_P (dC, dI) vwCl [(h0, .inr (5, [.int 0, .ref q113, .int 0, .ref q115, .ref q124, .ref q133, .ref q142, .int 0, .ref q144, .null, .null])), (q115, .inr (10, [.int 16, .ref q122, .ref q123, .int 0])), (q124, .inr (10, [.int 16, .ref q131, .ref q132, .int 0])), (q133, .inr (10, [.int 16, .ref q140, .ref q141, .int 0])), (q144, .inr (10, [.int 24, .ref q151, .ref q152, .int 0])), (q153, .inl (k154, 40, .inl (fun _ => 0)))] H := hP
  have hD : va_D A [(h0, .inr (5, [.int 0, .ref q113, .int 0, .ref q115, .ref q124, .ref q133, .ref q142, .int 0, .ref q144, .null, .null])), (q115, .inr (10, [.int 16, .ref q122, .ref q123, .int 0])), (q124, .inr (10, [.int 16, .ref q131, .ref q132, .int 0])), (q133, .inr (10, [.int 16, .ref q140, .ref q141, .int 0])), (q144, .inr (10, [.int 24, .ref q151, .ref q152, .int 0])), (q153, .inl (k154, 40, .inl (fun _ => 0)))] := hD
  refine va_putF (D := (dC, dI)) (ci := 5) (v := .ref q153) (ty := .array .boolean) (C := RX5) (T := TX5) (N := 11) hx hb hts (fun _ h => List.mem_append_right _ h) tyX5 tyX5_ok nmX5 hown hK hP hD hS 0 rfl rfl 9 (by decide +kernel) (hts (.fieldLink RX5 49 "SpellTurner$Reform" "partHolds" "[Z") (List.mem_of_getElem? (i := 21) rfl)) (fun _ h9 => h9) rfl hin rfl (by decide +kernel) rfl rfl (Nat.le_of_ble_eq_true rfl) dX5_init_101 (fun H locs hP hD hS => ?_)
  have hP : va_P (dC, dI) vwCl [(h0, .inr (5, [.int 0, .ref q113, .int 0, .ref q115, .ref q124, .ref q133, .ref q142, .int 0, .ref q144, .ref q153, .null])), (q115, .inr (10, [.int 16, .ref q122, .ref q123, .int 0])), (q124, .inr (10, [.int 16, .ref q131, .ref q132, .int 0])), (q133, .inr (10, [.int 16, .ref q140, .ref q141, .int 0])), (q144, .inr (10, [.int 24, .ref q151, .ref q152, .int 0])), (q153, .inl (k154, 40, .inl (fun _ => 0)))] H := hP
  have hD : va_D A [(h0, .inr (5, [.int 0, .ref q113, .int 0, .ref q115, .ref q124, .ref q133, .ref q142, .int 0, .ref q144, .ref q153, .null])), (q115, .inr (10, [.int 16, .ref q122, .ref q123, .int 0])), (q124, .inr (10, [.int 16, .ref q131, .ref q132, .int 0])), (q133, .inr (10, [.int 16, .ref q140, .ref q141, .int 0])), (q144, .inr (10, [.int 24, .ref q151, .ref q152, .int 0])), (q153, .inl (k154, 40, .inl (fun _ => 0)))] := hD
  have hP := hP.sub (ws' := [(h0, .inr (5, [.int 0, .ref q113, .int 0, .ref q115, .ref q124, .ref q133, .ref q142, .int 0, .ref q144, .ref q153, .null])), (q115, .inr (10, [.int 16, .ref q122, .ref q123, .int 0])), (q124, .inr (10, [.int 16, .ref q131, .ref q132, .int 0])), (q133, .inr (10, [.int 16, .ref q140, .ref q141, .int 0])), (q144, .inr (10, [.int 24, .ref q151, .ref q152, .int 0]))]) [0, 1, 2, 3, 4] rfl
  have hD := hD.sub (ws' := [(h0, .inr (5, [.int 0, .ref q113, .int 0, .ref q115, .ref q124, .ref q133, .ref q142, .int 0, .ref q144, .ref q153, .null])), (q115, .inr (10, [.int 16, .ref q122, .ref q123, .int 0])), (q124, .inr (10, [.int 16, .ref q131, .ref q132, .int 0])), (q133, .inr (10, [.int 16, .ref q140, .ref q141, .int 0])), (q144, .inr (10, [.int 24, .ref q151, .ref q152, .int 0]))]) [0, 1, 2, 3, 4] (by decide +kernel) rfl
  refine lv_aload_n hx hb dX5_init_104 rfl (lv_at hl 0 rfl) ?_
  refine lv_bipush (v := 40) hx hb dX5_init_105 (by decide +kernel) ?_
  refine va_newa (atype := .long) (a0 := (40, .inr (.inl (fun _ => 0)))) (ty := .long) (N' := 40) hx hb (hts (.arrayClass .long) (List.mem_of_getElem? (i := 11) rfl)) rfl hK hP hD hS hA (fun _ => rfl) (by decide +kernel) (by decide +kernel) (by decide +kernel) (Nat.le_of_ble_eq_true rfl) (Nat.le_of_ble_eq_true rfl) dX5_init_107 (fun q155 k156 H hK hP hD hS => ?_)
  have hK : va_K (dC, dI) vwCl [(k114, .object RX1), (k143, .boolean), (k154, .boolean), (k156, .long)] s := hK
  have hP : va_P (dC, dI) vwCl [(h0, .inr (5, [.int 0, .ref q113, .int 0, .ref q115, .ref q124, .ref q133, .ref q142, .int 0, .ref q144, .ref q153, .null])), (q115, .inr (10, [.int 16, .ref q122, .ref q123, .int 0])), (q124, .inr (10, [.int 16, .ref q131, .ref q132, .int 0])), (q133, .inr (10, [.int 16, .ref q140, .ref q141, .int 0])), (q144, .inr (10, [.int 24, .ref q151, .ref q152, .int 0])), (q155, .inl (k156, 40, .inr (.inl (fun _ => 0))))] H := hP
  have hD : va_D A [(h0, .inr (5, [.int 0, .ref q113, .int 0, .ref q115, .ref q124, .ref q133, .ref q142, .int 0, .ref q144, .ref q153, .null])), (q115, .inr (10, [.int 16, .ref q122, .ref q123, .int 0])), (q124, .inr (10, [.int 16, .ref q131, .ref q132, .int 0])), (q133, .inr (10, [.int 16, .ref q140, .ref q141, .int 0])), (q144, .inr (10, [.int 24, .ref q151, .ref q152, .int 0])), (q155, .inl (k156, 40, .inr (.inl (fun _ => 0))))] := hD
  refine va_putF (D := (dC, dI)) (ci := 5) (v := .ref q155) (ty := .array .long) (C := RX5) (T := TX5) (N := 11) hx hb hts (fun _ h => List.mem_append_right _ h) tyX5 tyX5_ok nmX5 hown hK hP hD hS 0 rfl rfl 10 (by decide +kernel) (hts (.fieldLink RX5 52 "SpellTurner$Reform" "partUses" "[J") (List.mem_of_getElem? (i := 22) rfl)) (fun _ h9 => h9) rfl hin rfl (by decide +kernel) rfl rfl (Nat.le_of_ble_eq_true rfl) dX5_init_109 (fun H locs hP hD hS => ?_)
  have hP : va_P (dC, dI) vwCl [(h0, .inr (5, [.int 0, .ref q113, .int 0, .ref q115, .ref q124, .ref q133, .ref q142, .int 0, .ref q144, .ref q153, .ref q155])), (q115, .inr (10, [.int 16, .ref q122, .ref q123, .int 0])), (q124, .inr (10, [.int 16, .ref q131, .ref q132, .int 0])), (q133, .inr (10, [.int 16, .ref q140, .ref q141, .int 0])), (q144, .inr (10, [.int 24, .ref q151, .ref q152, .int 0])), (q155, .inl (k156, 40, .inr (.inl (fun _ => 0))))] H := hP
  have hD : va_D A [(h0, .inr (5, [.int 0, .ref q113, .int 0, .ref q115, .ref q124, .ref q133, .ref q142, .int 0, .ref q144, .ref q153, .ref q155])), (q115, .inr (10, [.int 16, .ref q122, .ref q123, .int 0])), (q124, .inr (10, [.int 16, .ref q131, .ref q132, .int 0])), (q133, .inr (10, [.int 16, .ref q140, .ref q141, .int 0])), (q144, .inr (10, [.int 24, .ref q151, .ref q152, .int 0])), (q155, .inl (k156, 40, .inr (.inl (fun _ => 0))))] := hD
  have hP := hP.sub (ws' := [(h0, .inr (5, [.int 0, .ref q113, .int 0, .ref q115, .ref q124, .ref q133, .ref q142, .int 0, .ref q144, .ref q153, .ref q155])), (q115, .inr (10, [.int 16, .ref q122, .ref q123, .int 0])), (q124, .inr (10, [.int 16, .ref q131, .ref q132, .int 0])), (q133, .inr (10, [.int 16, .ref q140, .ref q141, .int 0])), (q144, .inr (10, [.int 24, .ref q151, .ref q152, .int 0]))]) [0, 1, 2, 3, 4] rfl
  have hD := hD.sub (ws' := [(h0, .inr (5, [.int 0, .ref q113, .int 0, .ref q115, .ref q124, .ref q133, .ref q142, .int 0, .ref q144, .ref q153, .ref q155])), (q115, .inr (10, [.int 16, .ref q122, .ref q123, .int 0])), (q124, .inr (10, [.int 16, .ref q131, .ref q132, .int 0])), (q133, .inr (10, [.int 16, .ref q140, .ref q141, .int 0])), (q144, .inr (10, [.int 24, .ref q151, .ref q152, .int 0]))]) [0, 1, 2, 3, 4] (by decide +kernel) rfl
  refine W.widen (k := 16) (n := 3216) (by omega) (by omega) ?_
  have hP9 := hP.sub (ws' := [(h0, .inr (5, [.int 0, .ref q113, .int 0, .ref q115, .ref q124, .ref q133, .ref q142, .int 0, .ref q144, .ref q153, .ref q155])), (q115, .inr (10, [.int 16, .ref q122, .ref q123, .int 0])), (q124, .inr (10, [.int 16, .ref q131, .ref q132, .int 0])), (q133, .inr (10, [.int 16, .ref q140, .ref q141, .int 0])), (q144, .inr (10, [.int 24, .ref q151, .ref q152, .int 0]))]) [0, 1, 2, 3, 4] rfl
  have hD9 := hD.sub (ws' := [(h0, .inr (5, [.int 0, .ref q113, .int 0, .ref q115, .ref q124, .ref q133, .ref q142, .int 0, .ref q144, .ref q153, .ref q155])), (q115, .inr (10, [.int 16, .ref q122, .ref q123, .int 0])), (q124, .inr (10, [.int 16, .ref q131, .ref q132, .int 0])), (q133, .inr (10, [.int 16, .ref q140, .ref q141, .int 0])), (q144, .inr (10, [.int 24, .ref q151, .ref q152, .int 0]))]) [0, 1, 2, 3, 4] (by decide +kernel) rfl
  have hK9 := hK.sub (tys' := []) [] rfl
  exact W.vret hx hb hr (fun t ht hW => ⟨⟨(), rfl, trivial, q113, q115, q124, q133, q142, q144, q153, q155, q122, q123, q131, q132, q140, q141, q151, q152, by rw [ht]; exact hP9, va_K.moved hW.alike hK9, hD9⟩, hS.F ht⟩) hS.2.2 dX5_init_112
set_option maxHeartbeats 4000000 in
set_option maxRecDepth 100000 in
theorem c_X4_init_0 (l : Launch) (dC : Nat → ClassId) (dI : Nat → Nat → Nat) (sz : Nat) (h0 : Nat) : Met l yX4_init wmX4_init ({ frames := 2, cells := 1, slots := 0, locals := 60 }) (va_Pc [.ref h0] (fun U => U.heap.size = sz ∧ va_P (dC, dI) vwCl [(h0, .inr (4, [.int 0, .int 0, .null, .int 0, .int 0, .int 0, .int 0, .int 0, .int 0]))] U.heap ∧ va_K (dC, dI) vwCl [] U ∧ va_D (fun _ => True) [(h0, .inr (4, [.int 0, .int 0, .null, .int 0, .int 0, .int 0, .int 0, .int 0, .int 0]))])) (va_Qv (fun _ : Unit => True) (fun _ t => ∃ (q176 : Nat), va_P (dC, dI) vwCl [(h0, .inr (4, [.int 0, .int (-1), .ref q176, .int 0, .int 0, .int 0, .int 0, .int 0, .int 0]))] t.heap ∧ va_K (dC, dI) vwCl [] t ∧ va_D (va_A [(h0, .inr (4, [.int 0, .int 0, .null, .int 0, .int 0, .int 0, .int 0, .int 0, .int 0]))] sz) [(h0, .inr (4, [.int 0, .int (-1), .ref q176, .int 0, .int 0, .int 0, .int 0, .int 0, .int 0]))]) (va_A [(h0, .inr (4, [.int 0, .int 0, .null, .int 0, .int 0, .int 0, .int 0, .int 0, .int 0]))] sz)) 1 0 (va_A [(h0, .inr (4, [.int 0, .int 0, .null, .int 0, .int 0, .int 0, .int 0, .int 0, .int 0]))] sz) := by
  refine Met.ofW (cc := cX4_init) (maxL := 1) (ret := none) (by decide +kernel) rfl ?_
  intro p e s m args below meth c s₁ B hml hv
  obtain ⟨rfl, hsz, hP, hK, hD0⟩ := hv
  have hx := B.exec
  have hb := B.bytes
  have hr := B.returns
  have hts := atoms_spec (ws := wmX4_init) B.pre
  have hown : s.vm.findClass RX4 = some m.cls := findClass_of_methodNamed B.named
  have hlocks := B.notSynchronized
  have hin : meth.name = "<init>" := (name_of_methodNamed B.named B.method).1
  subst hsz
  have hD := hD0.self (sz := s.heap.size)
  generalize hAe : va_A [(h0, .inr (4, [.int 0, .int 0, .null, .int 0, .int 0, .int 0, .int 0, .int 0, .int 0]))] s.heap.size = A at hD ⊢
  have hA : ∀ q : Nat, s.heap.size ≤ q → A q := fun q h => by rw [← hAe]; exact Or.inr h
  have hS : va_S A s.heap s.heap [] := va_S.rf
  have hP : va_P (dC, dI) vwCl [(h0, .inr (4, [.int 0, .int 0, .null, .int 0, .int 0, .int 0, .int 0, .int 0, .int 0]))] s.heap := hP
  have hl := lv_entry ([.ref h0]) (n := 1) (Nat.le_of_ble_eq_true rfl)
  rw [lg_entry_eq]
  generalize (lg_sl ([.ref h0]) ++ List.replicate (1 - (lg_sl ([.ref h0])).length) Slot.unset).toArray = ls at hl ⊢
  have hl : lv_has ls 1 [(0, .ref h0)] := hl
  refine lv_aload_n hx hb dX4_init_0 rfl (lv_at hl 0 rfl) ?_
  refine W.objInit hx hb hown (hts (.methodLink RX4 3 objectInit) (List.mem_of_getElem? (i := 1) rfl)) (hts (.instanceMethod objectInit) (List.mem_of_getElem? (i := 2) rfl)) (hts (.code objectInit ⟨#[0xb1]⟩ 1 none) (List.mem_of_getElem? (i := 3) rfl)) rfl (by rw [hml]; exact hl.1) rfl dX4_init_1 (Nat.le_of_ble_eq_true rfl) (Nat.le_of_ble_eq_true rfl) ?_
  refine W.eq (g2 := F0 m 4 ls []) rfl ?_
  refine lv_aload_n hx hb dX4_init_4 rfl (lv_at hl 0 rfl) ?_
  refine lv_iconst (v := 0) hx hb dX4_init_5 (by decide +kernel) ?_
  refine va_put (D := (dC, dI)) (ci := 4) (v := .int 0) (ty := .int) (C := RX4) (T := TX4) (N := 9) hx hb hts (fun _ h => List.mem_append_right _ h) tyX4 tyX4_ok nmX4 hown hK hP hD hS 0 rfl rfl 0 (by decide +kernel) (hts (.fieldLink RX4 9 "SpellTurner$Reader" "faultKind" "I") (List.mem_of_getElem? (i := 5) rfl)) (fun _ h9 => h9) rfl (by decide +kernel) rfl rfl (Nat.le_of_ble_eq_true rfl) dX4_init_6 (fun H locs hP hD hS => ?_)
  have hP : va_P (dC, dI) vwCl [(h0, .inr (4, [.int 0, .int 0, .null, .int 0, .int 0, .int 0, .int 0, .int 0, .int 0]))] H := hP
  have hD : va_D A [(h0, .inr (4, [.int 0, .int 0, .null, .int 0, .int 0, .int 0, .int 0, .int 0, .int 0]))] := hD
  refine lv_aload_n hx hb dX4_init_9 rfl (lv_at hl 0 rfl) ?_
  refine lv_iconst (v := (-1)) hx hb dX4_init_10 (by decide +kernel) ?_
  refine va_put (D := (dC, dI)) (ci := 4) (v := .int (-1)) (ty := .int) (C := RX4) (T := TX4) (N := 9) hx hb hts (fun _ h => List.mem_append_right _ h) tyX4 tyX4_ok nmX4 hown hK hP hD hS 0 rfl rfl 1 (by decide +kernel) (hts (.fieldLink RX4 15 "SpellTurner$Reader" "faultPlace" "I") (List.mem_of_getElem? (i := 6) rfl)) (fun _ h9 => h9) rfl (by decide +kernel) rfl rfl (Nat.le_of_ble_eq_true rfl) dX4_init_11 (fun H locs hP hD hS => ?_)
  have hP : va_P (dC, dI) vwCl [(h0, .inr (4, [.int 0, .int (-1), .null, .int 0, .int 0, .int 0, .int 0, .int 0, .int 0]))] H := hP
  have hD : va_D A [(h0, .inr (4, [.int 0, .int (-1), .null, .int 0, .int 0, .int 0, .int 0, .int 0, .int 0]))] := hD
  refine lv_aload_n hx hb dX4_init_14 rfl (lv_at hl 0 rfl) ?_
  refine lv_iconst (v := 0) hx hb dX4_init_15 (by decide +kernel) ?_
  refine va_newa (atype := .byte) (a0 := (0, .inl (fun _ => 0))) (ty := .byte) (N' := 0) hx hb (hts (.arrayClass .byte) (List.mem_of_getElem? (i := 4) rfl)) rfl hK hP hD hS hA (fun _ => rfl) (by decide +kernel) (by decide +kernel) (by decide +kernel) (Nat.le_of_ble_eq_true rfl) (Nat.le_of_ble_eq_true rfl) dX4_init_16 (fun q178 k179 H hK hP hD hS => ?_)
  have hK : va_K (dC, dI) vwCl [(k179, .byte)] s := hK
  have hP : va_P (dC, dI) vwCl [(h0, .inr (4, [.int 0, .int (-1), .null, .int 0, .int 0, .int 0, .int 0, .int 0, .int 0])), (q178, .inl (k179, 0, .inl (fun _ => 0)))] H := hP
  have hD : va_D A [(h0, .inr (4, [.int 0, .int (-1), .null, .int 0, .int 0, .int 0, .int 0, .int 0, .int 0])), (q178, .inl (k179, 0, .inl (fun _ => 0)))] := hD
  refine va_put (D := (dC, dI)) (ci := 4) (v := .ref q178) (ty := .array .byte) (C := RX4) (T := TX4) (N := 9) hx hb hts (fun _ h => List.mem_append_right _ h) tyX4 tyX4_ok nmX4 hown hK hP hD hS 0 rfl rfl 2 (by decide +kernel) (hts (.fieldLink RX4 18 "SpellTurner$Reader" "text" "[B") (List.mem_of_getElem? (i := 7) rfl)) (fun _ h9 => h9) rfl (by decide +kernel) rfl rfl (Nat.le_of_ble_eq_true rfl) dX4_init_18 (fun H locs hP hD hS => ?_)
  have hP : va_P (dC, dI) vwCl [(h0, .inr (4, [.int 0, .int (-1), .ref q178, .int 0, .int 0, .int 0, .int 0, .int 0, .int 0])), (q178, .inl (k179, 0, .inl (fun _ => 0)))] H := hP
  have hD : va_D A [(h0, .inr (4, [.int 0, .int (-1), .ref q178, .int 0, .int 0, .int 0, .int 0, .int 0, .int 0])), (q178, .inl (k179, 0, .inl (fun _ => 0)))] := hD
  have hP := hP.sub (ws' := [(h0, .inr (4, [.int 0, .int (-1), .ref q178, .int 0, .int 0, .int 0, .int 0, .int 0, .int 0]))]) [0] rfl
  have hD := hD.sub (ws' := [(h0, .inr (4, [.int 0, .int (-1), .ref q178, .int 0, .int 0, .int 0, .int 0, .int 0, .int 0]))]) [0] (by decide +kernel) rfl
  refine lv_aload_n hx hb dX4_init_21 rfl (lv_at hl 0 rfl) ?_
  refine lv_iconst (v := 0) hx hb dX4_init_22 (by decide +kernel) ?_
  refine va_put (D := (dC, dI)) (ci := 4) (v := .int 0) (ty := .int) (C := RX4) (T := TX4) (N := 9) hx hb hts (fun _ h => List.mem_append_right _ h) tyX4 tyX4_ok nmX4 hown hK hP hD hS 0 rfl rfl 3 (by decide +kernel) (hts (.fieldLink RX4 22 "SpellTurner$Reader" "size" "I") (List.mem_of_getElem? (i := 8) rfl)) (fun _ h9 => h9) rfl (by decide +kernel) rfl rfl (Nat.le_of_ble_eq_true rfl) dX4_init_23 (fun H locs hP hD hS => ?_)
  have hP : va_P (dC, dI) vwCl [(h0, .inr (4, [.int 0, .int (-1), .ref q178, .int 0, .int 0, .int 0, .int 0, .int 0, .int 0]))] H := hP
  have hD : va_D A [(h0, .inr (4, [.int 0, .int (-1), .ref q178, .int 0, .int 0, .int 0, .int 0, .int 0, .int 0]))] := hD
  refine lv_aload_n hx hb dX4_init_26 rfl (lv_at hl 0 rfl) ?_
  refine lv_iconst (v := 0) hx hb dX4_init_27 (by decide +kernel) ?_
  refine va_put (D := (dC, dI)) (ci := 4) (v := .int 0) (ty := .int) (C := RX4) (T := TX4) (N := 9) hx hb hts (fun _ h => List.mem_append_right _ h) tyX4 tyX4_ok nmX4 hown hK hP hD hS 0 rfl rfl 4 (by decide +kernel) (hts (.fieldLink RX4 25 "SpellTurner$Reader" "at" "I") (List.mem_of_getElem? (i := 9) rfl)) (fun _ h9 => h9) rfl (by decide +kernel) rfl rfl (Nat.le_of_ble_eq_true rfl) dX4_init_28 (fun H locs hP hD hS => ?_)
  have hP : va_P (dC, dI) vwCl [(h0, .inr (4, [.int 0, .int (-1), .ref q178, .int 0, .int 0, .int 0, .int 0, .int 0, .int 0]))] H := hP
  have hD : va_D A [(h0, .inr (4, [.int 0, .int (-1), .ref q178, .int 0, .int 0, .int 0, .int 0, .int 0, .int 0]))] := hD
  refine lv_aload_n hx hb dX4_init_31 rfl (lv_at hl 0 rfl) ?_
  refine lv_iconst (v := 0) hx hb dX4_init_32 (by decide +kernel) ?_
  refine va_put (D := (dC, dI)) (ci := 4) (v := .int 0) (ty := .int) (C := RX4) (T := TX4) (N := 9) hx hb hts (fun _ h => List.mem_append_right _ h) tyX4 tyX4_ok nmX4 hown hK hP hD hS 0 rfl rfl 5 (by decide +kernel) (hts (.fieldLink RX4 28 "SpellTurner$Reader" "token" "I") (List.mem_of_getElem? (i := 10) rfl)) (fun _ h9 => h9) rfl (by decide +kernel) rfl rfl (Nat.le_of_ble_eq_true rfl) dX4_init_33 (fun H locs hP hD hS => ?_)
  have hP : va_P (dC, dI) vwCl [(h0, .inr (4, [.int 0, .int (-1), .ref q178, .int 0, .int 0, .int 0, .int 0, .int 0, .int 0]))] H := hP
  have hD : va_D A [(h0, .inr (4, [.int 0, .int (-1), .ref q178, .int 0, .int 0, .int 0, .int 0, .int 0, .int 0]))] := hD
  refine lv_aload_n hx hb dX4_init_36 rfl (lv_at hl 0 rfl) ?_
  refine lv_iconst (v := 0) hx hb dX4_init_37 (by decide +kernel) ?_
  refine va_put (D := (dC, dI)) (ci := 4) (v := .int 0) (ty := .int) (C := RX4) (T := TX4) (N := 9) hx hb hts (fun _ h => List.mem_append_right _ h) tyX4 tyX4_ok nmX4 hown hK hP hD hS 0 rfl rfl 6 (by decide +kernel) (hts (.fieldLink RX4 31 "SpellTurner$Reader" "place" "I") (List.mem_of_getElem? (i := 11) rfl)) (fun _ h9 => h9) rfl (by decide +kernel) rfl rfl (Nat.le_of_ble_eq_true rfl) dX4_init_38 (fun H locs hP hD hS => ?_)
  have hP : va_P (dC, dI) vwCl [(h0, .inr (4, [.int 0, .int (-1), .ref q178, .int 0, .int 0, .int 0, .int 0, .int 0, .int 0]))] H := hP
  have hD : va_D A [(h0, .inr (4, [.int 0, .int (-1), .ref q178, .int 0, .int 0, .int 0, .int 0, .int 0, .int 0]))] := hD
  refine lv_aload_n hx hb dX4_init_41 rfl (lv_at hl 0 rfl) ?_
  refine lv_iconst (v := 0) hx hb dX4_init_42 (by decide +kernel) ?_
  refine va_put (D := (dC, dI)) (ci := 4) (v := .int 0) (ty := .int) (C := RX4) (T := TX4) (N := 9) hx hb hts (fun _ h => List.mem_append_right _ h) tyX4 tyX4_ok nmX4 hown hK hP hD hS 0 rfl rfl 7 (by decide +kernel) (hts (.fieldLink RX4 34 "SpellTurner$Reader" "start" "I") (List.mem_of_getElem? (i := 12) rfl)) (fun _ h9 => h9) rfl (by decide +kernel) rfl rfl (Nat.le_of_ble_eq_true rfl) dX4_init_43 (fun H locs hP hD hS => ?_)
  have hP : va_P (dC, dI) vwCl [(h0, .inr (4, [.int 0, .int (-1), .ref q178, .int 0, .int 0, .int 0, .int 0, .int 0, .int 0]))] H := hP
  have hD : va_D A [(h0, .inr (4, [.int 0, .int (-1), .ref q178, .int 0, .int 0, .int 0, .int 0, .int 0, .int 0]))] := hD
  refine lv_aload_n hx hb dX4_init_46 rfl (lv_at hl 0 rfl) ?_
  refine lv_iconst (v := 0) hx hb dX4_init_47 (by decide +kernel) ?_
  refine va_put (D := (dC, dI)) (ci := 4) (v := .int 0) (ty := .int) (C := RX4) (T := TX4) (N := 9) hx hb hts (fun _ h => List.mem_append_right _ h) tyX4 tyX4_ok nmX4 hown hK hP hD hS 0 rfl rfl 8 (by decide +kernel) (hts (.fieldLink RX4 37 "SpellTurner$Reader" "length" "I") (List.mem_of_getElem? (i := 13) rfl)) (fun _ h9 => h9) rfl (by decide +kernel) rfl rfl (Nat.le_of_ble_eq_true rfl) dX4_init_48 (fun H locs hP hD hS => ?_)
  have hP : va_P (dC, dI) vwCl [(h0, .inr (4, [.int 0, .int (-1), .ref q178, .int 0, .int 0, .int 0, .int 0, .int 0, .int 0]))] H := hP
  have hD : va_D A [(h0, .inr (4, [.int 0, .int (-1), .ref q178, .int 0, .int 0, .int 0, .int 0, .int 0, .int 0]))] := hD
  refine W.widen (k := 1) (n := 0) (by omega) (by omega) ?_
  have hP9 := hP.sub (ws' := [(h0, .inr (4, [.int 0, .int (-1), .ref q178, .int 0, .int 0, .int 0, .int 0, .int 0, .int 0]))]) [0] rfl
  have hD9 := hD.sub (ws' := [(h0, .inr (4, [.int 0, .int (-1), .ref q178, .int 0, .int 0, .int 0, .int 0, .int 0, .int 0]))]) [0] (by decide +kernel) rfl
  have hK9 := hK.sub (tys' := []) [] rfl
  exact W.vret hx hb hr (fun t ht hW => ⟨⟨(), rfl, trivial, q178, by rw [ht]; exact hP9, va_K.moved hW.alike hK9, hD9⟩, hS.F ht⟩) hS.2.2 dX4_init_51
