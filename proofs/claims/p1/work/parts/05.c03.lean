set_option maxHeartbeats 4000000 in
set_option maxRecDepth 100000 in
theorem c_X9_init_0 (l : Launch) (dC : Nat → ClassId) (dI : Nat → Nat → Nat) (sz : Nat) (h0 : Nat) : Met l yX9_init wmX9_init ({ frames := 4, cells := 18, slots := 1930, locals := 102 }) (va_Pc [.ref h0] (fun U => U.heap.size = sz ∧ va_P (dC, dI) vwCl [(h0, .inr (9, [.null, .null, .null, .int 0, .long 0, .null, .null, .null]))] U.heap ∧ va_K (dC, dI) vwCl [] U ∧ va_D (fun _ => True) [(h0, .inr (9, [.null, .null, .null, .int 0, .long 0, .null, .null, .null]))] ∧ EnvOK U)) (va_Qv (fun _ : Unit => True) (fun _ t => ∃ (q286 : Nat), ∃ (q311 : Nat), ∃ (q313 : Nat), ∃ (q315 : Nat), ∃ (q317 : Nat), ∃ (q325 : Nat), ∃ (q305 : Nat), ∃ (q306 : Nat), ∃ (q307 : Nat), ∃ (q308 : Nat), ∃ (q309 : Nat), ∃ (q310 : Nat), ∃ (q323 : Nat), ∃ (q324 : Nat), ∃ (q331 : Nat), ∃ (q332 : Nat), va_P (dC, dI) vwCl [(h0, .inr (9, [.ref q286, .ref q311, .ref q313, .int 0, .long 0, .ref q315, .ref q317, .ref q325])), (q286, .inr (3, [.int 0, .ref q305, .ref q306, .ref q307, .ref q308, .ref q309, .ref q310])), (q317, .inr (10, [.int 24, .ref q323, .ref q324, .int 0])), (q325, .inr (10, [.int 24, .ref q331, .ref q332, .int 0]))] t.heap ∧ va_K (dC, dI) vwCl [] t ∧ va_D (va_A [(h0, .inr (9, [.null, .null, .null, .int 0, .long 0, .null, .null, .null]))] sz) [(h0, .inr (9, [.ref q286, .ref q311, .ref q313, .int 0, .long 0, .ref q315, .ref q317, .ref q325])), (q286, .inr (3, [.int 0, .ref q305, .ref q306, .ref q307, .ref q308, .ref q309, .ref q310])), (q317, .inr (10, [.int 24, .ref q323, .ref q324, .int 0])), (q325, .inr (10, [.int 24, .ref q331, .ref q332, .int 0]))]) (va_A [(h0, .inr (9, [.null, .null, .null, .int 0, .long 0, .null, .null, .null]))] sz)) 18 1930 (va_A [(h0, .inr (9, [.null, .null, .null, .int 0, .long 0, .null, .null, .null]))] sz) := by
  refine Met.ofW (cc := cX9_init) (maxL := 1) (ret := none) (by decide +kernel) rfl ?_
  intro p e s m args below meth c s₁ B hml hv
  obtain ⟨rfl, hsz, hP, hK, hD0, hE⟩ := hv
  have hx := B.exec
  have hb := B.bytes
  have hr := B.returns
  have hts := atoms_spec (ws := wmX9_init) B.pre
  have hown : s.vm.findClass RX9 = some m.cls := findClass_of_methodNamed B.named
  have hlocks := B.notSynchronized
  have hin : meth.name = "<init>" := (name_of_methodNamed B.named B.method).1
  subst hsz
  have hD := hD0.self (sz := s.heap.size)
  generalize hAe : va_A [(h0, .inr (9, [.null, .null, .null, .int 0, .long 0, .null, .null, .null]))] s.heap.size = A at hD ⊢
  have hA : ∀ q : Nat, s.heap.size ≤ q → A q := fun q h => by rw [← hAe]; exact Or.inr h
  have hS : va_S A s.heap s.heap [] := va_S.rf
  have hP : va_P (dC, dI) vwCl [(h0, .inr (9, [.null, .null, .null, .int 0, .long 0, .null, .null, .null]))] s.heap := hP
  have hl := lv_entry ([.ref h0]) (n := 1) (Nat.le_of_ble_eq_true rfl)
  rw [lg_entry_eq]
  generalize (lg_sl ([.ref h0]) ++ List.replicate (1 - (lg_sl ([.ref h0])).length) Slot.unset).toArray = ls at hl ⊢
  have hl : lv_has ls 1 [(0, .ref h0)] := hl
  refine lv_aload_n hx hb dX9_init_0 rfl (lv_at hl 0 rfl) ?_
  refine W.objInit hx hb hown (hts (.methodLink RX9 3 objectInit) (List.mem_of_getElem? (i := 1) rfl)) (hts (.instanceMethod objectInit) (List.mem_of_getElem? (i := 2) rfl)) (hts (.code objectInit ⟨#[0xb1]⟩ 1 none) (List.mem_of_getElem? (i := 3) rfl)) rfl (by rw [hml]; exact hl.1) rfl dX9_init_1 (Nat.le_of_ble_eq_true rfl) (Nat.le_of_ble_eq_true rfl) ?_
  refine W.eq (g2 := F0 m 4 ls []) rfl ?_
  refine lv_aload_n hx hb dX9_init_4 rfl (lv_at hl 0 rfl) ?_
  refine va_new (ci := 3) (fs := [.int 0, .null, .null, .null, .null, .null, .null]) (C := RX3) (T := TX3) (N := 7) hx hb hts (fun _ h => List.mem_append_left _ (List.mem_append_left _ (List.mem_append_right _ h))) tyX3 tyX3_ok hown (hts (.classLink RX9 9 RX3) (List.mem_of_getElem? (i := 4) rfl)) (hts (.instantiable RX3 7) (List.mem_of_getElem? (i := 5) rfl)) (hts (.initialized RX3) (List.mem_of_getElem? (i := 6) rfl)) hK hP hD hS hA rfl (fun j hj => match j, hj with | 0, _ => rfl | 1, _ => rfl | 2, _ => rfl | 3, _ => rfl | 4, _ => rfl | 5, _ => rfl | 6, _ => rfl | j + 7, hj => absurd hj (by omega)) (Nat.le_of_ble_eq_true rfl) (Nat.le_of_ble_eq_true rfl) dX9_init_5 (fun q333 H hP hD hS => ?_)
  have hP : va_P (dC, dI) vwCl [(h0, .inr (9, [.null, .null, .null, .int 0, .long 0, .null, .null, .null])), (q333, .inr (3, [.int 0, .null, .null, .null, .null, .null, .null]))] H := hP
  have hD : va_D A [(h0, .inr (9, [.null, .null, .null, .int 0, .long 0, .null, .null, .null])), (q333, .inr (3, [.int 0, .null, .null, .null, .null, .null, .null]))] := hD
  refine lv_dup hx hb dX9_init_8 rfl ?_
  have hPc := hP.sub (ws' := [(q333, .inr (3, [.int 0, .null, .null, .null, .null, .null, .null]))]) [1] rfl
  have hDc := hD.sub (ws' := [(q333, .inr (3, [.int 0, .null, .null, .null, .null, .null, .null]))]) [1] (by decide +kernel) rfl
  have hKc := hK.sub (tys' := []) [] rfl
  have hFc := va_free (wc := [(q333, .inr (3, [.int 0, .null, .null, .null, .null, .null, .null]))]) hD hS hA [1] rfl
  refine va_callv (va_runIN (As := []) (rest := [.ref q333, .ref h0]) ⟨hx, hb, hml, hown, hts⟩ (c_X3_init_0 l dC dI H.size q333) ⟨va_cnB 0 hts gm_X9_init_X3_init rfl rfl rfl (en_nRX9_11 hE) (hts (.initialized RX3) (List.mem_of_getElem? (i := 6) rfl)) (by decide +kernel) ⟨Nat.le_of_ble_eq_true rfl, Nat.le_of_ble_eq_true rfl⟩, rfl, (hts (.instanceMethod yX3_init) (List.mem_of_getElem? (i := 7) rfl))⟩ ⟨fun a U g mk q => by obtain ⟨q0, q1, qP, qK, qD⟩ := q; exact ⟨q0, q1, qP, va_K.moved (u := U) (U := U.calling g mk a) (Vm.Alike.refl U.vm) qK, qD⟩, fun U hU hW => ⟨rfl, by rw [hU], by rw [hU]; exact hPc, va_K.moved hW.alike hKc, hDc.weaken (fun _ _ _ _ => trivial)⟩⟩ rfl rfl hl.1 rfl (lv_room (Nat.le_of_ble_eq_true rfl)) dX9_init_9 ⟨Nat.le_of_ble_eq_true rfl, Nat.le_of_ble_eq_true rfl⟩) hS (fun q _ h => hFc q h) hFc (fun u t H1 locs ht hvm hw hB hz1 hk1 hS => ?_)
  obtain ⟨q353, q354, q355, q356, q357, q358, hP1, hK1, hD1⟩ := hB
  rw [ht] at hP1
  have hK1 := va_K.moved hvm.symm hK1
  obtain ⟨hP, hD⟩ := va_join (wr := [(h0, .inr (9, [.null, .null, .null, .int 0, .long 0, .null, .null, .null]))]) (w1 := [(q333, .inr (3, [.int 0, .ref q353, .ref q354, .ref q355, .ref q356, .ref q357, .ref q358]))]) hP hD [1] [0] rfl rfl (by decide +kernel) (by decide +kernel) hk1 hFc hP1 hD1
  have hK := (hK.sub (tys' := []) [] rfl).app hK1
  generalize H1 = H at hP hS ⊢
  have hK : va_K (dC, dI) vwCl [] s := hK
  have hP : va_P (dC, dI) vwCl [(h0, .inr (9, [.null, .null, .null, .int 0, .long 0, .null, .null, .null])), (q333, .inr (3, [.int 0, .ref q353, .ref q354, .ref q355, .ref q356, .ref q357, .ref q358]))] H := hP
  have hD : va_D A [(h0, .inr (9, [.null, .null, .null, .int 0, .long 0, .null, .null, .null])), (q333, .inr (3, [.int 0, .ref q353, .ref q354, .ref q355, .ref q356, .ref q357, .ref q358]))] := hD
  refine va_putF (D := (dC, dI)) (ci := 9) (v := .ref q333) (ty := .object "SpellTurner$Partings") (C := RX9) (T := TX9) (N := 8) hx hb hts (fun _ h => List.mem_append_right _ h) tyX9 tyX9_ok nmX9 hown hK hP hD hS 0 rfl rfl 0 (by decide +kernel) (hts (.fieldLink RX9 12 "SpellTurner$Turner" "partings" "LSpellTurner$Partings;") (List.mem_of_getElem? (i := 14) rfl)) (fun _ h9 => h9) rfl hin rfl (by decide +kernel) rfl rfl (Nat.le_of_ble_eq_true rfl) dX9_init_12 (fun H locs hP hD hS => ?_)
  have hP : va_P (dC, dI) vwCl [(h0, .inr (9, [.ref q333, .null, .null, .int 0, .long 0, .null, .null, .null])), (q333, .inr (3, [.int 0, .ref q353, .ref q354, .ref q355, .ref q356, .ref q357, .ref q358]))] H := hP
  have hD : va_D A [(h0, .inr (9, [.ref q333, .null, .null, .int 0, .long 0, .null, .null, .null])), (q333, .inr (3, [.int 0, .ref q353, .ref q354, .ref q355, .ref q356, .ref q357, .ref q358]))] := hD
  refine lv_aload_n hx hb dX9_init_15 rfl (lv_at hl 0 rfl) ?_
  refine lv_bipush (v := 40) hx hb dX9_init_16 (by decide +kernel) ?_
  refine va_newa (atype := .byte) (a0 := (40, .inl (fun _ => 0))) (ty := .byte) (N' := 40) hx hb (hts (.arrayClass .byte) (List.mem_of_getElem? (i := 8) rfl)) rfl hK hP hD hS hA (fun _ => rfl) (by decide +kernel) (by decide +kernel) (by decide +kernel) (Nat.le_of_ble_eq_true rfl) (Nat.le_of_ble_eq_true rfl) dX9_init_18 (fun q359 k360 H hK hP hD hS => ?_)
  have hK : va_K (dC, dI) vwCl [(k360, .byte)] s := hK
  have hP : va_P (dC, dI) vwCl [(h0, .inr (9, [.ref q333, .null, .null, .int 0, .long 0, .null, .null, .null])), (q333, .inr (3, [.int 0, .ref q353, .ref q354, .ref q355, .ref q356, .ref q357, .ref q358])), (q359, .inl (k360, 40, .inl (fun _ => 0)))] H := hP
  have hD : va_D A [(h0, .inr (9, [.ref q333, .null, .null, .int 0, .long 0, .null, .null, .null])), (q333, .inr (3, [.int 0, .ref q353, .ref q354, .ref q355, .ref q356, .ref q357, .ref q358])), (q359, .inl (k360, 40, .inl (fun _ => 0)))] := hD
  refine va_put (D := (dC, dI)) (ci := 9) (v := .ref q359) (ty := .array .byte) (C := RX9) (T := TX9) (N := 8) hx hb hts (fun _ h => List.mem_append_right _ h) tyX9 tyX9_ok nmX9 hown hK hP hD hS 0 rfl rfl 1 (by decide +kernel) (hts (.fieldLink RX9 18 "SpellTurner$Turner" "now" "[B") (List.mem_of_getElem? (i := 15) rfl)) (fun _ h9 => h9) rfl (by decide +kernel) rfl rfl (Nat.le_of_ble_eq_true rfl) dX9_init_20 (fun H locs hP hD hS => ?_)
  have hP : va_P (dC, dI) vwCl [(h0, .inr (9, [.ref q333, .ref q359, .null, .int 0, .long 0, .null, .null, .null])), (q333, .inr (3, [.int 0, .ref q353, .ref q354, .ref q355, .ref q356, .ref q357, .ref q358])), (q359, .inl (k360, 40, .inl (fun _ => 0)))] H := hP
  have hD : va_D A [(h0, .inr (9, [.ref q333, .ref q359, .null, .int 0, .long 0, .null, .null, .null])), (q333, .inr (3, [.int 0, .ref q353, .ref q354, .ref q355, .ref q356, .ref q357, .ref q358])), (q359, .inl (k360, 40, .inl (fun _ => 0)))] := hD
  have hP := hP.sub (ws' := [(h0, .inr (9, [.ref q333, .ref q359, .null, .int 0, .long 0, .null, .null, .null])), (q333, .inr (3, [.int 0, .ref q353, .ref q354, .ref q355, .ref q356, .ref q357, .ref q358]))]) [0, 1] rfl
  have hD := hD.sub (ws' := [(h0, .inr (9, [.ref q333, .ref q359, .null, .int 0, .long 0, .null, .null, .null])), (q333, .inr (3, [.int 0, .ref q353, .ref q354, .ref q355, .ref q356, .ref q357, .ref q358]))]) [0, 1] (by decide +kernel) rfl
  refine lv_aload_n hx hb dX9_init_23 rfl (lv_at hl 0 rfl) ?_
  refine lv_bipush (v := 40) hx hb dX9_init_24 (by decide +kernel) ?_
  refine va_newa (atype := .byte) (a0 := (40, .inl (fun _ => 0))) (ty := .byte) (N' := 40) hx hb (hts (.arrayClass .byte) (List.mem_of_getElem? (i := 8) rfl)) rfl hK hP hD hS hA (fun _ => rfl) (by decide +kernel) (by decide +kernel) (by decide +kernel) (Nat.le_of_ble_eq_true rfl) (Nat.le_of_ble_eq_true rfl) dX9_init_26 (fun q361 k362 H hK hP hD hS => ?_)
  have hK : va_K (dC, dI) vwCl [(k360, .byte), (k362, .byte)] s := hK
  have hP : va_P (dC, dI) vwCl [(h0, .inr (9, [.ref q333, .ref q359, .null, .int 0, .long 0, .null, .null, .null])), (q333, .inr (3, [.int 0, .ref q353, .ref q354, .ref q355, .ref q356, .ref q357, .ref q358])), (q361, .inl (k362, 40, .inl (fun _ => 0)))] H := hP
  have hD : va_D A [(h0, .inr (9, [.ref q333, .ref q359, .null, .int 0, .long 0, .null, .null, .null])), (q333, .inr (3, [.int 0, .ref q353, .ref q354, .ref q355, .ref q356, .ref q357, .ref q358])), (q361, .inl (k362, 40, .inl (fun _ => 0)))] := hD
  refine va_put (D := (dC, dI)) (ci := 9) (v := .ref q361) (ty := .array .byte) (C := RX9) (T := TX9) (N := 8) hx hb hts (fun _ h => List.mem_append_right _ h) tyX9 tyX9_ok nmX9 hown hK hP hD hS 0 rfl rfl 2 (by decide +kernel) (hts (.fieldLink RX9 22 "SpellTurner$Turner" "next" "[B") (List.mem_of_getElem? (i := 16) rfl)) (fun _ h9 => h9) rfl (by decide +kernel) rfl rfl (Nat.le_of_ble_eq_true rfl) dX9_init_28 (fun H locs hP hD hS => ?_)
  have hP : va_P (dC, dI) vwCl [(h0, .inr (9, [.ref q333, .ref q359, .ref q361, .int 0, .long 0, .null, .null, .null])), (q333, .inr (3, [.int 0, .ref q353, .ref q354, .ref q355, .ref q356, .ref q357, .ref q358])), (q361, .inl (k362, 40, .inl (fun _ => 0)))] H := hP
  have hD : va_D A [(h0, .inr (9, [.ref q333, .ref q359, .ref q361, .int 0, .long 0, .null, .null, .null])), (q333, .inr (3, [.int 0, .ref q353, .ref q354, .ref q355, .ref q356, .ref q357, .ref q358])), (q361, .inl (k362, 40, .inl (fun _ => 0)))] := hD
  have hP := hP.sub (ws' := [(h0, .inr (9, [.ref q333, .ref q359, .ref q361, .int 0, .long 0, .null, .null, .null])), (q333, .inr (3, [.int 0, .ref q353, .ref q354, .ref q355, .ref q356, .ref q357, .ref q358]))]) [0, 1] rfl
  have hD := hD.sub (ws' := [(h0, .inr (9, [.ref q333, .ref q359, .ref q361, .int 0, .long 0, .null, .null, .null])), (q333, .inr (3, [.int 0, .ref q353, .ref q354, .ref q355, .ref q356, .ref q357, .ref q358]))]) [0, 1] (by decide +kernel) rfl
  refine lv_aload_n hx hb dX9_init_31 rfl (lv_at hl 0 rfl) ?_
  refine lv_iconst (v := 0) hx hb dX9_init_32 (by decide +kernel) ?_
  refine va_put (D := (dC, dI)) (ci := 9) (v := .int 0) (ty := .int) (C := RX9) (T := TX9) (N := 8) hx hb hts (fun _ h => List.mem_append_right _ h) tyX9 tyX9_ok nmX9 hown hK hP hD hS 0 rfl rfl 3 (by decide +kernel) (hts (.fieldLink RX9 25 "SpellTurner$Turner" "length" "I") (List.mem_of_getElem? (i := 17) rfl)) (fun _ h9 => h9) rfl (by decide +kernel) rfl rfl (Nat.le_of_ble_eq_true rfl) dX9_init_33 (fun H locs hP hD hS => ?_)
  have hP : va_P (dC, dI) vwCl [(h0, .inr (9, [.ref q333, .ref q359, .ref q361, .int 0, .long 0, .null, .null, .null])), (q333, .inr (3, [.int 0, .ref q353, .ref q354, .ref q355, .ref q356, .ref q357, .ref q358]))] H := hP
  have hD : va_D A [(h0, .inr (9, [.ref q333, .ref q359, .ref q361, .int 0, .long 0, .null, .null, .null])), (q333, .inr (3, [.int 0, .ref q353, .ref q354, .ref q355, .ref q356, .ref q357, .ref q358]))] := hD
  refine lv_aload_n hx hb dX9_init_36 rfl (lv_at hl 0 rfl) ?_
  refine lv_lconst (v := 0) hx hb dX9_init_37 (by decide +kernel) ?_
  refine va_put (D := (dC, dI)) (ci := 9) (v := .long 0) (ty := .long) (C := RX9) (T := TX9) (N := 8) hx hb hts (fun _ h => List.mem_append_right _ h) tyX9 tyX9_ok nmX9 hown hK hP hD hS 0 rfl rfl 4 (by decide +kernel) (hts (.fieldLink RX9 29 "SpellTurner$Turner" "used" "J") (List.mem_of_getElem? (i := 18) rfl)) (fun _ h9 => h9) rfl (by decide +kernel) rfl rfl (Nat.le_of_ble_eq_true rfl) dX9_init_38 (fun H locs hP hD hS => ?_)
  have hP : va_P (dC, dI) vwCl [(h0, .inr (9, [.ref q333, .ref q359, .ref q361, .int 0, .long 0, .null, .null, .null])), (q333, .inr (3, [.int 0, .ref q353, .ref q354, .ref q355, .ref q356, .ref q357, .ref q358]))] H := hP
  have hD : va_D A [(h0, .inr (9, [.ref q333, .ref q359, .ref q361, .int 0, .long 0, .null, .null, .null])), (q333, .inr (3, [.int 0, .ref q353, .ref q354, .ref q355, .ref q356, .ref q357, .ref q358]))] := hD
  refine lv_aload_n hx hb dX9_init_41 rfl (lv_at hl 0 rfl) ?_
  refine lv_bipush (v := 24) hx hb dX9_init_42 (by decide +kernel) ?_
  refine va_newa (atype := .byte) (a0 := (24, .inl (fun _ => 0))) (ty := .byte) (N' := 24) hx hb (hts (.arrayClass .byte) (List.mem_of_getElem? (i := 8) rfl)) rfl hK hP hD hS hA (fun _ => rfl) (by decide +kernel) (by decide +kernel) (by decide +kernel) (Nat.le_of_ble_eq_true rfl) (Nat.le_of_ble_eq_true rfl) dX9_init_44 (fun q363 k364 H hK hP hD hS => ?_)
  have hK : va_K (dC, dI) vwCl [(k360, .byte), (k362, .byte), (k364, .byte)] s := hK
  have hP : va_P (dC, dI) vwCl [(h0, .inr (9, [.ref q333, .ref q359, .ref q361, .int 0, .long 0, .null, .null, .null])), (q333, .inr (3, [.int 0, .ref q353, .ref q354, .ref q355, .ref q356, .ref q357, .ref q358])), (q363, .inl (k364, 24, .inl (fun _ => 0)))] H := hP
  have hD : va_D A [(h0, .inr (9, [.ref q333, .ref q359, .ref q361, .int 0, .long 0, .null, .null, .null])), (q333, .inr (3, [.int 0, .ref q353, .ref q354, .ref q355, .ref q356, .ref q357, .ref q358])), (q363, .inl (k364, 24, .inl (fun _ => 0)))] := hD
  refine va_putF (D := (dC, dI)) (ci := 9) (v := .ref q363) (ty := .array .byte) (C := RX9) (T := TX9) (N := 8) hx hb hts (fun _ h => List.mem_append_right _ h) tyX9 tyX9_ok nmX9 hown hK hP hD hS 0 rfl rfl 5 (by decide +kernel) (hts (.fieldLink RX9 33 "SpellTurner$Turner" "whole" "[B") (List.mem_of_getElem? (i := 19) rfl)) (fun _ h9 => h9) rfl hin rfl (by decide +kernel) rfl rfl (Nat.le_of_ble_eq_true rfl) dX9_init_46 (fun H locs hP hD hS => ?_)
  have hP : va_P (dC, dI) vwCl [(h0, .inr (9, [.ref q333, .ref q359, .ref q361, .int 0, .long 0, .ref q363, .null, .null])), (q333, .inr (3, [.int 0, .ref q353, .ref q354, .ref q355, .ref q356, .ref q357, .ref q358])), (q363, .inl (k364, 24, .inl (fun _ => 0)))] H := hP
  have hD : va_D A [(h0, .inr (9, [.ref q333, .ref q359, .ref q361, .int 0, .long 0, .ref q363, .null, .null])), (q333, .inr (3, [.int 0, .ref q353, .ref q354, .ref q355, .ref q356, .ref q357, .ref q358])), (q363, .inl (k364, 24, .inl (fun _ => 0)))] := hD
  have hP := hP.sub (ws' := [(h0, .inr (9, [.ref q333, .ref q359, .ref q361, .int 0, .long 0, .ref q363, .null, .null])), (q333, .inr (3, [.int 0, .ref q353, .ref q354, .ref q355, .ref q356, .ref q357, .ref q358]))]) [0, 1] rfl
  have hD := hD.sub (ws' := [(h0, .inr (9, [.ref q333, .ref q359, .ref q361, .int 0, .long 0, .ref q363, .null, .null])), (q333, .inr (3, [.int 0, .ref q353, .ref q354, .ref q355, .ref q356, .ref q357, .ref q358]))]) [0, 1] (by decide +kernel) rfl
  refine lv_aload_n hx hb dX9_init_49 rfl (lv_at hl 0 rfl) ?_
  refine va_new (ci := 10) (fs := [.int 0, .null, .null, .int 0]) (C := RX10) (T := TX10) (N := 4) hx hb hts (fun _ h => List.mem_append_left _ (List.mem_append_right _ h)) tyX10 tyX10_ok hown (hts (.classLink RX9 36 RX10) (List.mem_of_getElem? (i := 9) rfl)) (hts (.instantiable RX10 4) (List.mem_of_getElem? (i := 10) rfl)) (hts (.initialized RX10) (List.mem_of_getElem? (i := 11) rfl)) hK hP hD hS hA rfl (fun j hj => match j, hj with | 0, _ => rfl | 1, _ => rfl | 2, _ => rfl | 3, _ => rfl | j + 4, hj => absurd hj (by omega)) (Nat.le_of_ble_eq_true rfl) (Nat.le_of_ble_eq_true rfl) dX9_init_50 (fun q365 H hP hD hS => ?_)
  have hP : va_P (dC, dI) vwCl [(h0, .inr (9, [.ref q333, .ref q359, .ref q361, .int 0, .long 0, .ref q363, .null, .null])), (q333, .inr (3, [.int 0, .ref q353, .ref q354, .ref q355, .ref q356, .ref q357, .ref q358])), (q365, .inr (10, [.int 0, .null, .null, .int 0]))] H := hP
  have hD : va_D A [(h0, .inr (9, [.ref q333, .ref q359, .ref q361, .int 0, .long 0, .ref q363, .null, .null])), (q333, .inr (3, [.int 0, .ref q353, .ref q354, .ref q355, .ref q356, .ref q357, .ref q358])), (q365, .inr (10, [.int 0, .null, .null, .int 0]))] := hD
  refine lv_dup hx hb dX9_init_53 rfl ?_
  refine lv_bipush (v := 12) hx hb dX9_init_54 (by decide +kernel) ?_
  refine lv_bipush (v := 24) hx hb dX9_init_56 (by decide +kernel) ?_
  have hPc := hP.sub (ws' := [(q365, .inr (10, [.int 0, .null, .null, .int 0]))]) [2] rfl
  have hDc := hD.sub (ws' := [(q365, .inr (10, [.int 0, .null, .null, .int 0]))]) [2] (by decide +kernel) rfl
  have hKc := hK.sub (tys' := []) [] rfl
  have hFc := va_free (wc := [(q365, .inr (10, [.int 0, .null, .null, .int 0]))]) hD hS hA [2] rfl
  refine va_callv (va_runI (As := [.int 12, .int 24]) (rest := [.ref q365, .ref h0]) ⟨hx, hb, hml, hown, hts⟩ (c_X10_init_3 l dC dI H.size q365) (cwI 2 hts gm_X9_init_X10_init rfl rfl rfl (hts (.initialized RX10) (List.mem_of_getElem? (i := 11) rfl)) (hts (.methodLink RX9 38 yX10_init) (List.mem_of_getElem? (i := 12) rfl)) (hts (.instanceMethod yX10_init) (List.mem_of_getElem? (i := 13) rfl)) rfl (by decide +kernel) ⟨Nat.le_of_ble_eq_true rfl, Nat.le_of_ble_eq_true rfl⟩) ⟨fun a U g mk q => by obtain ⟨q0, q1, qP, qK, qD⟩ := q; exact ⟨q0, q1, qP, va_K.moved (u := U) (U := U.calling g mk a) (Vm.Alike.refl U.vm) qK, qD⟩, fun U hU hW => ⟨rfl, by rw [hU], by rw [hU]; exact hPc, va_K.moved hW.alike hKc, hDc.weaken (fun _ _ _ _ => trivial)⟩⟩ rfl rfl hl.1 rfl (lv_room (Nat.le_of_ble_eq_true rfl)) dX9_init_58 ⟨Nat.le_of_ble_eq_true rfl, Nat.le_of_ble_eq_true rfl⟩) hS (fun q _ h => hFc q h) hFc (fun u t H1 locs ht hvm hw hB hz1 hk1 hS => ?_)
  obtain ⟨q372, q373, hP1, hK1, hD1⟩ := hB
  rw [ht] at hP1
  have hK1 := va_K.moved hvm.symm hK1
  obtain ⟨hP, hD⟩ := va_join (wr := [(h0, .inr (9, [.ref q333, .ref q359, .ref q361, .int 0, .long 0, .ref q363, .null, .null])), (q333, .inr (3, [.int 0, .ref q353, .ref q354, .ref q355, .ref q356, .ref q357, .ref q358]))]) (w1 := [(q365, .inr (10, [.int 24, .ref q372, .ref q373, .int 0]))]) hP hD [2] [0, 1] rfl rfl (by decide +kernel) (by decide +kernel) hk1 hFc hP1 hD1
  have hK := (hK.sub (tys' := [(k360, .byte), (k362, .byte), (k364, .byte)]) [0, 1, 2] rfl).app hK1
  generalize H1 = H at hP hS ⊢
  have hK : va_K (dC, dI) vwCl [(k360, .byte), (k362, .byte), (k364, .byte)] s := hK
  have hP : va_P (dC, dI) vwCl [(h0, .inr (9, [.ref q333, .ref q359, .ref q361, .int 0, .long 0, .ref q363, .null, .null])), (q333, .inr (3, [.int 0, .ref q353, .ref q354, .ref q355, .ref q356, .ref q357, .ref q358])), (q365, .inr (10, [.int 24, .ref q372, .ref q373, .int 0]))] H := hP
  have hD : va_D A [(h0, .inr (9, [.ref q333, .ref q359, .ref q361, .int 0, .long 0, .ref q363, .null, .null])), (q333, .inr (3, [.int 0, .ref q353, .ref q354, .ref q355, .ref q356, .ref q357, .ref q358])), (q365, .inr (10, [.int 24, .ref q372, .ref q373, .int 0]))] := hD
  refine va_put (D := (dC, dI)) (ci := 9) (v := .ref q365) (ty := .object "SpellTurner$WordRow") (C := RX9) (T := TX9) (N := 8) hx hb hts (fun _ h => List.mem_append_right _ h) tyX9 tyX9_ok nmX9 hown hK hP hD hS 0 rfl rfl 6 (by decide +kernel) (hts (.fieldLink RX9 41 "SpellTurner$Turner" "ahead" "LSpellTurner$WordRow;") (List.mem_of_getElem? (i := 20) rfl)) (fun _ h9 => h9) rfl (by decide +kernel) rfl rfl (Nat.le_of_ble_eq_true rfl) dX9_init_61 (fun H locs hP hD hS => ?_)
  have hP : va_P (dC, dI) vwCl [(h0, .inr (9, [.ref q333, .ref q359, .ref q361, .int 0, .long 0, .ref q363, .ref q365, .null])), (q333, .inr (3, [.int 0, .ref q353, .ref q354, .ref q355, .ref q356, .ref q357, .ref q358])), (q365, .inr (10, [.int 24, .ref q372, .ref q373, .int 0]))] H := hP
  have hD : va_D A [(h0, .inr (9, [.ref q333, .ref q359, .ref q361, .int 0, .long 0, .ref q363, .ref q365, .null])), (q333, .inr (3, [.int 0, .ref q353, .ref q354, .ref q355, .ref q356, .ref q357, .ref q358])), (q365, .inr (10, [.int 24, .ref q372, .ref q373, .int 0]))] := hD
  refine lv_aload_n hx hb dX9_init_64 rfl (lv_at hl 0 rfl) ?_
  refine va_new (ci := 10) (fs := [.int 0, .null, .null, .int 0]) (C := RX10) (T := TX10) (N := 4) hx hb hts (fun _ h => List.mem_append_left _ (List.mem_append_right _ h)) tyX10 tyX10_ok hown (hts (.classLink RX9 36 RX10) (List.mem_of_getElem? (i := 9) rfl)) (hts (.instantiable RX10 4) (List.mem_of_getElem? (i := 10) rfl)) (hts (.initialized RX10) (List.mem_of_getElem? (i := 11) rfl)) hK hP hD hS hA rfl (fun j hj => match j, hj with | 0, _ => rfl | 1, _ => rfl | 2, _ => rfl | 3, _ => rfl | j + 4, hj => absurd hj (by omega)) (Nat.le_of_ble_eq_true rfl) (Nat.le_of_ble_eq_true rfl) dX9_init_65 (fun q374 H hP hD hS => ?_)
  have hP : va_P (dC, dI) vwCl [(h0, .inr (9, [.ref q333, .ref q359, .ref q361, .int 0, .long 0, .ref q363, .ref q365, .null])), (q333, .inr (3, [.int 0, .ref q353, .ref q354, .ref q355, .ref q356, .ref q357, .ref q358])), (q365, .inr (10, [.int 24, .ref q372, .ref q373, .int 0])), (q374, .inr (10, [.int 0, .null, .null, .int 0]))] H := hP
  have hD : va_D A [(h0, .inr (9, [.ref q333, .ref q359, .ref q361, .int 0, .long 0, .ref q363, .ref q365, .null])), (q333, .inr (3, [.int 0, .ref q353, .ref q354, .ref q355, .ref q356, .ref q357, .ref q358])), (q365, .inr (10, [.int 24, .ref q372, .ref q373, .int 0])), (q374, .inr (10, [.int 0, .null, .null, .int 0]))] := hD
  refine lv_dup hx hb dX9_init_68 rfl ?_
  refine lv_bipush (v := 12) hx hb dX9_init_69 (by decide +kernel) ?_
  refine lv_bipush (v := 24) hx hb dX9_init_71 (by decide +kernel) ?_
  have hPc := hP.sub (ws' := [(q374, .inr (10, [.int 0, .null, .null, .int 0]))]) [3] rfl
  have hDc := hD.sub (ws' := [(q374, .inr (10, [.int 0, .null, .null, .int 0]))]) [3] (by decide +kernel) rfl
  have hKc := hK.sub (tys' := []) [] rfl
  have hFc := va_free (wc := [(q374, .inr (10, [.int 0, .null, .null, .int 0]))]) hD hS hA [3] rfl
  refine va_callv (va_runI (As := [.int 12, .int 24]) (rest := [.ref q374, .ref h0]) ⟨hx, hb, hml, hown, hts⟩ (c_X10_init_3 l dC dI H.size q374) (cwI 2 hts gm_X9_init_X10_init rfl rfl rfl (hts (.initialized RX10) (List.mem_of_getElem? (i := 11) rfl)) (hts (.methodLink RX9 38 yX10_init) (List.mem_of_getElem? (i := 12) rfl)) (hts (.instanceMethod yX10_init) (List.mem_of_getElem? (i := 13) rfl)) rfl (by decide +kernel) ⟨Nat.le_of_ble_eq_true rfl, Nat.le_of_ble_eq_true rfl⟩) ⟨fun a U g mk q => by obtain ⟨q0, q1, qP, qK, qD⟩ := q; exact ⟨q0, q1, qP, va_K.moved (u := U) (U := U.calling g mk a) (Vm.Alike.refl U.vm) qK, qD⟩, fun U hU hW => ⟨rfl, by rw [hU], by rw [hU]; exact hPc, va_K.moved hW.alike hKc, hDc.weaken (fun _ _ _ _ => trivial)⟩⟩ rfl rfl hl.1 rfl (lv_room (Nat.le_of_ble_eq_true rfl)) dX9_init_73 ⟨Nat.le_of_ble_eq_true rfl, Nat.le_of_ble_eq_true rfl⟩) hS (fun q _ h => hFc q h) hFc (fun u t H1 locs ht hvm hw hB hz1 hk1 hS => ?_)
  obtain ⟨q381, q382, hP1, hK1, hD1⟩ := hB
  rw [ht] at hP1
  have hK1 := va_K.moved hvm.symm hK1
  obtain ⟨hP, hD⟩ := va_join (wr := [(h0, .inr (9, [.ref q333, .ref q359, .ref q361, .int 0, .long 0, .ref q363, .ref q365, .null])), (q333, .inr (3, [.int 0, .ref q353, .ref q354, .ref q355, .ref q356, .ref q357, .ref q358])), (q365, .inr (10, [.int 24, .ref q372, .ref q373, .int 0]))]) (w1 := [(q374, .inr (10, [.int 24, .ref q381, .ref q382, .int 0]))]) hP hD [3] [0, 1, 2] rfl rfl (by decide +kernel) (by decide +kernel) hk1 hFc hP1 hD1
  have hK := (hK.sub (tys' := [(k360, .byte), (k362, .byte), (k364, .byte)]) [0, 1, 2] rfl).app hK1
  generalize H1 = H at hP hS ⊢
  have hK : va_K (dC, dI) vwCl [(k360, .byte), (k362, .byte), (k364, .byte)] s := hK
  have hP : va_P (dC, dI) vwCl [(h0, .inr (9, [.ref q333, .ref q359, .ref q361, .int 0, .long 0, .ref q363, .ref q365, .null])), (q333, .inr (3, [.int 0, .ref q353, .ref q354, .ref q355, .ref q356, .ref q357, .ref q358])), (q365, .inr (10, [.int 24, .ref q372, .ref q373, .int 0])), (q374, .inr (10, [.int 24, .ref q381, .ref q382, .int 0]))] H := hP
  have hD : va_D A [(h0, .inr (9, [.ref q333, .ref q359, .ref q361, .int 0, .long 0, .ref q363, .ref q365, .null])), (q333, .inr (3, [.int 0, .ref q353, .ref q354, .ref q355, .ref q356, .ref q357, .ref q358])), (q365, .inr (10, [.int 24, .ref q372, .ref q373, .int 0])), (q374, .inr (10, [.int 24, .ref q381, .ref q382, .int 0]))] := hD
  refine va_put (D := (dC, dI)) (ci := 9) (v := .ref q374) (ty := .object "SpellTurner$WordRow") (C := RX9) (T := TX9) (N := 8) hx hb hts (fun _ h => List.mem_append_right _ h) tyX9 tyX9_ok nmX9 hown hK hP hD hS 0 rfl rfl 7 (by decide +kernel) (hts (.fieldLink RX9 45 "SpellTurner$Turner" "behind" "LSpellTurner$WordRow;") (List.mem_of_getElem? (i := 21) rfl)) (fun _ h9 => h9) rfl (by decide +kernel) rfl rfl (Nat.le_of_ble_eq_true rfl) dX9_init_76 (fun H locs hP hD hS => ?_)
  have hP : va_P (dC, dI) vwCl [(h0, .inr (9, [.ref q333, .ref q359, .ref q361, .int 0, .long 0, .ref q363, .ref q365, .ref q374])), (q333, .inr (3, [.int 0, .ref q353, .ref q354, .ref q355, .ref q356, .ref q357, .ref q358])), (q365, .inr (10, [.int 24, .ref q372, .ref q373, .int 0])), (q374, .inr (10, [.int 24, .ref q381, .ref q382, .int 0]))] H := hP
  have hD : va_D A [(h0, .inr (9, [.ref q333, .ref q359, .ref q361, .int 0, .long 0, .ref q363, .ref q365, .ref q374])), (q333, .inr (3, [.int 0, .ref q353, .ref q354, .ref q355, .ref q356, .ref q357, .ref q358])), (q365, .inr (10, [.int 24, .ref q372, .ref q373, .int 0])), (q374, .inr (10, [.int 24, .ref q381, .ref q382, .int 0]))] := hD
  refine W.widen (k := 18) (n := 1930) (by omega) (by omega) ?_
  have hP9 := hP.sub (ws' := [(h0, .inr (9, [.ref q333, .ref q359, .ref q361, .int 0, .long 0, .ref q363, .ref q365, .ref q374])), (q333, .inr (3, [.int 0, .ref q353, .ref q354, .ref q355, .ref q356, .ref q357, .ref q358])), (q365, .inr (10, [.int 24, .ref q372, .ref q373, .int 0])), (q374, .inr (10, [.int 24, .ref q381, .ref q382, .int 0]))]) [0, 1, 2, 3] rfl
  have hD9 := hD.sub (ws' := [(h0, .inr (9, [.ref q333, .ref q359, .ref q361, .int 0, .long 0, .ref q363, .ref q365, .ref q374])), (q333, .inr (3, [.int 0, .ref q353, .ref q354, .ref q355, .ref q356, .ref q357, .ref q358])), (q365, .inr (10, [.int 24, .ref q372, .ref q373, .int 0])), (q374, .inr (10, [.int 24, .ref q381, .ref q382, .int 0]))]) [0, 1, 2, 3] (by decide +kernel) rfl
  have hK9 := hK.sub (tys' := []) [] rfl
  exact W.vret hx hb hr (fun t ht hW => ⟨⟨(), rfl, trivial, q333, q359, q361, q363, q365, q374, q353, q354, q355, q356, q357, q358, q372, q373, q381, q382, by rw [ht]; exact hP9, va_K.moved hW.alike hK9, hD9⟩, hS.F ht⟩) hS.2.2 dX9_init_79
set_option maxHeartbeats 4000000 in
set_option maxRecDepth 100000 in
theorem c_X10_init_4 (l : Launch) (dC : Nat → ClassId) (dI : Nat → Nat → Nat) (sz : Nat) (h0 : Nat) : Met l yX10_init wmX10_init ({ frames := 2, cells := 2, slots := 2500, locals := 60 }) (va_Pc [.ref h0, .int 100, .int 24] (fun U => U.heap.size = sz ∧ va_P (dC, dI) vwCl [(h0, .inr (10, [.int 0, .null, .null, .int 0]))] U.heap ∧ va_K (dC, dI) vwCl [] U ∧ va_D (fun _ => True) [(h0, .inr (10, [.int 0, .null, .null, .int 0]))])) (va_Qv (fun _ : Unit => True) (fun _ t => ∃ (q440 : Nat), ∃ (q442 : Nat), va_P (dC, dI) vwCl [(h0, .inr (10, [.int 24, .ref q440, .ref q442, .int 0]))] t.heap ∧ va_K (dC, dI) vwCl [] t ∧ va_D (va_A [(h0, .inr (10, [.int 0, .null, .null, .int 0]))] sz) [(h0, .inr (10, [.int 24, .ref q440, .ref q442, .int 0]))]) (va_A [(h0, .inr (10, [.int 0, .null, .null, .int 0]))] sz)) 2 2500 (va_A [(h0, .inr (10, [.int 0, .null, .null, .int 0]))] sz) := by
  refine Met.ofW (cc := cX10_init) (maxL := 3) (ret := none) (by decide +kernel) rfl ?_
  intro p e s m args below meth c s₁ B hml hv
  obtain ⟨rfl, hsz, hP, hK, hD0⟩ := hv
  have hx := B.exec
  have hb := B.bytes
  have hr := B.returns
  have hts := atoms_spec (ws := wmX10_init) B.pre
  have hown : s.vm.findClass RX10 = some m.cls := findClass_of_methodNamed B.named
  have hlocks := B.notSynchronized
  have hin : meth.name = "<init>" := (name_of_methodNamed B.named B.method).1
  subst hsz
  have hD := hD0.self (sz := s.heap.size)
  generalize hAe : va_A [(h0, .inr (10, [.int 0, .null, .null, .int 0]))] s.heap.size = A at hD ⊢
  have hA : ∀ q : Nat, s.heap.size ≤ q → A q := fun q h => by rw [← hAe]; exact Or.inr h
  have hS : va_S A s.heap s.heap [] := va_S.rf
  have hP : va_P (dC, dI) vwCl [(h0, .inr (10, [.int 0, .null, .null, .int 0]))] s.heap := hP
  have hl := lv_entry ([.ref h0, .int 100, .int 24]) (n := 3) (Nat.le_of_ble_eq_true rfl)
  rw [lg_entry_eq]
  generalize (lg_sl ([.ref h0, .int 100, .int 24]) ++ List.replicate (3 - (lg_sl ([.ref h0, .int 100, .int 24])).length) Slot.unset).toArray = ls at hl ⊢
  have hl : lv_has ls 3 [(0, .ref h0), (1, .int 100), (2, .int 24)] := hl
  refine lv_aload_n hx hb dX10_init_0 rfl (lv_at hl 0 rfl) ?_
  refine W.objInit hx hb hown (hts (.methodLink RX10 3 objectInit) (List.mem_of_getElem? (i := 1) rfl)) (hts (.instanceMethod objectInit) (List.mem_of_getElem? (i := 2) rfl)) (hts (.code objectInit ⟨#[0xb1]⟩ 1 none) (List.mem_of_getElem? (i := 3) rfl)) rfl (by rw [hml]; exact hl.1) rfl dX10_init_1 (Nat.le_of_ble_eq_true rfl) (Nat.le_of_ble_eq_true rfl) ?_
  refine W.eq (g2 := F0 m 4 ls []) rfl ?_
  refine lv_aload_n hx hb dX10_init_4 rfl (lv_at hl 0 rfl) ?_
  refine lv_iconst (v := 0) hx hb dX10_init_5 (by decide +kernel) ?_
  refine va_put (D := (dC, dI)) (ci := 10) (v := .int 0) (ty := .int) (C := RX10) (T := TX10) (N := 4) hx hb hts (fun _ h => List.mem_append_right _ h) tyX10 tyX10_ok nmX10 hown hK hP hD hS 0 rfl rfl 3 (by decide +kernel) (hts (.fieldLink RX10 9 "SpellTurner$WordRow" "count" "I") (List.mem_of_getElem? (i := 6) rfl)) (fun _ h9 => h9) rfl (by decide +kernel) rfl rfl (Nat.le_of_ble_eq_true rfl) dX10_init_6 (fun H locs hP hD hS => ?_)
  have hP : va_P (dC, dI) vwCl [(h0, .inr (10, [.int 0, .null, .null, .int 0]))] H := hP
  have hD : va_D A [(h0, .inr (10, [.int 0, .null, .null, .int 0]))] := hD
  refine lv_aload_n hx hb dX10_init_9 rfl (lv_at hl 0 rfl) ?_
  refine lv_iload_n hx hb dX10_init_10 rfl (lv_at hl 2 rfl) ?_
  refine va_putF (D := (dC, dI)) (ci := 10) (v := .int 24) (ty := .int) (C := RX10) (T := TX10) (N := 4) hx hb hts (fun _ h => List.mem_append_right _ h) tyX10 tyX10_ok nmX10 hown hK hP hD hS 0 rfl rfl 0 (by decide +kernel) (hts (.fieldLink RX10 15 "SpellTurner$WordRow" "width" "I") (List.mem_of_getElem? (i := 7) rfl)) (fun _ h9 => h9) rfl hin rfl (by decide +kernel) rfl rfl (Nat.le_of_ble_eq_true rfl) dX10_init_11 (fun H locs hP hD hS => ?_)
  have hP : va_P (dC, dI) vwCl [(h0, .inr (10, [.int 24, .null, .null, .int 0]))] H := hP
  have hD : va_D A [(h0, .inr (10, [.int 24, .null, .null, .int 0]))] := hD
  refine lv_aload_n hx hb dX10_init_14 rfl (lv_at hl 0 rfl) ?_
  refine lv_iload_n hx hb dX10_init_15 rfl (lv_at hl 1 rfl) ?_
  refine lv_iload_n hx hb dX10_init_16 rfl (lv_at hl 2 rfl) ?_
  refine lv_imul hx hb dX10_init_17 ?_
  refine lv_topi (fun x444 ex444 => ?_)
  obtain rfl : x444 = 2400 := ex444.trans (by decide +kernel)
  refine va_newa (atype := .byte) (a0 := (2400, .inl (fun _ => 0))) (ty := .byte) (N' := 2400) hx hb (hts (.arrayClass .byte) (List.mem_of_getElem? (i := 4) rfl)) rfl hK hP hD hS hA (fun _ => rfl) (by decide +kernel) (by decide +kernel) (by decide +kernel) (Nat.le_of_ble_eq_true rfl) (Nat.le_of_ble_eq_true rfl) dX10_init_18 (fun q445 k446 H hK hP hD hS => ?_)
  have hK : va_K (dC, dI) vwCl [(k446, .byte)] s := hK
  have hP : va_P (dC, dI) vwCl [(h0, .inr (10, [.int 24, .null, .null, .int 0])), (q445, .inl (k446, 2400, .inl (fun _ => 0)))] H := hP
  have hD : va_D A [(h0, .inr (10, [.int 24, .null, .null, .int 0])), (q445, .inl (k446, 2400, .inl (fun _ => 0)))] := hD
  refine va_putF (D := (dC, dI)) (ci := 10) (v := .ref q445) (ty := .array .byte) (C := RX10) (T := TX10) (N := 4) hx hb hts (fun _ h => List.mem_append_right _ h) tyX10 tyX10_ok nmX10 hown hK hP hD hS 0 rfl rfl 1 (by decide +kernel) (hts (.fieldLink RX10 18 "SpellTurner$WordRow" "letters" "[B") (List.mem_of_getElem? (i := 8) rfl)) (fun _ h9 => h9) rfl hin rfl (by decide +kernel) rfl rfl (Nat.le_of_ble_eq_true rfl) dX10_init_20 (fun H locs hP hD hS => ?_)
  have hP : va_P (dC, dI) vwCl [(h0, .inr (10, [.int 24, .ref q445, .null, .int 0])), (q445, .inl (k446, 2400, .inl (fun _ => 0)))] H := hP
  have hD : va_D A [(h0, .inr (10, [.int 24, .ref q445, .null, .int 0])), (q445, .inl (k446, 2400, .inl (fun _ => 0)))] := hD
  have hP := hP.sub (ws' := [(h0, .inr (10, [.int 24, .ref q445, .null, .int 0]))]) [0] rfl
  have hD := hD.sub (ws' := [(h0, .inr (10, [.int 24, .ref q445, .null, .int 0]))]) [0] (by decide +kernel) rfl
  refine lv_aload_n hx hb dX10_init_23 rfl (lv_at hl 0 rfl) ?_
  refine lv_iload_n hx hb dX10_init_24 rfl (lv_at hl 1 rfl) ?_
  refine va_newa (atype := .int) (a0 := (100, .inl (fun _ => 0))) (ty := .int) (N' := 100) hx hb (hts (.arrayClass .int) (List.mem_of_getElem? (i := 5) rfl)) rfl hK hP hD hS hA (fun _ => rfl) (by decide +kernel) (by decide +kernel) (by decide +kernel) (Nat.le_of_ble_eq_true rfl) (Nat.le_of_ble_eq_true rfl) dX10_init_25 (fun q447 k448 H hK hP hD hS => ?_)
  have hK : va_K (dC, dI) vwCl [(k446, .byte), (k448, .int)] s := hK
  have hP : va_P (dC, dI) vwCl [(h0, .inr (10, [.int 24, .ref q445, .null, .int 0])), (q447, .inl (k448, 100, .inl (fun _ => 0)))] H := hP
  have hD : va_D A [(h0, .inr (10, [.int 24, .ref q445, .null, .int 0])), (q447, .inl (k448, 100, .inl (fun _ => 0)))] := hD
  refine va_putF (D := (dC, dI)) (ci := 10) (v := .ref q447) (ty := .array .int) (C := RX10) (T := TX10) (N := 4) hx hb hts (fun _ h => List.mem_append_right _ h) tyX10 tyX10_ok nmX10 hown hK hP hD hS 0 rfl rfl 2 (by decide +kernel) (hts (.fieldLink RX10 22 "SpellTurner$WordRow" "lengths" "[I") (List.mem_of_getElem? (i := 9) rfl)) (fun _ h9 => h9) rfl hin rfl (by decide +kernel) rfl rfl (Nat.le_of_ble_eq_true rfl) dX10_init_27 (fun H locs hP hD hS => ?_)
  have hP : va_P (dC, dI) vwCl [(h0, .inr (10, [.int 24, .ref q445, .ref q447, .int 0])), (q447, .inl (k448, 100, .inl (fun _ => 0)))] H := hP
  have hD : va_D A [(h0, .inr (10, [.int 24, .ref q445, .ref q447, .int 0])), (q447, .inl (k448, 100, .inl (fun _ => 0)))] := hD
  have hP := hP.sub (ws' := [(h0, .inr (10, [.int 24, .ref q445, .ref q447, .int 0]))]) [0] rfl
  have hD := hD.sub (ws' := [(h0, .inr (10, [.int 24, .ref q445, .ref q447, .int 0]))]) [0] (by decide +kernel) rfl
  refine W.widen (k := 2) (n := 2500) (by omega) (by omega) ?_
  have hP9 := hP.sub (ws' := [(h0, .inr (10, [.int 24, .ref q445, .ref q447, .int 0]))]) [0] rfl
  have hD9 := hD.sub (ws' := [(h0, .inr (10, [.int 24, .ref q445, .ref q447, .int 0]))]) [0] (by decide +kernel) rfl
  have hK9 := hK.sub (tys' := []) [] rfl
  exact W.vret hx hb hr (fun t ht hW => ⟨⟨(), rfl, trivial, q445, q447, by rw [ht]; exact hP9, va_K.moved hW.alike hK9, hD9⟩, hS.F ht⟩) hS.2.2 dX10_init_30
