theorem dX12_see_8 : decode cX12_see 8 = .ok (.aload_n 0, 1) := by decide +kernel
theorem dX12_see_9 : decode cX12_see 9 = .ok (.getfield 7, 3) := by decide +kernel
theorem dX12_see_12 : decode cX12_see 12 = .ok (.iload_n 1, 1) := by decide +kernel
theorem dX12_see_13 : decode cX12_see 13 = .ok (.baload, 1) := by decide +kernel
theorem dX12_see_14 : decode cX12_see 14 = .ok (.sipush 255, 3) := by decide +kernel
theorem dX12_see_17 : decode cX12_see 17 = .ok (.iand, 1) := by decide +kernel
theorem dX12_see_18 : decode cX12_see 18 = .ok (.goto 4, 3) := by decide +kernel
theorem dX12_wrong_0 : decode cX12_wrong 0 = .ok (.aload_n 0, 1) := by decide +kernel
theorem dX12_wrong_1 : decode cX12_wrong 1 = .ok (.iload_n 1, 1) := by decide +kernel
theorem dX12_wrong_2 : decode cX12_wrong 2 = .ok (.putfield 194, 3) := by decide +kernel
theorem dX12_wrong_5 : decode cX12_wrong 5 = .ok (.aload_n 0, 1) := by decide +kernel
theorem dX12_wrong_6 : decode cX12_wrong 6 = .ok (.aload_n 0, 1) := by decide +kernel
theorem dX12_wrong_7 : decode cX12_wrong 7 = .ok (.getfield 177, 3) := by decide +kernel
theorem dX12_wrong_10 : decode cX12_wrong 10 = .ok (.putfield 13, 3) := by decide +kernel
theorem dX12_wrong_13 : decode cX12_wrong 13 = .ok (.iconst 0, 1) := by decide +kernel
theorem dX12_wrong_14 : decode cX12_wrong 14 = .ok (.ireturn, 1) := by decide +kernel
def wnX12_see : List Cond := [Cond.code yX12_see cX12_see 2 (some .int), Cond.fieldLink RX12 155 "SpellTurnerModel" "size" "I", Cond.fieldLink RX12 7 "SpellTurnerModel" "tape" "[B"] ++ wsX120
set_option maxHeartbeats 4000000 in
set_option maxRecDepth 100000 in
theorem m_see (l : Launch) (dC : Nat → ClassId) (dI : Nat → Nat → Nat) (sz : Nat) (h0 : Nat) (kB kI kZ : ClassId) (q : Nat → Nat) (g : Nat → Int32) (F : Nat → Nat → Int32) (p0 : Int32) (hp : 0 ≤ p0.toInt) (hs : (g 2).toInt ≤ 2000) : Met l yX12_see wnX12_see ({ frames := 2, cells := 0, slots := 0, locals := 60 }) (va_Pc [.ref h0, .int p0] (fun U => U.heap.size = sz ∧ va_P (dC, dI) vwCl (mW h0 kB kI kZ q g F) U.heap ∧ va_K (dC, dI) vwCl (mT kB kI kZ) U ∧ va_D (fun _ => True) (mW h0 kB kI kZ q g F))) (va_Qi (fun (r : Int32) (_ : Unit) => (p0.toInt < (g 2).toInt ∧ r = F 0 p0.toNatClampNeg &&& 255) ∨ ((g 2).toInt ≤ p0.toInt ∧ r = (-1))) (fun _ t => va_P (dC, dI) vwCl (mW h0 kB kI kZ q g F) t.heap ∧ va_K (dC, dI) vwCl (mT kB kI kZ) t ∧ va_D (va_A (mW h0 kB kI kZ q g F) sz) (mW h0 kB kI kZ q g F)) (va_A (mW h0 kB kI kZ q g F) sz)) 0 0 (va_A (mW h0 kB kI kZ q g F) sz) := by
  refine Met.ofW (cc := cX12_see) (maxL := 2) (ret := (some .int)) (by decide) rfl ?_
  intro p e s m args below meth c s₁ B hml hv
  obtain ⟨rfl, hsz, hP, hK, hD0⟩ := hv
  have hx := B.exec
  have hb := B.bytes
  have hr := B.returns
  have hts := atoms_spec (ws := wnX12_see) B.pre
  have hown : s.vm.findClass RX12 = some m.cls := findClass_of_methodNamed B.named
  subst hsz
  have hD := hD0.self (sz := s.heap.size)
  generalize hAe : va_A (mW h0 kB kI kZ q g F) s.heap.size = A at hD ⊢
  have hA : ∀ q : Nat, s.heap.size ≤ q → A q := fun q h => by rw [← hAe]; exact Or.inr h
  have hS : va_S A s.heap s.heap [] := va_S.rf
  have hP : va_P (dC, dI) vwCl (mW h0 kB kI kZ q g F) s.heap := hP
  have hl := lv_entry ([.ref h0, .int p0]) (n := 2) (Nat.le_of_ble_eq_true rfl)
  rw [lg_entry_eq]
  generalize (lg_sl ([.ref h0, .int p0]) ++ List.replicate (2 - (lg_sl ([.ref h0, .int p0])).length) Slot.unset).toArray = ls at hl ⊢
  have hl : lv_has ls 2 [(0, .ref h0), (1, .int p0)] := hl
  refine lv_iload_n hx hb dX12_see_0 rfl (lv_at hl 1 rfl) ?_
  refine lv_aload_n hx hb dX12_see_1 rfl (lv_at hl 0 rfl) ?_
  refine va_get (D := (dC, dI)) (ci := 12) (v := .int (g 2)) (C := RX12) (T := TX12) (N := 71) hx hb hts (fun _ h => List.mem_append_right _ h) hown hK hP 0 rfl rfl 2 (by decide) (hts (.fieldLink RX12 155 "SpellTurnerModel" "size" "I") (List.mem_of_getElem? (i := 1) rfl)) (fun _ h9 => h9) rfl dX12_see_2 ?_
  refine lv_icmp_ge (tgt := 21) hx hb dX12_see_5 (by decide) (fun c1 => ?_) (fun c1 => ?_)
  · have c1 := (z_le _ _).mp c1
    refine lv_iconst (v := (-1)) hx hb dX12_see_21 (by decide) ?_
    have hK9 := hK
    exact W.iret (v := (-1)) hx hb hr (fun t ht hW => ⟨⟨(-1), (), rfl, Or.inr ⟨c1, rfl⟩, by rw [ht]; exact hP, va_K.moved hW.alike hK9, hD⟩, hS.F ht⟩) hS.2.2 dX12_see_22
  · have c1 := z_nle c1
    refine lv_aload_n hx hb dX12_see_8 rfl (lv_at hl 0 rfl) ?_
    refine va_get (D := (dC, dI)) (ci := 12) (v := .ref (q 0)) (C := RX12) (T := TX12) (N := 71) hx hb hts (fun _ h => List.mem_append_right _ h) hown hK hP 0 rfl rfl 0 (by decide) (hts (.fieldLink RX12 7 "SpellTurnerModel" "tape" "[B") (List.mem_of_getElem? (i := 2) rfl)) (fun _ h9 => h9) rfl dX12_see_9 ?_
    refine lv_iload_n hx hb dX12_see_12 rfl (lv_at hl 1 rfl) ?_
    refine va_bald hx hb hK hP 1 0 rfl rfl (z_in hp (by omega)) dX12_see_13 ?_
    refine lv_sipush (v := 255) hx hb dX12_see_14 (by decide +kernel) ?_
    refine lv_iand hx hb dX12_see_17 ?_
    refine lv_goto (tgt := 22) hx hb dX12_see_18 (by decide) ?_
    exact W.iret (v := F 0 p0.toNatClampNeg &&& 255) hx hb hr (fun t ht hW => ⟨⟨_, (), rfl, Or.inl ⟨c1, rfl⟩, by rw [ht]; exact hP, va_K.moved hW.alike hK, hD⟩, hS.F ht⟩) hS.2.2 dX12_see_22
def wnX12_wrong : List Cond := [Cond.code yX12_wrong cX12_wrong 2 (some .boolean), Cond.fieldLink RX12 194 "SpellTurnerModel" "faultKind" "I", Cond.fieldLink RX12 177 "SpellTurnerModel" "at" "I", Cond.fieldLink RX12 13 "SpellTurnerModel" "faultPlace" "I"] ++ wsX120
set_option maxHeartbeats 4000000 in
set_option maxRecDepth 100000 in
theorem m_wrong (l : Launch) (dC : Nat → ClassId) (dI : Nat → Nat → Nat) (sz : Nat) (h0 : Nat) (kB kI kZ : ClassId) (q : Nat → Nat) (g : Nat → Int32) (F : Nat → Nat → Int32) (p0 : Int32) : Met l yX12_wrong wnX12_wrong ({ frames := 2, cells := 0, slots := 0, locals := 60 }) (va_Pc [.ref h0, .int p0] (fun U => U.heap.size = sz ∧ va_P (dC, dI) vwCl (mW h0 kB kI kZ q g F) U.heap ∧ va_K (dC, dI) vwCl (mT kB kI kZ) U ∧ va_D (fun _ => True) (mW h0 kB kI kZ q g F))) (va_Qi (fun (r : Int32) (_ : Unit) => r = 0) (fun _ t => va_P (dC, dI) vwCl (mW h0 kB kI kZ q (upd (upd g 7 p0) 8 (g 5)) F) t.heap ∧ va_K (dC, dI) vwCl (mT kB kI kZ) t ∧ va_D (va_A (mW h0 kB kI kZ q g F) sz) (mW h0 kB kI kZ q (upd (upd g 7 p0) 8 (g 5)) F)) (va_A (mW h0 kB kI kZ q g F) sz)) 0 0 (va_A (mW h0 kB kI kZ q g F) sz) := by
  refine Met.ofW (cc := cX12_wrong) (maxL := 2) (ret := (some .boolean)) (by decide) rfl ?_
  intro p e s m args below meth c s₁ B hml hv
  obtain ⟨rfl, hsz, hP, hK, hD0⟩ := hv
  have hx := B.exec
  have hb := B.bytes
  have hr := B.returns
  have hts := atoms_spec (ws := wnX12_wrong) B.pre
  have hown : s.vm.findClass RX12 = some m.cls := findClass_of_methodNamed B.named
  subst hsz
  have hD := hD0.self (sz := s.heap.size)
  generalize hAe : va_A (mW h0 kB kI kZ q g F) s.heap.size = A at hD ⊢
  have hA : ∀ q : Nat, s.heap.size ≤ q → A q := fun q h => by rw [← hAe]; exact Or.inr h
  have hS : va_S A s.heap s.heap [] := va_S.rf
  have hP : va_P (dC, dI) vwCl (mW h0 kB kI kZ q g F) s.heap := hP
  have hl := lv_entry ([.ref h0, .int p0]) (n := 2) (Nat.le_of_ble_eq_true rfl)
  rw [lg_entry_eq]
  generalize (lg_sl ([.ref h0, .int p0]) ++ List.replicate (2 - (lg_sl ([.ref h0, .int p0])).length) Slot.unset).toArray = ls at hl ⊢
  have hl : lv_has ls 2 [(0, .ref h0), (1, .int p0)] := hl
  refine lv_aload_n hx hb dX12_wrong_0 rfl (lv_at hl 0 rfl) ?_
  refine lv_iload_n hx hb dX12_wrong_1 rfl (lv_at hl 1 rfl) ?_
  refine va_put (D := (dC, dI)) (ci := 12) (v := .int p0) (ty := .int) (C := RX12) (T := TX12) (N := 71) hx hb hts (fun _ h => List.mem_append_right _ h) tyX12 tyX12_ok nmX12 hown hK hP hD hS 0 rfl rfl 7 (by decide) (hts (.fieldLink RX12 194 "SpellTurnerModel" "faultKind" "I") (List.mem_of_getElem? (i := 1) rfl)) (fun _ h9 => h9) rfl (by decide +kernel) rfl rfl (Nat.le_of_ble_eq_true rfl) dX12_wrong_2 (fun H locs hP hD hS => ?_)
  have hP : va_P (dC, dI) vwCl (mW h0 kB kI kZ q (upd g 7 p0) F) H := hP
  have hD : va_D A (mW h0 kB kI kZ q (upd g 7 p0) F) := hD
  refine lv_aload_n hx hb dX12_wrong_5 rfl (lv_at hl 0 rfl) ?_
  refine lv_aload_n hx hb dX12_wrong_6 rfl (lv_at hl 0 rfl) ?_
  refine va_get (D := (dC, dI)) (ci := 12) (v := .int (g 5)) (C := RX12) (T := TX12) (N := 71) hx hb hts (fun _ h => List.mem_append_right _ h) hown hK hP 0 rfl rfl 5 (by decide) (hts (.fieldLink RX12 177 "SpellTurnerModel" "at" "I") (List.mem_of_getElem? (i := 2) rfl)) (fun _ h9 => h9) rfl dX12_wrong_7 ?_
  refine va_put (D := (dC, dI)) (ci := 12) (v := .int (g 5)) (ty := .int) (C := RX12) (T := TX12) (N := 71) hx hb hts (fun _ h => List.mem_append_right _ h) tyX12 tyX12_ok nmX12 hown hK hP hD hS 0 rfl rfl 8 (by decide) (hts (.fieldLink RX12 13 "SpellTurnerModel" "faultPlace" "I") (List.mem_of_getElem? (i := 3) rfl)) (fun _ h9 => h9) rfl (by decide +kernel) rfl rfl (Nat.le_of_ble_eq_true rfl) dX12_wrong_10 (fun H locs hP hD hS => ?_)
  have hP : va_P (dC, dI) vwCl (mW h0 kB kI kZ q (upd (upd g 7 p0) 8 (g 5)) F) H := hP
  have hD : va_D A (mW h0 kB kI kZ q (upd (upd g 7 p0) 8 (g 5)) F) := hD
  refine lv_iconst (v := 0) hx hb dX12_wrong_13 (by decide) ?_
  exact W.zret (v := 0) hx hb hr (by decide) (fun t ht hW => ⟨⟨0, (), rfl, rfl, by rw [ht]; exact hP, va_K.moved hW.alike hK, hD⟩, hS.F ht⟩) hS.2.2 dX12_wrong_14
