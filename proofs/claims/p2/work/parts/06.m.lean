theorem dX12_isSmall_0 : decode cX12_isSmall 0 = .ok (.iload_n 0, 1) := by decide +kernel
theorem dX12_isSmall_1 : decode cX12_isSmall 1 = .ok (.bipush 97, 2) := by decide +kernel
theorem dX12_isSmall_3 : decode cX12_isSmall 3 = .ok (.if_icmp .lt 13, 3) := by decide +kernel
theorem dX12_isSmall_6 : decode cX12_isSmall 6 = .ok (.iload_n 0, 1) := by decide +kernel
theorem dX12_isSmall_7 : decode cX12_isSmall 7 = .ok (.bipush 122, 2) := by decide +kernel
theorem dX12_isSmall_9 : decode cX12_isSmall 9 = .ok (.if_icmp .gt 7, 3) := by decide +kernel
theorem dX12_isSmall_12 : decode cX12_isSmall 12 = .ok (.iconst 1, 1) := by decide +kernel
theorem dX12_isSmall_13 : decode cX12_isSmall 13 = .ok (.goto 4, 3) := by decide +kernel
theorem dX12_isSmall_16 : decode cX12_isSmall 16 = .ok (.iconst 0, 1) := by decide +kernel
theorem dX12_isSmall_17 : decode cX12_isSmall 17 = .ok (.ireturn, 1) := by decide +kernel
theorem dX12_see_8 : decode cX12_see 8 = .ok (.aload_n 0, 1) := by decide +kernel
theorem dX12_see_9 : decode cX12_see 9 = .ok (.getfield 7, 3) := by decide +kernel
theorem dX12_see_12 : decode cX12_see 12 = .ok (.iload_n 1, 1) := by decide +kernel
theorem dX12_see_13 : decode cX12_see 13 = .ok (.baload, 1) := by decide +kernel
theorem dX12_see_14 : decode cX12_see 14 = .ok (.sipush 255, 3) := by decide +kernel
theorem dX12_see_17 : decode cX12_see 17 = .ok (.iand, 1) := by decide +kernel
theorem dX12_see_18 : decode cX12_see 18 = .ok (.goto 4, 3) := by decide +kernel
theorem dX12_wrong_0 : decode cX12_wrong 0 = .ok (.aload_n 0, 1) := by decide +kernel
theorem dX12_wrong_1 : decode cX12_wrong 1 = .ok (.iload_n 1, 1) := by decide +kernel
theorem dX12_wrong_2 : decode cX12_wrong 2 = .ok (.putfield 194, 3) := by decide +kernel
theorem dX12_wrong_5 : decode cX12_wrong 5 = .ok (.aload_n 0, 1) := by decide +kernel
theorem dX12_wrong_6 : decode cX12_wrong 6 = .ok (.aload_n 0, 1) := by decide +kernel
theorem dX12_wrong_7 : decode cX12_wrong 7 = .ok (.getfield 177, 3) := by decide +kernel
theorem dX12_wrong_10 : decode cX12_wrong 10 = .ok (.putfield 13, 3) := by decide +kernel
theorem dX12_wrong_13 : decode cX12_wrong 13 = .ok (.iconst 0, 1) := by decide +kernel
theorem dX12_wrong_14 : decode cX12_wrong 14 = .ok (.ireturn, 1) := by decide +kernel
theorem dX12_isLetter_0 : decode cX12_isLetter 0 = .ok (.iload_n 0, 1) := by decide +kernel
theorem dX12_isLetter_1 : decode cX12_isLetter 1 = .ok (.invokestatic 183, 3) := by decide +kernel
theorem dX12_isLetter_4 : decode cX12_isLetter 4 = .ok (.ifCond .ne 15, 3) := by decide +kernel
theorem dX12_isLetter_7 : decode cX12_isLetter 7 = .ok (.iload_n 0, 1) := by decide +kernel
theorem dX12_isLetter_8 : decode cX12_isLetter 8 = .ok (.bipush 65, 2) := by decide +kernel
theorem dX12_isLetter_10 : decode cX12_isLetter 10 = .ok (.if_icmp .lt 13, 3) := by decide +kernel
theorem dX12_isLetter_13 : decode cX12_isLetter 13 = .ok (.iload_n 0, 1) := by decide +kernel
theorem dX12_isLetter_14 : decode cX12_isLetter 14 = .ok (.bipush 90, 2) := by decide +kernel
theorem dX12_isLetter_16 : decode cX12_isLetter 16 = .ok (.if_icmp .gt 7, 3) := by decide +kernel
theorem dX12_isLetter_19 : decode cX12_isLetter 19 = .ok (.iconst 1, 1) := by decide +kernel
theorem dX12_isLetter_20 : decode cX12_isLetter 20 = .ok (.goto 4, 3) := by decide +kernel
theorem dX12_isLetter_23 : decode cX12_isLetter 23 = .ok (.iconst 0, 1) := by decide +kernel
theorem dX12_isLetter_24 : decode cX12_isLetter 24 = .ok (.ireturn, 1) := by decide +kernel
theorem dX12_hasNought_7 : decode cX12_hasNought 7 = .ok (.aload_n 0, 1) := by decide +kernel
theorem dX12_hasNought_8 : decode cX12_hasNought 8 = .ok (.getfield 7, 3) := by decide +kernel
theorem dX12_hasNought_11 : decode cX12_hasNought 11 = .ok (.iload_n 2, 1) := by decide +kernel
theorem dX12_hasNought_12 : decode cX12_hasNought 12 = .ok (.baload, 1) := by decide +kernel
theorem dX12_hasNought_13 : decode cX12_hasNought 13 = .ok (.ifCond .ne 5, 3) := by decide +kernel
theorem dX12_hasNought_16 : decode cX12_hasNought 16 = .ok (.iconst 1, 1) := by decide +kernel
theorem dX12_hasNought_17 : decode cX12_hasNought 17 = .ok (.ireturn, 1) := by decide +kernel
theorem dX12_hasNought_18 : decode cX12_hasNought 18 = .ok (.iinc 2 1, 3) := by decide +kernel
theorem dX12_hasNought_21 : decode cX12_hasNought 21 = .ok (.goto (-19), 3) := by decide +kernel
set_option maxHeartbeats 4000000 in
set_option maxRecDepth 100000 in
theorem bm_in {p : Program} {l : Launch} {e : Env} {s : State} {m : MethodId} {args : Array Value} {below : List Frame} {meth : Method} {c : Code} {Q : State → Prop} {A : Nat → Prop} {dC : Nat → ClassId} {dI : Nat → Nat → Nat} {h0 : Nat} {kB kI kZ : ClassId} {q : Nat → Nat} {g : Nat → Int32} {F : Nat → Nat → Int32} {H : Heap} {locs : List Loc} {ls : Array Slot} (p0 : Int32) (p1 : Int32) (p2 : Int32) (hx : p.tables.exec = Jvm.exec) (hb : c.code = cX12_in) (hml : c.maxLocals = 3) (hown : s.vm.findClass RX12 = some m.cls) (hts : ∀ w ∈ vmX12_in, w.before args s = true) (hA : ∀ q : Nat, s.heap.size ≤ q → A q) (hK : va_K (dC, dI) vwCl (mT kB kI kZ) s) (hI : MInv g F) (hP : va_P (dC, dI) vwCl (mW h0 kB kI kZ q g F) H) (hD : va_D A (mW h0 kB kI kZ q g F)) (hS : va_S A s.heap H locs) (hl : lv_has ls 3 [(0, .int p0), (1, .int p1), (2, .int p2)])
    (K : ∀ (pc : Nat) (ls : Array Slot) (r : Int32) (u : ((Nat → Int32) × (Nat → Nat → Int32))) (H : Heap) (locs : List Loc), decode cX12_in pc = .ok (.ireturn, 1) → (((0 ≤ r.toInt ∧ r.toInt ≤ 1))) → va_P (dC, dI) vwCl (mW h0 kB kI kZ q g F) H → va_D A (mW h0 kB kI kZ q g F) → va_S A s.heap H locs → W p l e ({ frames := 2, cells := 0, slots := 0, locals := 60 } : Room) s m args below meth c H locs 0 0 Q (F0 m pc ls [.int r])) : W p l e ({ frames := 2, cells := 0, slots := 0, locals := 60 } : Room) s m args below meth c H locs 0 0 Q (F0 m 0 ls []) := by
  obtain ⟨hg1z, hg2z, hg3z, hg4z, hg5z, hg6z, hg7z, hg8z, hg9z, hg23z, hg27z, hg30z, hg34z, hg36z, hg39z, hg44z, hg47z, hg48z, hg51z, hg56z, hg59z, hg62z, hg65z, hg66z, hg70z, hF11z, hF12z, hF13z, hF15z, hF19z, hF21z, hF24z, hF25z, hF26z, hF33z, hF38z, hF41z, hF43z, hF45z, hF46z, hF50z, hF53z, hF54z⟩ := hI
  have zk0 : (0 : Int32).toInt = 0 := by decide +kernel
  have zk1 : (1 : Int32).toInt = 1 := by decide +kernel
  refine lv_iload_n hx hb dX12_in_0 rfl (lv_at hl 0 rfl) ?_
  refine lv_iload_n hx hb dX12_in_1 rfl (lv_at hl 1 rfl) ?_
  refine lv_icmp_lt (tgt := 14) hx hb dX12_in_2 (by decide) (fun c1 => ?_) (fun c1 => ?_)
  · have c1 := (z_lt _ _).mp c1
    refine lv_iconst (v := 0) hx hb dX12_in_14 (by decide +kernel) ?_
    exact K 15 ls 0 (g, F) H _ dX12_in_15 (show (0 ≤ (0 : Int32).toInt ∧ (0 : Int32).toInt ≤ 1) from by omega) hP hD hS
  · have c1 := z_nlt c1
    refine lv_iload_n hx hb dX12_in_5 rfl (lv_at hl 0 rfl) ?_
    refine lv_iload_n hx hb dX12_in_6 rfl (lv_at hl 2 rfl) ?_
    refine lv_icmp_gt (tgt := 14) hx hb dX12_in_7 (by decide) (fun c2 => ?_) (fun c2 => ?_)
    · have c2 := (z_lt _ _).mp c2
      refine lv_iconst (v := 0) hx hb dX12_in_14 (by decide +kernel) ?_
      exact K 15 ls 0 (g, F) H _ dX12_in_15 (show (0 ≤ (0 : Int32).toInt ∧ (0 : Int32).toInt ≤ 1) from by omega) hP hD hS
    · have c2 := z_nlt c2
      refine lv_iconst (v := 1) hx hb dX12_in_10 (by decide +kernel) ?_
      refine lv_goto (tgt := 15) hx hb dX12_in_11 (by decide) ?_
      exact K 15 ls 1 (g, F) H _ dX12_in_15 (show (0 ≤ (1 : Int32).toInt ∧ (1 : Int32).toInt ≤ 1) from by omega) hP hD hS
set_option maxHeartbeats 4000000 in
set_option maxRecDepth 100000 in
theorem m_in (l : Launch) (dC : Nat → ClassId) (dI : Nat → Nat → Nat) (sz : Nat) (h0 : Nat) (kB kI kZ : ClassId) (q : Nat → Nat) (g : Nat → Int32) (F : Nat → Nat → Int32) (p0 : Int32) (p1 : Int32) (p2 : Int32) (hI : MInv g F) : Met l yX12_in vmX12_in ({ frames := 2, cells := 0, slots := 0, locals := 60 } : Room) (va_Pc [.int p0, .int p1, .int p2] (fun U => U.heap.size = sz ∧ va_P (dC, dI) vwCl (mW h0 kB kI kZ q g F) U.heap ∧ va_K (dC, dI) vwCl (mT kB kI kZ) U ∧ va_D (fun _ => True) (mW h0 kB kI kZ q g F))) (va_Qi (fun (r : Int32) (u : ((Nat → Int32) × (Nat → Nat → Int32))) => ((0 ≤ r.toInt ∧ r.toInt ≤ 1))) (fun u t => va_P (dC, dI) vwCl (mW h0 kB kI kZ q g F) t.heap ∧ va_K (dC, dI) vwCl (mT kB kI kZ) t ∧ va_D (va_A (mW h0 kB kI kZ q g F) sz) (mW h0 kB kI kZ q g F)) (va_A (mW h0 kB kI kZ q g F) sz)) 0 0 (va_A (mW h0 kB kI kZ q g F) sz) := by
  refine Met.ofW (cc := cX12_in) (maxL := 3) (ret := (some .boolean)) (by decide) rfl ?_
  intro p e s m args below meth c s₁ B hml hv
  obtain ⟨rfl, hsz, hP, hK, hD0⟩ := hv
  have hx := B.exec
  have hb := B.bytes
  have hr := B.returns
  have hts := atoms_spec (ws := vmX12_in) B.pre
  have hown : s.vm.findClass RX12 = some m.cls := findClass_of_methodNamed B.named
  subst hsz
  have hD := hD0.self (sz := s.heap.size)
  generalize hAe : va_A (mW h0 kB kI kZ q g F) s.heap.size = A at hD ⊢
  have hA : ∀ q : Nat, s.heap.size ≤ q → A q := fun q h => by rw [← hAe]; exact Or.inr h
  have hS : va_S A s.heap s.heap [] := va_S.rf
  have hl := lv_entry ([.int p0, .int p1, .int p2]) (n := 3) (Nat.le_of_ble_eq_true rfl)
  rw [lg_entry_eq]
  generalize (lg_sl ([.int p0, .int p1, .int p2]) ++ List.replicate (3 - (lg_sl ([.int p0, .int p1, .int p2])).length) Slot.unset).toArray = ls at hl ⊢
  exact bm_in p0 p1 p2 hx hb hml hown hts hA hK hI hP hD hS hl (fun pc ls r u H locs hd hw hP hD hS => W.zret (v := r) hx hb hr (z_nb (by have := hw; omega)) (fun t ht hW => ⟨⟨r, u, rfl, hw, by rw [ht]; exact hP, va_K.moved hW.alike hK, hD⟩, hS.F ht⟩) hS.2.2 hd)
set_option maxHeartbeats 4000000 in
set_option maxRecDepth 100000 in
theorem bm_isSmall {p : Program} {l : Launch} {e : Env} {s : State} {m : MethodId} {args : Array Value} {below : List Frame} {meth : Method} {c : Code} {Q : State → Prop} {A : Nat → Prop} {dC : Nat → ClassId} {dI : Nat → Nat → Nat} {h0 : Nat} {kB kI kZ : ClassId} {q : Nat → Nat} {g : Nat → Int32} {F : Nat → Nat → Int32} {H : Heap} {locs : List Loc} {ls : Array Slot} (p0 : Int32) (hx : p.tables.exec = Jvm.exec) (hb : c.code = cX12_isSmall) (hml : c.maxLocals = 1) (hown : s.vm.findClass RX12 = some m.cls) (hts : ∀ w ∈ vmX12_isSmall, w.before args s = true) (hA : ∀ q : Nat, s.heap.size ≤ q → A q) (hK : va_K (dC, dI) vwCl (mT kB kI kZ) s) (hI : MInv g F) (hP : va_P (dC, dI) vwCl (mW h0 kB kI kZ q g F) H) (hD : va_D A (mW h0 kB kI kZ q g F)) (hS : va_S A s.heap H locs) (hl : lv_has ls 1 [(0, .int p0)])
    (K : ∀ (pc : Nat) (ls : Array Slot) (r : Int32) (u : ((Nat → Int32) × (Nat → Nat → Int32))) (H : Heap) (locs : List Loc), decode cX12_isSmall pc = .ok (.ireturn, 1) → (((0 ≤ r.toInt ∧ r.toInt ≤ 1))) → va_P (dC, dI) vwCl (mW h0 kB kI kZ q g F) H → va_D A (mW h0 kB kI kZ q g F) → va_S A s.heap H locs → W p l e ({ frames := 2, cells := 0, slots := 0, locals := 60 } : Room) s m args below meth c H locs 0 0 Q (F0 m pc ls [.int r])) : W p l e ({ frames := 2, cells := 0, slots := 0, locals := 60 } : Room) s m args below meth c H locs 0 0 Q (F0 m 0 ls []) := by
  obtain ⟨hg1z, hg2z, hg3z, hg4z, hg5z, hg6z, hg7z, hg8z, hg9z, hg23z, hg27z, hg30z, hg34z, hg36z, hg39z, hg44z, hg47z, hg48z, hg51z, hg56z, hg59z, hg62z, hg65z, hg66z, hg70z, hF11z, hF12z, hF13z, hF15z, hF19z, hF21z, hF24z, hF25z, hF26z, hF33z, hF38z, hF41z, hF43z, hF45z, hF46z, hF50z, hF53z, hF54z⟩ := hI
  have zk0 : (0 : Int32).toInt = 0 := by decide +kernel
  have zk1 : (1 : Int32).toInt = 1 := by decide +kernel
  have zk97 : (97 : Int32).toInt = 97 := by decide +kernel
  have zk122 : (122 : Int32).toInt = 122 := by decide +kernel
  refine lv_iload_n hx hb dX12_isSmall_0 rfl (lv_at hl 0 rfl) ?_
  refine lv_bipush (v := 97) hx hb dX12_isSmall_1 (by decide +kernel) ?_
  refine lv_icmp_lt (tgt := 16) hx hb dX12_isSmall_3 (by decide) (fun c3 => ?_) (fun c3 => ?_)
  · have c3 := (z_lt _ _).mp c3
    refine lv_iconst (v := 0) hx hb dX12_isSmall_16 (by decide +kernel) ?_
    exact K 17 ls 0 (g, F) H _ dX12_isSmall_17 (show (0 ≤ (0 : Int32).toInt ∧ (0 : Int32).toInt ≤ 1) from by omega) hP hD hS
  · have c3 := z_nlt c3
    refine lv_iload_n hx hb dX12_isSmall_6 rfl (lv_at hl 0 rfl) ?_
    refine lv_bipush (v := 122) hx hb dX12_isSmall_7 (by decide +kernel) ?_
    refine lv_icmp_gt (tgt := 16) hx hb dX12_isSmall_9 (by decide) (fun c4 => ?_) (fun c4 => ?_)
    · have c4 := (z_lt _ _).mp c4
      refine lv_iconst (v := 0) hx hb dX12_isSmall_16 (by decide +kernel) ?_
      exact K 17 ls 0 (g, F) H _ dX12_isSmall_17 (show (0 ≤ (0 : Int32).toInt ∧ (0 : Int32).toInt ≤ 1) from by omega) hP hD hS
    · have c4 := z_nlt c4
      refine lv_iconst (v := 1) hx hb dX12_isSmall_12 (by decide +kernel) ?_
      refine lv_goto (tgt := 17) hx hb dX12_isSmall_13 (by decide) ?_
      exact K 17 ls 1 (g, F) H _ dX12_isSmall_17 (show (0 ≤ (1 : Int32).toInt ∧ (1 : Int32).toInt ≤ 1) from by omega) hP hD hS
set_option maxHeartbeats 4000000 in
set_option maxRecDepth 100000 in
theorem m_isSmall (l : Launch) (dC : Nat → ClassId) (dI : Nat → Nat → Nat) (sz : Nat) (h0 : Nat) (kB kI kZ : ClassId) (q : Nat → Nat) (g : Nat → Int32) (F : Nat → Nat → Int32) (p0 : Int32) (hI : MInv g F) : Met l yX12_isSmall vmX12_isSmall ({ frames := 2, cells := 0, slots := 0, locals := 60 } : Room) (va_Pc [.int p0] (fun U => U.heap.size = sz ∧ va_P (dC, dI) vwCl (mW h0 kB kI kZ q g F) U.heap ∧ va_K (dC, dI) vwCl (mT kB kI kZ) U ∧ va_D (fun _ => True) (mW h0 kB kI kZ q g F))) (va_Qi (fun (r : Int32) (u : ((Nat → Int32) × (Nat → Nat → Int32))) => ((0 ≤ r.toInt ∧ r.toInt ≤ 1))) (fun u t => va_P (dC, dI) vwCl (mW h0 kB kI kZ q g F) t.heap ∧ va_K (dC, dI) vwCl (mT kB kI kZ) t ∧ va_D (va_A (mW h0 kB kI kZ q g F) sz) (mW h0 kB kI kZ q g F)) (va_A (mW h0 kB kI kZ q g F) sz)) 0 0 (va_A (mW h0 kB kI kZ q g F) sz) := by
  refine Met.ofW (cc := cX12_isSmall) (maxL := 1) (ret := (some .boolean)) (by decide) rfl ?_
  intro p e s m args below meth c s₁ B hml hv
  obtain ⟨rfl, hsz, hP, hK, hD0⟩ := hv
  have hx := B.exec
  have hb := B.bytes
  have hr := B.returns
  have hts := atoms_spec (ws := vmX12_isSmall) B.pre
  have hown : s.vm.findClass RX12 = some m.cls := findClass_of_methodNamed B.named
  subst hsz
  have hD := hD0.self (sz := s.heap.size)
  generalize hAe : va_A (mW h0 kB kI kZ q g F) s.heap.size = A at hD ⊢
  have hA : ∀ q : Nat, s.heap.size ≤ q → A q := fun q h => by rw [← hAe]; exact Or.inr h
  have hS : va_S A s.heap s.heap [] := va_S.rf
  have hl := lv_entry ([.int p0]) (n := 1) (Nat.le_of_ble_eq_true rfl)
  rw [lg_entry_eq]
  generalize (lg_sl ([.int p0]) ++ List.replicate (1 - (lg_sl ([.int p0])).length) Slot.unset).toArray = ls at hl ⊢
  exact bm_isSmall p0 hx hb hml hown hts hA hK hI hP hD hS hl (fun pc ls r u H locs hd hw hP hD hS => W.zret (v := r) hx hb hr (z_nb (by have := hw; omega)) (fun t ht hW => ⟨⟨r, u, rfl, hw, by rw [ht]; exact hP, va_K.moved hW.alike hK, hD⟩, hS.F ht⟩) hS.2.2 hd)
set_option maxHeartbeats 4000000 in
set_option maxRecDepth 100000 in
theorem bm_isLetter {p : Program} {l : Launch} {e : Env} {s : State} {m : MethodId} {args : Array Value} {below : List Frame} {meth : Method} {c : Code} {Q : State → Prop} {A : Nat → Prop} {dC : Nat → ClassId} {dI : Nat → Nat → Nat} {h0 : Nat} {kB kI kZ : ClassId} {q : Nat → Nat} {g : Nat → Int32} {F : Nat → Nat → Int32} {H : Heap} {locs : List Loc} {ls : Array Slot} (p0 : Int32) (hx : p.tables.exec = Jvm.exec) (hb : c.code = cX12_isLetter) (hml : c.maxLocals = 1) (hown : s.vm.findClass RX12 = some m.cls) (hts : ∀ w ∈ vmX12_isLetter, w.before args s = true) (hA : ∀ q : Nat, s.heap.size ≤ q → A q) (hK : va_K (dC, dI) vwCl (mT kB kI kZ) s) (hI : MInv g F) (hP : va_P (dC, dI) vwCl (mW h0 kB kI kZ q g F) H) (hD : va_D A (mW h0 kB kI kZ q g F)) (hS : va_S A s.heap H locs) (hl : lv_has ls 1 [(0, .int p0)])
    (K : ∀ (pc : Nat) (ls : Array Slot) (r : Int32) (u : ((Nat → Int32) × (Nat → Nat → Int32))) (H : Heap) (locs : List Loc), decode cX12_isLetter pc = .ok (.ireturn, 1) → (((0 ≤ r.toInt ∧ r.toInt ≤ 1))) → va_P (dC, dI) vwCl (mW h0 kB kI kZ q g F) H → va_D A (mW h0 kB kI kZ q g F) → va_S A s.heap H locs → W p l e ({ frames := 3, cells := 0, slots := 0, locals := 80 } : Room) s m args below meth c H locs 0 0 Q (F0 m pc ls [.int r])) : W p l e ({ frames := 3, cells := 0, slots := 0, locals := 80 } : Room) s m args below meth c H locs 0 0 Q (F0 m 0 ls []) := by
  obtain ⟨hg1z, hg2z, hg3z, hg4z, hg5z, hg6z, hg7z, hg8z, hg9z, hg23z, hg27z, hg30z, hg34z, hg36z, hg39z, hg44z, hg47z, hg48z, hg51z, hg56z, hg59z, hg62z, hg65z, hg66z, hg70z, hF11z, hF12z, hF13z, hF15z, hF19z, hF21z, hF24z, hF25z, hF26z, hF33z, hF38z, hF41z, hF43z, hF45z, hF46z, hF50z, hF53z, hF54z⟩ := hI
  have zk0 : (0 : Int32).toInt = 0 := by decide +kernel
  have zk1 : (1 : Int32).toInt = 1 := by decide +kernel
  have zk65 : (65 : Int32).toInt = 65 := by decide +kernel
  have zk90 : (90 : Int32).toInt = 90 := by decide +kernel
  refine lv_iload_n hx hb dX12_isLetter_0 rfl (lv_at hl 0 rfl) ?_
  have hFc := va_free (wc := (mW h0 kB kI kZ q g F)) hD hS hA [0, 1, 2, 3, 4, 5, 6, 7, 8, 9, 10, 11, 12, 13, 14, 15, 16, 17, 18, 19, 20, 21, 22, 23, 24, 25, 26, 27, 28, 29, 30, 31, 32, 33, 34, 35, 36, 37, 38, 39, 40, 41, 42, 43, 44, 45] rfl
  refine va_calli (va_runS (As := [.int p0]) (rest := []) ⟨hx, hb, hml, hown, hts⟩ (m_isSmall l dC dI H.size h0 kB kI kZ q g F p0 ⟨hg1z, hg2z, hg3z, hg4z, hg5z, hg6z, hg7z, hg8z, hg9z, hg23z, hg27z, hg30z, hg34z, hg36z, hg39z, hg44z, hg47z, hg48z, hg51z, hg56z, hg59z, hg62z, hg65z, hg66z, hg70z, hF11z, hF12z, hF13z, hF15z, hF19z, hF21z, hF24z, hF25z, hF26z, hF33z, hF38z, hF41z, hF43z, hF45z, hF46z, hF50z, hF53z, hF54z⟩) (va_cwS 1 hts gw_X12_isLetter_X12_isSmall_183 rfl rfl rfl (by decide +kernel) ⟨Nat.le_of_ble_eq_true rfl, Nat.le_of_ble_eq_true rfl⟩) ⟨fun a U g mk q => by obtain ⟨q0, q1, qP, qK, qD⟩ := q; exact ⟨q0, q1, qP, va_K.moved (u := U) (U := U.calling g mk a) (Vm.Alike.refl U.vm) qK, qD⟩, fun U hU hW => ⟨rfl, by rw [hU], by rw [hU]; exact hP, va_K.moved hW.alike hK, hD.weaken (fun _ _ _ _ => trivial)⟩⟩ rfl rfl hl.1 rfl (lv_room (Nat.le_of_ble_eq_true rfl)) dX12_isLetter_1 ⟨Nat.le_of_ble_eq_true rfl, Nat.le_of_ble_eq_true rfl⟩) hS (fun q _ h => hFc q h) hFc (fun r5 u t H1 locs ht hvm hw hB hz1 hk1 hS => ?_)
  obtain ⟨ga6, fa7⟩ := u
  obtain ⟨hP1, hK1, hD1⟩ := hB
  rw [ht] at hP1
  obtain ⟨hP, hD⟩ := va_join (wr := []) (w1 := (mW h0 kB kI kZ q g F)) hP hD [0, 1, 2, 3, 4, 5, 6, 7, 8, 9, 10, 11, 12, 13, 14, 15, 16, 17, 18, 19, 20, 21, 22, 23, 24, 25, 26, 27, 28, 29, 30, 31, 32, 33, 34, 35, 36, 37, 38, 39, 40, 41, 42, 43, 44, 45] [] rfl rfl (by decide) (by decide) hk1 hFc hP1 hD1
  generalize H1 = H at hP hS ⊢
  have hP : va_P (dC, dI) vwCl (mW h0 kB kI kZ q g F) H := hP
  have hD : va_D A (mW h0 kB kI kZ q g F) := hD
  have f8 : (0 ≤ r5.toInt ∧ r5.toInt ≤ 1) := hw
  refine lv_if_ne (tgt := 19) hx hb dX12_isLetter_4 (by decide) (fun c9 => ?_) (fun c9 => ?_)
  · have c9 := z_ne c9
    refine lv_iconst (v := 1) hx hb dX12_isLetter_19 (by decide +kernel) ?_
    refine lv_goto (tgt := 24) hx hb dX12_isLetter_20 (by decide) ?_
    exact K 24 ls 1 (g, F) H _ dX12_isLetter_24 (show (0 ≤ (1 : Int32).toInt ∧ (1 : Int32).toInt ≤ 1) from by omega) hP hD hS
  · have c9 := congrArg Int32.toInt c9
    refine lv_iload_n hx hb dX12_isLetter_7 rfl (lv_at hl 0 rfl) ?_
    refine lv_bipush (v := 65) hx hb dX12_isLetter_8 (by decide +kernel) ?_
    refine lv_icmp_lt (tgt := 23) hx hb dX12_isLetter_10 (by decide) (fun c10 => ?_) (fun c10 => ?_)
    · have c10 := (z_lt _ _).mp c10
      refine lv_iconst (v := 0) hx hb dX12_isLetter_23 (by decide +kernel) ?_
      exact K 24 ls 0 (g, F) H _ dX12_isLetter_24 (show (0 ≤ (0 : Int32).toInt ∧ (0 : Int32).toInt ≤ 1) from by omega) hP hD hS
    · have c10 := z_nlt c10
      refine lv_iload_n hx hb dX12_isLetter_13 rfl (lv_at hl 0 rfl) ?_
      refine lv_bipush (v := 90) hx hb dX12_isLetter_14 (by decide +kernel) ?_
      refine lv_icmp_gt (tgt := 23) hx hb dX12_isLetter_16 (by decide) (fun c11 => ?_) (fun c11 => ?_)
      · have c11 := (z_lt _ _).mp c11
        refine lv_iconst (v := 0) hx hb dX12_isLetter_23 (by decide +kernel) ?_
        exact K 24 ls 0 (g, F) H _ dX12_isLetter_24 (show (0 ≤ (0 : Int32).toInt ∧ (0 : Int32).toInt ≤ 1) from by omega) hP hD hS
      · have c11 := z_nlt c11
        refine lv_iconst (v := 1) hx hb dX12_isLetter_19 (by decide +kernel) ?_
        refine lv_goto (tgt := 24) hx hb dX12_isLetter_20 (by decide) ?_
        exact K 24 ls 1 (g, F) H _ dX12_isLetter_24 (show (0 ≤ (1 : Int32).toInt ∧ (1 : Int32).toInt ≤ 1) from by omega) hP hD hS
set_option maxHeartbeats 4000000 in
set_option maxRecDepth 100000 in
theorem m_isLetter (l : Launch) (dC : Nat → ClassId) (dI : Nat → Nat → Nat) (sz : Nat) (h0 : Nat) (kB kI kZ : ClassId) (q : Nat → Nat) (g : Nat → Int32) (F : Nat → Nat → Int32) (p0 : Int32) (hI : MInv g F) : Met l yX12_isLetter vmX12_isLetter ({ frames := 3, cells := 0, slots := 0, locals := 80 } : Room) (va_Pc [.int p0] (fun U => U.heap.size = sz ∧ va_P (dC, dI) vwCl (mW h0 kB kI kZ q g F) U.heap ∧ va_K (dC, dI) vwCl (mT kB kI kZ) U ∧ va_D (fun _ => True) (mW h0 kB kI kZ q g F))) (va_Qi (fun (r : Int32) (u : ((Nat → Int32) × (Nat → Nat → Int32))) => ((0 ≤ r.toInt ∧ r.toInt ≤ 1))) (fun u t => va_P (dC, dI) vwCl (mW h0 kB kI kZ q g F) t.heap ∧ va_K (dC, dI) vwCl (mT kB kI kZ) t ∧ va_D (va_A (mW h0 kB kI kZ q g F) sz) (mW h0 kB kI kZ q g F)) (va_A (mW h0 kB kI kZ q g F) sz)) 0 0 (va_A (mW h0 kB kI kZ q g F) sz) := by
  refine Met.ofW (cc := cX12_isLetter) (maxL := 1) (ret := (some .boolean)) (by decide) rfl ?_
  intro p e s m args below meth c s₁ B hml hv
  obtain ⟨rfl, hsz, hP, hK, hD0⟩ := hv
  have hx := B.exec
  have hb := B.bytes
  have hr := B.returns
  have hts := atoms_spec (ws := vmX12_isLetter) B.pre
  have hown : s.vm.findClass RX12 = some m.cls := findClass_of_methodNamed B.named
  subst hsz
  have hD := hD0.self (sz := s.heap.size)
  generalize hAe : va_A (mW h0 kB kI kZ q g F) s.heap.size = A at hD ⊢
  have hA : ∀ q : Nat, s.heap.size ≤ q → A q := fun q h => by rw [← hAe]; exact Or.inr h
  have hS : va_S A s.heap s.heap [] := va_S.rf
  have hl := lv_entry ([.int p0]) (n := 1) (Nat.le_of_ble_eq_true rfl)
  rw [lg_entry_eq]
  generalize (lg_sl ([.int p0]) ++ List.replicate (1 - (lg_sl ([.int p0])).length) Slot.unset).toArray = ls at hl ⊢
  exact bm_isLetter p0 hx hb hml hown hts hA hK hI hP hD hS hl (fun pc ls r u H locs hd hw hP hD hS => W.zret (v := r) hx hb hr (z_nb (by have := hw; omega)) (fun t ht hW => ⟨⟨r, u, rfl, hw, by rw [ht]; exact hP, va_K.moved hW.alike hK, hD⟩, hS.F ht⟩) hS.2.2 hd)
set_option maxHeartbeats 4000000 in
set_option maxRecDepth 100000 in
theorem bm_see {p : Program} {l : Launch} {e : Env} {s : State} {m : MethodId} {args : Array Value} {below : List Frame} {meth : Method} {c : Code} {Q : State → Prop} {A : Nat → Prop} {dC : Nat → ClassId} {dI : Nat → Nat → Nat} {h0 : Nat} {kB kI kZ : ClassId} {q : Nat → Nat} {g : Nat → Int32} {F : Nat → Nat → Int32} {H : Heap} {locs : List Loc} {ls : Array Slot} (p0 : Int32) (hx : p.tables.exec = Jvm.exec) (hb : c.code = cX12_see) (hml : c.maxLocals = 2) (hown : s.vm.findClass RX12 = some m.cls) (hts : ∀ w ∈ vmX12_see, w.before args s = true) (hA : ∀ q : Nat, s.heap.size ≤ q → A q) (hK : va_K (dC, dI) vwCl (mT kB kI kZ) s) (hI : MInv g F) (hq0 : 0 ≤ p0.toInt) (hP : va_P (dC, dI) vwCl (mW h0 kB kI kZ q g F) H) (hD : va_D A (mW h0 kB kI kZ q g F)) (hS : va_S A s.heap H locs) (hl : lv_has ls 2 [(0, .ref h0), (1, .int p0)])
    (K : ∀ (pc : Nat) (ls : Array Slot) (r : Int32) (u : ((Nat → Int32) × (Nat → Nat → Int32))) (H : Heap) (locs : List Loc), decode cX12_see pc = .ok (.ireturn, 1) → ((((-1) ≤ r.toInt ∧ r.toInt ≤ 255)) ∧ (((g 2).toInt ≤ p0.toInt → r.toInt = -1)) ∧ ((p0.toInt < (g 2).toInt → 0 ≤ r.toInt))) → va_P (dC, dI) vwCl (mW h0 kB kI kZ q g F) H → va_D A (mW h0 kB kI kZ q g F) → va_S A s.heap H locs → W p l e ({ frames := 2, cells := 0, slots := 0, locals := 60 } : Room) s m args below meth c H locs 0 0 Q (F0 m pc ls [.int r])) : W p l e ({ frames := 2, cells := 0, slots := 0, locals := 60 } : Room) s m args below meth c H locs 0 0 Q (F0 m 0 ls []) := by
  obtain ⟨hg1z, hg2z, hg3z, hg4z, hg5z, hg6z, hg7z, hg8z, hg9z, hg23z, hg27z, hg30z, hg34z, hg36z, hg39z, hg44z, hg47z, hg48z, hg51z, hg56z, hg59z, hg62z, hg65z, hg66z, hg70z, hF11z, hF12z, hF13z, hF15z, hF19z, hF21z, hF24z, hF25z, hF26z, hF33z, hF38z, hF41z, hF43z, hF45z, hF46z, hF50z, hF53z, hF54z⟩ := hI
  have zkm1 : (-1 : Int32).toInt = -1 := by decide +kernel
  have zk255 : (255 : Int32).toInt = 255 := by decide +kernel
  refine lv_iload_n hx hb dX12_see_0 rfl (lv_at hl 1 rfl) ?_
  refine lv_aload_n hx hb dX12_see_1 rfl (lv_at hl 0 rfl) ?_
  refine va_get (D := (dC, dI)) (ci := 12) (v := .int (g 2)) (C := RX12) (T := TX12) (N := 71) hx hb hts (fun _ h => List.mem_append_right _ h) hown hK hP 0 rfl rfl 2 (by decide) (hts (.fieldLink RX12 155 "SpellTurnerModel" "size" "I") (List.mem_of_getElem? (i := 1) rfl)) (fun _ h9 => h9) rfl dX12_see_2 ?_
  refine lv_icmp_ge (tgt := 21) hx hb dX12_see_5 (by decide) (fun c12 => ?_) (fun c12 => ?_)
  · have c12 := (z_le _ _).mp c12
    refine lv_iconst (v := (-1)) hx hb dX12_see_21 (by decide +kernel) ?_
    exact K 22 ls (-1) (g, F) H _ dX12_see_22 ⟨(show ((-1) ≤ (-1 : Int32).toInt ∧ (-1 : Int32).toInt ≤ 255) from by omega), (show ((g 2).toInt ≤ p0.toInt → (-1 : Int32).toInt = -1) from by omega), (show (p0.toInt < (g 2).toInt → 0 ≤ (-1 : Int32).toInt) from by omega)⟩ hP hD hS
  · have c12 := z_nle c12
    refine lv_aload_n hx hb dX12_see_8 rfl (lv_at hl 0 rfl) ?_
    refine va_get (D := (dC, dI)) (ci := 12) (v := .ref (q 0)) (C := RX12) (T := TX12) (N := 71) hx hb hts (fun _ h => List.mem_append_right _ h) hown hK hP 0 rfl rfl 0 (by decide) (hts (.fieldLink RX12 7 "SpellTurnerModel" "tape" "[B") (List.mem_of_getElem? (i := 2) rfl)) (fun _ h9 => h9) rfl dX12_see_9 ?_
    refine lv_iload_n hx hb dX12_see_12 rfl (lv_at hl 1 rfl) ?_
    refine va_bald hx hb hK hP 1 0 rfl rfl (z_in (i := p0) (by omega) (by omega)) dX12_see_13 ?_
    refine lv_topi (fun x13 ex13 => ?_)
    clear ex13
    refine lv_sipush (v := 255) hx hb dX12_see_14 (by decide +kernel) ?_
    refine lv_iand hx hb dX12_see_17 ?_
    refine lv_topi (fun x14 ex14 => ?_)
    have fx14 : 0 ≤ x14.toInt ∧ x14.toInt ≤ 255 := by rw [ex14]; exact z_and255 _
    clear ex14
    refine lv_goto (tgt := 22) hx hb dX12_see_18 (by decide) ?_
    exact K 22 ls x14 (g, F) H _ dX12_see_22 ⟨(show ((-1) ≤ x14.toInt ∧ x14.toInt ≤ 255) from by omega), (show ((g 2).toInt ≤ p0.toInt → x14.toInt = -1) from by omega), (show (p0.toInt < (g 2).toInt → 0 ≤ x14.toInt) from by omega)⟩ hP hD hS
set_option maxHeartbeats 4000000 in
set_option maxRecDepth 100000 in
theorem m_see (l : Launch) (dC : Nat → ClassId) (dI : Nat → Nat → Nat) (sz : Nat) (h0 : Nat) (kB kI kZ : ClassId) (q : Nat → Nat) (g : Nat → Int32) (F : Nat → Nat → Int32) (p0 : Int32) (hI : MInv g F) (hq0 : 0 ≤ p0.toInt) : Met l yX12_see vmX12_see ({ frames := 2, cells := 0, slots := 0, locals := 60 } : Room) (va_Pc [.ref h0, .int p0] (fun U => U.heap.size = sz ∧ va_P (dC, dI) vwCl (mW h0 kB kI kZ q g F) U.heap ∧ va_K (dC, dI) vwCl (mT kB kI kZ) U ∧ va_D (fun _ => True) (mW h0 kB kI kZ q g F))) (va_Qi (fun (r : Int32) (u : ((Nat → Int32) × (Nat → Nat → Int32))) => (((-1) ≤ r.toInt ∧ r.toInt ≤ 255)) ∧ (((g 2).toInt ≤ p0.toInt → r.toInt = -1)) ∧ ((p0.toInt < (g 2).toInt → 0 ≤ r.toInt))) (fun u t => va_P (dC, dI) vwCl (mW h0 kB kI kZ q g F) t.heap ∧ va_K (dC, dI) vwCl (mT kB kI kZ) t ∧ va_D (va_A (mW h0 kB kI kZ q g F) sz) (mW h0 kB kI kZ q g F)) (va_A (mW h0 kB kI kZ q g F) sz)) 0 0 (va_A (mW h0 kB kI kZ q g F) sz) := by
  refine Met.ofW (cc := cX12_see) (maxL := 2) (ret := (some .int)) (by decide) rfl ?_
  intro p e s m args below meth c s₁ B hml hv
  obtain ⟨rfl, hsz, hP, hK, hD0⟩ := hv
  have hx := B.exec
  have hb := B.bytes
  have hr := B.returns
  have hts := atoms_spec (ws := vmX12_see) B.pre
  have hown : s.vm.findClass RX12 = some m.cls := findClass_of_methodNamed B.named
  subst hsz
  have hD := hD0.self (sz := s.heap.size)
  generalize hAe : va_A (mW h0 kB kI kZ q g F) s.heap.size = A at hD ⊢
  have hA : ∀ q : Nat, s.heap.size ≤ q → A q := fun q h => by rw [← hAe]; exact Or.inr h
  have hS : va_S A s.heap s.heap [] := va_S.rf
  have hl := lv_entry ([.ref h0, .int p0]) (n := 2) (Nat.le_of_ble_eq_true rfl)
  rw [lg_entry_eq]
  generalize (lg_sl ([.ref h0, .int p0]) ++ List.replicate (2 - (lg_sl ([.ref h0, .int p0])).length) Slot.unset).toArray = ls at hl ⊢
  exact bm_see p0 hx hb hml hown hts hA hK hI hq0 hP hD hS hl (fun pc ls r u H locs hd hw hP hD hS => W.iret (v := r) hx hb hr (fun t ht hW => ⟨⟨r, u, rfl, hw, by rw [ht]; exact hP, va_K.moved hW.alike hK, hD⟩, hS.F ht⟩) hS.2.2 hd)
set_option maxHeartbeats 4000000 in
set_option maxRecDepth 100000 in
theorem bm_wrong {p : Program} {l : Launch} {e : Env} {s : State} {m : MethodId} {args : Array Value} {below : List Frame} {meth : Method} {c : Code} {Q : State → Prop} {A : Nat → Prop} {dC : Nat → ClassId} {dI : Nat → Nat → Nat} {h0 : Nat} {kB kI kZ : ClassId} {q : Nat → Nat} {g : Nat → Int32} {F : Nat → Nat → Int32} {H : Heap} {locs : List Loc} {ls : Array Slot} (p0 : Int32) (hx : p.tables.exec = Jvm.exec) (hb : c.code = cX12_wrong) (hml : c.maxLocals = 2) (hown : s.vm.findClass RX12 = some m.cls) (hts : ∀ w ∈ vmX12_wrong, w.before args s = true) (hA : ∀ q : Nat, s.heap.size ≤ q → A q) (hK : va_K (dC, dI) vwCl (mT kB kI kZ) s) (hI : MInv g F) (hq0 : 0 ≤ p0.toInt ∧ p0.toInt ≤ 4) (hP : va_P (dC, dI) vwCl (mW h0 kB kI kZ q g F) H) (hD : va_D A (mW h0 kB kI kZ q g F)) (hS : va_S A s.heap H locs) (hl : lv_has ls 2 [(0, .ref h0), (1, .int p0)])
    (K : ∀ (pc : Nat) (ls : Array Slot) (r : Int32) (u : ((Nat → Int32) × (Nat → Nat → Int32))) (H : Heap) (locs : List Loc), decode cX12_wrong pc = .ok (.ireturn, 1) → ((((0) ≤ (u.1 7).toInt ∧ (u.1 7).toInt ≤ 4)) ∧ (((-1) ≤ (u.1 8).toInt ∧ (u.1 8).toInt ≤ 2000)) ∧ ((0 ≤ r.toInt ∧ r.toInt ≤ 1))) → va_P (dC, dI) vwCl (mW h0 kB kI kZ q (upd (upd g 7 (u.1 7)) 8 (u.1 8)) F) H → va_D A (mW h0 kB kI kZ q (upd (upd g 7 (u.1 7)) 8 (u.1 8)) F) → va_S A s.heap H locs → W p l e ({ frames := 2, cells := 0, slots := 0, locals := 60 } : Room) s m args below meth c H locs 0 0 Q (F0 m pc ls [.int r])) : W p l e ({ frames := 2, cells := 0, slots := 0, locals := 60 } : Room) s m args below meth c H locs 0 0 Q (F0 m 0 ls []) := by
  obtain ⟨hg1z, hg2z, hg3z, hg4z, hg5z, hg6z, hg7z, hg8z, hg9z, hg23z, hg27z, hg30z, hg34z, hg36z, hg39z, hg44z, hg47z, hg48z, hg51z, hg56z, hg59z, hg62z, hg65z, hg66z, hg70z, hF11z, hF12z, hF13z, hF15z, hF19z, hF21z, hF24z, hF25z, hF26z, hF33z, hF38z, hF41z, hF43z, hF45z, hF46z, hF50z, hF53z, hF54z⟩ := hI
  have zk0 : (0 : Int32).toInt = 0 := by decide +kernel
  refine lv_aload_n hx hb dX12_wrong_0 rfl (lv_at hl 0 rfl) ?_
  refine lv_iload_n hx hb dX12_wrong_1 rfl (lv_at hl 1 rfl) ?_
  refine va_put (D := (dC, dI)) (ci := 12) (v := .int p0) (ty := .int) (C := RX12) (T := TX12) (N := 71) hx hb hts (fun _ h => List.mem_append_right _ h) tyX12 tyX12_ok nmX12 hown hK hP hD hS 0 rfl rfl 7 (by decide) (hts (.fieldLink RX12 194 "SpellTurnerModel" "faultKind" "I") (List.mem_of_getElem? (i := 1) rfl)) (fun _ h9 => h9) rfl (by decide +kernel) rfl rfl (Nat.le_of_ble_eq_true rfl) dX12_wrong_2 (fun H locs hP hD hS => ?_)
  have hP : va_P (dC, dI) vwCl (mW h0 kB kI kZ q (upd g 7 p0) F) H := hP
  have hD : va_D A (mW h0 kB kI kZ q (upd g 7 p0) F) := hD
  have hg15 : (0) ≤ p0.toInt ∧ p0.toInt ≤ 4 := ⟨by omega, by omega⟩
  refine lv_aload_n hx hb dX12_wrong_5 rfl (lv_at hl 0 rfl) ?_
  refine lv_aload_n hx hb dX12_wrong_6 rfl (lv_at hl 0 rfl) ?_
  refine va_get (D := (dC, dI)) (ci := 12) (v := .int (g 5)) (C := RX12) (T := TX12) (N := 71) hx hb hts (fun _ h => List.mem_append_right _ h) hown hK hP 0 rfl rfl 5 (by decide) (hts (.fieldLink RX12 177 "SpellTurnerModel" "at" "I") (List.mem_of_getElem? (i := 2) rfl)) (fun _ h9 => h9) rfl dX12_wrong_7 ?_
  refine va_put (D := (dC, dI)) (ci := 12) (v := .int (g 5)) (ty := .int) (C := RX12) (T := TX12) (N := 71) hx hb hts (fun _ h => List.mem_append_right _ h) tyX12 tyX12_ok nmX12 hown hK hP hD hS 0 rfl rfl 8 (by decide) (hts (.fieldLink RX12 13 "SpellTurnerModel" "faultPlace" "I") (List.mem_of_getElem? (i := 3) rfl)) (fun _ h9 => h9) rfl (by decide +kernel) rfl rfl (Nat.le_of_ble_eq_true rfl) dX12_wrong_10 (fun H locs hP hD hS => ?_)
  have hP : va_P (dC, dI) vwCl (mW h0 kB kI kZ q (upd (upd g 7 p0) 8 (g 5)) F) H := hP
  have hD : va_D A (mW h0 kB kI kZ q (upd (upd g 7 p0) 8 (g 5)) F) := hD
  have hg16 : (-1) ≤ (g 5).toInt ∧ (g 5).toInt ≤ 2000 := ⟨by omega, by omega⟩
  refine lv_iconst (v := 0) hx hb dX12_wrong_13 (by decide +kernel) ?_
  exact K 14 ls 0 ((upd (upd g 7 p0) 8 (g 5)), F) H _ dX12_wrong_14 ⟨hg15, hg16, (show (0 ≤ (0 : Int32).toInt ∧ (0 : Int32).toInt ≤ 1) from by omega)⟩ hP hD hS
set_option maxHeartbeats 4000000 in
set_option maxRecDepth 100000 in
theorem m_wrong (l : Launch) (dC : Nat → ClassId) (dI : Nat → Nat → Nat) (sz : Nat) (h0 : Nat) (kB kI kZ : ClassId) (q : Nat → Nat) (g : Nat → Int32) (F : Nat → Nat → Int32) (p0 : Int32) (hI : MInv g F) (hq0 : 0 ≤ p0.toInt ∧ p0.toInt ≤ 4) : Met l yX12_wrong vmX12_wrong ({ frames := 2, cells := 0, slots := 0, locals := 60 } : Room) (va_Pc [.ref h0, .int p0] (fun U => U.heap.size = sz ∧ va_P (dC, dI) vwCl (mW h0 kB kI kZ q g F) U.heap ∧ va_K (dC, dI) vwCl (mT kB kI kZ) U ∧ va_D (fun _ => True) (mW h0 kB kI kZ q g F))) (va_Qi (fun (r : Int32) (u : ((Nat → Int32) × (Nat → Nat → Int32))) => (((0) ≤ (u.1 7).toInt ∧ (u.1 7).toInt ≤ 4)) ∧ (((-1) ≤ (u.1 8).toInt ∧ (u.1 8).toInt ≤ 2000)) ∧ ((0 ≤ r.toInt ∧ r.toInt ≤ 1))) (fun u t => va_P (dC, dI) vwCl (mW h0 kB kI kZ q (upd (upd g 7 (u.1 7)) 8 (u.1 8)) F) t.heap ∧ va_K (dC, dI) vwCl (mT kB kI kZ) t ∧ va_D (va_A (mW h0 kB kI kZ q g F) sz) (mW h0 kB kI kZ q (upd (upd g 7 (u.1 7)) 8 (u.1 8)) F)) (va_A (mW h0 kB kI kZ q g F) sz)) 0 0 (va_A (mW h0 kB kI kZ q g F) sz) := by
  refine Met.ofW (cc := cX12_wrong) (maxL := 2) (ret := (some .boolean)) (by decide) rfl ?_
  intro p e s m args below meth c s₁ B hml hv
  obtain ⟨rfl, hsz, hP, hK, hD0⟩ := hv
  have hx := B.exec
  have hb := B.bytes
  have hr := B.returns
  have hts := atoms_spec (ws := vmX12_wrong) B.pre
  have hown : s.vm.findClass RX12 = some m.cls := findClass_of_methodNamed B.named
  subst hsz
  have hD := hD0.self (sz := s.heap.size)
  generalize hAe : va_A (mW h0 kB kI kZ q g F) s.heap.size = A at hD ⊢
  have hA : ∀ q : Nat, s.heap.size ≤ q → A q := fun q h => by rw [← hAe]; exact Or.inr h
  have hS : va_S A s.heap s.heap [] := va_S.rf
  have hl := lv_entry ([.ref h0, .int p0]) (n := 2) (Nat.le_of_ble_eq_true rfl)
  rw [lg_entry_eq]
  generalize (lg_sl ([.ref h0, .int p0]) ++ List.replicate (2 - (lg_sl ([.ref h0, .int p0])).length) Slot.unset).toArray = ls at hl ⊢
  exact bm_wrong p0 hx hb hml hown hts hA hK hI hq0 hP hD hS hl (fun pc ls r u H locs hd hw hP hD hS => W.zret (v := r) hx hb hr (z_nb (by have := hw.2.2; omega)) (fun t ht hW => ⟨⟨r, u, rfl, hw, by rw [ht]; exact hP, va_K.moved hW.alike hK, hD⟩, hS.F ht⟩) hS.2.2 hd)
set_option maxHeartbeats 4000000 in
set_option maxRecDepth 100000 in
theorem bm_isStage {p : Program} {l : Launch} {e : Env} {s : State} {m : MethodId} {args : Array Value} {below : List Frame} {meth : Method} {c : Code} {Q : State → Prop} {A : Nat → Prop} {dC : Nat → ClassId} {dI : Nat → Nat → Nat} {h0 : Nat} {kB kI kZ : ClassId} {q : Nat → Nat} {g : Nat → Int32} {F : Nat → Nat → Int32} {H : Heap} {locs : List Loc} {ls : Array Slot} (p0 : Int32) (hx : p.tables.exec = Jvm.exec) (hb : c.code = cX12_isStage) (hml : c.maxLocals = 2) (hown : s.vm.findClass RX12 = some m.cls) (hts : ∀ w ∈ vmX12_isStage, w.before args s = true) (hA : ∀ q : Nat, s.heap.size ≤ q → A q) (hK : va_K (dC, dI) vwCl (mT kB kI kZ) s) (hI : MInv g F) (hP : va_P (dC, dI) vwCl (mW h0 kB kI kZ q g F) H) (hD : va_D A (mW h0 kB kI kZ q g F)) (hS : va_S A s.heap H locs) (hl : lv_has ls 2 [(0, .ref h0), (1, .int p0)])
    (K : ∀ (pc : Nat) (ls : Array Slot) (r : Int32) (u : ((Nat → Int32) × (Nat → Nat → Int32))) (H : Heap) (locs : List Loc), decode cX12_isStage pc = .ok (.ireturn, 1) → (((0 ≤ r.toInt ∧ r.toInt ≤ 1))) → va_P (dC, dI) vwCl (mW h0 kB kI kZ q g F) H → va_D A (mW h0 kB kI kZ q g F) → va_S A s.heap H locs → W p l e ({ frames := 3, cells := 0, slots := 0, locals := 82 } : Room) s m args below meth c H locs 0 0 Q (F0 m pc ls [.int r])) : W p l e ({ frames := 3, cells := 0, slots := 0, locals := 82 } : Room) s m args below meth c H locs 0 0 Q (F0 m 0 ls []) := by
  obtain ⟨hg1z, hg2z, hg3z, hg4z, hg5z, hg6z, hg7z, hg8z, hg9z, hg23z, hg27z, hg30z, hg34z, hg36z, hg39z, hg44z, hg47z, hg48z, hg51z, hg56z, hg59z, hg62z, hg65z, hg66z, hg70z, hF11z, hF12z, hF13z, hF15z, hF19z, hF21z, hF24z, hF25z, hF26z, hF33z, hF38z, hF41z, hF43z, hF45z, hF46z, hF50z, hF53z, hF54z⟩ := hI
  have zk0 : (0 : Int32).toInt = 0 := by decide +kernel
  refine lv_iload_n hx hb dX12_isStage_0 rfl (lv_at hl 1 rfl) ?_
  refine lv_iconst (v := 0) hx hb dX12_isStage_1 (by decide +kernel) ?_
  refine lv_aload_n hx hb dX12_isStage_2 rfl (lv_at hl 0 rfl) ?_
  refine va_get (D := (dC, dI)) (ci := 12) (v := .int (g 9)) (C := RX12) (T := TX12) (N := 71) hx hb hts (fun _ h => List.mem_append_right _ h) hown hK hP 0 rfl rfl 9 (by decide) (hts (.fieldLink RX12 222 "SpellTurnerModel" "reforms" "I") (List.mem_of_getElem? (i := 1) rfl)) (fun _ h9 => h9) rfl dX12_isStage_3 ?_
  have hFc := va_free (wc := (mW h0 kB kI kZ q g F)) hD hS hA [0, 1, 2, 3, 4, 5, 6, 7, 8, 9, 10, 11, 12, 13, 14, 15, 16, 17, 18, 19, 20, 21, 22, 23, 24, 25, 26, 27, 28, 29, 30, 31, 32, 33, 34, 35, 36, 37, 38, 39, 40, 41, 42, 43, 44, 45] rfl
  refine va_calli (va_runS (As := [.int p0, .int 0, .int (g 9)]) (rest := []) ⟨hx, hb, hml, hown, hts⟩ (m_in l dC dI H.size h0 kB kI kZ q g F p0 0 (g 9) ⟨hg1z, hg2z, hg3z, hg4z, hg5z, hg6z, hg7z, hg8z, hg9z, hg23z, hg27z, hg30z, hg34z, hg36z, hg39z, hg44z, hg47z, hg48z, hg51z, hg56z, hg59z, hg62z, hg65z, hg66z, hg70z, hF11z, hF12z, hF13z, hF15z, hF19z, hF21z, hF24z, hF25z, hF26z, hF33z, hF38z, hF41z, hF43z, hF45z, hF46z, hF50z, hF53z, hF54z⟩) (va_cwS 3 hts gw_X12_isStage_X12_in_226 rfl rfl rfl (by decide +kernel) ⟨Nat.le_of_ble_eq_true rfl, Nat.le_of_ble_eq_true rfl⟩) ⟨fun a U g mk q => by obtain ⟨q0, q1, qP, qK, qD⟩ := q; exact ⟨q0, q1, qP, va_K.moved (u := U) (U := U.calling g mk a) (Vm.Alike.refl U.vm) qK, qD⟩, fun U hU hW => ⟨rfl, by rw [hU], by rw [hU]; exact hP, va_K.moved hW.alike hK, hD.weaken (fun _ _ _ _ => trivial)⟩⟩ rfl rfl hl.1 rfl (lv_room (Nat.le_of_ble_eq_true rfl)) dX12_isStage_6 ⟨Nat.le_of_ble_eq_true rfl, Nat.le_of_ble_eq_true rfl⟩) hS (fun q _ h => hFc q h) hFc (fun r17 u t H1 locs ht hvm hw hB hz1 hk1 hS => ?_)
  obtain ⟨ga18, fa19⟩ := u
  obtain ⟨hP1, hK1, hD1⟩ := hB
  rw [ht] at hP1
  obtain ⟨hP, hD⟩ := va_join (wr := []) (w1 := (mW h0 kB kI kZ q g F)) hP hD [0, 1, 2, 3, 4, 5, 6, 7, 8, 9, 10, 11, 12, 13, 14, 15, 16, 17, 18, 19, 20, 21, 22, 23, 24, 25, 26, 27, 28, 29, 30, 31, 32, 33, 34, 35, 36, 37, 38, 39, 40, 41, 42, 43, 44, 45] [] rfl rfl (by decide) (by decide) hk1 hFc hP1 hD1
  generalize H1 = H at hP hS ⊢
  have hP : va_P (dC, dI) vwCl (mW h0 kB kI kZ q g F) H := hP
  have hD : va_D A (mW h0 kB kI kZ q g F) := hD
  have f20 : (0 ≤ r17.toInt ∧ r17.toInt ≤ 1) := hw
  exact K 9 ls r17 (g, F) H _ dX12_isStage_9 (show (0 ≤ r17.toInt ∧ r17.toInt ≤ 1) from by omega) hP hD hS
set_option maxHeartbeats 4000000 in
set_option maxRecDepth 100000 in
theorem m_isStage (l : Launch) (dC : Nat → ClassId) (dI : Nat → Nat → Nat) (sz : Nat) (h0 : Nat) (kB kI kZ : ClassId) (q : Nat → Nat) (g : Nat → Int32) (F : Nat → Nat → Int32) (p0 : Int32) (hI : MInv g F) : Met l yX12_isStage vmX12_isStage ({ frames := 3, cells := 0, slots := 0, locals := 82 } : Room) (va_Pc [.ref h0, .int p0] (fun U => U.heap.size = sz ∧ va_P (dC, dI) vwCl (mW h0 kB kI kZ q g F) U.heap ∧ va_K (dC, dI) vwCl (mT kB kI kZ) U ∧ va_D (fun _ => True) (mW h0 kB kI kZ q g F))) (va_Qi (fun (r : Int32) (u : ((Nat → Int32) × (Nat → Nat → Int32))) => ((0 ≤ r.toInt ∧ r.toInt ≤ 1))) (fun u t => va_P (dC, dI) vwCl (mW h0 kB kI kZ q g F) t.heap ∧ va_K (dC, dI) vwCl (mT kB kI kZ) t ∧ va_D (va_A (mW h0 kB kI kZ q g F) sz) (mW h0 kB kI kZ q g F)) (va_A (mW h0 kB kI kZ q g F) sz)) 0 0 (va_A (mW h0 kB kI kZ q g F) sz) := by
  refine Met.ofW (cc := cX12_isStage) (maxL := 2) (ret := (some .boolean)) (by decide) rfl ?_
  intro p e s m args below meth c s₁ B hml hv
  obtain ⟨rfl, hsz, hP, hK, hD0⟩ := hv
  have hx := B.exec
  have hb := B.bytes
  have hr := B.returns
  have hts := atoms_spec (ws := vmX12_isStage) B.pre
  have hown : s.vm.findClass RX12 = some m.cls := findClass_of_methodNamed B.named
  subst hsz
  have hD := hD0.self (sz := s.heap.size)
  generalize hAe : va_A (mW h0 kB kI kZ q g F) s.heap.size = A at hD ⊢
  have hA : ∀ q : Nat, s.heap.size ≤ q → A q := fun q h => by rw [← hAe]; exact Or.inr h
  have hS : va_S A s.heap s.heap [] := va_S.rf
  have hl := lv_entry ([.ref h0, .int p0]) (n := 2) (Nat.le_of_ble_eq_true rfl)
  rw [lg_entry_eq]
  generalize (lg_sl ([.ref h0, .int p0]) ++ List.replicate (2 - (lg_sl ([.ref h0, .int p0])).length) Slot.unset).toArray = ls at hl ⊢
  exact bm_isStage p0 hx hb hml hown hts hA hK hI hP hD hS hl (fun pc ls r u H locs hd hw hP hD hS => W.zret (v := r) hx hb hr (z_nb (by have := hw; omega)) (fun t ht hW => ⟨⟨r, u, rfl, hw, by rw [ht]; exact hP, va_K.moved hW.alike hK, hD⟩, hS.F ht⟩) hS.2.2 hd)
set_option maxHeartbeats 4000000 in
set_option maxRecDepth 100000 in
theorem bm_hasNought {p : Program} {l : Launch} {e : Env} {s : State} {m : MethodId} {args : Array Value} {below : List Frame} {meth : Method} {c : Code} {Q : State → Prop} {A : Nat → Prop} {dC : Nat → ClassId} {dI : Nat → Nat → Nat} {h0 : Nat} {kB kI kZ : ClassId} {q : Nat → Nat} {g : Nat → Int32} {F : Nat → Nat → Int32} {H : Heap} {locs : List Loc} {ls : Array Slot} (p0 : Int32) (hx : p.tables.exec = Jvm.exec) (hb : c.code = cX12_hasNought) (hml : c.maxLocals = 3) (hown : s.vm.findClass RX12 = some m.cls) (hts : ∀ w ∈ vmX12_hasNought, w.before args s = true) (hA : ∀ q : Nat, s.heap.size ≤ q → A q) (hK : va_K (dC, dI) vwCl (mT kB kI kZ) s) (hI : MInv g F) (hq0 : p0.toInt ≤ 2000) (hP : va_P (dC, dI) vwCl (mW h0 kB kI kZ q g F) H) (hD : va_D A (mW h0 kB kI kZ q g F)) (hS : va_S A s.heap H locs) (hl : lv_has ls 3 [(0, .ref h0), (1, .int p0)])
    (K : ∀ (pc : Nat) (ls : Array Slot) (r : Int32) (u : ((Nat → Int32) × (Nat → Nat → Int32))) (H : Heap) (locs : List Loc), decode cX12_hasNought pc = .ok (.ireturn, 1) → (((0 ≤ r.toInt ∧ r.toInt ≤ 1))) → va_P (dC, dI) vwCl (mW h0 kB kI kZ q g F) H → va_D A (mW h0 kB kI kZ q g F) → va_S A s.heap H locs → W p l e ({ frames := 2, cells := 0, slots := 0, locals := 60 } : Room) s m args below meth c H locs 0 0 Q (F0 m pc ls [.int r])) : W p l e ({ frames := 2, cells := 0, slots := 0, locals := 60 } : Room) s m args below meth c H locs 0 0 Q (F0 m 0 ls []) := by
  obtain ⟨hg1z, hg2z, hg3z, hg4z, hg5z, hg6z, hg7z, hg8z, hg9z, hg23z, hg27z, hg30z, hg34z, hg36z, hg39z, hg44z, hg47z, hg48z, hg51z, hg56z, hg59z, hg62z, hg65z, hg66z, hg70z, hF11z, hF12z, hF13z, hF15z, hF19z, hF21z, hF24z, hF25z, hF26z, hF33z, hF38z, hF41z, hF43z, hF45z, hF46z, hF50z, hF53z, hF54z⟩ := hI
  have zk0 : (0 : Int32).toInt = 0 := by decide +kernel
  have zk1 : (1 : Int32).toInt = 1 := by decide +kernel
  refine lv_iconst (v := 0) hx hb dX12_hasNought_0 (by decide +kernel) ?_
  refine lv_istore_n (lv' := [(2, .int 0), (0, .ref h0), (1, .int p0)]) hx hb dX12_hasNought_1 rfl hl (by decide) rfl (fun ls hl => ?_)
  have lp2 : ∀ (n : Nat) (x21 : Int32) (gl22 : Nat → Int32) (fl23 : Nat → Nat → Int32) (H : Heap) (locs : List Loc) (ls : Array Slot), (2000 - x21.toInt).toNat < n → 0 ≤ x21.toInt → va_P (dC, dI) vwCl (mW h0 kB kI kZ q g F) H → va_D A (mW h0 kB kI kZ q g F) → va_S A s.heap H locs → lv_has ls 3 [(2, .int x21), (0, .ref h0), (1, .int p0)] → W p l e ({ frames := 2, cells := 0, slots := 0, locals := 60 } : Room) s m args below meth c H locs 0 0 Q (F0 m 2 ls []) := by
    intro n
    induction n with
    | zero => intro x21 gl22 fl23 H locs ls hm; exact absurd hm (Nat.not_lt_zero _)
    | succ n ih =>
      intro x21 gl22 fl23 H locs ls hm f24 hP hD hS hl
      have ih2 := ih
      refine lv_iload_n hx hb dX12_hasNought_2 rfl (lv_at hl 0 rfl) ?_
      refine lv_iload_n hx hb dX12_hasNought_3 rfl (lv_at hl 2 rfl) ?_
      refine lv_icmp_ge (tgt := 24) hx hb dX12_hasNought_4 (by decide) (fun c25 => ?_) (fun c25 => ?_)
      · have c25 := (z_le _ _).mp c25
        refine lv_iconst (v := 0) hx hb dX12_hasNought_24 (by decide +kernel) ?_
        exact K 25 ls 0 (g, F) H _ dX12_hasNought_25 (show (0 ≤ (0 : Int32).toInt ∧ (0 : Int32).toInt ≤ 1) from by omega) hP hD hS
      · have c25 := z_nle c25
        refine lv_aload_n hx hb dX12_hasNought_7 rfl (lv_at hl 1 rfl) ?_
        refine va_get (D := (dC, dI)) (ci := 12) (v := .ref (q 0)) (C := RX12) (T := TX12) (N := 71) hx hb hts (fun _ h => List.mem_append_right _ h) hown hK hP 0 rfl rfl 0 (by decide) (hts (.fieldLink RX12 7 "SpellTurnerModel" "tape" "[B") (List.mem_of_getElem? (i := 1) rfl)) (fun _ h9 => h9) rfl dX12_hasNought_8 ?_
        refine lv_iload_n hx hb dX12_hasNought_11 rfl (lv_at hl 0 rfl) ?_
        refine va_bald hx hb hK hP 1 0 rfl rfl (z_in (i := x21) (by omega) (by omega)) dX12_hasNought_12 ?_
        refine lv_topi (fun x26 ex26 => ?_)
        clear ex26
        refine lv_if_ne (tgt := 18) hx hb dX12_hasNought_13 (by decide) (fun c27 => ?_) (fun c27 => ?_)
        · have c27 := z_ne c27
          obtain ⟨x28, ex28⟩ : ∃ y : Int32, y = x21 + 1 := ⟨_, rfl⟩
          have fx28 : x28.toInt = x21.toInt + (1) := by rw [ex28, z_add (by omega) (by omega)]; omega
          refine lv_iinc (v := x28) (lv' := [(2, .int x28), (0, .ref h0), (1, .int p0)]) hx hb dX12_hasNought_18 hl (k := 0) rfl (by rw [ex28]; rfl) (by decide) rfl (fun ls hl => ?_)
          clear ex28
          refine lv_goto (tgt := 2) hx hb dX12_hasNought_21 (by decide) ?_
          exact ih2 x28 g F H _ ls (show (2000 - x28.toInt).toNat < n from by omega) (show 0 ≤ x28.toInt from by omega) hP hD hS (lv_sub hl [0, 1, 2] rfl)
        · have c27 := congrArg Int32.toInt c27
          refine lv_iconst (v := 1) hx hb dX12_hasNought_16 (by decide +kernel) ?_
          exact K 17 ls 1 (g, F) H _ dX12_hasNought_17 (show (0 ≤ (1 : Int32).toInt ∧ (1 : Int32).toInt ≤ 1) from by omega) hP hD hS
  exact lp2 ((2000 - (0 : Int32).toInt).toNat + 1) 0 g F H _ ls (Nat.lt_succ_self _) (show 0 ≤ (0 : Int32).toInt from by omega) hP hD hS (lv_sub hl [0, 1, 2] rfl)
set_option maxHeartbeats 4000000 in
set_option maxRecDepth 100000 in
theorem m_hasNought (l : Launch) (dC : Nat → ClassId) (dI : Nat → Nat → Nat) (sz : Nat) (h0 : Nat) (kB kI kZ : ClassId) (q : Nat → Nat) (g : Nat → Int32) (F : Nat → Nat → Int32) (p0 : Int32) (hI : MInv g F) (hq0 : p0.toInt ≤ 2000) : Met l yX12_hasNought vmX12_hasNought ({ frames := 2, cells := 0, slots := 0, locals := 60 } : Room) (va_Pc [.ref h0, .int p0] (fun U => U.heap.size = sz ∧ va_P (dC, dI) vwCl (mW h0 kB kI kZ q g F) U.heap ∧ va_K (dC, dI) vwCl (mT kB kI kZ) U ∧ va_D (fun _ => True) (mW h0 kB kI kZ q g F))) (va_Qi (fun (r : Int32) (u : ((Nat → Int32) × (Nat → Nat → Int32))) => ((0 ≤ r.toInt ∧ r.toInt ≤ 1))) (fun u t => va_P (dC, dI) vwCl (mW h0 kB kI kZ q g F) t.heap ∧ va_K (dC, dI) vwCl (mT kB kI kZ) t ∧ va_D (va_A (mW h0 kB kI kZ q g F) sz) (mW h0 kB kI kZ q g F)) (va_A (mW h0 kB kI kZ q g F) sz)) 0 0 (va_A (mW h0 kB kI kZ q g F) sz) := by
  refine Met.ofW (cc := cX12_hasNought) (maxL := 3) (ret := (some .boolean)) (by decide) rfl ?_
  intro p e s m args below meth c s₁ B hml hv
  obtain ⟨rfl, hsz, hP, hK, hD0⟩ := hv
  have hx := B.exec
  have hb := B.bytes
  have hr := B.returns
  have hts := atoms_spec (ws := vmX12_hasNought) B.pre
  have hown : s.vm.findClass RX12 = some m.cls := findClass_of_methodNamed B.named
  subst hsz
  have hD := hD0.self (sz := s.heap.size)
  generalize hAe : va_A (mW h0 kB kI kZ q g F) s.heap.size = A at hD ⊢
  have hA : ∀ q : Nat, s.heap.size ≤ q → A q := fun q h => by rw [← hAe]; exact Or.inr h
  have hS : va_S A s.heap s.heap [] := va_S.rf
  have hl := lv_entry ([.ref h0, .int p0]) (n := 3) (Nat.le_of_ble_eq_true rfl)
  rw [lg_entry_eq]
  generalize (lg_sl ([.ref h0, .int p0]) ++ List.replicate (3 - (lg_sl ([.ref h0, .int p0])).length) Slot.unset).toArray = ls at hl ⊢
  exact bm_hasNought p0 hx hb hml hown hts hA hK hI hq0 hP hD hS hl (fun pc ls r u H locs hd hw hP hD hS => W.zret (v := r) hx hb hr (z_nb (by have := hw; omega)) (fun t ht hW => ⟨⟨r, u, rfl, hw, by rw [ht]; exact hP, va_K.moved hW.alike hK, hD⟩, hS.F ht⟩) hS.2.2 hd)
