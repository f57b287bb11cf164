/-! String constants: their letters, and what the JDK says of them -/
def kwB : List (List Int32) := [[107, 101, 101, 112], [108, 105, 115, 116], [112, 97, 114, 116], [108, 97, 119], [115, 116, 97, 114, 116], [101, 110, 100], [97, 102, 116, 101, 114], [98, 101, 102, 111, 114, 101], [116, 111], [107, 101, 101, 112, 32, 108, 105, 115, 116, 32, 116, 111, 32, 112, 97, 114, 116, 32, 108, 97, 119, 32, 115, 116, 97, 114, 116, 32, 101, 110, 100, 32, 97, 102, 116, 101, 114, 32, 98, 101, 102, 111, 114, 101, 32]]
def kwN : List Nat := [4, 4, 4, 3, 5, 3, 5, 6, 2, 45]
def kwl (i : Nat) : Int32 := Int32.ofNat (kwN.getD i 0)
def kwc (i k : Nat) : Int32 := ((((kwB.getD i []).getD k 0) &&& 255).toUInt32 % 65536).toInt32
abbrev NF : Nat → Prop := fun _ => False
def SE (adK adV : Nat → Nat) (A : Nat → Prop) (U : State) : Prop := vk_S 10 kwN kwB adK adV A U U.heap ∧ va_Z "java/lang/String" "COMPACT_STRINGS" "Z" (.int 1) A U U.heap ∧ va_Zq "jdk/internal/util/Preconditions" "SIOOBE_FORMATTER" "Ljava/util/function/BiFunction;" A U U.heap ∧ vk_R RX4 49 "keep" (adK 0) U ∧ vk_R RX4 59 "list" (adK 1) U ∧ vk_R RX4 64 "part" (adK 2) U ∧ vk_R RX4 69 "law" (adK 3) U ∧ vk_R RX4 142 "start" (adK 4) U ∧ vk_R RX4 150 "end" (adK 5) U ∧ vk_R RX4 155 "after" (adK 6) U ∧ vk_R RX4 160 "before" (adK 7) U ∧ vk_R RX4 169 "to" (adK 8) U ∧ vk_R RX12 158 "keep list to part law start end after before " (adK 9) U
theorem SE.narrow {adK adV : Nat → Nat} {A B : Nat → Prop} {U : State} (h : SE adK adV A U) (hAB : ∀ q, B q → A q) : SE adK adV B U := ⟨h.1.narrow hAB, h.2.1.narrow hAB, h.2.2.1.narrow hAB, h.2.2.2⟩
theorem SE.nf {adK adV : Nat → Nat} {A : Nat → Prop} {U : State} (h : SE adK adV A U) : SE adK adV NF U := h.narrow (fun _ q => q.elim)
theorem SE.calling {adK adV : Nat → Nat} {A : Nat → Prop} {U : State} {g : JFrame} {mk : MethodId} {a : Array Value} (h : SE adK adV A U) : SE adK adV A (U.calling g mk a) := ⟨vk_S.moved (u := U) (U := U.calling g mk a) (Vm.Alike.refl U.vm) h.1, va_Z.moved (u := U) (U := U.calling g mk a) (Vm.Alike.refl U.vm) h.2.1, va_Zq.moved (u := U) (U := U.calling g mk a) (Vm.Alike.refl U.vm) h.2.2.1, vk_R.same rfl (h.2.2.2.1), vk_R.same rfl (h.2.2.2.2.1), vk_R.same rfl (h.2.2.2.2.2.1), vk_R.same rfl (h.2.2.2.2.2.2.1), vk_R.same rfl (h.2.2.2.2.2.2.2.1), vk_R.same rfl (h.2.2.2.2.2.2.2.2.1), vk_R.same rfl (h.2.2.2.2.2.2.2.2.2.1), vk_R.same rfl (h.2.2.2.2.2.2.2.2.2.2.1), vk_R.same rfl (h.2.2.2.2.2.2.2.2.2.2.2.1), vk_R.same rfl (h.2.2.2.2.2.2.2.2.2.2.2.2)⟩
theorem SE.warm {adK adV : Nat → Nat} {A : Nat → Prop} {s U : State} {H : Heap} {locs : List Loc} (h : SE adK adV A s) (hS : va_S A s.heap H locs) (hU : U.heap = H) (hW : s.WarmedH U.vm) : SE adK adV A U := by
  subst hU
  exact ⟨(h.1.moved hW.alike).kept hS.2.1, (h.2.1.moved hW.alike).kept hS.2.1, (h.2.2.1.moved hW.alike).kept hS.2.1, vk_R.warm hW (h.2.2.2.1), vk_R.warm hW (h.2.2.2.2.1), vk_R.warm hW (h.2.2.2.2.2.1), vk_R.warm hW (h.2.2.2.2.2.2.1), vk_R.warm hW (h.2.2.2.2.2.2.2.1), vk_R.warm hW (h.2.2.2.2.2.2.2.2.1), vk_R.warm hW (h.2.2.2.2.2.2.2.2.2.1), vk_R.warm hW (h.2.2.2.2.2.2.2.2.2.2.1), vk_R.warm hW (h.2.2.2.2.2.2.2.2.2.2.2.1), vk_R.warm hW (h.2.2.2.2.2.2.2.2.2.2.2.2)⟩
theorem SE.r0 {adK adV : Nat → Nat} {A : Nat → Prop} {U : State} (h : SE adK adV A U) : vk_R RX4 49 "keep" (adK 0) U := h.2.2.2.1
theorem SE.r1 {adK adV : Nat → Nat} {A : Nat → Prop} {U : State} (h : SE adK adV A U) : vk_R RX4 59 "list" (adK 1) U := h.2.2.2.2.1
theorem SE.r2 {adK adV : Nat → Nat} {A : Nat → Prop} {U : State} (h : SE adK adV A U) : vk_R RX4 64 "part" (adK 2) U := h.2.2.2.2.2.1
theorem SE.r3 {adK adV : Nat → Nat} {A : Nat → Prop} {U : State} (h : SE adK adV A U) : vk_R RX4 69 "law" (adK 3) U := h.2.2.2.2.2.2.1
theorem SE.r4 {adK adV : Nat → Nat} {A : Nat → Prop} {U : State} (h : SE adK adV A U) : vk_R RX4 142 "start" (adK 4) U := h.2.2.2.2.2.2.2.1
theorem SE.r5 {adK adV : Nat → Nat} {A : Nat → Prop} {U : State} (h : SE adK adV A U) : vk_R RX4 150 "end" (adK 5) U := h.2.2.2.2.2.2.2.2.1
theorem SE.r6 {adK adV : Nat → Nat} {A : Nat → Prop} {U : State} (h : SE adK adV A U) : vk_R RX4 155 "after" (adK 6) U := h.2.2.2.2.2.2.2.2.2.1
theorem SE.r7 {adK adV : Nat → Nat} {A : Nat → Prop} {U : State} (h : SE adK adV A U) : vk_R RX4 160 "before" (adK 7) U := h.2.2.2.2.2.2.2.2.2.2.1
theorem SE.r8 {adK adV : Nat → Nat} {A : Nat → Prop} {U : State} (h : SE adK adV A U) : vk_R RX4 169 "to" (adK 8) U := h.2.2.2.2.2.2.2.2.2.2.2.1
theorem SE.r9 {adK adV : Nat → Nat} {A : Nat → Prop} {U : State} (h : SE adK adV A U) : vk_R RX12 158 "keep list to part law start end after before " (adK 9) U := h.2.2.2.2.2.2.2.2.2.2.2.2
theorem kw_len : ∀ i, i < 10 → (kwl i).toInt = kwN.getD i 0 := by decide +kernel
theorem kw_lt {i : Nat} (hi : i < 10) {k : Int32} (hk : inb k (kwN.getD i 0)) : ¬ k < 0 ∧ k < kwl i := by
  have h := kw_len i hi
  have z : (0 : Int32).toInt = 0 := by decide
  refine ⟨fun q => ?_, (z_lt _ _).mpr ?_⟩
  · have := (z_lt _ _).mp q
    have := hk.1
    omega
  · have := hk.2
    omega
theorem dJ0_length_8abf5_0 : decode cJ0_length_8abf5 0 = .ok (.aload_n 0, 1) := by decide +kernel
theorem dJ0_length_8abf5_1 : decode cJ0_length_8abf5 1 = .ok (.getfield 9, 3) := by decide +kernel
theorem dJ0_length_8abf5_4 : decode cJ0_length_8abf5 4 = .ok (.arraylength, 1) := by decide +kernel
theorem dJ0_length_8abf5_5 : decode cJ0_length_8abf5 5 = .ok (.aload_n 0, 1) := by decide +kernel
theorem dJ0_length_8abf5_6 : decode cJ0_length_8abf5 6 = .ok (.invokevirtual 335, 3) := by decide +kernel
theorem dJ0_length_8abf5_9 : decode cJ0_length_8abf5 9 = .ok (.ishr, 1) := by decide +kernel
theorem dJ0_length_8abf5_10 : decode cJ0_length_8abf5 10 = .ok (.ireturn, 1) := by decide +kernel
theorem dJ0_charAt_5068e_0 : decode cJ0_charAt_5068e 0 = .ok (.aload_n 0, 1) := by decide +kernel
theorem dJ0_charAt_5068e_1 : decode cJ0_charAt_5068e 1 = .ok (.invokevirtual 492, 3) := by decide +kernel
theorem dJ0_charAt_5068e_4 : decode cJ0_charAt_5068e 4 = .ok (.ifCond .eq 12, 3) := by decide +kernel
theorem dJ0_charAt_5068e_7 : decode cJ0_charAt_5068e 7 = .ok (.aload_n 0, 1) := by decide +kernel
theorem dJ0_charAt_5068e_8 : decode cJ0_charAt_5068e 8 = .ok (.getfield 9, 3) := by decide +kernel
theorem dJ0_charAt_5068e_11 : decode cJ0_charAt_5068e 11 = .ok (.iload_n 1, 1) := by decide +kernel
theorem dJ0_charAt_5068e_12 : decode cJ0_charAt_5068e 12 = .ok (.invokestatic 495, 3) := by decide +kernel
theorem dJ0_charAt_5068e_15 : decode cJ0_charAt_5068e 15 = .ok (.ireturn, 1) := by decide +kernel
theorem dJ0_coder_7d493_0 : decode cJ0_coder_7d493 0 = .ok (.getstatic 38, 3) := by decide +kernel
theorem dJ0_coder_7d493_3 : decode cJ0_coder_7d493 3 = .ok (.ifCond .eq 10, 3) := by decide +kernel
theorem dJ0_coder_7d493_6 : decode cJ0_coder_7d493 6 = .ok (.aload_n 0, 1) := by decide +kernel
theorem dJ0_coder_7d493_7 : decode cJ0_coder_7d493 7 = .ok (.getfield 15, 3) := by decide +kernel
theorem dJ0_coder_7d493_10 : decode cJ0_coder_7d493 10 = .ok (.goto 4, 3) := by decide +kernel
theorem dJ0_coder_7d493_14 : decode cJ0_coder_7d493 14 = .ok (.ireturn, 1) := by decide +kernel
theorem dJ0_isLatin1_aae02_0 : decode cJ0_isLatin1_aae02 0 = .ok (.getstatic 38, 3) := by decide +kernel
theorem dJ0_isLatin1_aae02_3 : decode cJ0_isLatin1_aae02 3 = .ok (.ifCond .eq 14, 3) := by decide +kernel
theorem dJ0_isLatin1_aae02_6 : decode cJ0_isLatin1_aae02 6 = .ok (.aload_n 0, 1) := by decide +kernel
theorem dJ0_isLatin1_aae02_7 : decode cJ0_isLatin1_aae02 7 = .ok (.getfield 15, 3) := by decide +kernel
theorem dJ0_isLatin1_aae02_10 : decode cJ0_isLatin1_aae02 10 = .ok (.ifCond .ne 7, 3) := by decide +kernel
theorem dJ0_isLatin1_aae02_13 : decode cJ0_isLatin1_aae02 13 = .ok (.iconst 1, 1) := by decide +kernel
theorem dJ0_isLatin1_aae02_14 : decode cJ0_isLatin1_aae02 14 = .ok (.goto 4, 3) := by decide +kernel
theorem dJ0_isLatin1_aae02_18 : decode cJ0_isLatin1_aae02 18 = .ok (.ireturn, 1) := by decide +kernel
theorem dJ0_checkIndex_df160_0 : decode cJ0_checkIndex_df160 0 = .ok (.iload_n 0, 1) := by decide +kernel
theorem dJ0_checkIndex_df160_1 : decode cJ0_checkIndex_df160 1 = .ok (.iload_n 1, 1) := by decide +kernel
theorem dJ0_checkIndex_df160_2 : decode cJ0_checkIndex_df160 2 = .ok (.getstatic 1053, 3) := by decide +kernel
theorem dJ0_checkIndex_df160_5 : decode cJ0_checkIndex_df160 5 = .ok (.invokestatic 1059, 3) := by decide +kernel
theorem dJ0_checkIndex_df160_8 : decode cJ0_checkIndex_df160 8 = .ok (.pop, 1) := by decide +kernel
theorem dJ0_checkIndex_df160_9 : decode cJ0_checkIndex_df160 9 = .ok (.return_, 1) := by decide +kernel
theorem dJ1_charAt_3b067_0 : decode cJ1_charAt_3b067 0 = .ok (.iload_n 1, 1) := by decide +kernel
theorem dJ1_charAt_3b067_1 : decode cJ1_charAt_3b067 1 = .ok (.aload_n 0, 1) := by decide +kernel
theorem dJ1_charAt_3b067_2 : decode cJ1_charAt_3b067 2 = .ok (.arraylength, 1) := by decide +kernel
theorem dJ1_charAt_3b067_3 : decode cJ1_charAt_3b067 3 = .ok (.invokestatic 9, 3) := by decide +kernel
theorem dJ1_charAt_3b067_6 : decode cJ1_charAt_3b067 6 = .ok (.aload_n 0, 1) := by decide +kernel
theorem dJ1_charAt_3b067_7 : decode cJ1_charAt_3b067 7 = .ok (.iload_n 1, 1) := by decide +kernel
theorem dJ1_charAt_3b067_8 : decode cJ1_charAt_3b067 8 = .ok (.baload, 1) := by decide +kernel
theorem dJ1_charAt_3b067_9 : decode cJ1_charAt_3b067 9 = .ok (.sipush 255, 3) := by decide +kernel
theorem dJ1_charAt_3b067_12 : decode cJ1_charAt_3b067 12 = .ok (.iand, 1) := by decide +kernel
theorem dJ1_charAt_3b067_13 : decode cJ1_charAt_3b067 13 = .ok (.i2c, 1) := by decide +kernel
theorem dJ1_charAt_3b067_14 : decode cJ1_charAt_3b067 14 = .ok (.ireturn, 1) := by decide +kernel
theorem dJ3_checkIndex_8e157_0 : decode cJ3_checkIndex_8e157 0 = .ok (.iload_n 0, 1) := by decide +kernel
theorem dJ3_checkIndex_8e157_1 : decode cJ3_checkIndex_8e157 1 = .ok (.ifCond .lt 8, 3) := by decide +kernel
theorem dJ3_checkIndex_8e157_4 : decode cJ3_checkIndex_8e157 4 = .ok (.iload_n 0, 1) := by decide +kernel
theorem dJ3_checkIndex_8e157_5 : decode cJ3_checkIndex_8e157 5 = .ok (.iload_n 1, 1) := by decide +kernel
theorem dJ3_checkIndex_8e157_6 : decode cJ3_checkIndex_8e157 6 = .ok (.if_icmp .lt 10, 3) := by decide +kernel
theorem dJ3_checkIndex_8e157_16 : decode cJ3_checkIndex_8e157 16 = .ok (.iload_n 0, 1) := by decide +kernel
theorem dJ3_checkIndex_8e157_17 : decode cJ3_checkIndex_8e157 17 = .ok (.ireturn, 1) := by decide +kernel
set_option maxHeartbeats 4000000 in
set_option maxRecDepth 100000 in
theorem j_coder (l : Launch) (adK adV : Nat → Nat) (i : Nat) (hi : i < 10) : Met l yJ0_coder_7d493 vmJ0_coder_7d493 ({ frames := 2, cells := 0, slots := 0, locals := 60 } : Room) (va_Pc [.ref (adK i)] (fun U => SE adK adV NF U)) (va_Qi (fun (r : Int32) (_ : Unit) => r = 0) (fun _ _ => True) NF) 0 0 NF := by
  refine Met.ofW (cc := cJ0_coder_7d493) (maxL := 1) (ret := (some .byte)) (by decide) rfl ?_
  intro p e s m args below meth c s₁ B hml hv
  obtain ⟨rfl, hSE⟩ := hv
  have hx := B.exec
  have hb := B.bytes
  have hrt := B.returns
  have hts := atoms_spec (ws := vmJ0_coder_7d493) B.pre
  have hown : s.vm.findClass RJ0 = some m.cls := findClass_of_methodNamed B.named
  have hS : va_S NF s.heap s.heap [] := va_S.rf
  have hl := lv_entry ([.ref (adK i)]) (n := 1) (Nat.le_of_ble_eq_true rfl)
  rw [lg_entry_eq]
  generalize (lg_sl ([.ref (adK i)]) ++ List.replicate (1 - (lg_sl ([.ref (adK i)])).length) Slot.unset).toArray = ls at hl ⊢
  refine va_gets hx hb hSE.2.1 hS hown (hts (.fieldLink RJ0 38 "java/lang/String" "COMPACT_STRINGS" "Z") im_1) (fun _ h9 => h9) dJ0_coder_7d493_0 ?_
  refine lv_if_eq (tgt := 13) hx hb dJ0_coder_7d493_3 (by decide) (fun h => absurd h (by decide)) (fun _ => ?_)
  refine lv_aload_n hx hb dJ0_coder_7d493_6 rfl (lv_at hl 0 rfl) ?_
  refine vk_getf hx hb (hSE.1.1 i hi).2.1 hS hown (hts (.fieldLink RJ0 15 "java/lang/String" "coder" "B") im_2) (fun _ h9 => h9) dJ0_coder_7d493_7 ?_
  refine lv_goto (tgt := 14) hx hb dJ0_coder_7d493_10 (by decide) ?_
  exact W.zret (v := 0) hx hb hrt rfl (fun t ht hW => ⟨⟨0, (), rfl, rfl, trivial⟩, hS.F ht⟩) hS.2.2 dJ0_coder_7d493_14
set_option maxHeartbeats 4000000 in
set_option maxRecDepth 100000 in
theorem j_length (l : Launch) (adK adV : Nat → Nat) (i : Nat) (hi : i < 10) : Met l yJ0_length_8abf5 vmJ0_length_8abf5 ({ frames := 3, cells := 0, slots := 0, locals := 140 } : Room) (va_Pc [.ref (adK i)] (fun U => SE adK adV NF U)) (va_Qi (fun (r : Int32) (_ : Unit) => r = kwl i) (fun _ _ => True) NF) 0 0 NF := by
  refine Met.ofW (cc := cJ0_length_8abf5) (maxL := 1) (ret := (some .int)) (by decide) rfl ?_
  intro p e s m args below meth c s₁ B hml hv
  obtain ⟨rfl, hSE⟩ := hv
  have hx := B.exec
  have hb := B.bytes
  have hrt := B.returns
  have hts := atoms_spec (ws := vmJ0_length_8abf5) B.pre
  have hown : s.vm.findClass RJ0 = some m.cls := findClass_of_methodNamed B.named
  have hS : va_S NF s.heap s.heap [] := va_S.rf
  have hl := lv_entry ([.ref (adK i)]) (n := 1) (Nat.le_of_ble_eq_true rfl)
  rw [lg_entry_eq]
  generalize (lg_sl ([.ref (adK i)]) ++ List.replicate (1 - (lg_sl ([.ref (adK i)])).length) Slot.unset).toArray = ls at hl ⊢
  refine lv_aload_n hx hb dJ0_length_8abf5_0 rfl (lv_at hl 0 rfl) ?_
  refine vk_getf hx hb (hSE.1.1 i hi).2.2.1 hS hown (hts (.fieldLink RJ0 9 "java/lang/String" "value" "[B") im_4) (fun _ h9 => h9) dJ0_length_8abf5_1 ?_
  refine va_tlen (v := kwl i) hx hb (hSE.1.1 i hi).2.2.2 hS rfl dJ0_length_8abf5_4 ?_
  refine lv_aload_n hx hb dJ0_length_8abf5_5 rfl (lv_at hl 0 rfl) ?_
  refine va_calli (va_runV (As := []) (rest := [.int (kwl i)]) ⟨hx, hb, hml, hown, hts⟩ (j_coder l adK adV i hi) (cwV 0 hts gj_J0_coder_7d493_335 rfl rfl rfl (by decide +kernel) ⟨Nat.le_of_ble_eq_true rfl, Nat.le_of_ble_eq_true rfl⟩) ⟨fun a U g mk q => ⟨q.1, q.2.calling⟩, vk_recv hSE.1 hi hS, fun U hU hW => ⟨rfl, hSE.warm hS hU hW⟩⟩ rfl rfl hl.1 rfl (lv_room (Nat.le_of_ble_eq_true rfl)) dJ0_length_8abf5_6 ⟨Nat.le_of_ble_eq_true rfl, Nat.le_of_ble_eq_true rfl⟩) hS (fun q _ h => h) (fun q h => h) (fun r u t H locs ht hvm hw hB hz hk9 hS => ?_)
  subst hw
  refine lv_ishr hx hb dJ0_length_8abf5_9 ?_
  refine lv_topi (fun x ex => ?_)
  obtain rfl : x = kwl i := ex.trans (sb_shr0 _)
  exact W.iret (v := kwl i) hx hb hrt (fun t ht hW => ⟨⟨kwl i, (), rfl, rfl, trivial⟩, hS.F ht⟩) hS.2.2 dJ0_length_8abf5_10
set_option maxHeartbeats 4000000 in
set_option maxRecDepth 100000 in
theorem j_isLatin1 (l : Launch) (adK adV : Nat → Nat) (i : Nat) (hi : i < 10) : Met l yJ0_isLatin1_aae02 vmJ0_isLatin1_aae02 ({ frames := 2, cells := 0, slots := 0, locals := 60 } : Room) (va_Pc [.ref (adK i)] (fun U => SE adK adV NF U)) (va_Qi (fun (r : Int32) (_ : Unit) => r = 1) (fun _ _ => True) NF) 0 0 NF := by
  refine Met.ofW (cc := cJ0_isLatin1_aae02) (maxL := 1) (ret := (some .boolean)) (by decide) rfl ?_
  intro p e s m args below meth c s₁ B hml hv
  obtain ⟨rfl, hSE⟩ := hv
  have hx := B.exec
  have hb := B.bytes
  have hrt := B.returns
  have hts := atoms_spec (ws := vmJ0_isLatin1_aae02) B.pre
  have hown : s.vm.findClass RJ0 = some m.cls := findClass_of_methodNamed B.named
  have hS : va_S NF s.heap s.heap [] := va_S.rf
  have hl := lv_entry ([.ref (adK i)]) (n := 1) (Nat.le_of_ble_eq_true rfl)
  rw [lg_entry_eq]
  generalize (lg_sl ([.ref (adK i)]) ++ List.replicate (1 - (lg_sl ([.ref (adK i)])).length) Slot.unset).toArray = ls at hl ⊢
  refine va_gets hx hb hSE.2.1 hS hown (hts (.fieldLink RJ0 38 "java/lang/String" "COMPACT_STRINGS" "Z") im_1) (fun _ h9 => h9) dJ0_isLatin1_aae02_0 ?_
  refine lv_if_eq (tgt := 17) hx hb dJ0_isLatin1_aae02_3 (by decide) (fun h => absurd h (by decide)) (fun _ => ?_)
  refine lv_aload_n hx hb dJ0_isLatin1_aae02_6 rfl (lv_at hl 0 rfl) ?_
  refine vk_getf hx hb (hSE.1.1 i hi).2.1 hS hown (hts (.fieldLink RJ0 15 "java/lang/String" "coder" "B") im_2) (fun _ h9 => h9) dJ0_isLatin1_aae02_7 ?_
  refine lv_if_ne (tgt := 17) hx hb dJ0_isLatin1_aae02_10 (by decide) (fun h => absurd rfl h) (fun _ => ?_)
  refine lv_iconst (v := 1) hx hb dJ0_isLatin1_aae02_13 (by decide +kernel) ?_
  refine lv_goto (tgt := 18) hx hb dJ0_isLatin1_aae02_14 (by decide) ?_
  exact W.zret (v := 1) hx hb hrt rfl (fun t ht hW => ⟨⟨1, (), rfl, rfl, trivial⟩, hS.F ht⟩) hS.2.2 dJ0_isLatin1_aae02_18
set_option maxHeartbeats 4000000 in
set_option maxRecDepth 100000 in
theorem j_check3n (l : Launch) (adK adV : Nat → Nat) (k n : Int32) (h1 : ¬ k < 0) (h2 : k < n) : Met l yJ3_checkIndex_8e157 vmJ3_checkIndex_8e157 ({ frames := 2, cells := 0, slots := 0, locals := 60 } : Room) (va_Pc [.int k, .int n, .null] (fun U => SE adK adV NF U)) (va_Qi (fun (r : Int32) (_ : Unit) => r = k) (fun _ _ => True) NF) 0 0 NF := by
  refine Met.ofW (cc := cJ3_checkIndex_8e157) (maxL := 3) (ret := (some .int)) (by decide) rfl ?_
  intro p e s m args below meth c s₁ B hml hv
  obtain ⟨rfl, hSE⟩ := hv
  have hx := B.exec
  have hb := B.bytes
  have hrt := B.returns
  have hts := atoms_spec (ws := vmJ3_checkIndex_8e157) B.pre
  have hown : s.vm.findClass RJ3 = some m.cls := findClass_of_methodNamed B.named
  have hS : va_S NF s.heap s.heap [] := va_S.rf
  have hl := lv_entry ([.int k, .int n, .null]) (n := 3) (Nat.le_of_ble_eq_true rfl)
  rw [lg_entry_eq]
  generalize (lg_sl ([.int k, .int n, .null]) ++ List.replicate (3 - (lg_sl ([.int k, .int n, .null])).length) Slot.unset).toArray = ls at hl ⊢
  refine lv_iload_n hx hb dJ3_checkIndex_8e157_0 rfl (lv_at hl 0 rfl) ?_
  refine lv_if_lt (tgt := 9) hx hb dJ3_checkIndex_8e157_1 (by decide) (fun h => absurd h h1) (fun _ => ?_)
  refine lv_iload_n hx hb dJ3_checkIndex_8e157_4 rfl (lv_at hl 0 rfl) ?_
  refine lv_iload_n hx hb dJ3_checkIndex_8e157_5 rfl (lv_at hl 1 rfl) ?_
  refine lv_icmp_lt (tgt := 16) hx hb dJ3_checkIndex_8e157_6 (by decide) (fun _ => ?_) (fun h => absurd h2 h)
  refine lv_iload_n hx hb dJ3_checkIndex_8e157_16 rfl (lv_at hl 0 rfl) ?_
  exact W.iret (v := k) hx hb hrt (fun t ht hW => ⟨⟨k, (), rfl, rfl, trivial⟩, hS.F ht⟩) hS.2.2 dJ3_checkIndex_8e157_17
set_option maxHeartbeats 4000000 in
set_option maxRecDepth 100000 in
theorem j_check3r (l : Launch) (adK adV : Nat → Nat) (t0 : Nat) (k n : Int32) (h1 : ¬ k < 0) (h2 : k < n) : Met l yJ3_checkIndex_8e157 vmJ3_checkIndex_8e157 ({ frames := 2, cells := 0, slots := 0, locals := 60 } : Room) (va_Pc [.int k, .int n, .ref t0] (fun U => SE adK adV NF U)) (va_Qi (fun (r : Int32) (_ : Unit) => r = k) (fun _ _ => True) NF) 0 0 NF := by
  refine Met.ofW (cc := cJ3_checkIndex_8e157) (maxL := 3) (ret := (some .int)) (by decide) rfl ?_
  intro p e s m args below meth c s₁ B hml hv
  obtain ⟨rfl, hSE⟩ := hv
  have hx := B.exec
  have hb := B.bytes
  have hrt := B.returns
  have hts := atoms_spec (ws := vmJ3_checkIndex_8e157) B.pre
  have hown : s.vm.findClass RJ3 = some m.cls := findClass_of_methodNamed B.named
  have hS : va_S NF s.heap s.heap [] := va_S.rf
  have hl := lv_entry ([.int k, .int n, .ref t0]) (n := 3) (Nat.le_of_ble_eq_true rfl)
  rw [lg_entry_eq]
  generalize (lg_sl ([.int k, .int n, .ref t0]) ++ List.replicate (3 - (lg_sl ([.int k, .int n, .ref t0])).length) Slot.unset).toArray = ls at hl ⊢
  refine lv_iload_n hx hb dJ3_checkIndex_8e157_0 rfl (lv_at hl 0 rfl) ?_
  refine lv_if_lt (tgt := 9) hx hb dJ3_checkIndex_8e157_1 (by decide) (fun h => absurd h h1) (fun _ => ?_)
  refine lv_iload_n hx hb dJ3_checkIndex_8e157_4 rfl (lv_at hl 0 rfl) ?_
  refine lv_iload_n hx hb dJ3_checkIndex_8e157_5 rfl (lv_at hl 1 rfl) ?_
  refine lv_icmp_lt (tgt := 16) hx hb dJ3_checkIndex_8e157_6 (by decide) (fun _ => ?_) (fun h => absurd h2 h)
  refine lv_iload_n hx hb dJ3_checkIndex_8e157_16 rfl (lv_at hl 0 rfl) ?_
  exact W.iret (v := k) hx hb hrt (fun t ht hW => ⟨⟨k, (), rfl, rfl, trivial⟩, hS.F ht⟩) hS.2.2 dJ3_checkIndex_8e157_17
set_option maxHeartbeats 4000000 in
set_option maxRecDepth 100000 in
theorem j_check0 (l : Launch) (adK adV : Nat → Nat) (k n : Int32) (h1 : ¬ k < 0) (h2 : k < n) : Met l yJ0_checkIndex_df160 vmJ0_checkIndex_df160 ({ frames := 3, cells := 0, slots := 0, locals := 140 } : Room) (va_Pc [.int k, .int n] (fun U => SE adK adV NF U)) (va_Qv (fun (_ : Unit) => True) (fun _ _ => True) NF) 0 0 NF := by
  refine Met.ofW (cc := cJ0_checkIndex_df160) (maxL := 2) (ret := none) (by decide) rfl ?_
  intro p e s m args below meth c s₁ B hml hv
  obtain ⟨rfl, hSE⟩ := hv
  have hx := B.exec
  have hb := B.bytes
  have hrt := B.returns
  have hts := atoms_spec (ws := vmJ0_checkIndex_df160) B.pre
  have hown : s.vm.findClass RJ0 = some m.cls := findClass_of_methodNamed B.named
  have hS : va_S NF s.heap s.heap [] := va_S.rf
  have hl := lv_entry ([.int k, .int n]) (n := 2) (Nat.le_of_ble_eq_true rfl)
  rw [lg_entry_eq]
  generalize (lg_sl ([.int k, .int n]) ++ List.replicate (2 - (lg_sl ([.int k, .int n])).length) Slot.unset).toArray = ls at hl ⊢
  refine lv_iload_n hx hb dJ0_checkIndex_df160_0 rfl (lv_at hl 0 rfl) ?_
  refine lv_iload_n hx hb dJ0_checkIndex_df160_1 rfl (lv_at hl 1 rfl) ?_
  rcases hSE.2.2.1 with hZ | ⟨t0, hZ⟩
  · refine va_gets hx hb hZ hS hown (hts (.fieldLink RJ0 1053 "jdk/internal/util/Preconditions" "SIOOBE_FORMATTER" "Ljava/util/function/BiFunction;") im_12) (fun _ h9 => h9) dJ0_checkIndex_df160_2 ?_
    refine va_calli (va_runS (As := [.int k, .int n, .null]) (rest := []) ⟨hx, hb, hml, hown, hts⟩ (j_check3n l adK adV k n h1 h2) (va_cwS 3 hts gj_J3_checkIndex_8e157_1059 rfl rfl rfl (by decide +kernel) ⟨Nat.le_of_ble_eq_true rfl, Nat.le_of_ble_eq_true rfl⟩) ⟨fun a U g mk q => ⟨q.1, q.2.calling⟩, fun U hU hW => ⟨rfl, hSE.warm hS hU hW⟩⟩ rfl rfl hl.1 rfl (lv_room (Nat.le_of_ble_eq_true rfl)) dJ0_checkIndex_df160_5 ⟨Nat.le_of_ble_eq_true rfl, Nat.le_of_ble_eq_true rfl⟩) hS (fun q _ h => h) (fun q h => h) (fun r u t H locs ht hvm hw hB hz hk9 hS => ?_)
    subst hw
    refine lv_pop hx hb dJ0_checkIndex_df160_8 rfl ?_
    exact W.vret hx hb hrt (fun t ht hW => ⟨⟨(), rfl, trivial, trivial⟩, hS.F ht⟩) hS.2.2 dJ0_checkIndex_df160_9
  · refine va_gets hx hb hZ hS hown (hts (.fieldLink RJ0 1053 "jdk/internal/util/Preconditions" "SIOOBE_FORMATTER" "Ljava/util/function/BiFunction;") im_12) (fun _ h9 => h9) dJ0_checkIndex_df160_2 ?_
    refine va_calli (va_runS (As := [.int k, .int n, .ref t0]) (rest := []) ⟨hx, hb, hml, hown, hts⟩ (j_check3r l adK adV t0 k n h1 h2) (va_cwS 3 hts gj_J3_checkIndex_8e157_1059 rfl rfl rfl (by decide +kernel) ⟨Nat.le_of_ble_eq_true rfl, Nat.le_of_ble_eq_true rfl⟩) ⟨fun a U g mk q => ⟨q.1, q.2.calling⟩, fun U hU hW => ⟨rfl, hSE.warm hS hU hW⟩⟩ rfl rfl hl.1 rfl (lv_room (Nat.le_of_ble_eq_true rfl)) dJ0_checkIndex_df160_5 ⟨Nat.le_of_ble_eq_true rfl, Nat.le_of_ble_eq_true rfl⟩) hS (fun q _ h => h) (fun q h => h) (fun r u t H locs ht hvm hw hB hz hk9 hS => ?_)
    subst hw
    refine lv_pop hx hb dJ0_checkIndex_df160_8 rfl ?_
    exact W.vret hx hb hrt (fun t ht hW => ⟨⟨(), rfl, trivial, trivial⟩, hS.F ht⟩) hS.2.2 dJ0_checkIndex_df160_9
set_option maxHeartbeats 4000000 in
set_option maxRecDepth 100000 in
theorem j_charAt1 (l : Launch) (adK adV : Nat → Nat) (i : Nat) (hi : i < 10) (k : Int32) (hk : inb k (kwN.getD i 0)) : Met l yJ1_charAt_3b067 vmJ1_charAt_3b067 ({ frames := 4, cells := 0, slots := 0, locals := 220 } : Room) (va_Pc [.ref (adV i), .int k] (fun U => SE adK adV NF U)) (va_Qi (fun (r : Int32) (_ : Unit) => r = kwc i k.toNatClampNeg) (fun _ _ => True) NF) 0 0 NF := by
  refine Met.ofW (cc := cJ1_charAt_3b067) (maxL := 2) (ret := (some .char)) (by decide) rfl ?_
  intro p e s m args below meth c s₁ B hml hv
  obtain ⟨rfl, hSE⟩ := hv
  have hx := B.exec
  have hb := B.bytes
  have hrt := B.returns
  have hts := atoms_spec (ws := vmJ1_charAt_3b067) B.pre
  have hown : s.vm.findClass RJ1 = some m.cls := findClass_of_methodNamed B.named
  have hS : va_S NF s.heap s.heap [] := va_S.rf
  have hl := lv_entry ([.ref (adV i), .int k]) (n := 2) (Nat.le_of_ble_eq_true rfl)
  rw [lg_entry_eq]
  generalize (lg_sl ([.ref (adV i), .int k]) ++ List.replicate (2 - (lg_sl ([.ref (adV i), .int k])).length) Slot.unset).toArray = ls at hl ⊢
  refine lv_iload_n hx hb dJ1_charAt_3b067_0 rfl (lv_at hl 1 rfl) ?_
  refine lv_aload_n hx hb dJ1_charAt_3b067_1 rfl (lv_at hl 0 rfl) ?_
  refine va_tlen (v := kwl i) hx hb (hSE.1.1 i hi).2.2.2 hS rfl dJ1_charAt_3b067_2 ?_
  have hq := kw_lt hi hk
  refine va_callv (va_runS (As := [.int k, .int (kwl i)]) (rest := []) ⟨hx, hb, hml, hown, hts⟩ (j_check0 l adK adV k (kwl i) hq.1 hq.2) (va_cwS 2 hts gj_J0_checkIndex_df160_9 rfl rfl rfl (by decide +kernel) ⟨Nat.le_of_ble_eq_true rfl, Nat.le_of_ble_eq_true rfl⟩) ⟨fun a U g mk q => ⟨q.1, q.2.calling⟩, fun U hU hW => ⟨rfl, hSE.warm hS hU hW⟩⟩ rfl rfl hl.1 rfl (lv_room (Nat.le_of_ble_eq_true rfl)) dJ1_charAt_3b067_3 ⟨Nat.le_of_ble_eq_true rfl, Nat.le_of_ble_eq_true rfl⟩) hS (fun q _ h => h) (fun q h => h) (fun u t H locs ht hvm hw hB hz hk9 hS => ?_)
  refine lv_aload_n hx hb dJ1_charAt_3b067_6 rfl (lv_at hl 0 rfl) ?_
  refine lv_iload_n hx hb dJ1_charAt_3b067_7 rfl (lv_at hl 1 rfl) ?_
  refine va_tb hx hb (hSE.1.1 i hi).2.2.2 hS (inbV hk) rfl dJ1_charAt_3b067_8 ?_
  refine lv_sipush (v := 255) hx hb dJ1_charAt_3b067_9 (by decide +kernel) ?_
  refine lv_iand hx hb dJ1_charAt_3b067_12 ?_
  refine lv_i2c (v := kwc i k.toNatClampNeg) hx hb dJ1_charAt_3b067_13 rfl ?_
  exact W.zret (v := kwc i k.toNatClampNeg) hx hb hrt (pk_nc _) (fun t ht hW => ⟨⟨_, (), rfl, rfl, trivial⟩, hS.F ht⟩) hS.2.2 dJ1_charAt_3b067_14
set_option maxHeartbeats 4000000 in
set_option maxRecDepth 100000 in
theorem j_charAt (l : Launch) (adK adV : Nat → Nat) (i : Nat) (hi : i < 10) (k : Int32) (hk : inb k (kwN.getD i 0)) : Met l yJ0_charAt_5068e vmJ0_charAt_5068e ({ frames := 5, cells := 0, slots := 0, locals := 300 } : Room) (va_Pc [.ref (adK i), .int k] (fun U => SE adK adV NF U)) (va_Qi (fun (r : Int32) (_ : Unit) => r = kwc i k.toNatClampNeg) (fun _ _ => True) NF) 0 0 NF := by
  refine Met.ofW (cc := cJ0_charAt_5068e) (maxL := 2) (ret := (some .char)) (by decide) rfl ?_
  intro p e s m args below meth c s₁ B hml hv
  obtain ⟨rfl, hSE⟩ := hv
  have hx := B.exec
  have hb := B.bytes
  have hrt := B.returns
  have hts := atoms_spec (ws := vmJ0_charAt_5068e) B.pre
  have hown : s.vm.findClass RJ0 = some m.cls := findClass_of_methodNamed B.named
  have hS : va_S NF s.heap s.heap [] := va_S.rf
  have hl := lv_entry ([.ref (adK i), .int k]) (n := 2) (Nat.le_of_ble_eq_true rfl)
  rw [lg_entry_eq]
  generalize (lg_sl ([.ref (adK i), .int k]) ++ List.replicate (2 - (lg_sl ([.ref (adK i), .int k])).length) Slot.unset).toArray = ls at hl ⊢
  refine lv_aload_n hx hb dJ0_charAt_5068e_0 rfl (lv_at hl 0 rfl) ?_
  refine va_calli (va_runV (As := []) (rest := []) ⟨hx, hb, hml, hown, hts⟩ (j_isLatin1 l adK adV i hi) (cwV 0 hts gj_J0_isLatin1_aae02_492 rfl rfl rfl (by decide +kernel) ⟨Nat.le_of_ble_eq_true rfl, Nat.le_of_ble_eq_true rfl⟩) ⟨fun a U g mk q => ⟨q.1, q.2.calling⟩, vk_recv hSE.1 hi hS, fun U hU hW => ⟨rfl, hSE.warm hS hU hW⟩⟩ rfl rfl hl.1 rfl (lv_room (Nat.le_of_ble_eq_true rfl)) dJ0_charAt_5068e_1 ⟨Nat.le_of_ble_eq_true rfl, Nat.le_of_ble_eq_true rfl⟩) hS (fun q _ h => h) (fun q h => h) (fun r u t H locs ht hvm hw hB hz hk9 hS => ?_)
  subst hw
  refine lv_if_eq (tgt := 16) hx hb dJ0_charAt_5068e_4 (by decide) (fun h => absurd h (by decide)) (fun _ => ?_)
  refine lv_aload_n hx hb dJ0_charAt_5068e_7 rfl (lv_at hl 0 rfl) ?_
  refine vk_getf hx hb (hSE.1.1 i hi).2.2.1 hS hown (hts (.fieldLink RJ0 9 "java/lang/String" "value" "[B") im_4) (fun _ h9 => h9) dJ0_charAt_5068e_8 ?_
  refine lv_iload_n hx hb dJ0_charAt_5068e_11 rfl (lv_at hl 1 rfl) ?_
  refine va_calli (va_runS (As := [.ref (adV i), .int k]) (rest := []) ⟨hx, hb, hml, hown, hts⟩ (j_charAt1 l adK adV i hi k hk) (va_cwS 2 hts gj_J1_charAt_3b067_495 rfl rfl rfl (by decide +kernel) ⟨Nat.le_of_ble_eq_true rfl, Nat.le_of_ble_eq_true rfl⟩) ⟨fun a U g mk q => ⟨q.1, q.2.calling⟩, fun U hU hW => ⟨rfl, hSE.warm hS hU hW⟩⟩ rfl rfl hl.1 rfl (lv_room (Nat.le_of_ble_eq_true rfl)) dJ0_charAt_5068e_12 ⟨Nat.le_of_ble_eq_true rfl, Nat.le_of_ble_eq_true rfl⟩) hS (fun q _ h => h) (fun q h => h) (fun r u t H locs ht hvm hw hB hz hk9 hS => ?_)
  subst hw
  exact W.zret (v := kwc i k.toNatClampNeg) hx hb hrt (pk_nc _) (fun t ht hW => ⟨⟨_, (), rfl, rfl, trivial⟩, hS.F ht⟩) hS.2.2 dJ0_charAt_5068e_15
