set_option maxHeartbeats 4000000 in
set_option maxRecDepth 100000 in
theorem law_0 {p : Program} {e : Env} {s : State} {m : MethodId} {below : List Frame} {meth : Method} {c : Code} (l : Launch) {b : Nat} {xs : Nat → Int32} {A : Nat → Prop} {dC : Nat → ClassId} {dI : Nat → Nat → Nat} (C0 : lw_At p s m meth c b 6 xs) (hA : ∀ q : Nat, s.heap.size ≤ q → A q) (hbA : ¬ A b) (hAl : ∀ q : Nat, A q → s.heap.size ≤ q) (hE : EnvOK s) {y1 : Int32} (ey1 : xs (Int32.toNatClampNeg 1) = y1) {y2 : Int32} (ey2 : xs (Int32.toNatClampNeg 2) = y2) {y3 : Int32} (ey3 : xs (Int32.toNatClampNeg 3) = y3) {y4 : Int32} (ey4 : xs (Int32.toNatClampNeg 4) = y4) {y5 : Int32} (ey5 : xs (Int32.toNatClampNeg 5) = y5) {k1125 : ClassId} {k2757 : ClassId} {x0 : Nat} {q1111 : Nat} {q1112 : Nat} {q1113 : Nat} {q1114 : Nat} {q1115 : Nat} {q1116 : Nat} {q1117 : Nat} {q1118 : Nat} {q1119 : Nat} {q1120 : Nat} {q1121 : Nat} {q1122 : Nat} {q1123 : Nat} {q1124 : Nat} {m0 : Nat} {q2712 : Nat} {q2713 : Nat} {q2714 : Nat} {q2715 : Nat} {q2716 : Nat} {q2717 : Nat} {q2718 : Nat} {q2719 : Nat} {q2720 : Nat} {q2721 : Nat} {q2722 : Nat} {q2723 : Nat} {q2724 : Nat} {q2725 : Nat} {q2726 : Nat} {q2727 : Nat} {q2728 : Nat} {q2729 : Nat} {q2730 : Nat} {q2731 : Nat} {q2732 : Nat} {q2733 : Nat} {q2734 : Nat} {q2735 : Nat} {q2736 : Nat} {q2737 : Nat} {q2738 : Nat} {q2739 : Nat} {q2740 : Nat} {q2741 : Nat} {q2742 : Nat} {q2743 : Nat} {q2744 : Nat} {q2745 : Nat} {q2746 : Nat} {q2747 : Nat} {q2748 : Nat} {q2749 : Nat} {q2750 : Nat} {q2751 : Nat} {q2752 : Nat} {q2753 : Nat} {q2754 : Nat} {q2755 : Nat} {q2756 : Nat} {H : Heap} {locs : List Loc} {ls : Array Slot} (hK : va_K (dC, dI) vwCl [(k1125, .byte), (k2757, .byte)] s) (hP : va_P (dC, dI) vwCl [(x0, .inr (11, [.ref q1111, .ref q1112, .int 0, .int (-1), .ref q1113, .ref q1114, .ref q1115, .ref q1116, .ref q1117, .ref q1118, .ref q1119, .int 0, .ref q1120, .int 0, .ref q1121, .ref q1122, .ref q1123])), (q1111, .inr (7, [.ref q1124, .int 0])), (q1124, .inl (k1125, 2000, .inl (fun _ => 0))), (m0, .inr (12, (.ref q2712 :: .int 0 :: .int 0 :: .int 0 :: .int 0 :: .int 0 :: .int 0 :: .int 0 :: .int (-1) :: .int 0 :: .ref q2713 :: .ref q2714 :: .ref q2715 :: .ref q2716 :: .ref q2717 :: .ref q2718 :: .ref q2719 :: .ref q2720 :: .ref q2721 :: .ref q2722 :: .ref q2723 :: .ref q2724 :: .ref q2725 :: .int 0 :: .ref q2726 :: .ref q2727 :: .ref q2728 :: .int 0 :: .ref q2729 :: .ref q2730 :: .int 0 :: .ref q2731 :: .ref q2732 :: .ref q2733 :: .int 0 :: .int 0 :: .int 0 :: .ref q2734 :: .ref q2735 :: .int 0 :: .ref q2736 :: .ref q2737 :: .ref q2738 :: .ref q2739 :: .int 0 :: .ref q2740 :: .ref q2741 :: .int 0 :: .int 0 :: .ref q2742 :: .ref q2743 :: .int 0 :: .ref q2744 :: .ref q2745 :: .ref q2746 :: .ref q2747 :: .int 0 :: .ref q2748 :: .ref q2749 :: .int 0 :: .ref q2750 :: .ref q2751 :: .int 0 :: .ref q2752 :: .ref q2753 :: .int 0 :: .int 0 :: .ref q2754 :: .ref q2755 :: .ref q2756 :: .int 0 :: []))), (q2712, .inl (k2757, 2000, .inl (fun _ => 0)))] H) (hD : va_D A [(x0, .inr (11, [.ref q1111, .ref q1112, .int 0, .int (-1), .ref q1113, .ref q1114, .ref q1115, .ref q1116, .ref q1117, .ref q1118, .ref q1119, .int 0, .ref q1120, .int 0, .ref q1121, .ref q1122, .ref q1123])), (q1111, .inr (7, [.ref q1124, .int 0])), (q1124, .inl (k1125, 2000, .inl (fun _ => 0))), (m0, .inr (12, (.ref q2712 :: .int 0 :: .int 0 :: .int 0 :: .int 0 :: .int 0 :: .int 0 :: .int 0 :: .int (-1) :: .int 0 :: .ref q2713 :: .ref q2714 :: .ref q2715 :: .ref q2716 :: .ref q2717 :: .ref q2718 :: .ref q2719 :: .ref q2720 :: .ref q2721 :: .ref q2722 :: .ref q2723 :: .ref q2724 :: .ref q2725 :: .int 0 :: .ref q2726 :: .ref q2727 :: .ref q2728 :: .int 0 :: .ref q2729 :: .ref q2730 :: .int 0 :: .ref q2731 :: .ref q2732 :: .ref q2733 :: .int 0 :: .int 0 :: .int 0 :: .ref q2734 :: .ref q2735 :: .int 0 :: .ref q2736 :: .ref q2737 :: .ref q2738 :: .ref q2739 :: .int 0 :: .ref q2740 :: .ref q2741 :: .int 0 :: .int 0 :: .ref q2742 :: .ref q2743 :: .int 0 :: .ref q2744 :: .ref q2745 :: .ref q2746 :: .ref q2747 :: .int 0 :: .ref q2748 :: .ref q2749 :: .int 0 :: .ref q2750 :: .ref q2751 :: .int 0 :: .ref q2752 :: .ref q2753 :: .int 0 :: .int 0 :: .ref q2754 :: .ref q2755 :: .ref q2756 :: .int 0 :: []))), (q2712, .inl (k2757, 2000, .inl (fun _ => 0)))]) (hS : va_S A s.heap H locs) (hl : lv_has ls 4 [(3, .int 0), (2, .ref m0), (1, .ref x0), (0, .ref b)]) : W p l e room_1 s m #[Value.ref b] below meth c H locs 126 277922 (lw_Z below #[Value.ref b] s) (F0 m 148 ls []) := by
  obtain ⟨hx, hb, hr, hml, hown, hts, hX, hbl, hlocks, hgv⟩ := C0
  have hts := fun w h => hts w (wmL_law_in w h)
  have hS : va_S A s.heap H locs := hS
  refine lv_aload_n hx hb dL_law_148 rfl (lv_at hl 2 rfl) ?_
  refine lv_aload_n hx hb dL_law_149 rfl (lv_at hl 3 rfl) ?_
  refine lv_iload_n hx hb dL_law_150 rfl (lv_at hl 0 rfl) ?_
  refine lv_iconst (v := 1) hx hb dL_law_151 (by decide +kernel) ?_
  refine lv_iadd hx hb dL_law_152 ?_
  refine lv_topi (fun x3630 ex3630 => ?_)
  obtain rfl : x3630 = 1 := ex3630.trans (by decide +kernel)
  refine va_sld hx hb hX hbl hbA hS (by unfold vp_in; decide) dL_law_153 ?_
  refine lv_topi (fun x3631 ex3631 => ?_)
  obtain rfl : y1 = x3631 := (ex3631.trans ey1).symm
  refine lv_aload_n hx hb dL_law_154 rfl (lv_at hl 3 rfl) ?_
  refine lv_iload_n hx hb dL_law_155 rfl (lv_at hl 0 rfl) ?_
  refine lv_iconst (v := 2) hx hb dL_law_156 (by decide +kernel) ?_
  refine lv_iadd hx hb dL_law_157 ?_
  refine lv_topi (fun x3632 ex3632 => ?_)
  obtain rfl : x3632 = 2 := ex3632.trans (by decide +kernel)
  refine va_sld hx hb hX hbl hbA hS (by unfold vp_in; decide) dL_law_158 ?_
  refine lv_topi (fun x3633 ex3633 => ?_)
  obtain rfl : y2 = x3633 := (ex3633.trans ey2).symm
  refine lv_aload_n hx hb dL_law_159 rfl (lv_at hl 3 rfl) ?_
  refine lv_iload_n hx hb dL_law_160 rfl (lv_at hl 0 rfl) ?_
  refine lv_iconst (v := 3) hx hb dL_law_161 (by decide +kernel) ?_
  refine lv_iadd hx hb dL_law_162 ?_
  refine lv_topi (fun x3634 ex3634 => ?_)
  obtain rfl : x3634 = 3 := ex3634.trans (by decide +kernel)
  refine va_sld hx hb hX hbl hbA hS (by unfold vp_in; decide) dL_law_163 ?_
  refine lv_topi (fun x3635 ex3635 => ?_)
  obtain rfl : y3 = x3635 := (ex3635.trans ey3).symm
  refine lv_aload_n hx hb dL_law_164 rfl (lv_at hl 3 rfl) ?_
  refine lv_iload_n hx hb dL_law_165 rfl (lv_at hl 0 rfl) ?_
  refine lv_iconst (v := 4) hx hb dL_law_166 (by decide +kernel) ?_
  refine lv_iadd hx hb dL_law_167 ?_
  refine lv_topi (fun x3636 ex3636 => ?_)
  obtain rfl : x3636 = 4 := ex3636.trans (by decide +kernel)
  refine va_sld hx hb hX hbl hbA hS (by unfold vp_in; decide) dL_law_168 ?_
  refine lv_topi (fun x3637 ex3637 => ?_)
  obtain rfl : y4 = x3637 := (ex3637.trans ey4).symm
  refine lv_aload_n hx hb dL_law_169 rfl (lv_at hl 3 rfl) ?_
  refine lv_iload_n hx hb dL_law_170 rfl (lv_at hl 0 rfl) ?_
  refine lv_iconst (v := 5) hx hb dL_law_171 (by decide +kernel) ?_
  refine lv_iadd hx hb dL_law_172 ?_
  refine lv_topi (fun x3638 ex3638 => ?_)
  obtain rfl : x3638 = 5 := ex3638.trans (by decide +kernel)
  refine va_sld hx hb hX hbl hbA hS (by unfold vp_in; decide) dL_law_173 ?_
  refine lv_topi (fun x3639 ex3639 => ?_)
  obtain rfl : y5 = x3639 := (ex3639.trans ey5).symm
  have hPc := hP.sub (ws' := [(x0, .inr (11, [.ref q1111, .ref q1112, .int 0, .int (-1), .ref q1113, .ref q1114, .ref q1115, .ref q1116, .ref q1117, .ref q1118, .ref q1119, .int 0, .ref q1120, .int 0, .ref q1121, .ref q1122, .ref q1123])), (q1111, .inr (7, [.ref q1124, .int 0])), (q1124, .inl (k1125, 2000, .inl (fun _ => 0)))]) [0, 1, 2] rfl
  have hDc := hD.sub (ws' := [(x0, .inr (11, [.ref q1111, .ref q1112, .int 0, .int (-1), .ref q1113, .ref q1114, .ref q1115, .ref q1116, .ref q1117, .ref q1118, .ref q1119, .int 0, .ref q1120, .int 0, .ref q1121, .ref q1122, .ref q1123])), (q1111, .inr (7, [.ref q1124, .int 0])), (q1124, .inl (k1125, 2000, .inl (fun _ => 0)))]) [0, 1, 2] (by decide +kernel) rfl
  have hKc := hK.sub (tys' := [(k1125, .byte)]) [0] rfl
  have hFc := va_free (wc := [(x0, .inr (11, [.ref q1111, .ref q1112, .int 0, .int (-1), .ref q1113, .ref q1114, .ref q1115, .ref q1116, .ref q1117, .ref q1118, .ref q1119, .int 0, .ref q1120, .int 0, .ref q1121, .ref q1122, .ref q1123])), (q1111, .inr (7, [.ref q1124, .int 0])), (q1124, .inl (k1125, 2000, .inl (fun _ => 0)))]) hD hS hA [0, 1, 2] rfl
  refine va_calli (va_runV (As := [.int y1, .int y2, .int y3, .int y4, .int y5]) (rest := []) ⟨hx, hb, hml, hown, hts⟩ (c_X11_feed_0 l dC dI H.size x0 q1111 q1112 q1113 q1114 q1115 q1116 q1117 q1118 q1119 q1120 q1121 q1122 q1123 q1124 k1125 y1 y2 y3 y4 y5) (cwV 5 hts gv_L_law_X11_feed_13 rfl rfl rfl (by decide +kernel) ⟨Nat.le_of_ble_eq_true rfl, Nat.le_of_ble_eq_true rfl⟩) ⟨fun a U g mk q => by obtain ⟨q0, q1, qP, qK, qD⟩ := q; exact ⟨q0, q1, qP, va_K.moved (u := U) (U := U.calling g mk a) (Vm.Alike.refl U.vm) qK, qD⟩, va_recv hKc hPc (ci := 11) (q0 := 0) rfl rfl, fun U hU hW => ⟨rfl, by rw [hU], by rw [hU]; exact hPc, va_K.moved hW.alike hKc, hDc.weaken (fun _ _ _ _ => trivial)⟩⟩ rfl rfl hl.1 rfl (lv_room (Nat.le_of_ble_eq_true rfl)) dL_law_174 ⟨Nat.le_of_ble_eq_true rfl, Nat.le_of_ble_eq_true rfl⟩) hS (fun q _ h => hFc q h) hFc (fun r3726 u t H1 locs ht hvm hw hB hz1 hk1 hS => ?_)
  obtain ⟨hP1, hK1, hD1⟩ := hB
  rw [ht] at hP1
  have hK1 := va_K.moved hvm.symm hK1
  obtain ⟨hP, hD⟩ := va_join (wr := [(m0, .inr (12, (.ref q2712 :: .int 0 :: .int 0 :: .int 0 :: .int 0 :: .int 0 :: .int 0 :: .int 0 :: .int (-1) :: .int 0 :: .ref q2713 :: .ref q2714 :: .ref q2715 :: .ref q2716 :: .ref q2717 :: .ref q2718 :: .ref q2719 :: .ref q2720 :: .ref q2721 :: .ref q2722 :: .ref q2723 :: .ref q2724 :: .ref q2725 :: .int 0 :: .ref q2726 :: .ref q2727 :: .ref q2728 :: .int 0 :: .ref q2729 :: .ref q2730 :: .int 0 :: .ref q2731 :: .ref q2732 :: .ref q2733 :: .int 0 :: .int 0 :: .int 0 :: .ref q2734 :: .ref q2735 :: .int 0 :: .ref q2736 :: .ref q2737 :: .ref q2738 :: .ref q2739 :: .int 0 :: .ref q2740 :: .ref q2741 :: .int 0 :: .int 0 :: .ref q2742 :: .ref q2743 :: .int 0 :: .ref q2744 :: .ref q2745 :: .ref q2746 :: .ref q2747 :: .int 0 :: .ref q2748 :: .ref q2749 :: .int 0 :: .ref q2750 :: .ref q2751 :: .int 0 :: .ref q2752 :: .ref q2753 :: .int 0 :: .int 0 :: .ref q2754 :: .ref q2755 :: .ref q2756 :: .int 0 :: []))), (q2712, .inl (k2757, 2000, .inl (fun _ => 0)))]) (w1 := []) hP hD [0, 1, 2] [3, 4] rfl rfl (by decide +kernel) (by decide +kernel) hk1 hFc hP1 hD1
  have hK := (hK.sub (tys' := [(k1125, .byte), (k2757, .byte)]) [0, 1] rfl).app hK1
  generalize H1 = H at hP hS ⊢
  have hK : va_K (dC, dI) vwCl [(k1125, .byte), (k2757, .byte)] s := hK
  have hP : va_P (dC, dI) vwCl [(m0, .inr (12, (.ref q2712 :: .int 0 :: .int 0 :: .int 0 :: .int 0 :: .int 0 :: .int 0 :: .int 0 :: .int (-1) :: .int 0 :: .ref q2713 :: .ref q2714 :: .ref q2715 :: .ref q2716 :: .ref q2717 :: .ref q2718 :: .ref q2719 :: .ref q2720 :: .ref q2721 :: .ref q2722 :: .ref q2723 :: .ref q2724 :: .ref q2725 :: .int 0 :: .ref q2726 :: .ref q2727 :: .ref q2728 :: .int 0 :: .ref q2729 :: .ref q2730 :: .int 0 :: .ref q2731 :: .ref q2732 :: .ref q2733 :: .int 0 :: .int 0 :: .int 0 :: .ref q2734 :: .ref q2735 :: .int 0 :: .ref q2736 :: .ref q2737 :: .ref q2738 :: .ref q2739 :: .int 0 :: .ref q2740 :: .ref q2741 :: .int 0 :: .int 0 :: .ref q2742 :: .ref q2743 :: .int 0 :: .ref q2744 :: .ref q2745 :: .ref q2746 :: .ref q2747 :: .int 0 :: .ref q2748 :: .ref q2749 :: .int 0 :: .ref q2750 :: .ref q2751 :: .int 0 :: .ref q2752 :: .ref q2753 :: .int 0 :: .int 0 :: .ref q2754 :: .ref q2755 :: .ref q2756 :: .int 0 :: []))), (q2712, .inl (k2757, 2000, .inl (fun _ => 0)))] H := hP
  have hD : va_D A [(m0, .inr (12, (.ref q2712 :: .int 0 :: .int 0 :: .int 0 :: .int 0 :: .int 0 :: .int 0 :: .int 0 :: .int (-1) :: .int 0 :: .ref q2713 :: .ref q2714 :: .ref q2715 :: .ref q2716 :: .ref q2717 :: .ref q2718 :: .ref q2719 :: .ref q2720 :: .ref q2721 :: .ref q2722 :: .ref q2723 :: .ref q2724 :: .ref q2725 :: .int 0 :: .ref q2726 :: .ref q2727 :: .ref q2728 :: .int 0 :: .ref q2729 :: .ref q2730 :: .int 0 :: .ref q2731 :: .ref q2732 :: .ref q2733 :: .int 0 :: .int 0 :: .int 0 :: .ref q2734 :: .ref q2735 :: .int 0 :: .ref q2736 :: .ref q2737 :: .ref q2738 :: .ref q2739 :: .int 0 :: .ref q2740 :: .ref q2741 :: .int 0 :: .int 0 :: .ref q2742 :: .ref q2743 :: .int 0 :: .ref q2744 :: .ref q2745 :: .ref q2746 :: .ref q2747 :: .int 0 :: .ref q2748 :: .ref q2749 :: .int 0 :: .ref q2750 :: .ref q2751 :: .int 0 :: .ref q2752 :: .ref q2753 :: .int 0 :: .int 0 :: .ref q2754 :: .ref q2755 :: .ref q2756 :: .int 0 :: []))), (q2712, .inl (k2757, 2000, .inl (fun _ => 0)))] := hD
  obtain rfl : r3726 = 20 := hw
  refine lv_aload_n hx hb dL_law_177 rfl (lv_at hl 1 rfl) ?_
  refine lv_aload_n hx hb dL_law_178 rfl (lv_at hl 3 rfl) ?_
  refine lv_iload_n hx hb dL_law_179 rfl (lv_at hl 0 rfl) ?_
  refine lv_iconst (v := 1) hx hb dL_law_180 (by decide +kernel) ?_
  refine lv_iadd hx hb dL_law_181 ?_
  refine lv_topi (fun x3727 ex3727 => ?_)
  obtain rfl : x3727 = 1 := ex3727.trans (by decide +kernel)
  refine va_sld hx hb hX hbl hbA hS (by unfold vp_in; decide) dL_law_182 ?_
  refine lv_topi (fun x3728 ex3728 => ?_)
  obtain rfl : y1 = x3728 := (ex3728.trans ey1).symm
  refine lv_aload_n hx hb dL_law_183 rfl (lv_at hl 3 rfl) ?_
  refine lv_iload_n hx hb dL_law_184 rfl (lv_at hl 0 rfl) ?_
  refine lv_iconst (v := 2) hx hb dL_law_185 (by decide +kernel) ?_
  refine lv_iadd hx hb dL_law_186 ?_
  refine lv_topi (fun x3729 ex3729 => ?_)
  obtain rfl : x3729 = 2 := ex3729.trans (by decide +kernel)
  refine va_sld hx hb hX hbl hbA hS (by unfold vp_in; decide) dL_law_187 ?_
  refine lv_topi (fun x3730 ex3730 => ?_)
  obtain rfl : y2 = x3730 := (ex3730.trans ey2).symm
  refine lv_aload_n hx hb dL_law_188 rfl (lv_at hl 3 rfl) ?_
  refine lv_iload_n hx hb dL_law_189 rfl (lv_at hl 0 rfl) ?_
  refine lv_iconst (v := 3) hx hb dL_law_190 (by decide +kernel) ?_
  refine lv_iadd hx hb dL_law_191 ?_
  refine lv_topi (fun x3731 ex3731 => ?_)
  obtain rfl : x3731 = 3 := ex3731.trans (by decide +kernel)
  refine va_sld hx hb hX hbl hbA hS (by unfold vp_in; decide) dL_law_192 ?_
  refine lv_topi (fun x3732 ex3732 => ?_)
  obtain rfl : y3 = x3732 := (ex3732.trans ey3).symm
  refine lv_aload_n hx hb dL_law_193 rfl (lv_at hl 3 rfl) ?_
  refine lv_iload_n hx hb dL_law_194 rfl (lv_at hl 0 rfl) ?_
  refine lv_iconst (v := 4) hx hb dL_law_195 (by decide +kernel) ?_
  refine lv_iadd hx hb dL_law_196 ?_
  refine lv_topi (fun x3733 ex3733 => ?_)
  obtain rfl : x3733 = 4 := ex3733.trans (by decide +kernel)
  refine va_sld hx hb hX hbl hbA hS (by unfold vp_in; decide) dL_law_197 ?_
  refine lv_topi (fun x3734 ex3734 => ?_)
  obtain rfl : y4 = x3734 := (ex3734.trans ey4).symm
  refine lv_aload_n hx hb dL_law_198 rfl (lv_at hl 3 rfl) ?_
  refine lv_iload_n hx hb dL_law_199 rfl (lv_at hl 0 rfl) ?_
  refine lv_iconst (v := 5) hx hb dL_law_200 (by decide +kernel) ?_
  refine lv_iadd hx hb dL_law_201 ?_
  refine lv_topi (fun x3735 ex3735 => ?_)
  obtain rfl : x3735 = 5 := ex3735.trans (by decide +kernel)
  refine va_sld hx hb hX hbl hbA hS (by unfold vp_in; decide) dL_law_202 ?_
  refine lv_topi (fun x3736 ex3736 => ?_)
  obtain rfl : y5 = x3736 := (ex3736.trans ey5).symm
  have hPc := hP.sub (ws' := [(m0, .inr (12, (.ref q2712 :: .int 0 :: .int 0 :: .int 0 :: .int 0 :: .int 0 :: .int 0 :: .int 0 :: .int (-1) :: .int 0 :: .ref q2713 :: .ref q2714 :: .ref q2715 :: .ref q2716 :: .ref q2717 :: .ref q2718 :: .ref q2719 :: .ref q2720 :: .ref q2721 :: .ref q2722 :: .ref q2723 :: .ref q2724 :: .ref q2725 :: .int 0 :: .ref q2726 :: .ref q2727 :: .ref q2728 :: .int 0 :: .ref q2729 :: .ref q2730 :: .int 0 :: .ref q2731 :: .ref q2732 :: .ref q2733 :: .int 0 :: .int 0 :: .int 0 :: .ref q2734 :: .ref q2735 :: .int 0 :: .ref q2736 :: .ref q2737 :: .ref q2738 :: .ref q2739 :: .int 0 :: .ref q2740 :: .ref q2741 :: .int 0 :: .int 0 :: .ref q2742 :: .ref q2743 :: .int 0 :: .ref q2744 :: .ref q2745 :: .ref q2746 :: .ref q2747 :: .int 0 :: .ref q2748 :: .ref q2749 :: .int 0 :: .ref q2750 :: .ref q2751 :: .int 0 :: .ref q2752 :: .ref q2753 :: .int 0 :: .int 0 :: .ref q2754 :: .ref q2755 :: .ref q2756 :: .int 0 :: []))), (q2712, .inl (k2757, 2000, .inl (fun _ => 0)))]) [0, 1] rfl
  have hDc := hD.sub (ws' := [(m0, .inr (12, (.ref q2712 :: .int 0 :: .int 0 :: .int 0 :: .int 0 :: .int 0 :: .int 0 :: .int 0 :: .int (-1) :: .int 0 :: .ref q2713 :: .ref q2714 :: .ref q2715 :: .ref q2716 :: .ref q2717 :: .ref q2718 :: .ref q2719 :: .ref q2720 :: .ref q2721 :: .ref q2722 :: .ref q2723 :: .ref q2724 :: .ref q2725 :: .int 0 :: .ref q2726 :: .ref q2727 :: .ref q2728 :: .int 0 :: .ref q2729 :: .ref q2730 :: .int 0 :: .ref q2731 :: .ref q2732 :: .ref q2733 :: .int 0 :: .int 0 :: .int 0 :: .ref q2734 :: .ref q2735 :: .int 0 :: .ref q2736 :: .ref q2737 :: .ref q2738 :: .ref q2739 :: .int 0 :: .ref q2740 :: .ref q2741 :: .int 0 :: .int 0 :: .ref q2742 :: .ref q2743 :: .int 0 :: .ref q2744 :: .ref q2745 :: .ref q2746 :: .ref q2747 :: .int 0 :: .ref q2748 :: .ref q2749 :: .int 0 :: .ref q2750 :: .ref q2751 :: .int 0 :: .ref q2752 :: .ref q2753 :: .int 0 :: .int 0 :: .ref q2754 :: .ref q2755 :: .ref q2756 :: .int 0 :: []))), (q2712, .inl (k2757, 2000, .inl (fun _ => 0)))]) [0, 1] (by decide +kernel) rfl
  have hKc := hK.sub (tys' := [(k2757, .byte)]) [1] rfl
  have hFc := va_free (wc := [(m0, .inr (12, (.ref q2712 :: .int 0 :: .int 0 :: .int 0 :: .int 0 :: .int 0 :: .int 0 :: .int 0 :: .int (-1) :: .int 0 :: .ref q2713 :: .ref q2714 :: .ref q2715 :: .ref q2716 :: .ref q2717 :: .ref q2718 :: .ref q2719 :: .ref q2720 :: .ref q2721 :: .ref q2722 :: .ref q2723 :: .ref q2724 :: .ref q2725 :: .int 0 :: .ref q2726 :: .ref q2727 :: .ref q2728 :: .int 0 :: .ref q2729 :: .ref q2730 :: .int 0 :: .ref q2731 :: .ref q2732 :: .ref q2733 :: .int 0 :: .int 0 :: .int 0 :: .ref q2734 :: .ref q2735 :: .int 0 :: .ref q2736 :: .ref q2737 :: .ref q2738 :: .ref q2739 :: .int 0 :: .ref q2740 :: .ref q2741 :: .int 0 :: .int 0 :: .ref q2742 :: .ref q2743 :: .int 0 :: .ref q2744 :: .ref q2745 :: .ref q2746 :: .ref q2747 :: .int 0 :: .ref q2748 :: .ref q2749 :: .int 0 :: .ref q2750 :: .ref q2751 :: .int 0 :: .ref q2752 :: .ref q2753 :: .int 0 :: .int 0 :: .ref q2754 :: .ref q2755 :: .ref q2756 :: .int 0 :: []))), (q2712, .inl (k2757, 2000, .inl (fun _ => 0)))]) hD hS hA [0, 1] rfl
  refine va_calli (va_runV (As := [.int y1, .int y2, .int y3, .int y4, .int y5]) (rest := [.int 20]) ⟨hx, hb, hml, hown, hts⟩ (c_X12_feed_0 l dC dI H.size m0 q2712 q2713 q2714 q2715 q2716 q2717 q2718 q2719 q2720 q2721 q2722 q2723 q2724 q2725 q2726 q2727 q2728 q2729 q2730 q2731 q2732 q2733 q2734 q2735 q2736 q2737 q2738 q2739 q2740 q2741 q2742 q2743 q2744 q2745 q2746 q2747 q2748 q2749 q2750 q2751 q2752 q2753 q2754 q2755 q2756 k2757 y1 y2 y3 y4 y5) (cwV 5 hts gv_L_law_X12_feed_17 rfl rfl rfl (by decide +kernel) ⟨Nat.le_of_ble_eq_true rfl, Nat.le_of_ble_eq_true rfl⟩) ⟨fun a U g mk q => by obtain ⟨q0, q1, qP, qK, qD⟩ := q; exact ⟨q0, q1, qP, va_K.moved (u := U) (U := U.calling g mk a) (Vm.Alike.refl U.vm) qK, qD⟩, va_recv hKc hPc (ci := 12) (q0 := 0) rfl rfl, fun U hU hW => ⟨rfl, by rw [hU], by rw [hU]; exact hPc, va_K.moved hW.alike hKc, hDc.weaken (fun _ _ _ _ => trivial)⟩⟩ rfl rfl hl.1 rfl (lv_room (Nat.le_of_ble_eq_true rfl)) dL_law_203 ⟨Nat.le_of_ble_eq_true rfl, Nat.le_of_ble_eq_true rfl⟩) hS (fun q _ h => hFc q h) hFc (fun r3818 u t H1 locs ht hvm hw hB hz1 hk1 hS => ?_)
  obtain ⟨hP1, hK1, hD1⟩ := hB
  rw [ht] at hP1
  have hK1 := va_K.moved hvm.symm hK1
  obtain ⟨hP, hD⟩ := va_join (wr := []) (w1 := []) hP hD [0, 1] [] rfl rfl (by decide +kernel) (by decide +kernel) hk1 hFc hP1 hD1
  have hK := (hK.sub (tys' := [(k1125, .byte), (k2757, .byte)]) [0, 1] rfl).app hK1
  generalize H1 = H at hP hS ⊢
  have hK : va_K (dC, dI) vwCl [(k1125, .byte), (k2757, .byte)] s := hK
  have hP : va_P (dC, dI) vwCl [] H := hP
  have hD : va_D A [] := hD
  obtain rfl : r3818 = 20 := hw
  refine lv_icmp_eq (tgt := 833) hx hb dL_law_206 (by decide +kernel) (fun _ => ?_) (fun h => absurd (by decide +kernel) h)
  refine lv_iinc (v := 6) (lv' := [(3, .int 6), (2, .ref m0), (1, .ref x0), (0, .ref b)]) hx hb dL_law_833 hl (k := 0) rfl (by decide +kernel) (by decide +kernel) rfl (fun ls hl => ?_)
  refine lv_goto (tgt := 18) hx hb dL_law_836 (by decide +kernel) ?_
  refine lv_iload_n hx hb dL_law_18 rfl (lv_at hl 0 rfl) ?_
  refine lv_aload_n hx hb dL_law_19 rfl (lv_at hl 3 rfl) ?_
  refine va_slen hx hb hX hbl hbA hS dL_law_20 ?_
  refine lv_topi (fun x3819 ex3819 => ?_)
  obtain rfl : x3819 = 6 := ex3819.trans (by decide +kernel)
  refine lv_bipush (v := 6) hx hb dL_law_21 (by decide +kernel) ?_
  refine lv_isub hx hb dL_law_23 ?_
  refine lv_topi (fun x3820 ex3820 => ?_)
  obtain rfl : x3820 = 0 := ex3820.trans (by decide +kernel)
  refine lv_icmp_gt (tgt := 839) hx hb dL_law_24 (by decide +kernel) (fun _ => ?_) (fun h => absurd (by decide +kernel) h)
  refine lv_iconst (v := 1) hx hb dL_law_839 (by decide +kernel) ?_
  refine va_forget (fun q hq => hAl _ (hS.2.2 q hq)) ?_
  refine W.widen (k := 600000) (n := 7302250) (by omega) (by omega) ?_
  exact lw_ret hx hb hr hlocks dL_law_840
set_option maxHeartbeats 4000000 in
set_option maxRecDepth 100000 in
theorem law_1 {p : Program} {e : Env} {s : State} {m : MethodId} {below : List Frame} {meth : Method} {c : Code} (l : Launch) {b : Nat} {xs : Nat → Int32} {A : Nat → Prop} {dC : Nat → ClassId} {dI : Nat → Nat → Nat} (C0 : lw_At p s m meth c b 6 xs) (hA : ∀ q : Nat, s.heap.size ≤ q → A q) (hbA : ¬ A b) (hAl : ∀ q : Nat, A q → s.heap.size ≤ q) (hE : EnvOK s) {y1 : Int32} (ey1 : xs (Int32.toNatClampNeg 1) = y1) {x0 : Nat} {q1111 : Nat} {q1112 : Nat} {q1113 : Nat} {q1114 : Nat} {q1115 : Nat} {q1116 : Nat} {q1117 : Nat} {q1118 : Nat} {q1119 : Nat} {q1120 : Nat} {q1121 : Nat} {q1122 : Nat} {q1123 : Nat} {q1124 : Nat} {m0 : Nat} {q2712 : Nat} {q2713 : Nat} {q2714 : Nat} {q2715 : Nat} {q2716 : Nat} {q2717 : Nat} {q2718 : Nat} {q2719 : Nat} {q2720 : Nat} {q2721 : Nat} {q2722 : Nat} {q2723 : Nat} {q2724 : Nat} {q2725 : Nat} {q2726 : Nat} {q2727 : Nat} {q2728 : Nat} {q2729 : Nat} {q2730 : Nat} {q2731 : Nat} {q2732 : Nat} {q2733 : Nat} {q2734 : Nat} {q2735 : Nat} {q2736 : Nat} {q2737 : Nat} {q2738 : Nat} {q2739 : Nat} {q2740 : Nat} {q2741 : Nat} {q2742 : Nat} {q2743 : Nat} {q2744 : Nat} {q2745 : Nat} {q2746 : Nat} {q2747 : Nat} {q2748 : Nat} {q2749 : Nat} {q2750 : Nat} {q2751 : Nat} {q2752 : Nat} {q2753 : Nat} {q2754 : Nat} {q2755 : Nat} {q2756 : Nat} {H : Heap} {locs : List Loc} {ls : Array Slot} (hK : va_K (dC, dI) vwCl [] s) (hP : va_P (dC, dI) vwCl [(x0, .inr (11, [.ref q1111, .ref q1112, .int 0, .int (-1), .ref q1113, .ref q1114, .ref q1115, .ref q1116, .ref q1117, .ref q1118, .ref q1119, .int 0, .ref q1120, .int 0, .ref q1121, .ref q1122, .ref q1123])), (q1111, .inr (7, [.ref q1124, .int 0])), (m0, .inr (12, (.ref q2712 :: .int 0 :: .int 0 :: .int 0 :: .int 0 :: .int 0 :: .int 0 :: .int 0 :: .int (-1) :: .int 0 :: .ref q2713 :: .ref q2714 :: .ref q2715 :: .ref q2716 :: .ref q2717 :: .ref q2718 :: .ref q2719 :: .ref q2720 :: .ref q2721 :: .ref q2722 :: .ref q2723 :: .ref q2724 :: .ref q2725 :: .int 0 :: .ref q2726 :: .ref q2727 :: .ref q2728 :: .int 0 :: .ref q2729 :: .ref q2730 :: .int 0 :: .ref q2731 :: .ref q2732 :: .ref q2733 :: .int 0 :: .int 0 :: .int 0 :: .ref q2734 :: .ref q2735 :: .int 0 :: .ref q2736 :: .ref q2737 :: .ref q2738 :: .ref q2739 :: .int 0 :: .ref q2740 :: .ref q2741 :: .int 0 :: .int 0 :: .ref q2742 :: .ref q2743 :: .int 0 :: .ref q2744 :: .ref q2745 :: .ref q2746 :: .ref q2747 :: .int 0 :: .ref q2748 :: .ref q2749 :: .int 0 :: .ref q2750 :: .ref q2751 :: .int 0 :: .ref q2752 :: .ref q2753 :: .int 0 :: .int 0 :: .ref q2754 :: .ref q2755 :: .ref q2756 :: .int 0 :: [])))] H) (hD : va_D A [(x0, .inr (11, [.ref q1111, .ref q1112, .int 0, .int (-1), .ref q1113, .ref q1114, .ref q1115, .ref q1116, .ref q1117, .ref q1118, .ref q1119, .int 0, .ref q1120, .int 0, .ref q1121, .ref q1122, .ref q1123])), (q1111, .inr (7, [.ref q1124, .int 0])), (m0, .inr (12, (.ref q2712 :: .int 0 :: .int 0 :: .int 0 :: .int 0 :: .int 0 :: .int 0 :: .int 0 :: .int (-1) :: .int 0 :: .ref q2713 :: .ref q2714 :: .ref q2715 :: .ref q2716 :: .ref q2717 :: .ref q2718 :: .ref q2719 :: .ref q2720 :: .ref q2721 :: .ref q2722 :: .ref q2723 :: .ref q2724 :: .ref q2725 :: .int 0 :: .ref q2726 :: .ref q2727 :: .ref q2728 :: .int 0 :: .ref q2729 :: .ref q2730 :: .int 0 :: .ref q2731 :: .ref q2732 :: .ref q2733 :: .int 0 :: .int 0 :: .int 0 :: .ref q2734 :: .ref q2735 :: .int 0 :: .ref q2736 :: .ref q2737 :: .ref q2738 :: .ref q2739 :: .int 0 :: .ref q2740 :: .ref q2741 :: .int 0 :: .int 0 :: .ref q2742 :: .ref q2743 :: .int 0 :: .ref q2744 :: .ref q2745 :: .ref q2746 :: .ref q2747 :: .int 0 :: .ref q2748 :: .ref q2749 :: .int 0 :: .ref q2750 :: .ref q2751 :: .int 0 :: .ref q2752 :: .ref q2753 :: .int 0 :: .int 0 :: .ref q2754 :: .ref q2755 :: .ref q2756 :: .int 0 :: [])))]) (hS : va_S A s.heap H locs) (hl : lv_has ls 4 [(3, .int 0), (2, .ref m0), (1, .ref x0), (0, .ref b)]) : W p l e room_1 s m #[Value.ref b] below meth c H locs 126 277922 (lw_Z below #[Value.ref b] s) (F0 m 211 ls []) := by
  obtain ⟨hx, hb, hr, hml, hown, hts, hX, hbl, hlocks, hgv⟩ := C0
  have hts := fun w h => hts w (wmL_law_in w h)
  have hS : va_S A s.heap H locs := hS
  refine lv_aload_n hx hb dL_law_211 rfl (lv_at hl 2 rfl) ?_
  refine lv_aload_n hx hb dL_law_212 rfl (lv_at hl 3 rfl) ?_
  refine lv_iload_n hx hb dL_law_213 rfl (lv_at hl 0 rfl) ?_
  refine lv_iconst (v := 1) hx hb dL_law_214 (by decide +kernel) ?_
  refine lv_iadd hx hb dL_law_215 ?_
  refine lv_topi (fun x3821 ex3821 => ?_)
  obtain rfl : x3821 = 1 := ex3821.trans (by decide +kernel)
  refine va_sld hx hb hX hbl hbA hS (by unfold vp_in; decide) dL_law_216 ?_
  refine lv_topi (fun x3822 ex3822 => ?_)
  obtain rfl : y1 = x3822 := (ex3822.trans ey1).symm
  have hPc := hP.sub (ws' := [(x0, .inr (11, [.ref q1111, .ref q1112, .int 0, .int (-1), .ref q1113, .ref q1114, .ref q1115, .ref q1116, .ref q1117, .ref q1118, .ref q1119, .int 0, .ref q1120, .int 0, .ref q1121, .ref q1122, .ref q1123])), (q1111, .inr (7, [.ref q1124, .int 0]))]) [0, 1] rfl
  have hDc := hD.sub (ws' := [(x0, .inr (11, [.ref q1111, .ref q1112, .int 0, .int (-1), .ref q1113, .ref q1114, .ref q1115, .ref q1116, .ref q1117, .ref q1118, .ref q1119, .int 0, .ref q1120, .int 0, .ref q1121, .ref q1122, .ref q1123])), (q1111, .inr (7, [.ref q1124, .int 0]))]) [0, 1] (by decide +kernel) rfl
  have hKc := hK.sub (tys' := []) [] rfl
  have hFc := va_free (wc := [(x0, .inr (11, [.ref q1111, .ref q1112, .int 0, .int (-1), .ref q1113, .ref q1114, .ref q1115, .ref q1116, .ref q1117, .ref q1118, .ref q1119, .int 0, .ref q1120, .int 0, .ref q1121, .ref q1122, .ref q1123])), (q1111, .inr (7, [.ref q1124, .int 0]))]) hD hS hA [0, 1] rfl
  refine va_calli (va_runV (As := [.int y1]) (rest := []) ⟨hx, hb, hml, hown, hts⟩ (c_X11_end_0 l dC dI H.size x0 q1111 q1112 q1113 q1114 q1115 q1116 q1117 q1118 q1119 q1120 q1121 q1122 q1123 q1124 y1) (cwV 1 hts gv_L_law_X11_end_18 rfl rfl rfl (by decide +kernel) ⟨Nat.le_of_ble_eq_true rfl, Nat.le_of_ble_eq_true rfl⟩) ⟨fun a U g mk q => by obtain ⟨q0, q1, qP, qK, qD⟩ := q; exact ⟨q0, q1, qP, va_K.moved (u := U) (U := U.calling g mk a) (Vm.Alike.refl U.vm) qK, qD⟩, va_recv hKc hPc (ci := 11) (q0 := 0) rfl rfl, fun U hU hW => ⟨rfl, by rw [hU], by rw [hU]; exact hPc, va_K.moved hW.alike hKc, hDc.weaken (fun _ _ _ _ => trivial)⟩⟩ rfl rfl hl.1 rfl (lv_room (Nat.le_of_ble_eq_true rfl)) dL_law_217 ⟨Nat.le_of_ble_eq_true rfl, Nat.le_of_ble_eq_true rfl⟩) hS (fun q _ h => hFc q h) hFc (fun r3825 u t H1 locs ht hvm hw hB hz1 hk1 hS => ?_)
  obtain ⟨hP1, hK1, hD1⟩ := hB
  rw [ht] at hP1
  have hK1 := va_K.moved hvm.symm hK1
  obtain ⟨hP, hD⟩ := va_join (wr := [(m0, .inr (12, (.ref q2712 :: .int 0 :: .int 0 :: .int 0 :: .int 0 :: .int 0 :: .int 0 :: .int 0 :: .int (-1) :: .int 0 :: .ref q2713 :: .ref q2714 :: .ref q2715 :: .ref q2716 :: .ref q2717 :: .ref q2718 :: .ref q2719 :: .ref q2720 :: .ref q2721 :: .ref q2722 :: .ref q2723 :: .ref q2724 :: .ref q2725 :: .int 0 :: .ref q2726 :: .ref q2727 :: .ref q2728 :: .int 0 :: .ref q2729 :: .ref q2730 :: .int 0 :: .ref q2731 :: .ref q2732 :: .ref q2733 :: .int 0 :: .int 0 :: .int 0 :: .ref q2734 :: .ref q2735 :: .int 0 :: .ref q2736 :: .ref q2737 :: .ref q2738 :: .ref q2739 :: .int 0 :: .ref q2740 :: .ref q2741 :: .int 0 :: .int 0 :: .ref q2742 :: .ref q2743 :: .int 0 :: .ref q2744 :: .ref q2745 :: .ref q2746 :: .ref q2747 :: .int 0 :: .ref q2748 :: .ref q2749 :: .int 0 :: .ref q2750 :: .ref q2751 :: .int 0 :: .ref q2752 :: .ref q2753 :: .int 0 :: .int 0 :: .ref q2754 :: .ref q2755 :: .ref q2756 :: .int 0 :: [])))]) (w1 := []) hP hD [0, 1] [2] rfl rfl (by decide +kernel) (by decide +kernel) hk1 hFc hP1 hD1
  have hK := (hK.sub (tys' := []) [] rfl).app hK1
  generalize H1 = H at hP hS ⊢
  have hK : va_K (dC, dI) vwCl [] s := hK
  have hP : va_P (dC, dI) vwCl [(m0, .inr (12, (.ref q2712 :: .int 0 :: .int 0 :: .int 0 :: .int 0 :: .int 0 :: .int 0 :: .int 0 :: .int (-1) :: .int 0 :: .ref q2713 :: .ref q2714 :: .ref q2715 :: .ref q2716 :: .ref q2717 :: .ref q2718 :: .ref q2719 :: .ref q2720 :: .ref q2721 :: .ref q2722 :: .ref q2723 :: .ref q2724 :: .ref q2725 :: .int 0 :: .ref q2726 :: .ref q2727 :: .ref q2728 :: .int 0 :: .ref q2729 :: .ref q2730 :: .int 0 :: .ref q2731 :: .ref q2732 :: .ref q2733 :: .int 0 :: .int 0 :: .int 0 :: .ref q2734 :: .ref q2735 :: .int 0 :: .ref q2736 :: .ref q2737 :: .ref q2738 :: .ref q2739 :: .int 0 :: .ref q2740 :: .ref q2741 :: .int 0 :: .int 0 :: .ref q2742 :: .ref q2743 :: .int 0 :: .ref q2744 :: .ref q2745 :: .ref q2746 :: .ref q2747 :: .int 0 :: .ref q2748 :: .ref q2749 :: .int 0 :: .ref q2750 :: .ref q2751 :: .int 0 :: .ref q2752 :: .ref q2753 :: .int 0 :: .int 0 :: .ref q2754 :: .ref q2755 :: .ref q2756 :: .int 0 :: [])))] H := hP
  have hD : va_D A [(m0, .inr (12, (.ref q2712 :: .int 0 :: .int 0 :: .int 0 :: .int 0 :: .int 0 :: .int 0 :: .int 0 :: .int (-1) :: .int 0 :: .ref q2713 :: .ref q2714 :: .ref q2715 :: .ref q2716 :: .ref q2717 :: .ref q2718 :: .ref q2719 :: .ref q2720 :: .ref q2721 :: .ref q2722 :: .ref q2723 :: .ref q2724 :: .ref q2725 :: .int 0 :: .ref q2726 :: .ref q2727 :: .ref q2728 :: .int 0 :: .ref q2729 :: .ref q2730 :: .int 0 :: .ref q2731 :: .ref q2732 :: .ref q2733 :: .int 0 :: .int 0 :: .int 0 :: .ref q2734 :: .ref q2735 :: .int 0 :: .ref q2736 :: .ref q2737 :: .ref q2738 :: .ref q2739 :: .int 0 :: .ref q2740 :: .ref q2741 :: .int 0 :: .int 0 :: .ref q2742 :: .ref q2743 :: .int 0 :: .ref q2744 :: .ref q2745 :: .ref q2746 :: .ref q2747 :: .int 0 :: .ref q2748 :: .ref q2749 :: .int 0 :: .ref q2750 :: .ref q2751 :: .int 0 :: .ref q2752 :: .ref q2753 :: .int 0 :: .int 0 :: .ref q2754 :: .ref q2755 :: .ref q2756 :: .int 0 :: [])))] := hD
  rcases hw with ⟨c3826, hw⟩ | ⟨c3827, c3828, hw⟩ | ⟨c3829, c3830, hw⟩
  · skip
    obtain rfl : r3825 = (-1) := hw
    refine lv_aload_n hx hb dL_law_220 rfl (lv_at hl 1 rfl) ?_
    refine lv_aload_n hx hb dL_law_221 rfl (lv_at hl 3 rfl) ?_
    refine lv_iload_n hx hb dL_law_222 rfl (lv_at hl 0 rfl) ?_
    refine lv_iconst (v := 1) hx hb dL_law_223 (by decide +kernel) ?_
    refine lv_iadd hx hb dL_law_224 ?_
    refine lv_topi (fun x3831 ex3831 => ?_)
    obtain rfl : x3831 = 1 := ex3831.trans (by decide +kernel)
    refine va_sld hx hb hX hbl hbA hS (by unfold vp_in; decide) dL_law_225 ?_
    refine lv_topi (fun x3832 ex3832 => ?_)
    obtain rfl : y1 = x3832 := (ex3832.trans ey1).symm
    have hPc := hP.sub (ws' := [(m0, .inr (12, (.ref q2712 :: .int 0 :: .int 0 :: .int 0 :: .int 0 :: .int 0 :: .int 0 :: .int 0 :: .int (-1) :: .int 0 :: .ref q2713 :: .ref q2714 :: .ref q2715 :: .ref q2716 :: .ref q2717 :: .ref q2718 :: .ref q2719 :: .ref q2720 :: .ref q2721 :: .ref q2722 :: .ref q2723 :: .ref q2724 :: .ref q2725 :: .int 0 :: .ref q2726 :: .ref q2727 :: .ref q2728 :: .int 0 :: .ref q2729 :: .ref q2730 :: .int 0 :: .ref q2731 :: .ref q2732 :: .ref q2733 :: .int 0 :: .int 0 :: .int 0 :: .ref q2734 :: .ref q2735 :: .int 0 :: .ref q2736 :: .ref q2737 :: .ref q2738 :: .ref q2739 :: .int 0 :: .ref q2740 :: .ref q2741 :: .int 0 :: .int 0 :: .ref q2742 :: .ref q2743 :: .int 0 :: .ref q2744 :: .ref q2745 :: .ref q2746 :: .ref q2747 :: .int 0 :: .ref q2748 :: .ref q2749 :: .int 0 :: .ref q2750 :: .ref q2751 :: .int 0 :: .ref q2752 :: .ref q2753 :: .int 0 :: .int 0 :: .ref q2754 :: .ref q2755 :: .ref q2756 :: .int 0 :: [])))]) [0] rfl
    have hDc := hD.sub (ws' := [(m0, .inr (12, (.ref q2712 :: .int 0 :: .int 0 :: .int 0 :: .int 0 :: .int 0 :: .int 0 :: .int 0 :: .int (-1) :: .int 0 :: .ref q2713 :: .ref q2714 :: .ref q2715 :: .ref q2716 :: .ref q2717 :: .ref q2718 :: .ref q2719 :: .ref q2720 :: .ref q2721 :: .ref q2722 :: .ref q2723 :: .ref q2724 :: .ref q2725 :: .int 0 :: .ref q2726 :: .ref q2727 :: .ref q2728 :: .int 0 :: .ref q2729 :: .ref q2730 :: .int 0 :: .ref q2731 :: .ref q2732 :: .ref q2733 :: .int 0 :: .int 0 :: .int 0 :: .ref q2734 :: .ref q2735 :: .int 0 :: .ref q2736 :: .ref q2737 :: .ref q2738 :: .ref q2739 :: .int 0 :: .ref q2740 :: .ref q2741 :: .int 0 :: .int 0 :: .ref q2742 :: .ref q2743 :: .int 0 :: .ref q2744 :: .ref q2745 :: .ref q2746 :: .ref q2747 :: .int 0 :: .ref q2748 :: .ref q2749 :: .int 0 :: .ref q2750 :: .ref q2751 :: .int 0 :: .ref q2752 :: .ref q2753 :: .int 0 :: .int 0 :: .ref q2754 :: .ref q2755 :: .ref q2756 :: .int 0 :: [])))]) [0] (by decide +kernel) rfl
    have hKc := hK.sub (tys' := []) [] rfl
    have hFc := va_free (wc := [(m0, .inr (12, (.ref q2712 :: .int 0 :: .int 0 :: .int 0 :: .int 0 :: .int 0 :: .int 0 :: .int 0 :: .int (-1) :: .int 0 :: .ref q2713 :: .ref q2714 :: .ref q2715 :: .ref q2716 :: .ref q2717 :: .ref q2718 :: .ref q2719 :: .ref q2720 :: .ref q2721 :: .ref q2722 :: .ref q2723 :: .ref q2724 :: .ref q2725 :: .int 0 :: .ref q2726 :: .ref q2727 :: .ref q2728 :: .int 0 :: .ref q2729 :: .ref q2730 :: .int 0 :: .ref q2731 :: .ref q2732 :: .ref q2733 :: .int 0 :: .int 0 :: .int 0 :: .ref q2734 :: .ref q2735 :: .int 0 :: .ref q2736 :: .ref q2737 :: .ref q2738 :: .ref q2739 :: .int 0 :: .ref q2740 :: .ref q2741 :: .int 0 :: .int 0 :: .ref q2742 :: .ref q2743 :: .int 0 :: .ref q2744 :: .ref q2745 :: .ref q2746 :: .ref q2747 :: .int 0 :: .ref q2748 :: .ref q2749 :: .int 0 :: .ref q2750 :: .ref q2751 :: .int 0 :: .ref q2752 :: .ref q2753 :: .int 0 :: .int 0 :: .ref q2754 :: .ref q2755 :: .ref q2756 :: .int 0 :: [])))]) hD hS hA [0] rfl
    refine va_calli (va_runV (As := [.int y1]) (rest := [.int (-1)]) ⟨hx, hb, hml, hown, hts⟩ (c_X12_end_0 l dC dI H.size m0 q2712 q2713 q2714 q2715 q2716 q2717 q2718 q2719 q2720 q2721 q2722 q2723 q2724 q2725 q2726 q2727 q2728 q2729 q2730 q2731 q2732 q2733 q2734 q2735 q2736 q2737 q2738 q2739 q2740 q2741 q2742 q2743 q2744 q2745 q2746 q2747 q2748 q2749 q2750 q2751 q2752 q2753 q2754 q2755 q2756 y1) (cwV 1 hts gv_L_law_X12_end_22 rfl rfl rfl (by decide +kernel) ⟨Nat.le_of_ble_eq_true rfl, Nat.le_of_ble_eq_true rfl⟩) ⟨fun a U g mk q => by obtain ⟨q0, q1, qP, qK, qD⟩ := q; exact ⟨q0, q1, qP, va_K.moved (u := U) (U := U.calling g mk a) (Vm.Alike.refl U.vm) qK, qD⟩, va_recv hKc hPc (ci := 12) (q0 := 0) rfl rfl, fun U hU hW => ⟨rfl, by rw [hU], by rw [hU]; exact hPc, va_K.moved hW.alike hKc, hDc.weaken (fun _ _ _ _ => trivial)⟩⟩ rfl rfl hl.1 rfl (lv_room (Nat.le_of_ble_eq_true rfl)) dL_law_226 ⟨Nat.le_of_ble_eq_true rfl, Nat.le_of_ble_eq_true rfl⟩) hS (fun q _ h => hFc q h) hFc (fun r3835 u t H1 locs ht hvm hw hB hz1 hk1 hS => ?_)
    obtain ⟨hP1, hK1, hD1⟩ := hB
    rw [ht] at hP1
    have hK1 := va_K.moved hvm.symm hK1
    obtain ⟨hP, hD⟩ := va_join (wr := []) (w1 := []) hP hD [0] [] rfl rfl (by decide +kernel) (by decide +kernel) hk1 hFc hP1 hD1
    have hK := (hK.sub (tys' := []) [] rfl).app hK1
    generalize H1 = H at hP hS ⊢
    have hK : va_K (dC, dI) vwCl [] s := hK
    have hP : va_P (dC, dI) vwCl [] H := hP
    have hD : va_D A [] := hD
    rcases hw with ⟨c3836, hw⟩ | ⟨c3837, c3838, hw⟩ | ⟨c3839, c3840, hw⟩
    · skip
      obtain rfl : r3835 = (-1) := hw
      refine lv_icmp_eq (tgt := 833) hx hb dL_law_229 (by decide +kernel) (fun _ => ?_) (fun h => absurd (by decide +kernel) h)
      refine lv_iinc (v := 6) (lv' := [(3, .int 6), (2, .ref m0), (1, .ref x0), (0, .ref b)]) hx hb dL_law_833 hl (k := 0) rfl (by decide +kernel) (by decide +kernel) rfl (fun ls hl => ?_)
      refine lv_goto (tgt := 18) hx hb dL_law_836 (by decide +kernel) ?_
      refine lv_iload_n hx hb dL_law_18 rfl (lv_at hl 0 rfl) ?_
      refine lv_aload_n hx hb dL_law_19 rfl (lv_at hl 3 rfl) ?_
      refine va_slen hx hb hX hbl hbA hS dL_law_20 ?_
      refine lv_topi (fun x3841 ex3841 => ?_)
      obtain rfl : x3841 = 6 := ex3841.trans (by decide +kernel)
      refine lv_bipush (v := 6) hx hb dL_law_21 (by decide +kernel) ?_
      refine lv_isub hx hb dL_law_23 ?_
      refine lv_topi (fun x3842 ex3842 => ?_)
      obtain rfl : x3842 = 0 := ex3842.trans (by decide +kernel)
      refine lv_icmp_gt (tgt := 839) hx hb dL_law_24 (by decide +kernel) (fun _ => ?_) (fun h => absurd (by decide +kernel) h)
      refine lv_iconst (v := 1) hx hb dL_law_839 (by decide +kernel) ?_
      refine va_forget (fun q hq => hAl _ (hS.2.2 q hq)) ?_
      refine W.widen (k := 600000) (n := 7302250) (by omega) (by omega) ?_
      exact lw_ret hx hb hr hlocks dL_law_840
    · skip
      obtain rfl : r3835 = 0 := hw
      exfalso
      simp only [z_lt, z_le, z_eqi, zl_m2, zl_m1, zl_0, zl_1, zl_2, zl_50, zl_100000] at c3826 c3837 c3838
      omega
    · skip
      obtain rfl : r3835 = (-1) := hw
      exfalso
      simp only [z_lt, z_le, z_eqi, zl_m2, zl_m1, zl_0, zl_1, zl_2, zl_50, zl_100000] at c3826 c3839 c3840
      omega
  · skip
    obtain rfl : r3825 = 0 := hw
    obtain rfl : y1 = 0 := z_e (by simp only [z_lt, z_le, z_eqi, zl_m2, zl_m1, zl_0, zl_1, zl_2, zl_50, zl_100000] at c3827 c3828 ⊢; omega)
    refine lv_aload_n hx hb dL_law_220 rfl (lv_at hl 1 rfl) ?_
    refine lv_aload_n hx hb dL_law_221 rfl (lv_at hl 3 rfl) ?_
    refine lv_iload_n hx hb dL_law_222 rfl (lv_at hl 0 rfl) ?_
    refine lv_iconst (v := 1) hx hb dL_law_223 (by decide +kernel) ?_
    refine lv_iadd hx hb dL_law_224 ?_
    refine lv_topi (fun x3843 ex3843 => ?_)
    obtain rfl : x3843 = 1 := ex3843.trans (by decide +kernel)
    refine va_sld hx hb hX hbl hbA hS (by unfold vp_in; decide) dL_law_225 ?_
    refine lv_topi (fun x3844 ex3844 => ?_)
    obtain rfl : 0 = x3844 := (ex3844.trans ey1).symm
    have hPc := hP.sub (ws' := [(m0, .inr (12, (.ref q2712 :: .int 0 :: .int 0 :: .int 0 :: .int 0 :: .int 0 :: .int 0 :: .int 0 :: .int (-1) :: .int 0 :: .ref q2713 :: .ref q2714 :: .ref q2715 :: .ref q2716 :: .ref q2717 :: .ref q2718 :: .ref q2719 :: .ref q2720 :: .ref q2721 :: .ref q2722 :: .ref q2723 :: .ref q2724 :: .ref q2725 :: .int 0 :: .ref q2726 :: .ref q2727 :: .ref q2728 :: .int 0 :: .ref q2729 :: .ref q2730 :: .int 0 :: .ref q2731 :: .ref q2732 :: .ref q2733 :: .int 0 :: .int 0 :: .int 0 :: .ref q2734 :: .ref q2735 :: .int 0 :: .ref q2736 :: .ref q2737 :: .ref q2738 :: .ref q2739 :: .int 0 :: .ref q2740 :: .ref q2741 :: .int 0 :: .int 0 :: .ref q2742 :: .ref q2743 :: .int 0 :: .ref q2744 :: .ref q2745 :: .ref q2746 :: .ref q2747 :: .int 0 :: .ref q2748 :: .ref q2749 :: .int 0 :: .ref q2750 :: .ref q2751 :: .int 0 :: .ref q2752 :: .ref q2753 :: .int 0 :: .int 0 :: .ref q2754 :: .ref q2755 :: .ref q2756 :: .int 0 :: [])))]) [0] rfl
    have hDc := hD.sub (ws' := [(m0, .inr (12, (.ref q2712 :: .int 0 :: .int 0 :: .int 0 :: .int 0 :: .int 0 :: .int 0 :: .int 0 :: .int (-1) :: .int 0 :: .ref q2713 :: .ref q2714 :: .ref q2715 :: .ref q2716 :: .ref q2717 :: .ref q2718 :: .ref q2719 :: .ref q2720 :: .ref q2721 :: .ref q2722 :: .ref q2723 :: .ref q2724 :: .ref q2725 :: .int 0 :: .ref q2726 :: .ref q2727 :: .ref q2728 :: .int 0 :: .ref q2729 :: .ref q2730 :: .int 0 :: .ref q2731 :: .ref q2732 :: .ref q2733 :: .int 0 :: .int 0 :: .int 0 :: .ref q2734 :: .ref q2735 :: .int 0 :: .ref q2736 :: .ref q2737 :: .ref q2738 :: .ref q2739 :: .int 0 :: .ref q2740 :: .ref q2741 :: .int 0 :: .int 0 :: .ref q2742 :: .ref q2743 :: .int 0 :: .ref q2744 :: .ref q2745 :: .ref q2746 :: .ref q2747 :: .int 0 :: .ref q2748 :: .ref q2749 :: .int 0 :: .ref q2750 :: .ref q2751 :: .int 0 :: .ref q2752 :: .ref q2753 :: .int 0 :: .int 0 :: .ref q2754 :: .ref q2755 :: .ref q2756 :: .int 0 :: [])))]) [0] (by decide +kernel) rfl
    have hKc := hK.sub (tys' := []) [] rfl
    have hFc := va_free (wc := [(m0, .inr (12, (.ref q2712 :: .int 0 :: .int 0 :: .int 0 :: .int 0 :: .int 0 :: .int 0 :: .int 0 :: .int (-1) :: .int 0 :: .ref q2713 :: .ref q2714 :: .ref q2715 :: .ref q2716 :: .ref q2717 :: .ref q2718 :: .ref q2719 :: .ref q2720 :: .ref q2721 :: .ref q2722 :: .ref q2723 :: .ref q2724 :: .ref q2725 :: .int 0 :: .ref q2726 :: .ref q2727 :: .ref q2728 :: .int 0 :: .ref q2729 :: .ref q2730 :: .int 0 :: .ref q2731 :: .ref q2732 :: .ref q2733 :: .int 0 :: .int 0 :: .int 0 :: .ref q2734 :: .ref q2735 :: .int 0 :: .ref q2736 :: .ref q2737 :: .ref q2738 :: .ref q2739 :: .int 0 :: .ref q2740 :: .ref q2741 :: .int 0 :: .int 0 :: .ref q2742 :: .ref q2743 :: .int 0 :: .ref q2744 :: .ref q2745 :: .ref q2746 :: .ref q2747 :: .int 0 :: .ref q2748 :: .ref q2749 :: .int 0 :: .ref q2750 :: .ref q2751 :: .int 0 :: .ref q2752 :: .ref q2753 :: .int 0 :: .int 0 :: .ref q2754 :: .ref q2755 :: .ref q2756 :: .int 0 :: [])))]) hD hS hA [0] rfl
    refine va_calli (va_runV (As := [.int 0]) (rest := [.int 0]) ⟨hx, hb, hml, hown, hts⟩ (c_X12_end_1 l dC dI H.size m0 q2712 q2713 q2714 q2715 q2716 q2717 q2718 q2719 q2720 q2721 q2722 q2723 q2724 q2725 q2726 q2727 q2728 q2729 q2730 q2731 q2732 q2733 q2734 q2735 q2736 q2737 q2738 q2739 q2740 q2741 q2742 q2743 q2744 q2745 q2746 q2747 q2748 q2749 q2750 q2751 q2752 q2753 q2754 q2755 q2756) (cwV 1 hts gv_L_law_X12_end_22 rfl rfl rfl (by decide +kernel) ⟨Nat.le_of_ble_eq_true rfl, Nat.le_of_ble_eq_true rfl⟩) ⟨fun a U g mk q => by obtain ⟨q0, q1, qP, qK, qD⟩ := q; exact ⟨q0, q1, qP, va_K.moved (u := U) (U := U.calling g mk a) (Vm.Alike.refl U.vm) qK, qD⟩, va_recv hKc hPc (ci := 12) (q0 := 0) rfl rfl, fun U hU hW => ⟨rfl, by rw [hU], by rw [hU]; exact hPc, va_K.moved hW.alike hKc, hDc.weaken (fun _ _ _ _ => trivial)⟩⟩ rfl rfl hl.1 rfl (lv_room (Nat.le_of_ble_eq_true rfl)) dL_law_226 ⟨Nat.le_of_ble_eq_true rfl, Nat.le_of_ble_eq_true rfl⟩) hS (fun q _ h => hFc q h) hFc (fun r3845 u t H1 locs ht hvm hw hB hz1 hk1 hS => ?_)
    obtain ⟨hP1, hK1, hD1⟩ := hB
    rw [ht] at hP1
    have hK1 := va_K.moved hvm.symm hK1
    obtain ⟨hP, hD⟩ := va_join (wr := []) (w1 := []) hP hD [0] [] rfl rfl (by decide +kernel) (by decide +kernel) hk1 hFc hP1 hD1
    have hK := (hK.sub (tys' := []) [] rfl).app hK1
    generalize H1 = H at hP hS ⊢
    have hK : va_K (dC, dI) vwCl [] s := hK
    have hP : va_P (dC, dI) vwCl [] H := hP
    have hD : va_D A [] := hD
    obtain rfl : r3845 = 0 := hw
    refine lv_icmp_eq (tgt := 833) hx hb dL_law_229 (by decide +kernel) (fun _ => ?_) (fun h => absurd (by decide +kernel) h)
    refine lv_iinc (v := 6) (lv' := [(3, .int 6), (2, .ref m0), (1, .ref x0), (0, .ref b)]) hx hb dL_law_833 hl (k := 0) rfl (by decide +kernel) (by decide +kernel) rfl (fun ls hl => ?_)
    refine lv_goto (tgt := 18) hx hb dL_law_836 (by decide +kernel) ?_
    refine lv_iload_n hx hb dL_law_18 rfl (lv_at hl 0 rfl) ?_
    refine lv_aload_n hx hb dL_law_19 rfl (lv_at hl 3 rfl) ?_
    refine va_slen hx hb hX hbl hbA hS dL_law_20 ?_
    refine lv_topi (fun x3846 ex3846 => ?_)
    obtain rfl : x3846 = 6 := ex3846.trans (by decide +kernel)
    refine lv_bipush (v := 6) hx hb dL_law_21 (by decide +kernel) ?_
    refine lv_isub hx hb dL_law_23 ?_
    refine lv_topi (fun x3847 ex3847 => ?_)
    obtain rfl : x3847 = 0 := ex3847.trans (by decide +kernel)
    refine lv_icmp_gt (tgt := 839) hx hb dL_law_24 (by decide +kernel) (fun _ => ?_) (fun h => absurd (by decide +kernel) h)
    refine lv_iconst (v := 1) hx hb dL_law_839 (by decide +kernel) ?_
    refine va_forget (fun q hq => hAl _ (hS.2.2 q hq)) ?_
    refine W.widen (k := 600000) (n := 7302250) (by omega) (by omega) ?_
    exact lw_ret hx hb hr hlocks dL_law_840
  · skip
    obtain rfl : r3825 = (-1) := hw
    refine lv_aload_n hx hb dL_law_220 rfl (lv_at hl 1 rfl) ?_
    refine lv_aload_n hx hb dL_law_221 rfl (lv_at hl 3 rfl) ?_
    refine lv_iload_n hx hb dL_law_222 rfl (lv_at hl 0 rfl) ?_
    refine lv_iconst (v := 1) hx hb dL_law_223 (by decide +kernel) ?_
    refine lv_iadd hx hb dL_law_224 ?_
    refine lv_topi (fun x3848 ex3848 => ?_)
    obtain rfl : x3848 = 1 := ex3848.trans (by decide +kernel)
    refine va_sld hx hb hX hbl hbA hS (by unfold vp_in; decide) dL_law_225 ?_
    refine lv_topi (fun x3849 ex3849 => ?_)
    obtain rfl : y1 = x3849 := (ex3849.trans ey1).symm
    have hPc := hP.sub (ws' := [(m0, .inr (12, (.ref q2712 :: .int 0 :: .int 0 :: .int 0 :: .int 0 :: .int 0 :: .int 0 :: .int 0 :: .int (-1) :: .int 0 :: .ref q2713 :: .ref q2714 :: .ref q2715 :: .ref q2716 :: .ref q2717 :: .ref q2718 :: .ref q2719 :: .ref q2720 :: .ref q2721 :: .ref q2722 :: .ref q2723 :: .ref q2724 :: .ref q2725 :: .int 0 :: .ref q2726 :: .ref q2727 :: .ref q2728 :: .int 0 :: .ref q2729 :: .ref q2730 :: .int 0 :: .ref q2731 :: .ref q2732 :: .ref q2733 :: .int 0 :: .int 0 :: .int 0 :: .ref q2734 :: .ref q2735 :: .int 0 :: .ref q2736 :: .ref q2737 :: .ref q2738 :: .ref q2739 :: .int 0 :: .ref q2740 :: .ref q2741 :: .int 0 :: .int 0 :: .ref q2742 :: .ref q2743 :: .int 0 :: .ref q2744 :: .ref q2745 :: .ref q2746 :: .ref q2747 :: .int 0 :: .ref q2748 :: .ref q2749 :: .int 0 :: .ref q2750 :: .ref q2751 :: .int 0 :: .ref q2752 :: .ref q2753 :: .int 0 :: .int 0 :: .ref q2754 :: .ref q2755 :: .ref q2756 :: .int 0 :: [])))]) [0] rfl
    have hDc := hD.sub (ws' := [(m0, .inr (12, (.ref q2712 :: .int 0 :: .int 0 :: .int 0 :: .int 0 :: .int 0 :: .int 0 :: .int 0 :: .int (-1) :: .int 0 :: .ref q2713 :: .ref q2714 :: .ref q2715 :: .ref q2716 :: .ref q2717 :: .ref q2718 :: .ref q2719 :: .ref q2720 :: .ref q2721 :: .ref q2722 :: .ref q2723 :: .ref q2724 :: .ref q2725 :: .int 0 :: .ref q2726 :: .ref q2727 :: .ref q2728 :: .int 0 :: .ref q2729 :: .ref q2730 :: .int 0 :: .ref q2731 :: .ref q2732 :: .ref q2733 :: .int 0 :: .int 0 :: .int 0 :: .ref q2734 :: .ref q2735 :: .int 0 :: .ref q2736 :: .ref q2737 :: .ref q2738 :: .ref q2739 :: .int 0 :: .ref q2740 :: .ref q2741 :: .int 0 :: .int 0 :: .ref q2742 :: .ref q2743 :: .int 0 :: .ref q2744 :: .ref q2745 :: .ref q2746 :: .ref q2747 :: .int 0 :: .ref q2748 :: .ref q2749 :: .int 0 :: .ref q2750 :: .ref q2751 :: .int 0 :: .ref q2752 :: .ref q2753 :: .int 0 :: .int 0 :: .ref q2754 :: .ref q2755 :: .ref q2756 :: .int 0 :: [])))]) [0] (by decide +kernel) rfl
    have hKc := hK.sub (tys' := []) [] rfl
    have hFc := va_free (wc := [(m0, .inr (12, (.ref q2712 :: .int 0 :: .int 0 :: .int 0 :: .int 0 :: .int 0 :: .int 0 :: .int 0 :: .int (-1) :: .int 0 :: .ref q2713 :: .ref q2714 :: .ref q2715 :: .ref q2716 :: .ref q2717 :: .ref q2718 :: .ref q2719 :: .ref q2720 :: .ref q2721 :: .ref q2722 :: .ref q2723 :: .ref q2724 :: .ref q2725 :: .int 0 :: .ref q2726 :: .ref q2727 :: .ref q2728 :: .int 0 :: .ref q2729 :: .ref q2730 :: .int 0 :: .ref q2731 :: .ref q2732 :: .ref q2733 :: .int 0 :: .int 0 :: .int 0 :: .ref q2734 :: .ref q2735 :: .int 0 :: .ref q2736 :: .ref q2737 :: .ref q2738 :: .ref q2739 :: .int 0 :: .ref q2740 :: .ref q2741 :: .int 0 :: .int 0 :: .ref q2742 :: .ref q2743 :: .int 0 :: .ref q2744 :: .ref q2745 :: .ref q2746 :: .ref q2747 :: .int 0 :: .ref q2748 :: .ref q2749 :: .int 0 :: .ref q2750 :: .ref q2751 :: .int 0 :: .ref q2752 :: .ref q2753 :: .int 0 :: .int 0 :: .ref q2754 :: .ref q2755 :: .ref q2756 :: .int 0 :: [])))]) hD hS hA [0] rfl
    refine va_calli (va_runV (As := [.int y1]) (rest := [.int (-1)]) ⟨hx, hb, hml, hown, hts⟩ (c_X12_end_0 l dC dI H.size m0 q2712 q2713 q2714 q2715 q2716 q2717 q2718 q2719 q2720 q2721 q2722 q2723 q2724 q2725 q2726 q2727 q2728 q2729 q2730 q2731 q2732 q2733 q2734 q2735 q2736 q2737 q2738 q2739 q2740 q2741 q2742 q2743 q2744 q2745 q2746 q2747 q2748 q2749 q2750 q2751 q2752 q2753 q2754 q2755 q2756 y1) (cwV 1 hts gv_L_law_X12_end_22 rfl rfl rfl (by decide +kernel) ⟨Nat.le_of_ble_eq_true rfl, Nat.le_of_ble_eq_true rfl⟩) ⟨fun a U g mk q => by obtain ⟨q0, q1, qP, qK, qD⟩ := q; exact ⟨q0, q1, qP, va_K.moved (u := U) (U := U.calling g mk a) (Vm.Alike.refl U.vm) qK, qD⟩, va_recv hKc hPc (ci := 12) (q0 := 0) rfl rfl, fun U hU hW => ⟨rfl, by rw [hU], by rw [hU]; exact hPc, va_K.moved hW.alike hKc, hDc.weaken (fun _ _ _ _ => trivial)⟩⟩ rfl rfl hl.1 rfl (lv_room (Nat.le_of_ble_eq_true rfl)) dL_law_226 ⟨Nat.le_of_ble_eq_true rfl, Nat.le_of_ble_eq_true rfl⟩) hS (fun q _ h => hFc q h) hFc (fun r3852 u t H1 locs ht hvm hw hB hz1 hk1 hS => ?_)
    obtain ⟨hP1, hK1, hD1⟩ := hB
    rw [ht] at hP1
    have hK1 := va_K.moved hvm.symm hK1
    obtain ⟨hP, hD⟩ := va_join (wr := []) (w1 := []) hP hD [0] [] rfl rfl (by decide +kernel) (by decide +kernel) hk1 hFc hP1 hD1
    have hK := (hK.sub (tys' := []) [] rfl).app hK1
    generalize H1 = H at hP hS ⊢
    have hK : va_K (dC, dI) vwCl [] s := hK
    have hP : va_P (dC, dI) vwCl [] H := hP
    have hD : va_D A [] := hD
    rcases hw with ⟨c3853, hw⟩ | ⟨c3854, c3855, hw⟩ | ⟨c3856, c3857, hw⟩
    · skip
      obtain rfl : r3852 = (-1) := hw
      exfalso
      simp only [z_lt, z_le, z_eqi, zl_m2, zl_m1, zl_0, zl_1, zl_2, zl_50, zl_100000] at c3829 c3830 c3853
      omega
    · skip
      obtain rfl : r3852 = 0 := hw
      exfalso
      simp only [z_lt, z_le, z_eqi, zl_m2, zl_m1, zl_0, zl_1, zl_2, zl_50, zl_100000] at c3829 c3830 c3854 c3855
      omega
    · skip
      obtain rfl : r3852 = (-1) := hw
      refine lv_icmp_eq (tgt := 833) hx hb dL_law_229 (by decide +kernel) (fun _ => ?_) (fun h => absurd (by decide +kernel) h)
      refine lv_iinc (v := 6) (lv' := [(3, .int 6), (2, .ref m0), (1, .ref x0), (0, .ref b)]) hx hb dL_law_833 hl (k := 0) rfl (by decide +kernel) (by decide +kernel) rfl (fun ls hl => ?_)
      refine lv_goto (tgt := 18) hx hb dL_law_836 (by decide +kernel) ?_
      refine lv_iload_n hx hb dL_law_18 rfl (lv_at hl 0 rfl) ?_
      refine lv_aload_n hx hb dL_law_19 rfl (lv_at hl 3 rfl) ?_
      refine va_slen hx hb hX hbl hbA hS dL_law_20 ?_
      refine lv_topi (fun x3858 ex3858 => ?_)
      obtain rfl : x3858 = 6 := ex3858.trans (by decide +kernel)
      refine lv_bipush (v := 6) hx hb dL_law_21 (by decide +kernel) ?_
      refine lv_isub hx hb dL_law_23 ?_
      refine lv_topi (fun x3859 ex3859 => ?_)
      obtain rfl : x3859 = 0 := ex3859.trans (by decide +kernel)
      refine lv_icmp_gt (tgt := 839) hx hb dL_law_24 (by decide +kernel) (fun _ => ?_) (fun h => absurd (by decide +kernel) h)
      refine lv_iconst (v := 1) hx hb dL_law_839 (by decide +kernel) ?_
      refine va_forget (fun q hq => hAl _ (hS.2.2 q hq)) ?_
      refine W.widen (k := 600000) (n := 7302250) (by omega) (by omega) ?_
      exact lw_ret hx hb hr hlocks dL_law_840
set_option maxHeartbeats 4000000 in
set_option maxRecDepth 100000 in
theorem law_2 {p : Program} {e : Env} {s : State} {m : MethodId} {below : List Frame} {meth : Method} {c : Code} (l : Launch) {b : Nat} {xs : Nat → Int32} {A : Nat → Prop} {dC : Nat → ClassId} {dI : Nat → Nat → Nat} (C0 : lw_At p s m meth c b 6 xs) (hA : ∀ q : Nat, s.heap.size ≤ q → A q) (hbA : ¬ A b) (hAl : ∀ q : Nat, A q → s.heap.size ≤ q) (hE : EnvOK s) {y1 : Int32} (ey1 : xs (Int32.toNatClampNeg 1) = y1) {k1125 : ClassId} {k1126 : ClassId} {k2758 : ClassId} {k2759 : ClassId} {k2760 : ClassId} {k2761 : ClassId} {x0 : Nat} {q1111 : Nat} {q1112 : Nat} {q1113 : Nat} {q1114 : Nat} {q1115 : Nat} {q1116 : Nat} {q1117 : Nat} {q1118 : Nat} {q1119 : Nat} {q1120 : Nat} {q1121 : Nat} {q1122 : Nat} {q1123 : Nat} {q1124 : Nat} {q1127 : Nat} {q1128 : Nat} {q1129 : Nat} {q1130 : Nat} {q1131 : Nat} {q1132 : Nat} {q1133 : Nat} {q1134 : Nat} {q1135 : Nat} {q1136 : Nat} {q1137 : Nat} {q1138 : Nat} {q1139 : Nat} {q1140 : Nat} {q1141 : Nat} {q1142 : Nat} {q1143 : Nat} {q1144 : Nat} {q1145 : Nat} {q1146 : Nat} {q1147 : Nat} {q1148 : Nat} {q1149 : Nat} {m0 : Nat} {q2712 : Nat} {q2713 : Nat} {q2714 : Nat} {q2715 : Nat} {q2716 : Nat} {q2717 : Nat} {q2718 : Nat} {q2719 : Nat} {q2720 : Nat} {q2721 : Nat} {q2722 : Nat} {q2723 : Nat} {q2724 : Nat} {q2725 : Nat} {q2726 : Nat} {q2727 : Nat} {q2728 : Nat} {q2729 : Nat} {q2730 : Nat} {q2731 : Nat} {q2732 : Nat} {q2733 : Nat} {q2734 : Nat} {q2735 : Nat} {q2736 : Nat} {q2737 : Nat} {q2738 : Nat} {q2739 : Nat} {q2740 : Nat} {q2741 : Nat} {q2742 : Nat} {q2743 : Nat} {q2744 : Nat} {q2745 : Nat} {q2746 : Nat} {q2747 : Nat} {q2748 : Nat} {q2749 : Nat} {q2750 : Nat} {q2751 : Nat} {q2752 : Nat} {q2753 : Nat} {q2754 : Nat} {q2755 : Nat} {q2756 : Nat} {H : Heap} {locs : List Loc} {ls : Array Slot} (hK : va_K (dC, dI) vwCl [(k1125, .byte), (k1126, .object RX5), (k2758, .int), (k2759, .int), (k2760, .int), (k2761, .int)] s) (hP : va_P (dC, dI) vwCl [(x0, .inr (11, [.ref q1111, .ref q1112, .int 0, .int (-1), .ref q1113, .ref q1114, .ref q1115, .ref q1116, .ref q1117, .ref q1118, .ref q1119, .int 0, .ref q1120, .int 0, .ref q1121, .ref q1122, .ref q1123])), (q1111, .inr (7, [.ref q1124, .int 0])), (q1113, .inr (5, [.int 0, .ref q1127, .int 0, .ref q1128, .ref q1129, .ref q1130, .ref q1131, .int 0, .ref q1132, .ref q1133, .ref q1134])), (q1128, .inr (10, [.int 16, .ref q1135, .ref q1136, .int 0])), (q1129, .inr (10, [.int 16, .ref q1137, .ref q1138, .int 0])), (q1130, .inr (10, [.int 16, .ref q1139, .ref q1140, .int 0])), (q1132, .inr (10, [.int 24, .ref q1141, .ref q1142, .int 0])), (q1114, .inr (4, [.int 0, .int (-1), .ref q1143, .int 0, .int 0, .int 0, .int 0, .int 0, .int 0])), (q1124, .inl (k1125, 2000, .inl (fun _ => 0))), (q1115, .inr (9, [.ref q1144, .ref q1145, .ref q1146, .int 0, .long 0, .ref q1147, .ref q1148, .ref q1149])), (q1112, .inl (k1126, 6, .inr (.inr (.inr (.inr (fun _ => none)))))), (m0, .inr (12, (.ref q2712 :: .int 0 :: .int 0 :: .int 0 :: .int 0 :: .int 0 :: .int 0 :: .int 0 :: .int (-1) :: .int 0 :: .ref q2713 :: .ref q2714 :: .ref q2715 :: .ref q2716 :: .ref q2717 :: .ref q2718 :: .ref q2719 :: .ref q2720 :: .ref q2721 :: .ref q2722 :: .ref q2723 :: .ref q2724 :: .ref q2725 :: .int 0 :: .ref q2726 :: .ref q2727 :: .ref q2728 :: .int 0 :: .ref q2729 :: .ref q2730 :: .int 0 :: .ref q2731 :: .ref q2732 :: .ref q2733 :: .int 0 :: .int 0 :: .int 0 :: .ref q2734 :: .ref q2735 :: .int 0 :: .ref q2736 :: .ref q2737 :: .ref q2738 :: .ref q2739 :: .int 0 :: .ref q2740 :: .ref q2741 :: .int 0 :: .int 0 :: .ref q2742 :: .ref q2743 :: .int 0 :: .ref q2744 :: .ref q2745 :: .ref q2746 :: .ref q2747 :: .int 0 :: .ref q2748 :: .ref q2749 :: .int 0 :: .ref q2750 :: .ref q2751 :: .int 0 :: .ref q2752 :: .ref q2753 :: .int 0 :: .int 0 :: .ref q2754 :: .ref q2755 :: .ref q2756 :: .int 0 :: []))), (q2714, .inl (k2759, 7, .inl (fun _ => 0))), (q2715, .inl (k2760, 7, .inl (fun _ => 0))), (q2716, .inl (k2761, 7, .inl (fun _ => 0))), (q2713, .inl (k2758, 7, .inl (fun _ => 0)))] H) (hD : va_D A [(x0, .inr (11, [.ref q1111, .ref q1112, .int 0, .int (-1), .ref q1113, .ref q1114, .ref q1115, .ref q1116, .ref q1117, .ref q1118, .ref q1119, .int 0, .ref q1120, .int 0, .ref q1121, .ref q1122, .ref q1123])), (q1111, .inr (7, [.ref q1124, .int 0])), (q1113, .inr (5, [.int 0, .ref q1127, .int 0, .ref q1128, .ref q1129, .ref q1130, .ref q1131, .int 0, .ref q1132, .ref q1133, .ref q1134])), (q1128, .inr (10, [.int 16, .ref q1135, .ref q1136, .int 0])), (q1129, .inr (10, [.int 16, .ref q1137, .ref q1138, .int 0])), (q1130, .inr (10, [.int 16, .ref q1139, .ref q1140, .int 0])), (q1132, .inr (10, [.int 24, .ref q1141, .ref q1142, .int 0])), (q1114, .inr (4, [.int 0, .int (-1), .ref q1143, .int 0, .int 0, .int 0, .int 0, .int 0, .int 0])), (q1124, .inl (k1125, 2000, .inl (fun _ => 0))), (q1115, .inr (9, [.ref q1144, .ref q1145, .ref q1146, .int 0, .long 0, .ref q1147, .ref q1148, .ref q1149])), (q1112, .inl (k1126, 6, .inr (.inr (.inr (.inr (fun _ => none)))))), (m0, .inr (12, (.ref q2712 :: .int 0 :: .int 0 :: .int 0 :: .int 0 :: .int 0 :: .int 0 :: .int 0 :: .int (-1) :: .int 0 :: .ref q2713 :: .ref q2714 :: .ref q2715 :: .ref q2716 :: .ref q2717 :: .ref q2718 :: .ref q2719 :: .ref q2720 :: .ref q2721 :: .ref q2722 :: .ref q2723 :: .ref q2724 :: .ref q2725 :: .int 0 :: .ref q2726 :: .ref q2727 :: .ref q2728 :: .int 0 :: .ref q2729 :: .ref q2730 :: .int 0 :: .ref q2731 :: .ref q2732 :: .ref q2733 :: .int 0 :: .int 0 :: .int 0 :: .ref q2734 :: .ref q2735 :: .int 0 :: .ref q2736 :: .ref q2737 :: .ref q2738 :: .ref q2739 :: .int 0 :: .ref q2740 :: .ref q2741 :: .int 0 :: .int 0 :: .ref q2742 :: .ref q2743 :: .int 0 :: .ref q2744 :: .ref q2745 :: .ref q2746 :: .ref q2747 :: .int 0 :: .ref q2748 :: .ref q2749 :: .int 0 :: .ref q2750 :: .ref q2751 :: .int 0 :: .ref q2752 :: .ref q2753 :: .int 0 :: .int 0 :: .ref q2754 :: .ref q2755 :: .ref q2756 :: .int 0 :: []))), (q2714, .inl (k2759, 7, .inl (fun _ => 0))), (q2715, .inl (k2760, 7, .inl (fun _ => 0))), (q2716, .inl (k2761, 7, .inl (fun _ => 0))), (q2713, .inl (k2758, 7, .inl (fun _ => 0)))]) (hS : va_S A s.heap H locs) (hl : lv_has ls 4 [(3, .int 0), (2, .ref m0), (1, .ref x0), (0, .ref b)]) : W p l e room_1 s m #[Value.ref b] below meth c H locs 126 277922 (lw_Z below #[Value.ref b] s) (F0 m 234 ls []) := by
  obtain ⟨hx, hb, hr, hml, hown, hts, hX, hbl, hlocks, hgv⟩ := C0
  have hts := fun w h => hts w (wmL_law_in w h)
  have hS : va_S A s.heap H locs := hS
  refine lv_aload_n hx hb dL_law_234 rfl (lv_at hl 2 rfl) ?_
  refine lv_aload_n hx hb dL_law_235 rfl (lv_at hl 3 rfl) ?_
  refine lv_iload_n hx hb dL_law_236 rfl (lv_at hl 0 rfl) ?_
  refine lv_iconst (v := 1) hx hb dL_law_237 (by decide +kernel) ?_
  refine lv_iadd hx hb dL_law_238 ?_
  refine lv_topi (fun x3860 ex3860 => ?_)
  obtain rfl : x3860 = 1 := ex3860.trans (by decide +kernel)
  refine va_sld hx hb hX hbl hbA hS (by unfold vp_in; decide) dL_law_239 ?_
  refine lv_topi (fun x3861 ex3861 => ?_)
  obtain rfl : y1 = x3861 := (ex3861.trans ey1).symm
  have hPc := hP.sub (ws' := [(x0, .inr (11, [.ref q1111, .ref q1112, .int 0, .int (-1), .ref q1113, .ref q1114, .ref q1115, .ref q1116, .ref q1117, .ref q1118, .ref q1119, .int 0, .ref q1120, .int 0, .ref q1121, .ref q1122, .ref q1123])), (q1111, .inr (7, [.ref q1124, .int 0])), (q1113, .inr (5, [.int 0, .ref q1127, .int 0, .ref q1128, .ref q1129, .ref q1130, .ref q1131, .int 0, .ref q1132, .ref q1133, .ref q1134])), (q1128, .inr (10, [.int 16, .ref q1135, .ref q1136, .int 0])), (q1129, .inr (10, [.int 16, .ref q1137, .ref q1138, .int 0])), (q1130, .inr (10, [.int 16, .ref q1139, .ref q1140, .int 0])), (q1132, .inr (10, [.int 24, .ref q1141, .ref q1142, .int 0])), (q1114, .inr (4, [.int 0, .int (-1), .ref q1143, .int 0, .int 0, .int 0, .int 0, .int 0, .int 0])), (q1124, .inl (k1125, 2000, .inl (fun _ => 0))), (q1115, .inr (9, [.ref q1144, .ref q1145, .ref q1146, .int 0, .long 0, .ref q1147, .ref q1148, .ref q1149])), (q1112, .inl (k1126, 6, .inr (.inr (.inr (.inr (fun _ => none))))))]) [0, 1, 2, 3, 4, 5, 6, 7, 8, 9, 10] rfl
  have hDc := hD.sub (ws' := [(x0, .inr (11, [.ref q1111, .ref q1112, .int 0, .int (-1), .ref q1113, .ref q1114, .ref q1115, .ref q1116, .ref q1117, .ref q1118, .ref q1119, .int 0, .ref q1120, .int 0, .ref q1121, .ref q1122, .ref q1123])), (q1111, .inr (7, [.ref q1124, .int 0])), (q1113, .inr (5, [.int 0, .ref q1127, .int 0, .ref q1128, .ref q1129, .ref q1130, .ref q1131, .int 0, .ref q1132, .ref q1133, .ref q1134])), (q1128, .inr (10, [.int 16, .ref q1135, .ref q1136, .int 0])), (q1129, .inr (10, [.int 16, .ref q1137, .ref q1138, .int 0])), (q1130, .inr (10, [.int 16, .ref q1139, .ref q1140, .int 0])), (q1132, .inr (10, [.int 24, .ref q1141, .ref q1142, .int 0])), (q1114, .inr (4, [.int 0, .int (-1), .ref q1143, .int 0, .int 0, .int 0, .int 0, .int 0, .int 0])), (q1124, .inl (k1125, 2000, .inl (fun _ => 0))), (q1115, .inr (9, [.ref q1144, .ref q1145, .ref q1146, .int 0, .long 0, .ref q1147, .ref q1148, .ref q1149])), (q1112, .inl (k1126, 6, .inr (.inr (.inr (.inr (fun _ => none))))))]) [0, 1, 2, 3, 4, 5, 6, 7, 8, 9, 10] (by decide +kernel) rfl
  have hKc := hK.sub (tys' := [(k1125, .byte), (k1126, .object RX5)]) [0, 1] rfl
  have hFc := va_free (wc := [(x0, .inr (11, [.ref q1111, .ref q1112, .int 0, .int (-1), .ref q1113, .ref q1114, .ref q1115, .ref q1116, .ref q1117, .ref q1118, .ref q1119, .int 0, .ref q1120, .int 0, .ref q1121, .ref q1122, .ref q1123])), (q1111, .inr (7, [.ref q1124, .int 0])), (q1113, .inr (5, [.int 0, .ref q1127, .int 0, .ref q1128, .ref q1129, .ref q1130, .ref q1131, .int 0, .ref q1132, .ref q1133, .ref q1134])), (q1128, .inr (10, [.int 16, .ref q1135, .ref q1136, .int 0])), (q1129, .inr (10, [.int 16, .ref q1137, .ref q1138, .int 0])), (q1130, .inr (10, [.int 16, .ref q1139, .ref q1140, .int 0])), (q1132, .inr (10, [.int 24, .ref q1141, .ref q1142, .int 0])), (q1114, .inr (4, [.int 0, .int (-1), .ref q1143, .int 0, .int 0, .int 0, .int 0, .int 0, .int 0])), (q1124, .inl (k1125, 2000, .inl (fun _ => 0))), (q1115, .inr (9, [.ref q1144, .ref q1145, .ref q1146, .int 0, .long 0, .ref q1147, .ref q1148, .ref q1149])), (q1112, .inl (k1126, 6, .inr (.inr (.inr (.inr (fun _ => none))))))]) hD hS hA [0, 1, 2, 3, 4, 5, 6, 7, 8, 9, 10] rfl
  refine va_calli (va_runV (As := [.int y1]) (rest := []) ⟨hx, hb, hml, hown, hts⟩ (c_X11_reform_0 l dC dI H.size x0 q1111 q1112 q1113 q1114 q1115 q1116 q1117 q1118 q1119 q1120 q1121 q1122 q1123 q1124 q1127 q1128 q1129 q1130 q1131 q1132 q1133 q1134 q1135 q1136 q1137 q1138 q1139 q1140 q1141 q1142 q1143 q1144 q1145 q1146 q1147 q1148 q1149 k1125 k1126 y1) (cwV 1 hts gv_L_law_X11_reform_23 rfl rfl rfl (by decide +kernel) ⟨Nat.le_of_ble_eq_true rfl, Nat.le_of_ble_eq_true rfl⟩) ⟨fun a U g mk q => by obtain ⟨q0, q1, qP, qK, qD, qE⟩ := q; exact ⟨q0, q1, qP, va_K.moved (u := U) (U := U.calling g mk a) (Vm.Alike.refl U.vm) qK, qD, en_call qE⟩, va_recv hKc hPc (ci := 11) (q0 := 0) rfl rfl, fun U hU hW => ⟨rfl, by rw [hU], by rw [hU]; exact hPc, va_K.moved hW.alike hKc, hDc.weaken (fun _ _ _ _ => trivial), en_warm hW hE⟩⟩ rfl rfl hl.1 rfl (lv_room (Nat.le_of_ble_eq_true rfl)) dL_law_240 ⟨Nat.le_of_ble_eq_true rfl, Nat.le_of_ble_eq_true rfl⟩) hS (fun q _ h => hFc q h) hFc (fun r3925 u t H1 locs ht hvm hw hB hz1 hk1 hS => ?_)
  obtain ⟨hP1, hK1, hD1⟩ := hB
  rw [ht] at hP1
  have hK1 := va_K.moved hvm.symm hK1
  obtain ⟨hP, hD⟩ := va_join (wr := [(m0, .inr (12, (.ref q2712 :: .int 0 :: .int 0 :: .int 0 :: .int 0 :: .int 0 :: .int 0 :: .int 0 :: .int (-1) :: .int 0 :: .ref q2713 :: .ref q2714 :: .ref q2715 :: .ref q2716 :: .ref q2717 :: .ref q2718 :: .ref q2719 :: .ref q2720 :: .ref q2721 :: .ref q2722 :: .ref q2723 :: .ref q2724 :: .ref q2725 :: .int 0 :: .ref q2726 :: .ref q2727 :: .ref q2728 :: .int 0 :: .ref q2729 :: .ref q2730 :: .int 0 :: .ref q2731 :: .ref q2732 :: .ref q2733 :: .int 0 :: .int 0 :: .int 0 :: .ref q2734 :: .ref q2735 :: .int 0 :: .ref q2736 :: .ref q2737 :: .ref q2738 :: .ref q2739 :: .int 0 :: .ref q2740 :: .ref q2741 :: .int 0 :: .int 0 :: .ref q2742 :: .ref q2743 :: .int 0 :: .ref q2744 :: .ref q2745 :: .ref q2746 :: .ref q2747 :: .int 0 :: .ref q2748 :: .ref q2749 :: .int 0 :: .ref q2750 :: .ref q2751 :: .int 0 :: .ref q2752 :: .ref q2753 :: .int 0 :: .int 0 :: .ref q2754 :: .ref q2755 :: .ref q2756 :: .int 0 :: []))), (q2714, .inl (k2759, 7, .inl (fun _ => 0))), (q2715, .inl (k2760, 7, .inl (fun _ => 0))), (q2716, .inl (k2761, 7, .inl (fun _ => 0))), (q2713, .inl (k2758, 7, .inl (fun _ => 0)))]) (w1 := []) hP hD [0, 1, 2, 3, 4, 5, 6, 7, 8, 9, 10] [11, 12, 13, 14, 15] rfl rfl (by decide +kernel) (by decide +kernel) hk1 hFc hP1 hD1
  have hK := (hK.sub (tys' := [(k1125, .byte), (k1126, .object RX5), (k2758, .int), (k2759, .int), (k2760, .int), (k2761, .int)]) [0, 1, 2, 3, 4, 5] rfl).app hK1
  generalize H1 = H at hP hS ⊢
  have hK : va_K (dC, dI) vwCl [(k1125, .byte), (k1126, .object RX5), (k2758, .int), (k2759, .int), (k2760, .int), (k2761, .int)] s := hK
  have hP : va_P (dC, dI) vwCl [(m0, .inr (12, (.ref q2712 :: .int 0 :: .int 0 :: .int 0 :: .int 0 :: .int 0 :: .int 0 :: .int 0 :: .int (-1) :: .int 0 :: .ref q2713 :: .ref q2714 :: .ref q2715 :: .ref q2716 :: .ref q2717 :: .ref q2718 :: .ref q2719 :: .ref q2720 :: .ref q2721 :: .ref q2722 :: .ref q2723 :: .ref q2724 :: .ref q2725 :: .int 0 :: .ref q2726 :: .ref q2727 :: .ref q2728 :: .int 0 :: .ref q2729 :: .ref q2730 :: .int 0 :: .ref q2731 :: .ref q2732 :: .ref q2733 :: .int 0 :: .int 0 :: .int 0 :: .ref q2734 :: .ref q2735 :: .int 0 :: .ref q2736 :: .ref q2737 :: .ref q2738 :: .ref q2739 :: .int 0 :: .ref q2740 :: .ref q2741 :: .int 0 :: .int 0 :: .ref q2742 :: .ref q2743 :: .int 0 :: .ref q2744 :: .ref q2745 :: .ref q2746 :: .ref q2747 :: .int 0 :: .ref q2748 :: .ref q2749 :: .int 0 :: .ref q2750 :: .ref q2751 :: .int 0 :: .ref q2752 :: .ref q2753 :: .int 0 :: .int 0 :: .ref q2754 :: .ref q2755 :: .ref q2756 :: .int 0 :: []))), (q2714, .inl (k2759, 7, .inl (fun _ => 0))), (q2715, .inl (k2760, 7, .inl (fun _ => 0))), (q2716, .inl (k2761, 7, .inl (fun _ => 0))), (q2713, .inl (k2758, 7, .inl (fun _ => 0)))] H := hP
  have hD : va_D A [(m0, .inr (12, (.ref q2712 :: .int 0 :: .int 0 :: .int 0 :: .int 0 :: .int 0 :: .int 0 :: .int 0 :: .int (-1) :: .int 0 :: .ref q2713 :: .ref q2714 :: .ref q2715 :: .ref q2716 :: .ref q2717 :: .ref q2718 :: .ref q2719 :: .ref q2720 :: .ref q2721 :: .ref q2722 :: .ref q2723 :: .ref q2724 :: .ref q2725 :: .int 0 :: .ref q2726 :: .ref q2727 :: .ref q2728 :: .int 0 :: .ref q2729 :: .ref q2730 :: .int 0 :: .ref q2731 :: .ref q2732 :: .ref q2733 :: .int 0 :: .int 0 :: .int 0 :: .ref q2734 :: .ref q2735 :: .int 0 :: .ref q2736 :: .ref q2737 :: .ref q2738 :: .ref q2739 :: .int 0 :: .ref q2740 :: .ref q2741 :: .int 0 :: .int 0 :: .ref q2742 :: .ref q2743 :: .int 0 :: .ref q2744 :: .ref q2745 :: .ref q2746 :: .ref q2747 :: .int 0 :: .ref q2748 :: .ref q2749 :: .int 0 :: .ref q2750 :: .ref q2751 :: .int 0 :: .ref q2752 :: .ref q2753 :: .int 0 :: .int 0 :: .ref q2754 :: .ref q2755 :: .ref q2756 :: .int 0 :: []))), (q2714, .inl (k2759, 7, .inl (fun _ => 0))), (q2715, .inl (k2760, 7, .inl (fun _ => 0))), (q2716, .inl (k2761, 7, .inl (fun _ => 0))), (q2713, .inl (k2758, 7, .inl (fun _ => 0)))] := hD
  rcases hw with ⟨c3926, hw⟩ | ⟨c3927, c3928, hw⟩ | ⟨c3929, c3930, hw⟩
  · skip
    obtain rfl : r3925 = (-2) := hw
    refine lv_aload_n hx hb dL_law_243 rfl (lv_at hl 1 rfl) ?_
    refine lv_aload_n hx hb dL_law_244 rfl (lv_at hl 3 rfl) ?_
    refine lv_iload_n hx hb dL_law_245 rfl (lv_at hl 0 rfl) ?_
    refine lv_iconst (v := 1) hx hb dL_law_246 (by decide +kernel) ?_
    refine lv_iadd hx hb dL_law_247 ?_
    refine lv_topi (fun x3931 ex3931 => ?_)
    obtain rfl : x3931 = 1 := ex3931.trans (by decide +kernel)
    refine va_sld hx hb hX hbl hbA hS (by unfold vp_in; decide) dL_law_248 ?_
    refine lv_topi (fun x3932 ex3932 => ?_)
    obtain rfl : y1 = x3932 := (ex3932.trans ey1).symm
    have hPc := hP.sub (ws' := [(m0, .inr (12, (.ref q2712 :: .int 0 :: .int 0 :: .int 0 :: .int 0 :: .int 0 :: .int 0 :: .int 0 :: .int (-1) :: .int 0 :: .ref q2713 :: .ref q2714 :: .ref q2715 :: .ref q2716 :: .ref q2717 :: .ref q2718 :: .ref q2719 :: .ref q2720 :: .ref q2721 :: .ref q2722 :: .ref q2723 :: .ref q2724 :: .ref q2725 :: .int 0 :: .ref q2726 :: .ref q2727 :: .ref q2728 :: .int 0 :: .ref q2729 :: .ref q2730 :: .int 0 :: .ref q2731 :: .ref q2732 :: .ref q2733 :: .int 0 :: .int 0 :: .int 0 :: .ref q2734 :: .ref q2735 :: .int 0 :: .ref q2736 :: .ref q2737 :: .ref q2738 :: .ref q2739 :: .int 0 :: .ref q2740 :: .ref q2741 :: .int 0 :: .int 0 :: .ref q2742 :: .ref q2743 :: .int 0 :: .ref q2744 :: .ref q2745 :: .ref q2746 :: .ref q2747 :: .int 0 :: .ref q2748 :: .ref q2749 :: .int 0 :: .ref q2750 :: .ref q2751 :: .int 0 :: .ref q2752 :: .ref q2753 :: .int 0 :: .int 0 :: .ref q2754 :: .ref q2755 :: .ref q2756 :: .int 0 :: []))), (q2714, .inl (k2759, 7, .inl (fun _ => 0))), (q2715, .inl (k2760, 7, .inl (fun _ => 0))), (q2716, .inl (k2761, 7, .inl (fun _ => 0))), (q2713, .inl (k2758, 7, .inl (fun _ => 0)))]) [0, 1, 2, 3, 4] rfl
    have hDc := hD.sub (ws' := [(m0, .inr (12, (.ref q2712 :: .int 0 :: .int 0 :: .int 0 :: .int 0 :: .int 0 :: .int 0 :: .int 0 :: .int (-1) :: .int 0 :: .ref q2713 :: .ref q2714 :: .ref q2715 :: .ref q2716 :: .ref q2717 :: .ref q2718 :: .ref q2719 :: .ref q2720 :: .ref q2721 :: .ref q2722 :: .ref q2723 :: .ref q2724 :: .ref q2725 :: .int 0 :: .ref q2726 :: .ref q2727 :: .ref q2728 :: .int 0 :: .ref q2729 :: .ref q2730 :: .int 0 :: .ref q2731 :: .ref q2732 :: .ref q2733 :: .int 0 :: .int 0 :: .int 0 :: .ref q2734 :: .ref q2735 :: .int 0 :: .ref q2736 :: .ref q2737 :: .ref q2738 :: .ref q2739 :: .int 0 :: .ref q2740 :: .ref q2741 :: .int 0 :: .int 0 :: .ref q2742 :: .ref q2743 :: .int 0 :: .ref q2744 :: .ref q2745 :: .ref q2746 :: .ref q2747 :: .int 0 :: .ref q2748 :: .ref q2749 :: .int 0 :: .ref q2750 :: .ref q2751 :: .int 0 :: .ref q2752 :: .ref q2753 :: .int 0 :: .int 0 :: .ref q2754 :: .ref q2755 :: .ref q2756 :: .int 0 :: []))), (q2714, .inl (k2759, 7, .inl (fun _ => 0))), (q2715, .inl (k2760, 7, .inl (fun _ => 0))), (q2716, .inl (k2761, 7, .inl (fun _ => 0))), (q2713, .inl (k2758, 7, .inl (fun _ => 0)))]) [0, 1, 2, 3, 4] (by decide +kernel) rfl
    have hKc := hK.sub (tys' := [(k2759, .int), (k2760, .int), (k2761, .int), (k2758, .int)]) [3, 4, 5, 2] rfl
    have hFc := va_free (wc := [(m0, .inr (12, (.ref q2712 :: .int 0 :: .int 0 :: .int 0 :: .int 0 :: .int 0 :: .int 0 :: .int 0 :: .int (-1) :: .int 0 :: .ref q2713 :: .ref q2714 :: .ref q2715 :: .ref q2716 :: .ref q2717 :: .ref q2718 :: .ref q2719 :: .ref q2720 :: .ref q2721 :: .ref q2722 :: .ref q2723 :: .ref q2724 :: .ref q2725 :: .int 0 :: .ref q2726 :: .ref q2727 :: .ref q2728 :: .int 0 :: .ref q2729 :: .ref q2730 :: .int 0 :: .ref q2731 :: .ref q2732 :: .ref q2733 :: .int 0 :: .int 0 :: .int 0 :: .ref q2734 :: .ref q2735 :: .int 0 :: .ref q2736 :: .ref q2737 :: .ref q2738 :: .ref q2739 :: .int 0 :: .ref q2740 :: .ref q2741 :: .int 0 :: .int 0 :: .ref q2742 :: .ref q2743 :: .int 0 :: .ref q2744 :: .ref q2745 :: .ref q2746 :: .ref q2747 :: .int 0 :: .ref q2748 :: .ref q2749 :: .int 0 :: .ref q2750 :: .ref q2751 :: .int 0 :: .ref q2752 :: .ref q2753 :: .int 0 :: .int 0 :: .ref q2754 :: .ref q2755 :: .ref q2756 :: .int 0 :: []))), (q2714, .inl (k2759, 7, .inl (fun _ => 0))), (q2715, .inl (k2760, 7, .inl (fun _ => 0))), (q2716, .inl (k2761, 7, .inl (fun _ => 0))), (q2713, .inl (k2758, 7, .inl (fun _ => 0)))]) hD hS hA [0, 1, 2, 3, 4] rfl
    refine va_calli (va_runV (As := [.int y1]) (rest := [.int (-2)]) ⟨hx, hb, hml, hown, hts⟩ (c_X12_reform_0 l dC dI H.size m0 q2712 q2713 q2714 q2715 q2716 q2717 q2718 q2719 q2720 q2721 q2722 q2723 q2724 q2725 q2726 q2727 q2728 q2729 q2730 q2731 q2732 q2733 q2734 q2735 q2736 q2737 q2738 q2739 q2740 q2741 q2742 q2743 q2744 q2745 q2746 q2747 q2748 q2749 q2750 q2751 q2752 q2753 q2754 q2755 q2756 k2759 k2760 k2761 k2758 y1) (cwV 1 hts gv_L_law_X12_reform_26 rfl rfl rfl (by decide +kernel) ⟨Nat.le_of_ble_eq_true rfl, Nat.le_of_ble_eq_true rfl⟩) ⟨fun a U g mk q => by obtain ⟨q0, q1, qP, qK, qD⟩ := q; exact ⟨q0, q1, qP, va_K.moved (u := U) (U := U.calling g mk a) (Vm.Alike.refl U.vm) qK, qD⟩, va_recv hKc hPc (ci := 12) (q0 := 0) rfl rfl, fun U hU hW => ⟨rfl, by rw [hU], by rw [hU]; exact hPc, va_K.moved hW.alike hKc, hDc.weaken (fun _ _ _ _ => trivial)⟩⟩ rfl rfl hl.1 rfl (lv_room (Nat.le_of_ble_eq_true rfl)) dL_law_249 ⟨Nat.le_of_ble_eq_true rfl, Nat.le_of_ble_eq_true rfl⟩) hS (fun q _ h => hFc q h) hFc (fun r3958 u t H1 locs ht hvm hw hB hz1 hk1 hS => ?_)
    obtain ⟨hP1, hK1, hD1⟩ := hB
    rw [ht] at hP1
    have hK1 := va_K.moved hvm.symm hK1
    obtain ⟨hP, hD⟩ := va_join (wr := []) (w1 := []) hP hD [0, 1, 2, 3, 4] [] rfl rfl (by decide +kernel) (by decide +kernel) hk1 hFc hP1 hD1
    have hK := (hK.sub (tys' := [(k1125, .byte), (k1126, .object RX5), (k2758, .int), (k2759, .int), (k2760, .int), (k2761, .int)]) [0, 1, 2, 3, 4, 5] rfl).app hK1
    generalize H1 = H at hP hS ⊢
    have hK : va_K (dC, dI) vwCl [(k1125, .byte), (k1126, .object RX5), (k2758, .int), (k2759, .int), (k2760, .int), (k2761, .int)] s := hK
    have hP : va_P (dC, dI) vwCl [] H := hP
    have hD : va_D A [] := hD
    rcases hw with ⟨c3959, hw⟩ | ⟨c3960, c3961, hw⟩ | ⟨c3962, c3963, hw⟩
    · skip
      obtain rfl : r3958 = (-2) := hw
      refine lv_icmp_eq (tgt := 833) hx hb dL_law_252 (by decide +kernel) (fun _ => ?_) (fun h => absurd (by decide +kernel) h)
      refine lv_iinc (v := 6) (lv' := [(3, .int 6), (2, .ref m0), (1, .ref x0), (0, .ref b)]) hx hb dL_law_833 hl (k := 0) rfl (by decide +kernel) (by decide +kernel) rfl (fun ls hl => ?_)
      refine lv_goto (tgt := 18) hx hb dL_law_836 (by decide +kernel) ?_
      refine lv_iload_n hx hb dL_law_18 rfl (lv_at hl 0 rfl) ?_
      refine lv_aload_n hx hb dL_law_19 rfl (lv_at hl 3 rfl) ?_
      refine va_slen hx hb hX hbl hbA hS dL_law_20 ?_
      refine lv_topi (fun x3964 ex3964 => ?_)
      obtain rfl : x3964 = 6 := ex3964.trans (by decide +kernel)
      refine lv_bipush (v := 6) hx hb dL_law_21 (by decide +kernel) ?_
      refine lv_isub hx hb dL_law_23 ?_
      refine lv_topi (fun x3965 ex3965 => ?_)
      obtain rfl : x3965 = 0 := ex3965.trans (by decide +kernel)
      refine lv_icmp_gt (tgt := 839) hx hb dL_law_24 (by decide +kernel) (fun _ => ?_) (fun h => absurd (by decide +kernel) h)
      refine lv_iconst (v := 1) hx hb dL_law_839 (by decide +kernel) ?_
      refine va_forget (fun q hq => hAl _ (hS.2.2 q hq)) ?_
      refine W.widen (k := 600000) (n := 7302250) (by omega) (by omega) ?_
      exact lw_ret hx hb hr hlocks dL_law_840
    · skip
      obtain rfl : r3958 = (-2) := hw
      exfalso
      simp only [z_lt, z_le, z_eqi, zl_m2, zl_m1, zl_0, zl_1, zl_2, zl_50, zl_100000] at c3926 c3960 c3961
      omega
    · skip
      obtain rfl : r3958 = 0 := hw
      exfalso
      simp only [z_lt, z_le, z_eqi, zl_m2, zl_m1, zl_0, zl_1, zl_2, zl_50, zl_100000] at c3926 c3962 c3963
      omega
  · skip
    obtain rfl : r3925 = 0 := hw
    refine lv_aload_n hx hb dL_law_243 rfl (lv_at hl 1 rfl) ?_
    refine lv_aload_n hx hb dL_law_244 rfl (lv_at hl 3 rfl) ?_
    refine lv_iload_n hx hb dL_law_245 rfl (lv_at hl 0 rfl) ?_
    refine lv_iconst (v := 1) hx hb dL_law_246 (by decide +kernel) ?_
    refine lv_iadd hx hb dL_law_247 ?_
    refine lv_topi (fun x3966 ex3966 => ?_)
    obtain rfl : x3966 = 1 := ex3966.trans (by decide +kernel)
    refine va_sld hx hb hX hbl hbA hS (by unfold vp_in; decide) dL_law_248 ?_
    refine lv_topi (fun x3967 ex3967 => ?_)
    obtain rfl : y1 = x3967 := (ex3967.trans ey1).symm
    have hPc := hP.sub (ws' := [(m0, .inr (12, (.ref q2712 :: .int 0 :: .int 0 :: .int 0 :: .int 0 :: .int 0 :: .int 0 :: .int 0 :: .int (-1) :: .int 0 :: .ref q2713 :: .ref q2714 :: .ref q2715 :: .ref q2716 :: .ref q2717 :: .ref q2718 :: .ref q2719 :: .ref q2720 :: .ref q2721 :: .ref q2722 :: .ref q2723 :: .ref q2724 :: .ref q2725 :: .int 0 :: .ref q2726 :: .ref q2727 :: .ref q2728 :: .int 0 :: .ref q2729 :: .ref q2730 :: .int 0 :: .ref q2731 :: .ref q2732 :: .ref q2733 :: .int 0 :: .int 0 :: .int 0 :: .ref q2734 :: .ref q2735 :: .int 0 :: .ref q2736 :: .ref q2737 :: .ref q2738 :: .ref q2739 :: .int 0 :: .ref q2740 :: .ref q2741 :: .int 0 :: .int 0 :: .ref q2742 :: .ref q2743 :: .int 0 :: .ref q2744 :: .ref q2745 :: .ref q2746 :: .ref q2747 :: .int 0 :: .ref q2748 :: .ref q2749 :: .int 0 :: .ref q2750 :: .ref q2751 :: .int 0 :: .ref q2752 :: .ref q2753 :: .int 0 :: .int 0 :: .ref q2754 :: .ref q2755 :: .ref q2756 :: .int 0 :: []))), (q2714, .inl (k2759, 7, .inl (fun _ => 0))), (q2715, .inl (k2760, 7, .inl (fun _ => 0))), (q2716, .inl (k2761, 7, .inl (fun _ => 0))), (q2713, .inl (k2758, 7, .inl (fun _ => 0)))]) [0, 1, 2, 3, 4] rfl
    have hDc := hD.sub (ws' := [(m0, .inr (12, (.ref q2712 :: .int 0 :: .int 0 :: .int 0 :: .int 0 :: .int 0 :: .int 0 :: .int 0 :: .int (-1) :: .int 0 :: .ref q2713 :: .ref q2714 :: .ref q2715 :: .ref q2716 :: .ref q2717 :: .ref q2718 :: .ref q2719 :: .ref q2720 :: .ref q2721 :: .ref q2722 :: .ref q2723 :: .ref q2724 :: .ref q2725 :: .int 0 :: .ref q2726 :: .ref q2727 :: .ref q2728 :: .int 0 :: .ref q2729 :: .ref q2730 :: .int 0 :: .ref q2731 :: .ref q2732 :: .ref q2733 :: .int 0 :: .int 0 :: .int 0 :: .ref q2734 :: .ref q2735 :: .int 0 :: .ref q2736 :: .ref q2737 :: .ref q2738 :: .ref q2739 :: .int 0 :: .ref q2740 :: .ref q2741 :: .int 0 :: .int 0 :: .ref q2742 :: .ref q2743 :: .int 0 :: .ref q2744 :: .ref q2745 :: .ref q2746 :: .ref q2747 :: .int 0 :: .ref q2748 :: .ref q2749 :: .int 0 :: .ref q2750 :: .ref q2751 :: .int 0 :: .ref q2752 :: .ref q2753 :: .int 0 :: .int 0 :: .ref q2754 :: .ref q2755 :: .ref q2756 :: .int 0 :: []))), (q2714, .inl (k2759, 7, .inl (fun _ => 0))), (q2715, .inl (k2760, 7, .inl (fun _ => 0))), (q2716, .inl (k2761, 7, .inl (fun _ => 0))), (q2713, .inl (k2758, 7, .inl (fun _ => 0)))]) [0, 1, 2, 3, 4] (by decide +kernel) rfl
    have hKc := hK.sub (tys' := [(k2759, .int), (k2760, .int), (k2761, .int), (k2758, .int)]) [3, 4, 5, 2] rfl
    have hFc := va_free (wc := [(m0, .inr (12, (.ref q2712 :: .int 0 :: .int 0 :: .int 0 :: .int 0 :: .int 0 :: .int 0 :: .int 0 :: .int (-1) :: .int 0 :: .ref q2713 :: .ref q2714 :: .ref q2715 :: .ref q2716 :: .ref q2717 :: .ref q2718 :: .ref q2719 :: .ref q2720 :: .ref q2721 :: .ref q2722 :: .ref q2723 :: .ref q2724 :: .ref q2725 :: .int 0 :: .ref q2726 :: .ref q2727 :: .ref q2728 :: .int 0 :: .ref q2729 :: .ref q2730 :: .int 0 :: .ref q2731 :: .ref q2732 :: .ref q2733 :: .int 0 :: .int 0 :: .int 0 :: .ref q2734 :: .ref q2735 :: .int 0 :: .ref q2736 :: .ref q2737 :: .ref q2738 :: .ref q2739 :: .int 0 :: .ref q2740 :: .ref q2741 :: .int 0 :: .int 0 :: .ref q2742 :: .ref q2743 :: .int 0 :: .ref q2744 :: .ref q2745 :: .ref q2746 :: .ref q2747 :: .int 0 :: .ref q2748 :: .ref q2749 :: .int 0 :: .ref q2750 :: .ref q2751 :: .int 0 :: .ref q2752 :: .ref q2753 :: .int 0 :: .int 0 :: .ref q2754 :: .ref q2755 :: .ref q2756 :: .int 0 :: []))), (q2714, .inl (k2759, 7, .inl (fun _ => 0))), (q2715, .inl (k2760, 7, .inl (fun _ => 0))), (q2716, .inl (k2761, 7, .inl (fun _ => 0))), (q2713, .inl (k2758, 7, .inl (fun _ => 0)))]) hD hS hA [0, 1, 2, 3, 4] rfl
    refine va_calli (va_runV (As := [.int y1]) (rest := [.int 0]) ⟨hx, hb, hml, hown, hts⟩ (c_X12_reform_0 l dC dI H.size m0 q2712 q2713 q2714 q2715 q2716 q2717 q2718 q2719 q2720 q2721 q2722 q2723 q2724 q2725 q2726 q2727 q2728 q2729 q2730 q2731 q2732 q2733 q2734 q2735 q2736 q2737 q2738 q2739 q2740 q2741 q2742 q2743 q2744 q2745 q2746 q2747 q2748 q2749 q2750 q2751 q2752 q2753 q2754 q2755 q2756 k2759 k2760 k2761 k2758 y1) (cwV 1 hts gv_L_law_X12_reform_26 rfl rfl rfl (by decide +kernel) ⟨Nat.le_of_ble_eq_true rfl, Nat.le_of_ble_eq_true rfl⟩) ⟨fun a U g mk q => by obtain ⟨q0, q1, qP, qK, qD⟩ := q; exact ⟨q0, q1, qP, va_K.moved (u := U) (U := U.calling g mk a) (Vm.Alike.refl U.vm) qK, qD⟩, va_recv hKc hPc (ci := 12) (q0 := 0) rfl rfl, fun U hU hW => ⟨rfl, by rw [hU], by rw [hU]; exact hPc, va_K.moved hW.alike hKc, hDc.weaken (fun _ _ _ _ => trivial)⟩⟩ rfl rfl hl.1 rfl (lv_room (Nat.le_of_ble_eq_true rfl)) dL_law_249 ⟨Nat.le_of_ble_eq_true rfl, Nat.le_of_ble_eq_true rfl⟩) hS (fun q _ h => hFc q h) hFc (fun r3993 u t H1 locs ht hvm hw hB hz1 hk1 hS => ?_)
    obtain ⟨hP1, hK1, hD1⟩ := hB
    rw [ht] at hP1
    have hK1 := va_K.moved hvm.symm hK1
    obtain ⟨hP, hD⟩ := va_join (wr := []) (w1 := []) hP hD [0, 1, 2, 3, 4] [] rfl rfl (by decide +kernel) (by decide +kernel) hk1 hFc hP1 hD1
    have hK := (hK.sub (tys' := [(k1125, .byte), (k1126, .object RX5), (k2758, .int), (k2759, .int), (k2760, .int), (k2761, .int)]) [0, 1, 2, 3, 4, 5] rfl).app hK1
    generalize H1 = H at hP hS ⊢
    have hK : va_K (dC, dI) vwCl [(k1125, .byte), (k1126, .object RX5), (k2758, .int), (k2759, .int), (k2760, .int), (k2761, .int)] s := hK
    have hP : va_P (dC, dI) vwCl [] H := hP
    have hD : va_D A [] := hD
    rcases hw with ⟨c3994, hw⟩ | ⟨c3995, c3996, hw⟩ | ⟨c3997, c3998, hw⟩
    · skip
      obtain rfl : r3993 = (-2) := hw
      exfalso
      simp only [z_lt, z_le, z_eqi, zl_m2, zl_m1, zl_0, zl_1, zl_2, zl_50, zl_100000] at c3927 c3928 c3994
      omega
    · skip
      obtain rfl : r3993 = (-2) := hw
      exfalso
      simp only [z_lt, z_le, z_eqi, zl_m2, zl_m1, zl_0, zl_1, zl_2, zl_50, zl_100000] at c3927 c3928 c3995 c3996
      omega
    · skip
      obtain rfl : r3993 = 0 := hw
      refine lv_icmp_eq (tgt := 833) hx hb dL_law_252 (by decide +kernel) (fun _ => ?_) (fun h => absurd (by decide +kernel) h)
      refine lv_iinc (v := 6) (lv' := [(3, .int 6), (2, .ref m0), (1, .ref x0), (0, .ref b)]) hx hb dL_law_833 hl (k := 0) rfl (by decide +kernel) (by decide +kernel) rfl (fun ls hl => ?_)
      refine lv_goto (tgt := 18) hx hb dL_law_836 (by decide +kernel) ?_
      refine lv_iload_n hx hb dL_law_18 rfl (lv_at hl 0 rfl) ?_
      refine lv_aload_n hx hb dL_law_19 rfl (lv_at hl 3 rfl) ?_
      refine va_slen hx hb hX hbl hbA hS dL_law_20 ?_
      refine lv_topi (fun x3999 ex3999 => ?_)
      obtain rfl : x3999 = 6 := ex3999.trans (by decide +kernel)
      refine lv_bipush (v := 6) hx hb dL_law_21 (by decide +kernel) ?_
      refine lv_isub hx hb dL_law_23 ?_
      refine lv_topi (fun x4000 ex4000 => ?_)
      obtain rfl : x4000 = 0 := ex4000.trans (by decide +kernel)
      refine lv_icmp_gt (tgt := 839) hx hb dL_law_24 (by decide +kernel) (fun _ => ?_) (fun h => absurd (by decide +kernel) h)
      refine lv_iconst (v := 1) hx hb dL_law_839 (by decide +kernel) ?_
      refine va_forget (fun q hq => hAl _ (hS.2.2 q hq)) ?_
      refine W.widen (k := 600000) (n := 7302250) (by omega) (by omega) ?_
      exact lw_ret hx hb hr hlocks dL_law_840
  · skip
    obtain rfl : r3925 = (-2) := hw
    refine lv_aload_n hx hb dL_law_243 rfl (lv_at hl 1 rfl) ?_
    refine lv_aload_n hx hb dL_law_244 rfl (lv_at hl 3 rfl) ?_
    refine lv_iload_n hx hb dL_law_245 rfl (lv_at hl 0 rfl) ?_
    refine lv_iconst (v := 1) hx hb dL_law_246 (by decide +kernel) ?_
    refine lv_iadd hx hb dL_law_247 ?_
    refine lv_topi (fun x4001 ex4001 => ?_)
    obtain rfl : x4001 = 1 := ex4001.trans (by decide +kernel)
    refine va_sld hx hb hX hbl hbA hS (by unfold vp_in; decide) dL_law_248 ?_
    refine lv_topi (fun x4002 ex4002 => ?_)
    obtain rfl : y1 = x4002 := (ex4002.trans ey1).symm
    have hPc := hP.sub (ws' := [(m0, .inr (12, (.ref q2712 :: .int 0 :: .int 0 :: .int 0 :: .int 0 :: .int 0 :: .int 0 :: .int 0 :: .int (-1) :: .int 0 :: .ref q2713 :: .ref q2714 :: .ref q2715 :: .ref q2716 :: .ref q2717 :: .ref q2718 :: .ref q2719 :: .ref q2720 :: .ref q2721 :: .ref q2722 :: .ref q2723 :: .ref q2724 :: .ref q2725 :: .int 0 :: .ref q2726 :: .ref q2727 :: .ref q2728 :: .int 0 :: .ref q2729 :: .ref q2730 :: .int 0 :: .ref q2731 :: .ref q2732 :: .ref q2733 :: .int 0 :: .int 0 :: .int 0 :: .ref q2734 :: .ref q2735 :: .int 0 :: .ref q2736 :: .ref q2737 :: .ref q2738 :: .ref q2739 :: .int 0 :: .ref q2740 :: .ref q2741 :: .int 0 :: .int 0 :: .ref q2742 :: .ref q2743 :: .int 0 :: .ref q2744 :: .ref q2745 :: .ref q2746 :: .ref q2747 :: .int 0 :: .ref q2748 :: .ref q2749 :: .int 0 :: .ref q2750 :: .ref q2751 :: .int 0 :: .ref q2752 :: .ref q2753 :: .int 0 :: .int 0 :: .ref q2754 :: .ref q2755 :: .ref q2756 :: .int 0 :: []))), (q2714, .inl (k2759, 7, .inl (fun _ => 0))), (q2715, .inl (k2760, 7, .inl (fun _ => 0))), (q2716, .inl (k2761, 7, .inl (fun _ => 0))), (q2713, .inl (k2758, 7, .inl (fun _ => 0)))]) [0, 1, 2, 3, 4] rfl
    have hDc := hD.sub (ws' := [(m0, .inr (12, (.ref q2712 :: .int 0 :: .int 0 :: .int 0 :: .int 0 :: .int 0 :: .int 0 :: .int 0 :: .int (-1) :: .int 0 :: .ref q2713 :: .ref q2714 :: .ref q2715 :: .ref q2716 :: .ref q2717 :: .ref q2718 :: .ref q2719 :: .ref q2720 :: .ref q2721 :: .ref q2722 :: .ref q2723 :: .ref q2724 :: .ref q2725 :: .int 0 :: .ref q2726 :: .ref q2727 :: .ref q2728 :: .int 0 :: .ref q2729 :: .ref q2730 :: .int 0 :: .ref q2731 :: .ref q2732 :: .ref q2733 :: .int 0 :: .int 0 :: .int 0 :: .ref q2734 :: .ref q2735 :: .int 0 :: .ref q2736 :: .ref q2737 :: .ref q2738 :: .ref q2739 :: .int 0 :: .ref q2740 :: .ref q2741 :: .int 0 :: .int 0 :: .ref q2742 :: .ref q2743 :: .int 0 :: .ref q2744 :: .ref q2745 :: .ref q2746 :: .ref q2747 :: .int 0 :: .ref q2748 :: .ref q2749 :: .int 0 :: .ref q2750 :: .ref q2751 :: .int 0 :: .ref q2752 :: .ref q2753 :: .int 0 :: .int 0 :: .ref q2754 :: .ref q2755 :: .ref q2756 :: .int 0 :: []))), (q2714, .inl (k2759, 7, .inl (fun _ => 0))), (q2715, .inl (k2760, 7, .inl (fun _ => 0))), (q2716, .inl (k2761, 7, .inl (fun _ => 0))), (q2713, .inl (k2758, 7, .inl (fun _ => 0)))]) [0, 1, 2, 3, 4] (by decide +kernel) rfl
    have hKc := hK.sub (tys' := [(k2759, .int), (k2760, .int), (k2761, .int), (k2758, .int)]) [3, 4, 5, 2] rfl
    have hFc := va_free (wc := [(m0, .inr (12, (.ref q2712 :: .int 0 :: .int 0 :: .int 0 :: .int 0 :: .int 0 :: .int 0 :: .int 0 :: .int (-1) :: .int 0 :: .ref q2713 :: .ref q2714 :: .ref q2715 :: .ref q2716 :: .ref q2717 :: .ref q2718 :: .ref q2719 :: .ref q2720 :: .ref q2721 :: .ref q2722 :: .ref q2723 :: .ref q2724 :: .ref q2725 :: .int 0 :: .ref q2726 :: .ref q2727 :: .ref q2728 :: .int 0 :: .ref q2729 :: .ref q2730 :: .int 0 :: .ref q2731 :: .ref q2732 :: .ref q2733 :: .int 0 :: .int 0 :: .int 0 :: .ref q2734 :: .ref q2735 :: .int 0 :: .ref q2736 :: .ref q2737 :: .ref q2738 :: .ref q2739 :: .int 0 :: .ref q2740 :: .ref q2741 :: .int 0 :: .int 0 :: .ref q2742 :: .ref q2743 :: .int 0 :: .ref q2744 :: .ref q2745 :: .ref q2746 :: .ref q2747 :: .int 0 :: .ref q2748 :: .ref q2749 :: .int 0 :: .ref q2750 :: .ref q2751 :: .int 0 :: .ref q2752 :: .ref q2753 :: .int 0 :: .int 0 :: .ref q2754 :: .ref q2755 :: .ref q2756 :: .int 0 :: []))), (q2714, .inl (k2759, 7, .inl (fun _ => 0))), (q2715, .inl (k2760, 7, .inl (fun _ => 0))), (q2716, .inl (k2761, 7, .inl (fun _ => 0))), (q2713, .inl (k2758, 7, .inl (fun _ => 0)))]) hD hS hA [0, 1, 2, 3, 4] rfl
    refine va_calli (va_runV (As := [.int y1]) (rest := [.int (-2)]) ⟨hx, hb, hml, hown, hts⟩ (c_X12_reform_0 l dC dI H.size m0 q2712 q2713 q2714 q2715 q2716 q2717 q2718 q2719 q2720 q2721 q2722 q2723 q2724 q2725 q2726 q2727 q2728 q2729 q2730 q2731 q2732 q2733 q2734 q2735 q2736 q2737 q2738 q2739 q2740 q2741 q2742 q2743 q2744 q2745 q2746 q2747 q2748 q2749 q2750 q2751 q2752 q2753 q2754 q2755 q2756 k2759 k2760 k2761 k2758 y1) (cwV 1 hts gv_L_law_X12_reform_26 rfl rfl rfl (by decide +kernel) ⟨Nat.le_of_ble_eq_true rfl, Nat.le_of_ble_eq_true rfl⟩) ⟨fun a U g mk q => by obtain ⟨q0, q1, qP, qK, qD⟩ := q; exact ⟨q0, q1, qP, va_K.moved (u := U) (U := U.calling g mk a) (Vm.Alike.refl U.vm) qK, qD⟩, va_recv hKc hPc (ci := 12) (q0 := 0) rfl rfl, fun U hU hW => ⟨rfl, by rw [hU], by rw [hU]; exact hPc, va_K.moved hW.alike hKc, hDc.weaken (fun _ _ _ _ => trivial)⟩⟩ rfl rfl hl.1 rfl (lv_room (Nat.le_of_ble_eq_true rfl)) dL_law_249 ⟨Nat.le_of_ble_eq_true rfl, Nat.le_of_ble_eq_true rfl⟩) hS (fun q _ h => hFc q h) hFc (fun r4028 u t H1 locs ht hvm hw hB hz1 hk1 hS => ?_)
    obtain ⟨hP1, hK1, hD1⟩ := hB
    rw [ht] at hP1
    have hK1 := va_K.moved hvm.symm hK1
    obtain ⟨hP, hD⟩ := va_join (wr := []) (w1 := []) hP hD [0, 1, 2, 3, 4] [] rfl rfl (by decide +kernel) (by decide +kernel) hk1 hFc hP1 hD1
    have hK := (hK.sub (tys' := [(k1125, .byte), (k1126, .object RX5), (k2758, .int), (k2759, .int), (k2760, .int), (k2761, .int)]) [0, 1, 2, 3, 4, 5] rfl).app hK1
    generalize H1 = H at hP hS ⊢
    have hK : va_K (dC, dI) vwCl [(k1125, .byte), (k1126, .object RX5), (k2758, .int), (k2759, .int), (k2760, .int), (k2761, .int)] s := hK
    have hP : va_P (dC, dI) vwCl [] H := hP
    have hD : va_D A [] := hD
    rcases hw with ⟨c4029, hw⟩ | ⟨c4030, c4031, hw⟩ | ⟨c4032, c4033, hw⟩
    · skip
      obtain rfl : r4028 = (-2) := hw
      exfalso
      simp only [z_lt, z_le, z_eqi, zl_m2, zl_m1, zl_0, zl_1, zl_2, zl_50, zl_100000] at c3929 c3930 c4029
      omega
    · skip
      obtain rfl : r4028 = (-2) := hw
      refine lv_icmp_eq (tgt := 833) hx hb dL_law_252 (by decide +kernel) (fun _ => ?_) (fun h => absurd (by decide +kernel) h)
      refine lv_iinc (v := 6) (lv' := [(3, .int 6), (2, .ref m0), (1, .ref x0), (0, .ref b)]) hx hb dL_law_833 hl (k := 0) rfl (by decide +kernel) (by decide +kernel) rfl (fun ls hl => ?_)
      refine lv_goto (tgt := 18) hx hb dL_law_836 (by decide +kernel) ?_
      refine lv_iload_n hx hb dL_law_18 rfl (lv_at hl 0 rfl) ?_
      refine lv_aload_n hx hb dL_law_19 rfl (lv_at hl 3 rfl) ?_
      refine va_slen hx hb hX hbl hbA hS dL_law_20 ?_
      refine lv_topi (fun x4034 ex4034 => ?_)
      obtain rfl : x4034 = 6 := ex4034.trans (by decide +kernel)
      refine lv_bipush (v := 6) hx hb dL_law_21 (by decide +kernel) ?_
      refine lv_isub hx hb dL_law_23 ?_
      refine lv_topi (fun x4035 ex4035 => ?_)
      obtain rfl : x4035 = 0 := ex4035.trans (by decide +kernel)
      refine lv_icmp_gt (tgt := 839) hx hb dL_law_24 (by decide +kernel) (fun _ => ?_) (fun h => absurd (by decide +kernel) h)
      refine lv_iconst (v := 1) hx hb dL_law_839 (by decide +kernel) ?_
      refine va_forget (fun q hq => hAl _ (hS.2.2 q hq)) ?_
      refine W.widen (k := 600000) (n := 7302250) (by omega) (by omega) ?_
      exact lw_ret hx hb hr hlocks dL_law_840
    · skip
      obtain rfl : r4028 = 0 := hw
      exfalso
      simp only [z_lt, z_le, z_eqi, zl_m2, zl_m1, zl_0, zl_1, zl_2, zl_50, zl_100000] at c3929 c3930 c4032 c4033
      omega
set_option maxHeartbeats 4000000 in
set_option maxRecDepth 100000 in
theorem law_3 {p : Program} {e : Env} {s : State} {m : MethodId} {below : List Frame} {meth : Method} {c : Code} (l : Launch) {b : Nat} {xs : Nat → Int32} {A : Nat → Prop} {dC : Nat → ClassId} {dI : Nat → Nat → Nat} (C0 : lw_At p s m meth c b 6 xs) (hA : ∀ q : Nat, s.heap.size ≤ q → A q) (hbA : ¬ A b) (hAl : ∀ q : Nat, A q → s.heap.size ≤ q) (hE : EnvOK s) {y1 : Int32} (ey1 : xs (Int32.toNatClampNeg 1) = y1) {x0 : Nat} {q1111 : Nat} {q1112 : Nat} {q1113 : Nat} {q1114 : Nat} {q1115 : Nat} {q1116 : Nat} {q1117 : Nat} {q1118 : Nat} {q1119 : Nat} {q1120 : Nat} {q1121 : Nat} {q1122 : Nat} {q1123 : Nat} {q1143 : Nat} {m0 : Nat} {q2712 : Nat} {q2713 : Nat} {q2714 : Nat} {q2715 : Nat} {q2716 : Nat} {q2717 : Nat} {q2718 : Nat} {q2719 : Nat} {q2720 : Nat} {q2721 : Nat} {q2722 : Nat} {q2723 : Nat} {q2724 : Nat} {q2725 : Nat} {q2726 : Nat} {q2727 : Nat} {q2728 : Nat} {q2729 : Nat} {q2730 : Nat} {q2731 : Nat} {q2732 : Nat} {q2733 : Nat} {q2734 : Nat} {q2735 : Nat} {q2736 : Nat} {q2737 : Nat} {q2738 : Nat} {q2739 : Nat} {q2740 : Nat} {q2741 : Nat} {q2742 : Nat} {q2743 : Nat} {q2744 : Nat} {q2745 : Nat} {q2746 : Nat} {q2747 : Nat} {q2748 : Nat} {q2749 : Nat} {q2750 : Nat} {q2751 : Nat} {q2752 : Nat} {q2753 : Nat} {q2754 : Nat} {q2755 : Nat} {q2756 : Nat} {H : Heap} {locs : List Loc} {ls : Array Slot} (hK : va_K (dC, dI) vwCl [] s) (hP : va_P (dC, dI) vwCl [(x0, .inr (11, [.ref q1111, .ref q1112, .int 0, .int (-1), .ref q1113, .ref q1114, .ref q1115, .ref q1116, .ref q1117, .ref q1118, .ref q1119, .int 0, .ref q1120, .int 0, .ref q1121, .ref q1122, .ref q1123])), (q1114, .inr (4, [.int 0, .int (-1), .ref q1143, .int 0, .int 0, .int 0, .int 0, .int 0, .int 0])), (m0, .inr (12, (.ref q2712 :: .int 0 :: .int 0 :: .int 0 :: .int 0 :: .int 0 :: .int 0 :: .int 0 :: .int (-1) :: .int 0 :: .ref q2713 :: .ref q2714 :: .ref q2715 :: .ref q2716 :: .ref q2717 :: .ref q2718 :: .ref q2719 :: .ref q2720 :: .ref q2721 :: .ref q2722 :: .ref q2723 :: .ref q2724 :: .ref q2725 :: .int 0 :: .ref q2726 :: .ref q2727 :: .ref q2728 :: .int 0 :: .ref q2729 :: .ref q2730 :: .int 0 :: .ref q2731 :: .ref q2732 :: .ref q2733 :: .int 0 :: .int 0 :: .int 0 :: .ref q2734 :: .ref q2735 :: .int 0 :: .ref q2736 :: .ref q2737 :: .ref q2738 :: .ref q2739 :: .int 0 :: .ref q2740 :: .ref q2741 :: .int 0 :: .int 0 :: .ref q2742 :: .ref q2743 :: .int 0 :: .ref q2744 :: .ref q2745 :: .ref q2746 :: .ref q2747 :: .int 0 :: .ref q2748 :: .ref q2749 :: .int 0 :: .ref q2750 :: .ref q2751 :: .int 0 :: .ref q2752 :: .ref q2753 :: .int 0 :: .int 0 :: .ref q2754 :: .ref q2755 :: .ref q2756 :: .int 0 :: [])))] H) (hD : va_D A [(x0, .inr (11, [.ref q1111, .ref q1112, .int 0, .int (-1), .ref q1113, .ref q1114, .ref q1115, .ref q1116, .ref q1117, .ref q1118, .ref q1119, .int 0, .ref q1120, .int 0, .ref q1121, .ref q1122, .ref q1123])), (q1114, .inr (4, [.int 0, .int (-1), .ref q1143, .int 0, .int 0, .int 0, .int 0, .int 0, .int 0])), (m0, .inr (12, (.ref q2712 :: .int 0 :: .int 0 :: .int 0 :: .int 0 :: .int 0 :: .int 0 :: .int 0 :: .int (-1) :: .int 0 :: .ref q2713 :: .ref q2714 :: .ref q2715 :: .ref q2716 :: .ref q2717 :: .ref q2718 :: .ref q2719 :: .ref q2720 :: .ref q2721 :: .ref q2722 :: .ref q2723 :: .ref q2724 :: .ref q2725 :: .int 0 :: .ref q2726 :: .ref q2727 :: .ref q2728 :: .int 0 :: .ref q2729 :: .ref q2730 :: .int 0 :: .ref q2731 :: .ref q2732 :: .ref q2733 :: .int 0 :: .int 0 :: .int 0 :: .ref q2734 :: .ref q2735 :: .int 0 :: .ref q2736 :: .ref q2737 :: .ref q2738 :: .ref q2739 :: .int 0 :: .ref q2740 :: .ref q2741 :: .int 0 :: .int 0 :: .ref q2742 :: .ref q2743 :: .int 0 :: .ref q2744 :: .ref q2745 :: .ref q2746 :: .ref q2747 :: .int 0 :: .ref q2748 :: .ref q2749 :: .int 0 :: .ref q2750 :: .ref q2751 :: .int 0 :: .ref q2752 :: .ref q2753 :: .int 0 :: .int 0 :: .ref q2754 :: .ref q2755 :: .ref q2756 :: .int 0 :: [])))]) (hS : va_S A s.heap H locs) (hl : lv_has ls 4 [(3, .int 0), (2, .ref m0), (1, .ref x0), (0, .ref b)]) : W p l e room_1 s m #[Value.ref b] below meth c H locs 126 277922 (lw_Z below #[Value.ref b] s) (F0 m 257 ls []) := by
  obtain ⟨hx, hb, hr, hml, hown, hts, hX, hbl, hlocks, hgv⟩ := C0
  have hts := fun w h => hts w (wmL_law_in w h)
  have hS : va_S A s.heap H locs := hS
  refine lv_aload_n hx hb dL_law_257 rfl (lv_at hl 2 rfl) ?_
  refine lv_aload_n hx hb dL_law_258 rfl (lv_at hl 3 rfl) ?_
  refine lv_iload_n hx hb dL_law_259 rfl (lv_at hl 0 rfl) ?_
  refine lv_iconst (v := 1) hx hb dL_law_260 (by decide +kernel) ?_
  refine lv_iadd hx hb dL_law_261 ?_
  refine lv_topi (fun x4036 ex4036 => ?_)
  obtain rfl : x4036 = 1 := ex4036.trans (by decide +kernel)
  refine va_sld hx hb hX hbl hbA hS (by unfold vp_in; decide) dL_law_262 ?_
  refine lv_topi (fun x4037 ex4037 => ?_)
  obtain rfl : y1 = x4037 := (ex4037.trans ey1).symm
  have hPc := hP.sub (ws' := [(x0, .inr (11, [.ref q1111, .ref q1112, .int 0, .int (-1), .ref q1113, .ref q1114, .ref q1115, .ref q1116, .ref q1117, .ref q1118, .ref q1119, .int 0, .ref q1120, .int 0, .ref q1121, .ref q1122, .ref q1123])), (q1114, .inr (4, [.int 0, .int (-1), .ref q1143, .int 0, .int 0, .int 0, .int 0, .int 0, .int 0]))]) [0, 1] rfl
  have hDc := hD.sub (ws' := [(x0, .inr (11, [.ref q1111, .ref q1112, .int 0, .int (-1), .ref q1113, .ref q1114, .ref q1115, .ref q1116, .ref q1117, .ref q1118, .ref q1119, .int 0, .ref q1120, .int 0, .ref q1121, .ref q1122, .ref q1123])), (q1114, .inr (4, [.int 0, .int (-1), .ref q1143, .int 0, .int 0, .int 0, .int 0, .int 0, .int 0]))]) [0, 1] (by decide +kernel) rfl
  have hKc := hK.sub (tys' := []) [] rfl
  have hFc := va_free (wc := [(x0, .inr (11, [.ref q1111, .ref q1112, .int 0, .int (-1), .ref q1113, .ref q1114, .ref q1115, .ref q1116, .ref q1117, .ref q1118, .ref q1119, .int 0, .ref q1120, .int 0, .ref q1121, .ref q1122, .ref q1123])), (q1114, .inr (4, [.int 0, .int (-1), .ref q1143, .int 0, .int 0, .int 0, .int 0, .int 0, .int 0]))]) hD hS hA [0, 1] rfl
  refine va_calli (va_runV (As := [.int y1]) (rest := []) ⟨hx, hb, hml, hown, hts⟩ (c_X11_fault_0 l dC dI H.size x0 q1111 q1112 q1113 q1114 q1115 q1116 q1117 q1118 q1119 q1120 q1121 q1122 q1123 q1143 y1) (cwV 1 hts gv_L_law_X11_fault_27 rfl rfl rfl (by decide +kernel) ⟨Nat.le_of_ble_eq_true rfl, Nat.le_of_ble_eq_true rfl⟩) ⟨fun a U g mk q => by obtain ⟨q0, q1, qP, qK, qD⟩ := q; exact ⟨q0, q1, qP, va_K.moved (u := U) (U := U.calling g mk a) (Vm.Alike.refl U.vm) qK, qD⟩, va_recv hKc hPc (ci := 11) (q0 := 0) rfl rfl, fun U hU hW => ⟨rfl, by rw [hU], by rw [hU]; exact hPc, va_K.moved hW.alike hKc, hDc.weaken (fun _ _ _ _ => trivial)⟩⟩ rfl rfl hl.1 rfl (lv_room (Nat.le_of_ble_eq_true rfl)) dL_law_263 ⟨Nat.le_of_ble_eq_true rfl, Nat.le_of_ble_eq_true rfl⟩) hS (fun q _ h => hFc q h) hFc (fun r4042 u t H1 locs ht hvm hw hB hz1 hk1 hS => ?_)
  obtain ⟨hP1, hK1, hD1⟩ := hB
  rw [ht] at hP1
  have hK1 := va_K.moved hvm.symm hK1
  obtain ⟨hP, hD⟩ := va_join (wr := [(m0, .inr (12, (.ref q2712 :: .int 0 :: .int 0 :: .int 0 :: .int 0 :: .int 0 :: .int 0 :: .int 0 :: .int (-1) :: .int 0 :: .ref q2713 :: .ref q2714 :: .ref q2715 :: .ref q2716 :: .ref q2717 :: .ref q2718 :: .ref q2719 :: .ref q2720 :: .ref q2721 :: .ref q2722 :: .ref q2723 :: .ref q2724 :: .ref q2725 :: .int 0 :: .ref q2726 :: .ref q2727 :: .ref q2728 :: .int 0 :: .ref q2729 :: .ref q2730 :: .int 0 :: .ref q2731 :: .ref q2732 :: .ref q2733 :: .int 0 :: .int 0 :: .int 0 :: .ref q2734 :: .ref q2735 :: .int 0 :: .ref q2736 :: .ref q2737 :: .ref q2738 :: .ref q2739 :: .int 0 :: .ref q2740 :: .ref q2741 :: .int 0 :: .int 0 :: .ref q2742 :: .ref q2743 :: .int 0 :: .ref q2744 :: .ref q2745 :: .ref q2746 :: .ref q2747 :: .int 0 :: .ref q2748 :: .ref q2749 :: .int 0 :: .ref q2750 :: .ref q2751 :: .int 0 :: .ref q2752 :: .ref q2753 :: .int 0 :: .int 0 :: .ref q2754 :: .ref q2755 :: .ref q2756 :: .int 0 :: [])))]) (w1 := []) hP hD [0, 1] [2] rfl rfl (by decide +kernel) (by decide +kernel) hk1 hFc hP1 hD1
  have hK := (hK.sub (tys' := []) [] rfl).app hK1
  generalize H1 = H at hP hS ⊢
  have hK : va_K (dC, dI) vwCl [] s := hK
  have hP : va_P (dC, dI) vwCl [(m0, .inr (12, (.ref q2712 :: .int 0 :: .int 0 :: .int 0 :: .int 0 :: .int 0 :: .int 0 :: .int 0 :: .int (-1) :: .int 0 :: .ref q2713 :: .ref q2714 :: .ref q2715 :: .ref q2716 :: .ref q2717 :: .ref q2718 :: .ref q2719 :: .ref q2720 :: .ref q2721 :: .ref q2722 :: .ref q2723 :: .ref q2724 :: .ref q2725 :: .int 0 :: .ref q2726 :: .ref q2727 :: .ref q2728 :: .int 0 :: .ref q2729 :: .ref q2730 :: .int 0 :: .ref q2731 :: .ref q2732 :: .ref q2733 :: .int 0 :: .int 0 :: .int 0 :: .ref q2734 :: .ref q2735 :: .int 0 :: .ref q2736 :: .ref q2737 :: .ref q2738 :: .ref q2739 :: .int 0 :: .ref q2740 :: .ref q2741 :: .int 0 :: .int 0 :: .ref q2742 :: .ref q2743 :: .int 0 :: .ref q2744 :: .ref q2745 :: .ref q2746 :: .ref q2747 :: .int 0 :: .ref q2748 :: .ref q2749 :: .int 0 :: .ref q2750 :: .ref q2751 :: .int 0 :: .ref q2752 :: .ref q2753 :: .int 0 :: .int 0 :: .ref q2754 :: .ref q2755 :: .ref q2756 :: .int 0 :: [])))] H := hP
  have hD : va_D A [(m0, .inr (12, (.ref q2712 :: .int 0 :: .int 0 :: .int 0 :: .int 0 :: .int 0 :: .int 0 :: .int 0 :: .int (-1) :: .int 0 :: .ref q2713 :: .ref q2714 :: .ref q2715 :: .ref q2716 :: .ref q2717 :: .ref q2718 :: .ref q2719 :: .ref q2720 :: .ref q2721 :: .ref q2722 :: .ref q2723 :: .ref q2724 :: .ref q2725 :: .int 0 :: .ref q2726 :: .ref q2727 :: .ref q2728 :: .int 0 :: .ref q2729 :: .ref q2730 :: .int 0 :: .ref q2731 :: .ref q2732 :: .ref q2733 :: .int 0 :: .int 0 :: .int 0 :: .ref q2734 :: .ref q2735 :: .int 0 :: .ref q2736 :: .ref q2737 :: .ref q2738 :: .ref q2739 :: .int 0 :: .ref q2740 :: .ref q2741 :: .int 0 :: .int 0 :: .ref q2742 :: .ref q2743 :: .int 0 :: .ref q2744 :: .ref q2745 :: .ref q2746 :: .ref q2747 :: .int 0 :: .ref q2748 :: .ref q2749 :: .int 0 :: .ref q2750 :: .ref q2751 :: .int 0 :: .ref q2752 :: .ref q2753 :: .int 0 :: .int 0 :: .ref q2754 :: .ref q2755 :: .ref q2756 :: .int 0 :: [])))] := hD
  rcases hw with ⟨c4043, hw⟩ | ⟨c4044, c4045, hw⟩ | ⟨c4046, c4047, hw⟩
  · skip
    obtain rfl : r4042 = 0 := hw
    obtain rfl : y1 = 0 := z_e (by simp only [z_lt, z_le, z_eqi, zl_m2, zl_m1, zl_0, zl_1, zl_2, zl_50, zl_100000] at c4043 ⊢; omega)
    refine lv_aload_n hx hb dL_law_266 rfl (lv_at hl 1 rfl) ?_
    refine lv_aload_n hx hb dL_law_267 rfl (lv_at hl 3 rfl) ?_
    refine lv_iload_n hx hb dL_law_268 rfl (lv_at hl 0 rfl) ?_
    refine lv_iconst (v := 1) hx hb dL_law_269 (by decide +kernel) ?_
    refine lv_iadd hx hb dL_law_270 ?_
    refine lv_topi (fun x4048 ex4048 => ?_)
    obtain rfl : x4048 = 1 := ex4048.trans (by decide +kernel)
    refine va_sld hx hb hX hbl hbA hS (by unfold vp_in; decide) dL_law_271 ?_
    refine lv_topi (fun x4049 ex4049 => ?_)
    obtain rfl : 0 = x4049 := (ex4049.trans ey1).symm
    have hPc := hP.sub (ws' := [(m0, .inr (12, (.ref q2712 :: .int 0 :: .int 0 :: .int 0 :: .int 0 :: .int 0 :: .int 0 :: .int 0 :: .int (-1) :: .int 0 :: .ref q2713 :: .ref q2714 :: .ref q2715 :: .ref q2716 :: .ref q2717 :: .ref q2718 :: .ref q2719 :: .ref q2720 :: .ref q2721 :: .ref q2722 :: .ref q2723 :: .ref q2724 :: .ref q2725 :: .int 0 :: .ref q2726 :: .ref q2727 :: .ref q2728 :: .int 0 :: .ref q2729 :: .ref q2730 :: .int 0 :: .ref q2731 :: .ref q2732 :: .ref q2733 :: .int 0 :: .int 0 :: .int 0 :: .ref q2734 :: .ref q2735 :: .int 0 :: .ref q2736 :: .ref q2737 :: .ref q2738 :: .ref q2739 :: .int 0 :: .ref q2740 :: .ref q2741 :: .int 0 :: .int 0 :: .ref q2742 :: .ref q2743 :: .int 0 :: .ref q2744 :: .ref q2745 :: .ref q2746 :: .ref q2747 :: .int 0 :: .ref q2748 :: .ref q2749 :: .int 0 :: .ref q2750 :: .ref q2751 :: .int 0 :: .ref q2752 :: .ref q2753 :: .int 0 :: .int 0 :: .ref q2754 :: .ref q2755 :: .ref q2756 :: .int 0 :: [])))]) [0] rfl
    have hDc := hD.sub (ws' := [(m0, .inr (12, (.ref q2712 :: .int 0 :: .int 0 :: .int 0 :: .int 0 :: .int 0 :: .int 0 :: .int 0 :: .int (-1) :: .int 0 :: .ref q2713 :: .ref q2714 :: .ref q2715 :: .ref q2716 :: .ref q2717 :: .ref q2718 :: .ref q2719 :: .ref q2720 :: .ref q2721 :: .ref q2722 :: .ref q2723 :: .ref q2724 :: .ref q2725 :: .int 0 :: .ref q2726 :: .ref q2727 :: .ref q2728 :: .int 0 :: .ref q2729 :: .ref q2730 :: .int 0 :: .ref q2731 :: .ref q2732 :: .ref q2733 :: .int 0 :: .int 0 :: .int 0 :: .ref q2734 :: .ref q2735 :: .int 0 :: .ref q2736 :: .ref q2737 :: .ref q2738 :: .ref q2739 :: .int 0 :: .ref q2740 :: .ref q2741 :: .int 0 :: .int 0 :: .ref q2742 :: .ref q2743 :: .int 0 :: .ref q2744 :: .ref q2745 :: .ref q2746 :: .ref q2747 :: .int 0 :: .ref q2748 :: .ref q2749 :: .int 0 :: .ref q2750 :: .ref q2751 :: .int 0 :: .ref q2752 :: .ref q2753 :: .int 0 :: .int 0 :: .ref q2754 :: .ref q2755 :: .ref q2756 :: .int 0 :: [])))]) [0] (by decide +kernel) rfl
    have hKc := hK.sub (tys' := []) [] rfl
    have hFc := va_free (wc := [(m0, .inr (12, (.ref q2712 :: .int 0 :: .int 0 :: .int 0 :: .int 0 :: .int 0 :: .int 0 :: .int 0 :: .int (-1) :: .int 0 :: .ref q2713 :: .ref q2714 :: .ref q2715 :: .ref q2716 :: .ref q2717 :: .ref q2718 :: .ref q2719 :: .ref q2720 :: .ref q2721 :: .ref q2722 :: .ref q2723 :: .ref q2724 :: .ref q2725 :: .int 0 :: .ref q2726 :: .ref q2727 :: .ref q2728 :: .int 0 :: .ref q2729 :: .ref q2730 :: .int 0 :: .ref q2731 :: .ref q2732 :: .ref q2733 :: .int 0 :: .int 0 :: .int 0 :: .ref q2734 :: .ref q2735 :: .int 0 :: .ref q2736 :: .ref q2737 :: .ref q2738 :: .ref q2739 :: .int 0 :: .ref q2740 :: .ref q2741 :: .int 0 :: .int 0 :: .ref q2742 :: .ref q2743 :: .int 0 :: .ref q2744 :: .ref q2745 :: .ref q2746 :: .ref q2747 :: .int 0 :: .ref q2748 :: .ref q2749 :: .int 0 :: .ref q2750 :: .ref q2751 :: .int 0 :: .ref q2752 :: .ref q2753 :: .int 0 :: .int 0 :: .ref q2754 :: .ref q2755 :: .ref q2756 :: .int 0 :: [])))]) hD hS hA [0] rfl
    refine va_calli (va_runV (As := [.int 0]) (rest := [.int 0]) ⟨hx, hb, hml, hown, hts⟩ (c_X12_fault_1 l dC dI H.size m0 q2712 q2713 q2714 q2715 q2716 q2717 q2718 q2719 q2720 q2721 q2722 q2723 q2724 q2725 q2726 q2727 q2728 q2729 q2730 q2731 q2732 q2733 q2734 q2735 q2736 q2737 q2738 q2739 q2740 q2741 q2742 q2743 q2744 q2745 q2746 q2747 q2748 q2749 q2750 q2751 q2752 q2753 q2754 q2755 q2756) (cwV 1 hts gv_L_law_X12_fault_30 rfl rfl rfl (by decide +kernel) ⟨Nat.le_of_ble_eq_true rfl, Nat.le_of_ble_eq_true rfl⟩) ⟨fun a U g mk q => by obtain ⟨q0, q1, qP, qK, qD⟩ := q; exact ⟨q0, q1, qP, va_K.moved (u := U) (U := U.calling g mk a) (Vm.Alike.refl U.vm) qK, qD⟩, va_recv hKc hPc (ci := 12) (q0 := 0) rfl rfl, fun U hU hW => ⟨rfl, by rw [hU], by rw [hU]; exact hPc, va_K.moved hW.alike hKc, hDc.weaken (fun _ _ _ _ => trivial)⟩⟩ rfl rfl hl.1 rfl (lv_room (Nat.le_of_ble_eq_true rfl)) dL_law_272 ⟨Nat.le_of_ble_eq_true rfl, Nat.le_of_ble_eq_true rfl⟩) hS (fun q _ h => hFc q h) hFc (fun r4050 u t H1 locs ht hvm hw hB hz1 hk1 hS => ?_)
    obtain ⟨hP1, hK1, hD1⟩ := hB
    rw [ht] at hP1
    have hK1 := va_K.moved hvm.symm hK1
    obtain ⟨hP, hD⟩ := va_join (wr := []) (w1 := []) hP hD [0] [] rfl rfl (by decide +kernel) (by decide +kernel) hk1 hFc hP1 hD1
    have hK := (hK.sub (tys' := []) [] rfl).app hK1
    generalize H1 = H at hP hS ⊢
    have hK : va_K (dC, dI) vwCl [] s := hK
    have hP : va_P (dC, dI) vwCl [] H := hP
    have hD : va_D A [] := hD
    obtain rfl : r4050 = 0 := hw
    refine lv_icmp_eq (tgt := 833) hx hb dL_law_275 (by decide +kernel) (fun _ => ?_) (fun h => absurd (by decide +kernel) h)
    refine lv_iinc (v := 6) (lv' := [(3, .int 6), (2, .ref m0), (1, .ref x0), (0, .ref b)]) hx hb dL_law_833 hl (k := 0) rfl (by decide +kernel) (by decide +kernel) rfl (fun ls hl => ?_)
    refine lv_goto (tgt := 18) hx hb dL_law_836 (by decide +kernel) ?_
    refine lv_iload_n hx hb dL_law_18 rfl (lv_at hl 0 rfl) ?_
    refine lv_aload_n hx hb dL_law_19 rfl (lv_at hl 3 rfl) ?_
    refine va_slen hx hb hX hbl hbA hS dL_law_20 ?_
    refine lv_topi (fun x4051 ex4051 => ?_)
    obtain rfl : x4051 = 6 := ex4051.trans (by decide +kernel)
    refine lv_bipush (v := 6) hx hb dL_law_21 (by decide +kernel) ?_
    refine lv_isub hx hb dL_law_23 ?_
    refine lv_topi (fun x4052 ex4052 => ?_)
    obtain rfl : x4052 = 0 := ex4052.trans (by decide +kernel)
    refine lv_icmp_gt (tgt := 839) hx hb dL_law_24 (by decide +kernel) (fun _ => ?_) (fun h => absurd (by decide +kernel) h)
    refine lv_iconst (v := 1) hx hb dL_law_839 (by decide +kernel) ?_
    refine va_forget (fun q hq => hAl _ (hS.2.2 q hq)) ?_
    refine W.widen (k := 600000) (n := 7302250) (by omega) (by omega) ?_
    exact lw_ret hx hb hr hlocks dL_law_840
  · skip
    obtain rfl : r4042 = (-1) := hw
    obtain rfl : y1 = 1 := z_e (by simp only [z_lt, z_le, z_eqi, zl_m2, zl_m1, zl_0, zl_1, zl_2, zl_50, zl_100000] at c4044 c4045 ⊢; omega)
    refine lv_aload_n hx hb dL_law_266 rfl (lv_at hl 1 rfl) ?_
    refine lv_aload_n hx hb dL_law_267 rfl (lv_at hl 3 rfl) ?_
    refine lv_iload_n hx hb dL_law_268 rfl (lv_at hl 0 rfl) ?_
    refine lv_iconst (v := 1) hx hb dL_law_269 (by decide +kernel) ?_
    refine lv_iadd hx hb dL_law_270 ?_
    refine lv_topi (fun x4053 ex4053 => ?_)
    obtain rfl : x4053 = 1 := ex4053.trans (by decide +kernel)
    refine va_sld hx hb hX hbl hbA hS (by unfold vp_in; decide) dL_law_271 ?_
    refine lv_topi (fun x4054 ex4054 => ?_)
    obtain rfl : 1 = x4054 := (ex4054.trans ey1).symm
    have hPc := hP.sub (ws' := [(m0, .inr (12, (.ref q2712 :: .int 0 :: .int 0 :: .int 0 :: .int 0 :: .int 0 :: .int 0 :: .int 0 :: .int (-1) :: .int 0 :: .ref q2713 :: .ref q2714 :: .ref q2715 :: .ref q2716 :: .ref q2717 :: .ref q2718 :: .ref q2719 :: .ref q2720 :: .ref q2721 :: .ref q2722 :: .ref q2723 :: .ref q2724 :: .ref q2725 :: .int 0 :: .ref q2726 :: .ref q2727 :: .ref q2728 :: .int 0 :: .ref q2729 :: .ref q2730 :: .int 0 :: .ref q2731 :: .ref q2732 :: .ref q2733 :: .int 0 :: .int 0 :: .int 0 :: .ref q2734 :: .ref q2735 :: .int 0 :: .ref q2736 :: .ref q2737 :: .ref q2738 :: .ref q2739 :: .int 0 :: .ref q2740 :: .ref q2741 :: .int 0 :: .int 0 :: .ref q2742 :: .ref q2743 :: .int 0 :: .ref q2744 :: .ref q2745 :: .ref q2746 :: .ref q2747 :: .int 0 :: .ref q2748 :: .ref q2749 :: .int 0 :: .ref q2750 :: .ref q2751 :: .int 0 :: .ref q2752 :: .ref q2753 :: .int 0 :: .int 0 :: .ref q2754 :: .ref q2755 :: .ref q2756 :: .int 0 :: [])))]) [0] rfl
    have hDc := hD.sub (ws' := [(m0, .inr (12, (.ref q2712 :: .int 0 :: .int 0 :: .int 0 :: .int 0 :: .int 0 :: .int 0 :: .int 0 :: .int (-1) :: .int 0 :: .ref q2713 :: .ref q2714 :: .ref q2715 :: .ref q2716 :: .ref q2717 :: .ref q2718 :: .ref q2719 :: .ref q2720 :: .ref q2721 :: .ref q2722 :: .ref q2723 :: .ref q2724 :: .ref q2725 :: .int 0 :: .ref q2726 :: .ref q2727 :: .ref q2728 :: .int 0 :: .ref q2729 :: .ref q2730 :: .int 0 :: .ref q2731 :: .ref q2732 :: .ref q2733 :: .int 0 :: .int 0 :: .int 0 :: .ref q2734 :: .ref q2735 :: .int 0 :: .ref q2736 :: .ref q2737 :: .ref q2738 :: .ref q2739 :: .int 0 :: .ref q2740 :: .ref q2741 :: .int 0 :: .int 0 :: .ref q2742 :: .ref q2743 :: .int 0 :: .ref q2744 :: .ref q2745 :: .ref q2746 :: .ref q2747 :: .int 0 :: .ref q2748 :: .ref q2749 :: .int 0 :: .ref q2750 :: .ref q2751 :: .int 0 :: .ref q2752 :: .ref q2753 :: .int 0 :: .int 0 :: .ref q2754 :: .ref q2755 :: .ref q2756 :: .int 0 :: [])))]) [0] (by decide +kernel) rfl
    have hKc := hK.sub (tys' := []) [] rfl
    have hFc := va_free (wc := [(m0, .inr (12, (.ref q2712 :: .int 0 :: .int 0 :: .int 0 :: .int 0 :: .int 0 :: .int 0 :: .int 0 :: .int (-1) :: .int 0 :: .ref q2713 :: .ref q2714 :: .ref q2715 :: .ref q2716 :: .ref q2717 :: .ref q2718 :: .ref q2719 :: .ref q2720 :: .ref q2721 :: .ref q2722 :: .ref q2723 :: .ref q2724 :: .ref q2725 :: .int 0 :: .ref q2726 :: .ref q2727 :: .ref q2728 :: .int 0 :: .ref q2729 :: .ref q2730 :: .int 0 :: .ref q2731 :: .ref q2732 :: .ref q2733 :: .int 0 :: .int 0 :: .int 0 :: .ref q2734 :: .ref q2735 :: .int 0 :: .ref q2736 :: .ref q2737 :: .ref q2738 :: .ref q2739 :: .int 0 :: .ref q2740 :: .ref q2741 :: .int 0 :: .int 0 :: .ref q2742 :: .ref q2743 :: .int 0 :: .ref q2744 :: .ref q2745 :: .ref q2746 :: .ref q2747 :: .int 0 :: .ref q2748 :: .ref q2749 :: .int 0 :: .ref q2750 :: .ref q2751 :: .int 0 :: .ref q2752 :: .ref q2753 :: .int 0 :: .int 0 :: .ref q2754 :: .ref q2755 :: .ref q2756 :: .int 0 :: [])))]) hD hS hA [0] rfl
    refine va_calli (va_runV (As := [.int 1]) (rest := [.int (-1)]) ⟨hx, hb, hml, hown, hts⟩ (c_X12_fault_2 l dC dI H.size m0 q2712 q2713 q2714 q2715 q2716 q2717 q2718 q2719 q2720 q2721 q2722 q2723 q2724 q2725 q2726 q2727 q2728 q2729 q2730 q2731 q2732 q2733 q2734 q2735 q2736 q2737 q2738 q2739 q2740 q2741 q2742 q2743 q2744 q2745 q2746 q2747 q2748 q2749 q2750 q2751 q2752 q2753 q2754 q2755 q2756) (cwV 1 hts gv_L_law_X12_fault_30 rfl rfl rfl (by decide +kernel) ⟨Nat.le_of_ble_eq_true rfl, Nat.le_of_ble_eq_true rfl⟩) ⟨fun a U g mk q => by obtain ⟨q0, q1, qP, qK, qD⟩ := q; exact ⟨q0, q1, qP, va_K.moved (u := U) (U := U.calling g mk a) (Vm.Alike.refl U.vm) qK, qD⟩, va_recv hKc hPc (ci := 12) (q0 := 0) rfl rfl, fun U hU hW => ⟨rfl, by rw [hU], by rw [hU]; exact hPc, va_K.moved hW.alike hKc, hDc.weaken (fun _ _ _ _ => trivial)⟩⟩ rfl rfl hl.1 rfl (lv_room (Nat.le_of_ble_eq_true rfl)) dL_law_272 ⟨Nat.le_of_ble_eq_true rfl, Nat.le_of_ble_eq_true rfl⟩) hS (fun q _ h => hFc q h) hFc (fun r4055 u t H1 locs ht hvm hw hB hz1 hk1 hS => ?_)
    obtain ⟨hP1, hK1, hD1⟩ := hB
    rw [ht] at hP1
    have hK1 := va_K.moved hvm.symm hK1
    obtain ⟨hP, hD⟩ := va_join (wr := []) (w1 := []) hP hD [0] [] rfl rfl (by decide +kernel) (by decide +kernel) hk1 hFc hP1 hD1
    have hK := (hK.sub (tys' := []) [] rfl).app hK1
    generalize H1 = H at hP hS ⊢
    have hK : va_K (dC, dI) vwCl [] s := hK
    have hP : va_P (dC, dI) vwCl [] H := hP
    have hD : va_D A [] := hD
    obtain rfl : r4055 = (-1) := hw
    refine lv_icmp_eq (tgt := 833) hx hb dL_law_275 (by decide +kernel) (fun _ => ?_) (fun h => absurd (by decide +kernel) h)
    refine lv_iinc (v := 6) (lv' := [(3, .int 6), (2, .ref m0), (1, .ref x0), (0, .ref b)]) hx hb dL_law_833 hl (k := 0) rfl (by decide +kernel) (by decide +kernel) rfl (fun ls hl => ?_)
    refine lv_goto (tgt := 18) hx hb dL_law_836 (by decide +kernel) ?_
    refine lv_iload_n hx hb dL_law_18 rfl (lv_at hl 0 rfl) ?_
    refine lv_aload_n hx hb dL_law_19 rfl (lv_at hl 3 rfl) ?_
    refine va_slen hx hb hX hbl hbA hS dL_law_20 ?_
    refine lv_topi (fun x4056 ex4056 => ?_)
    obtain rfl : x4056 = 6 := ex4056.trans (by decide +kernel)
    refine lv_bipush (v := 6) hx hb dL_law_21 (by decide +kernel) ?_
    refine lv_isub hx hb dL_law_23 ?_
    refine lv_topi (fun x4057 ex4057 => ?_)
    obtain rfl : x4057 = 0 := ex4057.trans (by decide +kernel)
    refine lv_icmp_gt (tgt := 839) hx hb dL_law_24 (by decide +kernel) (fun _ => ?_) (fun h => absurd (by decide +kernel) h)
    refine lv_iconst (v := 1) hx hb dL_law_839 (by decide +kernel) ?_
    refine va_forget (fun q hq => hAl _ (hS.2.2 q hq)) ?_
    refine W.widen (k := 600000) (n := 7302250) (by omega) (by omega) ?_
    exact lw_ret hx hb hr hlocks dL_law_840
  · skip
    obtain rfl : r4042 = (-1) := hw
    refine lv_aload_n hx hb dL_law_266 rfl (lv_at hl 1 rfl) ?_
    refine lv_aload_n hx hb dL_law_267 rfl (lv_at hl 3 rfl) ?_
    refine lv_iload_n hx hb dL_law_268 rfl (lv_at hl 0 rfl) ?_
    refine lv_iconst (v := 1) hx hb dL_law_269 (by decide +kernel) ?_
    refine lv_iadd hx hb dL_law_270 ?_
    refine lv_topi (fun x4058 ex4058 => ?_)
    obtain rfl : x4058 = 1 := ex4058.trans (by decide +kernel)
    refine va_sld hx hb hX hbl hbA hS (by unfold vp_in; decide) dL_law_271 ?_
    refine lv_topi (fun x4059 ex4059 => ?_)
    obtain rfl : y1 = x4059 := (ex4059.trans ey1).symm
    have hPc := hP.sub (ws' := [(m0, .inr (12, (.ref q2712 :: .int 0 :: .int 0 :: .int 0 :: .int 0 :: .int 0 :: .int 0 :: .int 0 :: .int (-1) :: .int 0 :: .ref q2713 :: .ref q2714 :: .ref q2715 :: .ref q2716 :: .ref q2717 :: .ref q2718 :: .ref q2719 :: .ref q2720 :: .ref q2721 :: .ref q2722 :: .ref q2723 :: .ref q2724 :: .ref q2725 :: .int 0 :: .ref q2726 :: .ref q2727 :: .ref q2728 :: .int 0 :: .ref q2729 :: .ref q2730 :: .int 0 :: .ref q2731 :: .ref q2732 :: .ref q2733 :: .int 0 :: .int 0 :: .int 0 :: .ref q2734 :: .ref q2735 :: .int 0 :: .ref q2736 :: .ref q2737 :: .ref q2738 :: .ref q2739 :: .int 0 :: .ref q2740 :: .ref q2741 :: .int 0 :: .int 0 :: .ref q2742 :: .ref q2743 :: .int 0 :: .ref q2744 :: .ref q2745 :: .ref q2746 :: .ref q2747 :: .int 0 :: .ref q2748 :: .ref q2749 :: .int 0 :: .ref q2750 :: .ref q2751 :: .int 0 :: .ref q2752 :: .ref q2753 :: .int 0 :: .int 0 :: .ref q2754 :: .ref q2755 :: .ref q2756 :: .int 0 :: [])))]) [0] rfl
    have hDc := hD.sub (ws' := [(m0, .inr (12, (.ref q2712 :: .int 0 :: .int 0 :: .int 0 :: .int 0 :: .int 0 :: .int 0 :: .int 0 :: .int (-1) :: .int 0 :: .ref q2713 :: .ref q2714 :: .ref q2715 :: .ref q2716 :: .ref q2717 :: .ref q2718 :: .ref q2719 :: .ref q2720 :: .ref q2721 :: .ref q2722 :: .ref q2723 :: .ref q2724 :: .ref q2725 :: .int 0 :: .ref q2726 :: .ref q2727 :: .ref q2728 :: .int 0 :: .ref q2729 :: .ref q2730 :: .int 0 :: .ref q2731 :: .ref q2732 :: .ref q2733 :: .int 0 :: .int 0 :: .int 0 :: .ref q2734 :: .ref q2735 :: .int 0 :: .ref q2736 :: .ref q2737 :: .ref q2738 :: .ref q2739 :: .int 0 :: .ref q2740 :: .ref q2741 :: .int 0 :: .int 0 :: .ref q2742 :: .ref q2743 :: .int 0 :: .ref q2744 :: .ref q2745 :: .ref q2746 :: .ref q2747 :: .int 0 :: .ref q2748 :: .ref q2749 :: .int 0 :: .ref q2750 :: .ref q2751 :: .int 0 :: .ref q2752 :: .ref q2753 :: .int 0 :: .int 0 :: .ref q2754 :: .ref q2755 :: .ref q2756 :: .int 0 :: [])))]) [0] (by decide +kernel) rfl
    have hKc := hK.sub (tys' := []) [] rfl
    have hFc := va_free (wc := [(m0, .inr (12, (.ref q2712 :: .int 0 :: .int 0 :: .int 0 :: .int 0 :: .int 0 :: .int 0 :: .int 0 :: .int (-1) :: .int 0 :: .ref q2713 :: .ref q2714 :: .ref q2715 :: .ref q2716 :: .ref q2717 :: .ref q2718 :: .ref q2719 :: .ref q2720 :: .ref q2721 :: .ref q2722 :: .ref q2723 :: .ref q2724 :: .ref q2725 :: .int 0 :: .ref q2726 :: .ref q2727 :: .ref q2728 :: .int 0 :: .ref q2729 :: .ref q2730 :: .int 0 :: .ref q2731 :: .ref q2732 :: .ref q2733 :: .int 0 :: .int 0 :: .int 0 :: .ref q2734 :: .ref q2735 :: .int 0 :: .ref q2736 :: .ref q2737 :: .ref q2738 :: .ref q2739 :: .int 0 :: .ref q2740 :: .ref q2741 :: .int 0 :: .int 0 :: .ref q2742 :: .ref q2743 :: .int 0 :: .ref q2744 :: .ref q2745 :: .ref q2746 :: .ref q2747 :: .int 0 :: .ref q2748 :: .ref q2749 :: .int 0 :: .ref q2750 :: .ref q2751 :: .int 0 :: .ref q2752 :: .ref q2753 :: .int 0 :: .int 0 :: .ref q2754 :: .ref q2755 :: .ref q2756 :: .int 0 :: [])))]) hD hS hA [0] rfl
    refine va_calli (va_runV (As := [.int y1]) (rest := [.int (-1)]) ⟨hx, hb, hml, hown, hts⟩ (c_X12_fault_0 l dC dI H.size m0 q2712 q2713 q2714 q2715 q2716 q2717 q2718 q2719 q2720 q2721 q2722 q2723 q2724 q2725 q2726 q2727 q2728 q2729 q2730 q2731 q2732 q2733 q2734 q2735 q2736 q2737 q2738 q2739 q2740 q2741 q2742 q2743 q2744 q2745 q2746 q2747 q2748 q2749 q2750 q2751 q2752 q2753 q2754 q2755 q2756 y1) (cwV 1 hts gv_L_law_X12_fault_30 rfl rfl rfl (by decide +kernel) ⟨Nat.le_of_ble_eq_true rfl, Nat.le_of_ble_eq_true rfl⟩) ⟨fun a U g mk q => by obtain ⟨q0, q1, qP, qK, qD⟩ := q; exact ⟨q0, q1, qP, va_K.moved (u := U) (U := U.calling g mk a) (Vm.Alike.refl U.vm) qK, qD⟩, va_recv hKc hPc (ci := 12) (q0 := 0) rfl rfl, fun U hU hW => ⟨rfl, by rw [hU], by rw [hU]; exact hPc, va_K.moved hW.alike hKc, hDc.weaken (fun _ _ _ _ => trivial)⟩⟩ rfl rfl hl.1 rfl (lv_room (Nat.le_of_ble_eq_true rfl)) dL_law_272 ⟨Nat.le_of_ble_eq_true rfl, Nat.le_of_ble_eq_true rfl⟩) hS (fun q _ h => hFc q h) hFc (fun r4062 u t H1 locs ht hvm hw hB hz1 hk1 hS => ?_)
    obtain ⟨hP1, hK1, hD1⟩ := hB
    rw [ht] at hP1
    have hK1 := va_K.moved hvm.symm hK1
    obtain ⟨hP, hD⟩ := va_join (wr := []) (w1 := []) hP hD [0] [] rfl rfl (by decide +kernel) (by decide +kernel) hk1 hFc hP1 hD1
    have hK := (hK.sub (tys' := []) [] rfl).app hK1
    generalize H1 = H at hP hS ⊢
    have hK : va_K (dC, dI) vwCl [] s := hK
    have hP : va_P (dC, dI) vwCl [] H := hP
    have hD : va_D A [] := hD
    rcases hw with ⟨c4063, c4064, hw⟩ | ⟨c4065, c4066, hw⟩ | ⟨c4067, hw⟩
    · skip
      obtain rfl : r4062 = (-1) := hw
      refine lv_icmp_eq (tgt := 833) hx hb dL_law_275 (by decide +kernel) (fun _ => ?_) (fun h => absurd (by decide +kernel) h)
      refine lv_iinc (v := 6) (lv' := [(3, .int 6), (2, .ref m0), (1, .ref x0), (0, .ref b)]) hx hb dL_law_833 hl (k := 0) rfl (by decide +kernel) (by decide +kernel) rfl (fun ls hl => ?_)
      refine lv_goto (tgt := 18) hx hb dL_law_836 (by decide +kernel) ?_
      refine lv_iload_n hx hb dL_law_18 rfl (lv_at hl 0 rfl) ?_
      refine lv_aload_n hx hb dL_law_19 rfl (lv_at hl 3 rfl) ?_
      refine va_slen hx hb hX hbl hbA hS dL_law_20 ?_
      refine lv_topi (fun x4068 ex4068 => ?_)
      obtain rfl : x4068 = 6 := ex4068.trans (by decide +kernel)
      refine lv_bipush (v := 6) hx hb dL_law_21 (by decide +kernel) ?_
      refine lv_isub hx hb dL_law_23 ?_
      refine lv_topi (fun x4069 ex4069 => ?_)
      obtain rfl : x4069 = 0 := ex4069.trans (by decide +kernel)
      refine lv_icmp_gt (tgt := 839) hx hb dL_law_24 (by decide +kernel) (fun _ => ?_) (fun h => absurd (by decide +kernel) h)
      refine lv_iconst (v := 1) hx hb dL_law_839 (by decide +kernel) ?_
      refine va_forget (fun q hq => hAl _ (hS.2.2 q hq)) ?_
      refine W.widen (k := 600000) (n := 7302250) (by omega) (by omega) ?_
      exact lw_ret hx hb hr hlocks dL_law_840
    · skip
      obtain rfl : r4062 = (-1) := hw
      exfalso
      simp only [z_lt, z_le, z_eqi, zl_m2, zl_m1, zl_0, zl_1, zl_2, zl_50, zl_100000] at c4046 c4047 c4065 c4066
      omega
    · skip
      obtain rfl : r4062 = 0 := hw
      exfalso
      simp only [z_lt, z_le, z_eqi, zl_m2, zl_m1, zl_0, zl_1, zl_2, zl_50, zl_100000] at c4046 c4047 c4067
      omega
set_option maxHeartbeats 4000000 in
set_option maxRecDepth 100000 in
theorem law_4 {p : Program} {e : Env} {s : State} {m : MethodId} {below : List Frame} {meth : Method} {c : Code} (l : Launch) {b : Nat} {xs : Nat → Int32} {A : Nat → Prop} {dC : Nat → ClassId} {dI : Nat → Nat → Nat} (C0 : lw_At p s m meth c b 6 xs) (hA : ∀ q : Nat, s.heap.size ≤ q → A q) (hbA : ¬ A b) (hAl : ∀ q : Nat, A q → s.heap.size ≤ q) (hE : EnvOK s) {y1 : Int32} (ey1 : xs (Int32.toNatClampNeg 1) = y1) {y2 : Int32} (ey2 : xs (Int32.toNatClampNeg 2) = y2) {x0 : Nat} {q1111 : Nat} {q1112 : Nat} {q1113 : Nat} {q1114 : Nat} {q1115 : Nat} {q1116 : Nat} {q1117 : Nat} {q1118 : Nat} {q1119 : Nat} {q1120 : Nat} {q1121 : Nat} {q1122 : Nat} {q1123 : Nat} {m0 : Nat} {q2712 : Nat} {q2713 : Nat} {q2714 : Nat} {q2715 : Nat} {q2716 : Nat} {q2717 : Nat} {q2718 : Nat} {q2719 : Nat} {q2720 : Nat} {q2721 : Nat} {q2722 : Nat} {q2723 : Nat} {q2724 : Nat} {q2725 : Nat} {q2726 : Nat} {q2727 : Nat} {q2728 : Nat} {q2729 : Nat} {q2730 : Nat} {q2731 : Nat} {q2732 : Nat} {q2733 : Nat} {q2734 : Nat} {q2735 : Nat} {q2736 : Nat} {q2737 : Nat} {q2738 : Nat} {q2739 : Nat} {q2740 : Nat} {q2741 : Nat} {q2742 : Nat} {q2743 : Nat} {q2744 : Nat} {q2745 : Nat} {q2746 : Nat} {q2747 : Nat} {q2748 : Nat} {q2749 : Nat} {q2750 : Nat} {q2751 : Nat} {q2752 : Nat} {q2753 : Nat} {q2754 : Nat} {q2755 : Nat} {q2756 : Nat} {H : Heap} {locs : List Loc} {ls : Array Slot} (hK : va_K (dC, dI) vwCl [] s) (hP : va_P (dC, dI) vwCl [(x0, .inr (11, [.ref q1111, .ref q1112, .int 0, .int (-1), .ref q1113, .ref q1114, .ref q1115, .ref q1116, .ref q1117, .ref q1118, .ref q1119, .int 0, .ref q1120, .int 0, .ref q1121, .ref q1122, .ref q1123])), (m0, .inr (12, (.ref q2712 :: .int 0 :: .int 0 :: .int 0 :: .int 0 :: .int 0 :: .int 0 :: .int 0 :: .int (-1) :: .int 0 :: .ref q2713 :: .ref q2714 :: .ref q2715 :: .ref q2716 :: .ref q2717 :: .ref q2718 :: .ref q2719 :: .ref q2720 :: .ref q2721 :: .ref q2722 :: .ref q2723 :: .ref q2724 :: .ref q2725 :: .int 0 :: .ref q2726 :: .ref q2727 :: .ref q2728 :: .int 0 :: .ref q2729 :: .ref q2730 :: .int 0 :: .ref q2731 :: .ref q2732 :: .ref q2733 :: .int 0 :: .int 0 :: .int 0 :: .ref q2734 :: .ref q2735 :: .int 0 :: .ref q2736 :: .ref q2737 :: .ref q2738 :: .ref q2739 :: .int 0 :: .ref q2740 :: .ref q2741 :: .int 0 :: .int 0 :: .ref q2742 :: .ref q2743 :: .int 0 :: .ref q2744 :: .ref q2745 :: .ref q2746 :: .ref q2747 :: .int 0 :: .ref q2748 :: .ref q2749 :: .int 0 :: .ref q2750 :: .ref q2751 :: .int 0 :: .ref q2752 :: .ref q2753 :: .int 0 :: .int 0 :: .ref q2754 :: .ref q2755 :: .ref q2756 :: .int 0 :: [])))] H) (hD : va_D A [(x0, .inr (11, [.ref q1111, .ref q1112, .int 0, .int (-1), .ref q1113, .ref q1114, .ref q1115, .ref q1116, .ref q1117, .ref q1118, .ref q1119, .int 0, .ref q1120, .int 0, .ref q1121, .ref q1122, .ref q1123])), (m0, .inr (12, (.ref q2712 :: .int 0 :: .int 0 :: .int 0 :: .int 0 :: .int 0 :: .int 0 :: .int 0 :: .int (-1) :: .int 0 :: .ref q2713 :: .ref q2714 :: .ref q2715 :: .ref q2716 :: .ref q2717 :: .ref q2718 :: .ref q2719 :: .ref q2720 :: .ref q2721 :: .ref q2722 :: .ref q2723 :: .ref q2724 :: .ref q2725 :: .int 0 :: .ref q2726 :: .ref q2727 :: .ref q2728 :: .int 0 :: .ref q2729 :: .ref q2730 :: .int 0 :: .ref q2731 :: .ref q2732 :: .ref q2733 :: .int 0 :: .int 0 :: .int 0 :: .ref q2734 :: .ref q2735 :: .int 0 :: .ref q2736 :: .ref q2737 :: .ref q2738 :: .ref q2739 :: .int 0 :: .ref q2740 :: .ref q2741 :: .int 0 :: .int 0 :: .ref q2742 :: .ref q2743 :: .int 0 :: .ref q2744 :: .ref q2745 :: .ref q2746 :: .ref q2747 :: .int 0 :: .ref q2748 :: .ref q2749 :: .int 0 :: .ref q2750 :: .ref q2751 :: .int 0 :: .ref q2752 :: .ref q2753 :: .int 0 :: .int 0 :: .ref q2754 :: .ref q2755 :: .ref q2756 :: .int 0 :: [])))]) (hS : va_S A s.heap H locs) (hl : lv_has ls 4 [(3, .int 0), (2, .ref m0), (1, .ref x0), (0, .ref b)]) : W p l e room_1 s m #[Value.ref b] below meth c H locs 126 277922 (lw_Z below #[Value.ref b] s) (F0 m 280 ls []) := by
  obtain ⟨hx, hb, hr, hml, hown, hts, hX, hbl, hlocks, hgv⟩ := C0
  have hts := fun w h => hts w (wmL_law_in w h)
  have hS : va_S A s.heap H locs := hS
  refine lv_aload_n hx hb dL_law_280 rfl (lv_at hl 2 rfl) ?_
  refine lv_aload_n hx hb dL_law_281 rfl (lv_at hl 3 rfl) ?_
  refine lv_iload_n hx hb dL_law_282 rfl (lv_at hl 0 rfl) ?_
  refine lv_iconst (v := 1) hx hb dL_law_283 (by decide +kernel) ?_
  refine lv_iadd hx hb dL_law_284 ?_
  refine lv_topi (fun x4070 ex4070 => ?_)
  obtain rfl : x4070 = 1 := ex4070.trans (by decide +kernel)
  refine va_sld hx hb hX hbl hbA hS (by unfold vp_in; decide) dL_law_285 ?_
  refine lv_topi (fun x4071 ex4071 => ?_)
  obtain rfl : y1 = x4071 := (ex4071.trans ey1).symm
  refine lv_aload_n hx hb dL_law_286 rfl (lv_at hl 3 rfl) ?_
  refine lv_iload_n hx hb dL_law_287 rfl (lv_at hl 0 rfl) ?_
  refine lv_iconst (v := 2) hx hb dL_law_288 (by decide +kernel) ?_
  refine lv_iadd hx hb dL_law_289 ?_
  refine lv_topi (fun x4072 ex4072 => ?_)
  obtain rfl : x4072 = 2 := ex4072.trans (by decide +kernel)
  refine va_sld hx hb hX hbl hbA hS (by unfold vp_in; decide) dL_law_290 ?_
  refine lv_topi (fun x4073 ex4073 => ?_)
  obtain rfl : y2 = x4073 := (ex4073.trans ey2).symm
  have hPc := hP.sub (ws' := [(x0, .inr (11, [.ref q1111, .ref q1112, .int 0, .int (-1), .ref q1113, .ref q1114, .ref q1115, .ref q1116, .ref q1117, .ref q1118, .ref q1119, .int 0, .ref q1120, .int 0, .ref q1121, .ref q1122, .ref q1123]))]) [0] rfl
  have hDc := hD.sub (ws' := [(x0, .inr (11, [.ref q1111, .ref q1112, .int 0, .int (-1), .ref q1113, .ref q1114, .ref q1115, .ref q1116, .ref q1117, .ref q1118, .ref q1119, .int 0, .ref q1120, .int 0, .ref q1121, .ref q1122, .ref q1123]))]) [0] (by decide +kernel) rfl
  have hKc := hK.sub (tys' := []) [] rfl
  have hFc := va_free (wc := [(x0, .inr (11, [.ref q1111, .ref q1112, .int 0, .int (-1), .ref q1113, .ref q1114, .ref q1115, .ref q1116, .ref q1117, .ref q1118, .ref q1119, .int 0, .ref q1120, .int 0, .ref q1121, .ref q1122, .ref q1123]))]) hD hS hA [0] rfl
  refine va_calli (va_runV (As := [.int y1, .int y2]) (rest := []) ⟨hx, hb, hml, hown, hts⟩ (c_X11_about_0 l dC dI H.size x0 q1111 q1112 q1113 q1114 q1115 q1116 q1117 q1118 q1119 q1120 q1121 q1122 q1123 y1 y2) (cwV 2 hts gv_L_law_X11_about_31 rfl rfl rfl (by decide +kernel) ⟨Nat.le_of_ble_eq_true rfl, Nat.le_of_ble_eq_true rfl⟩) ⟨fun a U g mk q => by obtain ⟨q0, q1, qP, qK, qD⟩ := q; exact ⟨q0, q1, qP, va_K.moved (u := U) (U := U.calling g mk a) (Vm.Alike.refl U.vm) qK, qD⟩, va_recv hKc hPc (ci := 11) (q0 := 0) rfl rfl, fun U hU hW => ⟨rfl, by rw [hU], by rw [hU]; exact hPc, va_K.moved hW.alike hKc, hDc.weaken (fun _ _ _ _ => trivial)⟩⟩ rfl rfl hl.1 rfl (lv_room (Nat.le_of_ble_eq_true rfl)) dL_law_291 ⟨Nat.le_of_ble_eq_true rfl, Nat.le_of_ble_eq_true rfl⟩) hS (fun q _ h => hFc q h) hFc (fun r4076 u t H1 locs ht hvm hw hB hz1 hk1 hS => ?_)
  obtain ⟨hP1, hK1, hD1⟩ := hB
  rw [ht] at hP1
  have hK1 := va_K.moved hvm.symm hK1
  obtain ⟨hP, hD⟩ := va_join (wr := [(m0, .inr (12, (.ref q2712 :: .int 0 :: .int 0 :: .int 0 :: .int 0 :: .int 0 :: .int 0 :: .int 0 :: .int (-1) :: .int 0 :: .ref q2713 :: .ref q2714 :: .ref q2715 :: .ref q2716 :: .ref q2717 :: .ref q2718 :: .ref q2719 :: .ref q2720 :: .ref q2721 :: .ref q2722 :: .ref q2723 :: .ref q2724 :: .ref q2725 :: .int 0 :: .ref q2726 :: .ref q2727 :: .ref q2728 :: .int 0 :: .ref q2729 :: .ref q2730 :: .int 0 :: .ref q2731 :: .ref q2732 :: .ref q2733 :: .int 0 :: .int 0 :: .int 0 :: .ref q2734 :: .ref q2735 :: .int 0 :: .ref q2736 :: .ref q2737 :: .ref q2738 :: .ref q2739 :: .int 0 :: .ref q2740 :: .ref q2741 :: .int 0 :: .int 0 :: .ref q2742 :: .ref q2743 :: .int 0 :: .ref q2744 :: .ref q2745 :: .ref q2746 :: .ref q2747 :: .int 0 :: .ref q2748 :: .ref q2749 :: .int 0 :: .ref q2750 :: .ref q2751 :: .int 0 :: .ref q2752 :: .ref q2753 :: .int 0 :: .int 0 :: .ref q2754 :: .ref q2755 :: .ref q2756 :: .int 0 :: [])))]) (w1 := []) hP hD [0] [1] rfl rfl (by decide +kernel) (by decide +kernel) hk1 hFc hP1 hD1
  have hK := (hK.sub (tys' := []) [] rfl).app hK1
  generalize H1 = H at hP hS ⊢
  have hK : va_K (dC, dI) vwCl [] s := hK
  have hP : va_P (dC, dI) vwCl [(m0, .inr (12, (.ref q2712 :: .int 0 :: .int 0 :: .int 0 :: .int 0 :: .int 0 :: .int 0 :: .int 0 :: .int (-1) :: .int 0 :: .ref q2713 :: .ref q2714 :: .ref q2715 :: .ref q2716 :: .ref q2717 :: .ref q2718 :: .ref q2719 :: .ref q2720 :: .ref q2721 :: .ref q2722 :: .ref q2723 :: .ref q2724 :: .ref q2725 :: .int 0 :: .ref q2726 :: .ref q2727 :: .ref q2728 :: .int 0 :: .ref q2729 :: .ref q2730 :: .int 0 :: .ref q2731 :: .ref q2732 :: .ref q2733 :: .int 0 :: .int 0 :: .int 0 :: .ref q2734 :: .ref q2735 :: .int 0 :: .ref q2736 :: .ref q2737 :: .ref q2738 :: .ref q2739 :: .int 0 :: .ref q2740 :: .ref q2741 :: .int 0 :: .int 0 :: .ref q2742 :: .ref q2743 :: .int 0 :: .ref q2744 :: .ref q2745 :: .ref q2746 :: .ref q2747 :: .int 0 :: .ref q2748 :: .ref q2749 :: .int 0 :: .ref q2750 :: .ref q2751 :: .int 0 :: .ref q2752 :: .ref q2753 :: .int 0 :: .int 0 :: .ref q2754 :: .ref q2755 :: .ref q2756 :: .int 0 :: [])))] H := hP
  have hD : va_D A [(m0, .inr (12, (.ref q2712 :: .int 0 :: .int 0 :: .int 0 :: .int 0 :: .int 0 :: .int 0 :: .int 0 :: .int (-1) :: .int 0 :: .ref q2713 :: .ref q2714 :: .ref q2715 :: .ref q2716 :: .ref q2717 :: .ref q2718 :: .ref q2719 :: .ref q2720 :: .ref q2721 :: .ref q2722 :: .ref q2723 :: .ref q2724 :: .ref q2725 :: .int 0 :: .ref q2726 :: .ref q2727 :: .ref q2728 :: .int 0 :: .ref q2729 :: .ref q2730 :: .int 0 :: .ref q2731 :: .ref q2732 :: .ref q2733 :: .int 0 :: .int 0 :: .int 0 :: .ref q2734 :: .ref q2735 :: .int 0 :: .ref q2736 :: .ref q2737 :: .ref q2738 :: .ref q2739 :: .int 0 :: .ref q2740 :: .ref q2741 :: .int 0 :: .int 0 :: .ref q2742 :: .ref q2743 :: .int 0 :: .ref q2744 :: .ref q2745 :: .ref q2746 :: .ref q2747 :: .int 0 :: .ref q2748 :: .ref q2749 :: .int 0 :: .ref q2750 :: .ref q2751 :: .int 0 :: .ref q2752 :: .ref q2753 :: .int 0 :: .int 0 :: .ref q2754 :: .ref q2755 :: .ref q2756 :: .int 0 :: [])))] := hD
  obtain rfl : r4076 = (-1) := hw
  refine lv_aload_n hx hb dL_law_294 rfl (lv_at hl 1 rfl) ?_
  refine lv_aload_n hx hb dL_law_295 rfl (lv_at hl 3 rfl) ?_
  refine lv_iload_n hx hb dL_law_296 rfl (lv_at hl 0 rfl) ?_
  refine lv_iconst (v := 1) hx hb dL_law_297 (by decide +kernel) ?_
  refine lv_iadd hx hb dL_law_298 ?_
  refine lv_topi (fun x4077 ex4077 => ?_)
  obtain rfl : x4077 = 1 := ex4077.trans (by decide +kernel)
  refine va_sld hx hb hX hbl hbA hS (by unfold vp_in; decide) dL_law_299 ?_
  refine lv_topi (fun x4078 ex4078 => ?_)
  obtain rfl : y1 = x4078 := (ex4078.trans ey1).symm
  refine lv_aload_n hx hb dL_law_300 rfl (lv_at hl 3 rfl) ?_
  refine lv_iload_n hx hb dL_law_301 rfl (lv_at hl 0 rfl) ?_
  refine lv_iconst (v := 2) hx hb dL_law_302 (by decide +kernel) ?_
  refine lv_iadd hx hb dL_law_303 ?_
  refine lv_topi (fun x4079 ex4079 => ?_)
  obtain rfl : x4079 = 2 := ex4079.trans (by decide +kernel)
  refine va_sld hx hb hX hbl hbA hS (by unfold vp_in; decide) dL_law_304 ?_
  refine lv_topi (fun x4080 ex4080 => ?_)
  obtain rfl : y2 = x4080 := (ex4080.trans ey2).symm
  have hPc := hP.sub (ws' := [(m0, .inr (12, (.ref q2712 :: .int 0 :: .int 0 :: .int 0 :: .int 0 :: .int 0 :: .int 0 :: .int 0 :: .int (-1) :: .int 0 :: .ref q2713 :: .ref q2714 :: .ref q2715 :: .ref q2716 :: .ref q2717 :: .ref q2718 :: .ref q2719 :: .ref q2720 :: .ref q2721 :: .ref q2722 :: .ref q2723 :: .ref q2724 :: .ref q2725 :: .int 0 :: .ref q2726 :: .ref q2727 :: .ref q2728 :: .int 0 :: .ref q2729 :: .ref q2730 :: .int 0 :: .ref q2731 :: .ref q2732 :: .ref q2733 :: .int 0 :: .int 0 :: .int 0 :: .ref q2734 :: .ref q2735 :: .int 0 :: .ref q2736 :: .ref q2737 :: .ref q2738 :: .ref q2739 :: .int 0 :: .ref q2740 :: .ref q2741 :: .int 0 :: .int 0 :: .ref q2742 :: .ref q2743 :: .int 0 :: .ref q2744 :: .ref q2745 :: .ref q2746 :: .ref q2747 :: .int 0 :: .ref q2748 :: .ref q2749 :: .int 0 :: .ref q2750 :: .ref q2751 :: .int 0 :: .ref q2752 :: .ref q2753 :: .int 0 :: .int 0 :: .ref q2754 :: .ref q2755 :: .ref q2756 :: .int 0 :: [])))]) [0] rfl
  have hDc := hD.sub (ws' := [(m0, .inr (12, (.ref q2712 :: .int 0 :: .int 0 :: .int 0 :: .int 0 :: .int 0 :: .int 0 :: .int 0 :: .int (-1) :: .int 0 :: .ref q2713 :: .ref q2714 :: .ref q2715 :: .ref q2716 :: .ref q2717 :: .ref q2718 :: .ref q2719 :: .ref q2720 :: .ref q2721 :: .ref q2722 :: .ref q2723 :: .ref q2724 :: .ref q2725 :: .int 0 :: .ref q2726 :: .ref q2727 :: .ref q2728 :: .int 0 :: .ref q2729 :: .ref q2730 :: .int 0 :: .ref q2731 :: .ref q2732 :: .ref q2733 :: .int 0 :: .int 0 :: .int 0 :: .ref q2734 :: .ref q2735 :: .int 0 :: .ref q2736 :: .ref q2737 :: .ref q2738 :: .ref q2739 :: .int 0 :: .ref q2740 :: .ref q2741 :: .int 0 :: .int 0 :: .ref q2742 :: .ref q2743 :: .int 0 :: .ref q2744 :: .ref q2745 :: .ref q2746 :: .ref q2747 :: .int 0 :: .ref q2748 :: .ref q2749 :: .int 0 :: .ref q2750 :: .ref q2751 :: .int 0 :: .ref q2752 :: .ref q2753 :: .int 0 :: .int 0 :: .ref q2754 :: .ref q2755 :: .ref q2756 :: .int 0 :: [])))]) [0] (by decide +kernel) rfl
  have hKc := hK.sub (tys' := []) [] rfl
  have hFc := va_free (wc := [(m0, .inr (12, (.ref q2712 :: .int 0 :: .int 0 :: .int 0 :: .int 0 :: .int 0 :: .int 0 :: .int 0 :: .int (-1) :: .int 0 :: .ref q2713 :: .ref q2714 :: .ref q2715 :: .ref q2716 :: .ref q2717 :: .ref q2718 :: .ref q2719 :: .ref q2720 :: .ref q2721 :: .ref q2722 :: .ref q2723 :: .ref q2724 :: .ref q2725 :: .int 0 :: .ref q2726 :: .ref q2727 :: .ref q2728 :: .int 0 :: .ref q2729 :: .ref q2730 :: .int 0 :: .ref q2731 :: .ref q2732 :: .ref q2733 :: .int 0 :: .int 0 :: .int 0 :: .ref q2734 :: .ref q2735 :: .int 0 :: .ref q2736 :: .ref q2737 :: .ref q2738 :: .ref q2739 :: .int 0 :: .ref q2740 :: .ref q2741 :: .int 0 :: .int 0 :: .ref q2742 :: .ref q2743 :: .int 0 :: .ref q2744 :: .ref q2745 :: .ref q2746 :: .ref q2747 :: .int 0 :: .ref q2748 :: .ref q2749 :: .int 0 :: .ref q2750 :: .ref q2751 :: .int 0 :: .ref q2752 :: .ref q2753 :: .int 0 :: .int 0 :: .ref q2754 :: .ref q2755 :: .ref q2756 :: .int 0 :: [])))]) hD hS hA [0] rfl
  refine va_calli (va_runV (As := [.int y1, .int y2]) (rest := [.int (-1)]) ⟨hx, hb, hml, hown, hts⟩ (c_X12_about_0 l dC dI H.size m0 q2712 q2713 q2714 q2715 q2716 q2717 q2718 q2719 q2720 q2721 q2722 q2723 q2724 q2725 q2726 q2727 q2728 q2729 q2730 q2731 q2732 q2733 q2734 q2735 q2736 q2737 q2738 q2739 q2740 q2741 q2742 q2743 q2744 q2745 q2746 q2747 q2748 q2749 q2750 q2751 q2752 q2753 q2754 q2755 q2756 y1 y2) (cwV 2 hts gv_L_law_X12_about_35 rfl rfl rfl (by decide +kernel) ⟨Nat.le_of_ble_eq_true rfl, Nat.le_of_ble_eq_true rfl⟩) ⟨fun a U g mk q => by obtain ⟨q0, q1, qP, qK, qD⟩ := q; exact ⟨q0, q1, qP, va_K.moved (u := U) (U := U.calling g mk a) (Vm.Alike.refl U.vm) qK, qD⟩, va_recv hKc hPc (ci := 12) (q0 := 0) rfl rfl, fun U hU hW => ⟨rfl, by rw [hU], by rw [hU]; exact hPc, va_K.moved hW.alike hKc, hDc.weaken (fun _ _ _ _ => trivial)⟩⟩ rfl rfl hl.1 rfl (lv_room (Nat.le_of_ble_eq_true rfl)) dL_law_305 ⟨Nat.le_of_ble_eq_true rfl, Nat.le_of_ble_eq_true rfl⟩) hS (fun q _ h => hFc q h) hFc (fun r4084 u t H1 locs ht hvm hw hB hz1 hk1 hS => ?_)
  obtain ⟨hP1, hK1, hD1⟩ := hB
  rw [ht] at hP1
  have hK1 := va_K.moved hvm.symm hK1
  obtain ⟨hP, hD⟩ := va_join (wr := []) (w1 := []) hP hD [0] [] rfl rfl (by decide +kernel) (by decide +kernel) hk1 hFc hP1 hD1
  have hK := (hK.sub (tys' := []) [] rfl).app hK1
  generalize H1 = H at hP hS ⊢
  have hK : va_K (dC, dI) vwCl [] s := hK
  have hP : va_P (dC, dI) vwCl [] H := hP
  have hD : va_D A [] := hD
  obtain rfl : r4084 = (-1) := hw
  refine lv_icmp_eq (tgt := 833) hx hb dL_law_308 (by decide +kernel) (fun _ => ?_) (fun h => absurd (by decide +kernel) h)
  refine lv_iinc (v := 6) (lv' := [(3, .int 6), (2, .ref m0), (1, .ref x0), (0, .ref b)]) hx hb dL_law_833 hl (k := 0) rfl (by decide +kernel) (by decide +kernel) rfl (fun ls hl => ?_)
  refine lv_goto (tgt := 18) hx hb dL_law_836 (by decide +kernel) ?_
  refine lv_iload_n hx hb dL_law_18 rfl (lv_at hl 0 rfl) ?_
  refine lv_aload_n hx hb dL_law_19 rfl (lv_at hl 3 rfl) ?_
  refine va_slen hx hb hX hbl hbA hS dL_law_20 ?_
  refine lv_topi (fun x4085 ex4085 => ?_)
  obtain rfl : x4085 = 6 := ex4085.trans (by decide +kernel)
  refine lv_bipush (v := 6) hx hb dL_law_21 (by decide +kernel) ?_
  refine lv_isub hx hb dL_law_23 ?_
  refine lv_topi (fun x4086 ex4086 => ?_)
  obtain rfl : x4086 = 0 := ex4086.trans (by decide +kernel)
  refine lv_icmp_gt (tgt := 839) hx hb dL_law_24 (by decide +kernel) (fun _ => ?_) (fun h => absurd (by decide +kernel) h)
  refine lv_iconst (v := 1) hx hb dL_law_839 (by decide +kernel) ?_
  refine va_forget (fun q hq => hAl _ (hS.2.2 q hq)) ?_
  refine W.widen (k := 600000) (n := 7302250) (by omega) (by omega) ?_
  exact lw_ret hx hb hr hlocks dL_law_840
set_option maxHeartbeats 4000000 in
set_option maxRecDepth 100000 in
theorem law_5 {p : Program} {e : Env} {s : State} {m : MethodId} {below : List Frame} {meth : Method} {c : Code} (l : Launch) {b : Nat} {xs : Nat → Int32} {A : Nat → Prop} {dC : Nat → ClassId} {dI : Nat → Nat → Nat} (C0 : lw_At p s m meth c b 6 xs) (hA : ∀ q : Nat, s.heap.size ≤ q → A q) (hbA : ¬ A b) (hAl : ∀ q : Nat, A q → s.heap.size ≤ q) (hE : EnvOK s) {y1 : Int32} (ey1 : xs (Int32.toNatClampNeg 1) = y1) {x0 : Nat} {q1111 : Nat} {q1112 : Nat} {q1113 : Nat} {q1114 : Nat} {q1115 : Nat} {q1116 : Nat} {q1117 : Nat} {q1118 : Nat} {q1119 : Nat} {q1120 : Nat} {q1121 : Nat} {q1122 : Nat} {q1123 : Nat} {m0 : Nat} {q2712 : Nat} {q2713 : Nat} {q2714 : Nat} {q2715 : Nat} {q2716 : Nat} {q2717 : Nat} {q2718 : Nat} {q2719 : Nat} {q2720 : Nat} {q2721 : Nat} {q2722 : Nat} {q2723 : Nat} {q2724 : Nat} {q2725 : Nat} {q2726 : Nat} {q2727 : Nat} {q2728 : Nat} {q2729 : Nat} {q2730 : Nat} {q2731 : Nat} {q2732 : Nat} {q2733 : Nat} {q2734 : Nat} {q2735 : Nat} {q2736 : Nat} {q2737 : Nat} {q2738 : Nat} {q2739 : Nat} {q2740 : Nat} {q2741 : Nat} {q2742 : Nat} {q2743 : Nat} {q2744 : Nat} {q2745 : Nat} {q2746 : Nat} {q2747 : Nat} {q2748 : Nat} {q2749 : Nat} {q2750 : Nat} {q2751 : Nat} {q2752 : Nat} {q2753 : Nat} {q2754 : Nat} {q2755 : Nat} {q2756 : Nat} {H : Heap} {locs : List Loc} {ls : Array Slot} (hK : va_K (dC, dI) vwCl [] s) (hP : va_P (dC, dI) vwCl [(x0, .inr (11, [.ref q1111, .ref q1112, .int 0, .int (-1), .ref q1113, .ref q1114, .ref q1115, .ref q1116, .ref q1117, .ref q1118, .ref q1119, .int 0, .ref q1120, .int 0, .ref q1121, .ref q1122, .ref q1123])), (m0, .inr (12, (.ref q2712 :: .int 0 :: .int 0 :: .int 0 :: .int 0 :: .int 0 :: .int 0 :: .int 0 :: .int (-1) :: .int 0 :: .ref q2713 :: .ref q2714 :: .ref q2715 :: .ref q2716 :: .ref q2717 :: .ref q2718 :: .ref q2719 :: .ref q2720 :: .ref q2721 :: .ref q2722 :: .ref q2723 :: .ref q2724 :: .ref q2725 :: .int 0 :: .ref q2726 :: .ref q2727 :: .ref q2728 :: .int 0 :: .ref q2729 :: .ref q2730 :: .int 0 :: .ref q2731 :: .ref q2732 :: .ref q2733 :: .int 0 :: .int 0 :: .int 0 :: .ref q2734 :: .ref q2735 :: .int 0 :: .ref q2736 :: .ref q2737 :: .ref q2738 :: .ref q2739 :: .int 0 :: .ref q2740 :: .ref q2741 :: .int 0 :: .int 0 :: .ref q2742 :: .ref q2743 :: .int 0 :: .ref q2744 :: .ref q2745 :: .ref q2746 :: .ref q2747 :: .int 0 :: .ref q2748 :: .ref q2749 :: .int 0 :: .ref q2750 :: .ref q2751 :: .int 0 :: .ref q2752 :: .ref q2753 :: .int 0 :: .int 0 :: .ref q2754 :: .ref q2755 :: .ref q2756 :: .int 0 :: [])))] H) (hD : va_D A [(x0, .inr (11, [.ref q1111, .ref q1112, .int 0, .int (-1), .ref q1113, .ref q1114, .ref q1115, .ref q1116, .ref q1117, .ref q1118, .ref q1119, .int 0, .ref q1120, .int 0, .ref q1121, .ref q1122, .ref q1123])), (m0, .inr (12, (.ref q2712 :: .int 0 :: .int 0 :: .int 0 :: .int 0 :: .int 0 :: .int 0 :: .int 0 :: .int (-1) :: .int 0 :: .ref q2713 :: .ref q2714 :: .ref q2715 :: .ref q2716 :: .ref q2717 :: .ref q2718 :: .ref q2719 :: .ref q2720 :: .ref q2721 :: .ref q2722 :: .ref q2723 :: .ref q2724 :: .ref q2725 :: .int 0 :: .ref q2726 :: .ref q2727 :: .ref q2728 :: .int 0 :: .ref q2729 :: .ref q2730 :: .int 0 :: .ref q2731 :: .ref q2732 :: .ref q2733 :: .int 0 :: .int 0 :: .int 0 :: .ref q2734 :: .ref q2735 :: .int 0 :: .ref q2736 :: .ref q2737 :: .ref q2738 :: .ref q2739 :: .int 0 :: .ref q2740 :: .ref q2741 :: .int 0 :: .int 0 :: .ref q2742 :: .ref q2743 :: .int 0 :: .ref q2744 :: .ref q2745 :: .ref q2746 :: .ref q2747 :: .int 0 :: .ref q2748 :: .ref q2749 :: .int 0 :: .ref q2750 :: .ref q2751 :: .int 0 :: .ref q2752 :: .ref q2753 :: .int 0 :: .int 0 :: .ref q2754 :: .ref q2755 :: .ref q2756 :: .int 0 :: [])))]) (hS : va_S A s.heap H locs) (hl : lv_has ls 4 [(3, .int 0), (2, .ref m0), (1, .ref x0), (0, .ref b)]) : W p l e room_1 s m #[Value.ref b] below meth c H locs 126 277922 (lw_Z below #[Value.ref b] s) (F0 m 313 ls []) := by
  obtain ⟨hx, hb, hr, hml, hown, hts, hX, hbl, hlocks, hgv⟩ := C0
  have hts := fun w h => hts w (wmL_law_in w h)
  have hS : va_S A s.heap H locs := hS
  refine lv_aload_n hx hb dL_law_313 rfl (lv_at hl 2 rfl) ?_
  refine lv_aload_n hx hb dL_law_314 rfl (lv_at hl 3 rfl) ?_
  refine lv_iload_n hx hb dL_law_315 rfl (lv_at hl 0 rfl) ?_
  refine lv_iconst (v := 1) hx hb dL_law_316 (by decide +kernel) ?_
  refine lv_iadd hx hb dL_law_317 ?_
  refine lv_topi (fun x4087 ex4087 => ?_)
  obtain rfl : x4087 = 1 := ex4087.trans (by decide +kernel)
  refine va_sld hx hb hX hbl hbA hS (by unfold vp_in; decide) dL_law_318 ?_
  refine lv_topi (fun x4088 ex4088 => ?_)
  obtain rfl : y1 = x4088 := (ex4088.trans ey1).symm
  have hPc := hP.sub (ws' := [(x0, .inr (11, [.ref q1111, .ref q1112, .int 0, .int (-1), .ref q1113, .ref q1114, .ref q1115, .ref q1116, .ref q1117, .ref q1118, .ref q1119, .int 0, .ref q1120, .int 0, .ref q1121, .ref q1122, .ref q1123]))]) [0] rfl
  have hDc := hD.sub (ws' := [(x0, .inr (11, [.ref q1111, .ref q1112, .int 0, .int (-1), .ref q1113, .ref q1114, .ref q1115, .ref q1116, .ref q1117, .ref q1118, .ref q1119, .int 0, .ref q1120, .int 0, .ref q1121, .ref q1122, .ref q1123]))]) [0] (by decide +kernel) rfl
  have hKc := hK.sub (tys' := []) [] rfl
  have hFc := va_free (wc := [(x0, .inr (11, [.ref q1111, .ref q1112, .int 0, .int (-1), .ref q1113, .ref q1114, .ref q1115, .ref q1116, .ref q1117, .ref q1118, .ref q1119, .int 0, .ref q1120, .int 0, .ref q1121, .ref q1122, .ref q1123]))]) hD hS hA [0] rfl
  refine va_calli (va_runV (As := [.int y1]) (rest := []) ⟨hx, hb, hml, hown, hts⟩ (c_X11_stage_0 l dC dI H.size x0 q1111 q1112 q1113 q1114 q1115 q1116 q1117 q1118 q1119 q1120 q1121 q1122 q1123 y1) (cwV 1 hts gv_L_law_X11_stage_36 rfl rfl rfl (by decide +kernel) ⟨Nat.le_of_ble_eq_true rfl, Nat.le_of_ble_eq_true rfl⟩) ⟨fun a U g mk q => by obtain ⟨q0, q1, qP, qK, qD⟩ := q; exact ⟨q0, q1, qP, va_K.moved (u := U) (U := U.calling g mk a) (Vm.Alike.refl U.vm) qK, qD⟩, va_recv hKc hPc (ci := 11) (q0 := 0) rfl rfl, fun U hU hW => ⟨rfl, by rw [hU], by rw [hU]; exact hPc, va_K.moved hW.alike hKc, hDc.weaken (fun _ _ _ _ => trivial)⟩⟩ rfl rfl hl.1 rfl (lv_room (Nat.le_of_ble_eq_true rfl)) dL_law_319 ⟨Nat.le_of_ble_eq_true rfl, Nat.le_of_ble_eq_true rfl⟩) hS (fun q _ h => hFc q h) hFc (fun r4091 u t H1 locs ht hvm hw hB hz1 hk1 hS => ?_)
  obtain ⟨hP1, hK1, hD1⟩ := hB
  rw [ht] at hP1
  have hK1 := va_K.moved hvm.symm hK1
  obtain ⟨hP, hD⟩ := va_join (wr := [(m0, .inr (12, (.ref q2712 :: .int 0 :: .int 0 :: .int 0 :: .int 0 :: .int 0 :: .int 0 :: .int 0 :: .int (-1) :: .int 0 :: .ref q2713 :: .ref q2714 :: .ref q2715 :: .ref q2716 :: .ref q2717 :: .ref q2718 :: .ref q2719 :: .ref q2720 :: .ref q2721 :: .ref q2722 :: .ref q2723 :: .ref q2724 :: .ref q2725 :: .int 0 :: .ref q2726 :: .ref q2727 :: .ref q2728 :: .int 0 :: .ref q2729 :: .ref q2730 :: .int 0 :: .ref q2731 :: .ref q2732 :: .ref q2733 :: .int 0 :: .int 0 :: .int 0 :: .ref q2734 :: .ref q2735 :: .int 0 :: .ref q2736 :: .ref q2737 :: .ref q2738 :: .ref q2739 :: .int 0 :: .ref q2740 :: .ref q2741 :: .int 0 :: .int 0 :: .ref q2742 :: .ref q2743 :: .int 0 :: .ref q2744 :: .ref q2745 :: .ref q2746 :: .ref q2747 :: .int 0 :: .ref q2748 :: .ref q2749 :: .int 0 :: .ref q2750 :: .ref q2751 :: .int 0 :: .ref q2752 :: .ref q2753 :: .int 0 :: .int 0 :: .ref q2754 :: .ref q2755 :: .ref q2756 :: .int 0 :: [])))]) (w1 := []) hP hD [0] [1] rfl rfl (by decide +kernel) (by decide +kernel) hk1 hFc hP1 hD1
  have hK := (hK.sub (tys' := []) [] rfl).app hK1
  generalize H1 = H at hP hS ⊢
  have hK : va_K (dC, dI) vwCl [] s := hK
  have hP : va_P (dC, dI) vwCl [(m0, .inr (12, (.ref q2712 :: .int 0 :: .int 0 :: .int 0 :: .int 0 :: .int 0 :: .int 0 :: .int 0 :: .int (-1) :: .int 0 :: .ref q2713 :: .ref q2714 :: .ref q2715 :: .ref q2716 :: .ref q2717 :: .ref q2718 :: .ref q2719 :: .ref q2720 :: .ref q2721 :: .ref q2722 :: .ref q2723 :: .ref q2724 :: .ref q2725 :: .int 0 :: .ref q2726 :: .ref q2727 :: .ref q2728 :: .int 0 :: .ref q2729 :: .ref q2730 :: .int 0 :: .ref q2731 :: .ref q2732 :: .ref q2733 :: .int 0 :: .int 0 :: .int 0 :: .ref q2734 :: .ref q2735 :: .int 0 :: .ref q2736 :: .ref q2737 :: .ref q2738 :: .ref q2739 :: .int 0 :: .ref q2740 :: .ref q2741 :: .int 0 :: .int 0 :: .ref q2742 :: .ref q2743 :: .int 0 :: .ref q2744 :: .ref q2745 :: .ref q2746 :: .ref q2747 :: .int 0 :: .ref q2748 :: .ref q2749 :: .int 0 :: .ref q2750 :: .ref q2751 :: .int 0 :: .ref q2752 :: .ref q2753 :: .int 0 :: .int 0 :: .ref q2754 :: .ref q2755 :: .ref q2756 :: .int 0 :: [])))] H := hP
  have hD : va_D A [(m0, .inr (12, (.ref q2712 :: .int 0 :: .int 0 :: .int 0 :: .int 0 :: .int 0 :: .int 0 :: .int 0 :: .int (-1) :: .int 0 :: .ref q2713 :: .ref q2714 :: .ref q2715 :: .ref q2716 :: .ref q2717 :: .ref q2718 :: .ref q2719 :: .ref q2720 :: .ref q2721 :: .ref q2722 :: .ref q2723 :: .ref q2724 :: .ref q2725 :: .int 0 :: .ref q2726 :: .ref q2727 :: .ref q2728 :: .int 0 :: .ref q2729 :: .ref q2730 :: .int 0 :: .ref q2731 :: .ref q2732 :: .ref q2733 :: .int 0 :: .int 0 :: .int 0 :: .ref q2734 :: .ref q2735 :: .int 0 :: .ref q2736 :: .ref q2737 :: .ref q2738 :: .ref q2739 :: .int 0 :: .ref q2740 :: .ref q2741 :: .int 0 :: .int 0 :: .ref q2742 :: .ref q2743 :: .int 0 :: .ref q2744 :: .ref q2745 :: .ref q2746 :: .ref q2747 :: .int 0 :: .ref q2748 :: .ref q2749 :: .int 0 :: .ref q2750 :: .ref q2751 :: .int 0 :: .ref q2752 :: .ref q2753 :: .int 0 :: .int 0 :: .ref q2754 :: .ref q2755 :: .ref q2756 :: .int 0 :: [])))] := hD
  rcases hw with ⟨c4092, hw⟩ | ⟨c4093, c4094, hw⟩ | ⟨c4095, c4096, hw⟩
  · skip
    obtain rfl : r4091 = (-2) := hw
    refine lv_aload_n hx hb dL_law_322 rfl (lv_at hl 1 rfl) ?_
    refine lv_aload_n hx hb dL_law_323 rfl (lv_at hl 3 rfl) ?_
    refine lv_iload_n hx hb dL_law_324 rfl (lv_at hl 0 rfl) ?_
    refine lv_iconst (v := 1) hx hb dL_law_325 (by decide +kernel) ?_
    refine lv_iadd hx hb dL_law_326 ?_
    refine lv_topi (fun x4097 ex4097 => ?_)
    obtain rfl : x4097 = 1 := ex4097.trans (by decide +kernel)
    refine va_sld hx hb hX hbl hbA hS (by unfold vp_in; decide) dL_law_327 ?_
    refine lv_topi (fun x4098 ex4098 => ?_)
    obtain rfl : y1 = x4098 := (ex4098.trans ey1).symm
    have hPc := hP.sub (ws' := [(m0, .inr (12, (.ref q2712 :: .int 0 :: .int 0 :: .int 0 :: .int 0 :: .int 0 :: .int 0 :: .int 0 :: .int (-1) :: .int 0 :: .ref q2713 :: .ref q2714 :: .ref q2715 :: .ref q2716 :: .ref q2717 :: .ref q2718 :: .ref q2719 :: .ref q2720 :: .ref q2721 :: .ref q2722 :: .ref q2723 :: .ref q2724 :: .ref q2725 :: .int 0 :: .ref q2726 :: .ref q2727 :: .ref q2728 :: .int 0 :: .ref q2729 :: .ref q2730 :: .int 0 :: .ref q2731 :: .ref q2732 :: .ref q2733 :: .int 0 :: .int 0 :: .int 0 :: .ref q2734 :: .ref q2735 :: .int 0 :: .ref q2736 :: .ref q2737 :: .ref q2738 :: .ref q2739 :: .int 0 :: .ref q2740 :: .ref q2741 :: .int 0 :: .int 0 :: .ref q2742 :: .ref q2743 :: .int 0 :: .ref q2744 :: .ref q2745 :: .ref q2746 :: .ref q2747 :: .int 0 :: .ref q2748 :: .ref q2749 :: .int 0 :: .ref q2750 :: .ref q2751 :: .int 0 :: .ref q2752 :: .ref q2753 :: .int 0 :: .int 0 :: .ref q2754 :: .ref q2755 :: .ref q2756 :: .int 0 :: [])))]) [0] rfl
    have hDc := hD.sub (ws' := [(m0, .inr (12, (.ref q2712 :: .int 0 :: .int 0 :: .int 0 :: .int 0 :: .int 0 :: .int 0 :: .int 0 :: .int (-1) :: .int 0 :: .ref q2713 :: .ref q2714 :: .ref q2715 :: .ref q2716 :: .ref q2717 :: .ref q2718 :: .ref q2719 :: .ref q2720 :: .ref q2721 :: .ref q2722 :: .ref q2723 :: .ref q2724 :: .ref q2725 :: .int 0 :: .ref q2726 :: .ref q2727 :: .ref q2728 :: .int 0 :: .ref q2729 :: .ref q2730 :: .int 0 :: .ref q2731 :: .ref q2732 :: .ref q2733 :: .int 0 :: .int 0 :: .int 0 :: .ref q2734 :: .ref q2735 :: .int 0 :: .ref q2736 :: .ref q2737 :: .ref q2738 :: .ref q2739 :: .int 0 :: .ref q2740 :: .ref q2741 :: .int 0 :: .int 0 :: .ref q2742 :: .ref q2743 :: .int 0 :: .ref q2744 :: .ref q2745 :: .ref q2746 :: .ref q2747 :: .int 0 :: .ref q2748 :: .ref q2749 :: .int 0 :: .ref q2750 :: .ref q2751 :: .int 0 :: .ref q2752 :: .ref q2753 :: .int 0 :: .int 0 :: .ref q2754 :: .ref q2755 :: .ref q2756 :: .int 0 :: [])))]) [0] (by decide +kernel) rfl
    have hKc := hK.sub (tys' := []) [] rfl
    have hFc := va_free (wc := [(m0, .inr (12, (.ref q2712 :: .int 0 :: .int 0 :: .int 0 :: .int 0 :: .int 0 :: .int 0 :: .int 0 :: .int (-1) :: .int 0 :: .ref q2713 :: .ref q2714 :: .ref q2715 :: .ref q2716 :: .ref q2717 :: .ref q2718 :: .ref q2719 :: .ref q2720 :: .ref q2721 :: .ref q2722 :: .ref q2723 :: .ref q2724 :: .ref q2725 :: .int 0 :: .ref q2726 :: .ref q2727 :: .ref q2728 :: .int 0 :: .ref q2729 :: .ref q2730 :: .int 0 :: .ref q2731 :: .ref q2732 :: .ref q2733 :: .int 0 :: .int 0 :: .int 0 :: .ref q2734 :: .ref q2735 :: .int 0 :: .ref q2736 :: .ref q2737 :: .ref q2738 :: .ref q2739 :: .int 0 :: .ref q2740 :: .ref q2741 :: .int 0 :: .int 0 :: .ref q2742 :: .ref q2743 :: .int 0 :: .ref q2744 :: .ref q2745 :: .ref q2746 :: .ref q2747 :: .int 0 :: .ref q2748 :: .ref q2749 :: .int 0 :: .ref q2750 :: .ref q2751 :: .int 0 :: .ref q2752 :: .ref q2753 :: .int 0 :: .int 0 :: .ref q2754 :: .ref q2755 :: .ref q2756 :: .int 0 :: [])))]) hD hS hA [0] rfl
    refine va_calli (va_runV (As := [.int y1]) (rest := [.int (-2)]) ⟨hx, hb, hml, hown, hts⟩ (c_X12_stage_0 l dC dI H.size m0 q2712 q2713 q2714 q2715 q2716 q2717 q2718 q2719 q2720 q2721 q2722 q2723 q2724 q2725 q2726 q2727 q2728 q2729 q2730 q2731 q2732 q2733 q2734 q2735 q2736 q2737 q2738 q2739 q2740 q2741 q2742 q2743 q2744 q2745 q2746 q2747 q2748 q2749 q2750 q2751 q2752 q2753 q2754 q2755 q2756 y1) (cwV 1 hts gv_L_law_X12_stage_39 rfl rfl rfl (by decide +kernel) ⟨Nat.le_of_ble_eq_true rfl, Nat.le_of_ble_eq_true rfl⟩) ⟨fun a U g mk q => by obtain ⟨q0, q1, qP, qK, qD⟩ := q; exact ⟨q0, q1, qP, va_K.moved (u := U) (U := U.calling g mk a) (Vm.Alike.refl U.vm) qK, qD⟩, va_recv hKc hPc (ci := 12) (q0 := 0) rfl rfl, fun U hU hW => ⟨rfl, by rw [hU], by rw [hU]; exact hPc, va_K.moved hW.alike hKc, hDc.weaken (fun _ _ _ _ => trivial)⟩⟩ rfl rfl hl.1 rfl (lv_room (Nat.le_of_ble_eq_true rfl)) dL_law_328 ⟨Nat.le_of_ble_eq_true rfl, Nat.le_of_ble_eq_true rfl⟩) hS (fun q _ h => hFc q h) hFc (fun r4106 u t H1 locs ht hvm hw hB hz1 hk1 hS => ?_)
    obtain ⟨hP1, hK1, hD1⟩ := hB
    rw [ht] at hP1
    have hK1 := va_K.moved hvm.symm hK1
    obtain ⟨hP, hD⟩ := va_join (wr := []) (w1 := []) hP hD [0] [] rfl rfl (by decide +kernel) (by decide +kernel) hk1 hFc hP1 hD1
    have hK := (hK.sub (tys' := []) [] rfl).app hK1
    generalize H1 = H at hP hS ⊢
    have hK : va_K (dC, dI) vwCl [] s := hK
    have hP : va_P (dC, dI) vwCl [] H := hP
    have hD : va_D A [] := hD
    rcases hw with ⟨c4107, hw⟩ | ⟨c4108, c4109, hw⟩ | ⟨c4110, c4111, hw⟩
    · skip
      obtain rfl : r4106 = (-2) := hw
      refine lv_icmp_eq (tgt := 833) hx hb dL_law_331 (by decide +kernel) (fun _ => ?_) (fun h => absurd (by decide +kernel) h)
      refine lv_iinc (v := 6) (lv' := [(3, .int 6), (2, .ref m0), (1, .ref x0), (0, .ref b)]) hx hb dL_law_833 hl (k := 0) rfl (by decide +kernel) (by decide +kernel) rfl (fun ls hl => ?_)
      refine lv_goto (tgt := 18) hx hb dL_law_836 (by decide +kernel) ?_
      refine lv_iload_n hx hb dL_law_18 rfl (lv_at hl 0 rfl) ?_
      refine lv_aload_n hx hb dL_law_19 rfl (lv_at hl 3 rfl) ?_
      refine va_slen hx hb hX hbl hbA hS dL_law_20 ?_
      refine lv_topi (fun x4112 ex4112 => ?_)
      obtain rfl : x4112 = 6 := ex4112.trans (by decide +kernel)
      refine lv_bipush (v := 6) hx hb dL_law_21 (by decide +kernel) ?_
      refine lv_isub hx hb dL_law_23 ?_
      refine lv_topi (fun x4113 ex4113 => ?_)
      obtain rfl : x4113 = 0 := ex4113.trans (by decide +kernel)
      refine lv_icmp_gt (tgt := 839) hx hb dL_law_24 (by decide +kernel) (fun _ => ?_) (fun h => absurd (by decide +kernel) h)
      refine lv_iconst (v := 1) hx hb dL_law_839 (by decide +kernel) ?_
      refine va_forget (fun q hq => hAl _ (hS.2.2 q hq)) ?_
      refine W.widen (k := 600000) (n := 7302250) (by omega) (by omega) ?_
      exact lw_ret hx hb hr hlocks dL_law_840
    · skip
      obtain rfl : r4106 = (-2) := hw
      exfalso
      simp only [z_lt, z_le, z_eqi, zl_m2, zl_m1, zl_0, zl_1, zl_2, zl_50, zl_100000] at c4092 c4108 c4109
      omega
    · skip
      obtain rfl : r4106 = 0 := hw
      exfalso
      simp only [z_lt, z_le, z_eqi, zl_m2, zl_m1, zl_0, zl_1, zl_2, zl_50, zl_100000] at c4092 c4110 c4111
      omega
  · skip
    obtain rfl : r4091 = 0 := hw
    refine lv_aload_n hx hb dL_law_322 rfl (lv_at hl 1 rfl) ?_
    refine lv_aload_n hx hb dL_law_323 rfl (lv_at hl 3 rfl) ?_
    refine lv_iload_n hx hb dL_law_324 rfl (lv_at hl 0 rfl) ?_
    refine lv_iconst (v := 1) hx hb dL_law_325 (by decide +kernel) ?_
    refine lv_iadd hx hb dL_law_326 ?_
    refine lv_topi (fun x4114 ex4114 => ?_)
    obtain rfl : x4114 = 1 := ex4114.trans (by decide +kernel)
    refine va_sld hx hb hX hbl hbA hS (by unfold vp_in; decide) dL_law_327 ?_
    refine lv_topi (fun x4115 ex4115 => ?_)
    obtain rfl : y1 = x4115 := (ex4115.trans ey1).symm
    have hPc := hP.sub (ws' := [(m0, .inr (12, (.ref q2712 :: .int 0 :: .int 0 :: .int 0 :: .int 0 :: .int 0 :: .int 0 :: .int 0 :: .int (-1) :: .int 0 :: .ref q2713 :: .ref q2714 :: .ref q2715 :: .ref q2716 :: .ref q2717 :: .ref q2718 :: .ref q2719 :: .ref q2720 :: .ref q2721 :: .ref q2722 :: .ref q2723 :: .ref q2724 :: .ref q2725 :: .int 0 :: .ref q2726 :: .ref q2727 :: .ref q2728 :: .int 0 :: .ref q2729 :: .ref q2730 :: .int 0 :: .ref q2731 :: .ref q2732 :: .ref q2733 :: .int 0 :: .int 0 :: .int 0 :: .ref q2734 :: .ref q2735 :: .int 0 :: .ref q2736 :: .ref q2737 :: .ref q2738 :: .ref q2739 :: .int 0 :: .ref q2740 :: .ref q2741 :: .int 0 :: .int 0 :: .ref q2742 :: .ref q2743 :: .int 0 :: .ref q2744 :: .ref q2745 :: .ref q2746 :: .ref q2747 :: .int 0 :: .ref q2748 :: .ref q2749 :: .int 0 :: .ref q2750 :: .ref q2751 :: .int 0 :: .ref q2752 :: .ref q2753 :: .int 0 :: .int 0 :: .ref q2754 :: .ref q2755 :: .ref q2756 :: .int 0 :: [])))]) [0] rfl
    have hDc := hD.sub (ws' := [(m0, .inr (12, (.ref q2712 :: .int 0 :: .int 0 :: .int 0 :: .int 0 :: .int 0 :: .int 0 :: .int 0 :: .int (-1) :: .int 0 :: .ref q2713 :: .ref q2714 :: .ref q2715 :: .ref q2716 :: .ref q2717 :: .ref q2718 :: .ref q2719 :: .ref q2720 :: .ref q2721 :: .ref q2722 :: .ref q2723 :: .ref q2724 :: .ref q2725 :: .int 0 :: .ref q2726 :: .ref q2727 :: .ref q2728 :: .int 0 :: .ref q2729 :: .ref q2730 :: .int 0 :: .ref q2731 :: .ref q2732 :: .ref q2733 :: .int 0 :: .int 0 :: .int 0 :: .ref q2734 :: .ref q2735 :: .int 0 :: .ref q2736 :: .ref q2737 :: .ref q2738 :: .ref q2739 :: .int 0 :: .ref q2740 :: .ref q2741 :: .int 0 :: .int 0 :: .ref q2742 :: .ref q2743 :: .int 0 :: .ref q2744 :: .ref q2745 :: .ref q2746 :: .ref q2747 :: .int 0 :: .ref q2748 :: .ref q2749 :: .int 0 :: .ref q2750 :: .ref q2751 :: .int 0 :: .ref q2752 :: .ref q2753 :: .int 0 :: .int 0 :: .ref q2754 :: .ref q2755 :: .ref q2756 :: .int 0 :: [])))]) [0] (by decide +kernel) rfl
    have hKc := hK.sub (tys' := []) [] rfl
    have hFc := va_free (wc := [(m0, .inr (12, (.ref q2712 :: .int 0 :: .int 0 :: .int 0 :: .int 0 :: .int 0 :: .int 0 :: .int 0 :: .int (-1) :: .int 0 :: .ref q2713 :: .ref q2714 :: .ref q2715 :: .ref q2716 :: .ref q2717 :: .ref q2718 :: .ref q2719 :: .ref q2720 :: .ref q2721 :: .ref q2722 :: .ref q2723 :: .ref q2724 :: .ref q2725 :: .int 0 :: .ref q2726 :: .ref q2727 :: .ref q2728 :: .int 0 :: .ref q2729 :: .ref q2730 :: .int 0 :: .ref q2731 :: .ref q2732 :: .ref q2733 :: .int 0 :: .int 0 :: .int 0 :: .ref q2734 :: .ref q2735 :: .int 0 :: .ref q2736 :: .ref q2737 :: .ref q2738 :: .ref q2739 :: .int 0 :: .ref q2740 :: .ref q2741 :: .int 0 :: .int 0 :: .ref q2742 :: .ref q2743 :: .int 0 :: .ref q2744 :: .ref q2745 :: .ref q2746 :: .ref q2747 :: .int 0 :: .ref q2748 :: .ref q2749 :: .int 0 :: .ref q2750 :: .ref q2751 :: .int 0 :: .ref q2752 :: .ref q2753 :: .int 0 :: .int 0 :: .ref q2754 :: .ref q2755 :: .ref q2756 :: .int 0 :: [])))]) hD hS hA [0] rfl
    refine va_calli (va_runV (As := [.int y1]) (rest := [.int 0]) ⟨hx, hb, hml, hown, hts⟩ (c_X12_stage_0 l dC dI H.size m0 q2712 q2713 q2714 q2715 q2716 q2717 q2718 q2719 q2720 q2721 q2722 q2723 q2724 q2725 q2726 q2727 q2728 q2729 q2730 q2731 q2732 q2733 q2734 q2735 q2736 q2737 q2738 q2739 q2740 q2741 q2742 q2743 q2744 q2745 q2746 q2747 q2748 q2749 q2750 q2751 q2752 q2753 q2754 q2755 q2756 y1) (cwV 1 hts gv_L_law_X12_stage_39 rfl rfl rfl (by decide +kernel) ⟨Nat.le_of_ble_eq_true rfl, Nat.le_of_ble_eq_true rfl⟩) ⟨fun a U g mk q => by obtain ⟨q0, q1, qP, qK, qD⟩ := q; exact ⟨q0, q1, qP, va_K.moved (u := U) (U := U.calling g mk a) (Vm.Alike.refl U.vm) qK, qD⟩, va_recv hKc hPc (ci := 12) (q0 := 0) rfl rfl, fun U hU hW => ⟨rfl, by rw [hU], by rw [hU]; exact hPc, va_K.moved hW.alike hKc, hDc.weaken (fun _ _ _ _ => trivial)⟩⟩ rfl rfl hl.1 rfl (lv_room (Nat.le_of_ble_eq_true rfl)) dL_law_328 ⟨Nat.le_of_ble_eq_true rfl, Nat.le_of_ble_eq_true rfl⟩) hS (fun q _ h => hFc q h) hFc (fun r4123 u t H1 locs ht hvm hw hB hz1 hk1 hS => ?_)
    obtain ⟨hP1, hK1, hD1⟩ := hB
    rw [ht] at hP1
    have hK1 := va_K.moved hvm.symm hK1
    obtain ⟨hP, hD⟩ := va_join (wr := []) (w1 := []) hP hD [0] [] rfl rfl (by decide +kernel) (by decide +kernel) hk1 hFc hP1 hD1
    have hK := (hK.sub (tys' := []) [] rfl).app hK1
    generalize H1 = H at hP hS ⊢
    have hK : va_K (dC, dI) vwCl [] s := hK
    have hP : va_P (dC, dI) vwCl [] H := hP
    have hD : va_D A [] := hD
    rcases hw with ⟨c4124, hw⟩ | ⟨c4125, c4126, hw⟩ | ⟨c4127, c4128, hw⟩
    · skip
      obtain rfl : r4123 = (-2) := hw
      exfalso
      simp only [z_lt, z_le, z_eqi, zl_m2, zl_m1, zl_0, zl_1, zl_2, zl_50, zl_100000] at c4093 c4094 c4124
      omega
    · skip
      obtain rfl : r4123 = (-2) := hw
      exfalso
      simp only [z_lt, z_le, z_eqi, zl_m2, zl_m1, zl_0, zl_1, zl_2, zl_50, zl_100000] at c4093 c4094 c4125 c4126
      omega
    · skip
      obtain rfl : r4123 = 0 := hw
      refine lv_icmp_eq (tgt := 833) hx hb dL_law_331 (by decide +kernel) (fun _ => ?_) (fun h => absurd (by decide +kernel) h)
      refine lv_iinc (v := 6) (lv' := [(3, .int 6), (2, .ref m0), (1, .ref x0), (0, .ref b)]) hx hb dL_law_833 hl (k := 0) rfl (by decide +kernel) (by decide +kernel) rfl (fun ls hl => ?_)
      refine lv_goto (tgt := 18) hx hb dL_law_836 (by decide +kernel) ?_
      refine lv_iload_n hx hb dL_law_18 rfl (lv_at hl 0 rfl) ?_
      refine lv_aload_n hx hb dL_law_19 rfl (lv_at hl 3 rfl) ?_
      refine va_slen hx hb hX hbl hbA hS dL_law_20 ?_
      refine lv_topi (fun x4129 ex4129 => ?_)
      obtain rfl : x4129 = 6 := ex4129.trans (by decide +kernel)
      refine lv_bipush (v := 6) hx hb dL_law_21 (by decide +kernel) ?_
      refine lv_isub hx hb dL_law_23 ?_
      refine lv_topi (fun x4130 ex4130 => ?_)
      obtain rfl : x4130 = 0 := ex4130.trans (by decide +kernel)
      refine lv_icmp_gt (tgt := 839) hx hb dL_law_24 (by decide +kernel) (fun _ => ?_) (fun h => absurd (by decide +kernel) h)
      refine lv_iconst (v := 1) hx hb dL_law_839 (by decide +kernel) ?_
      refine va_forget (fun q hq => hAl _ (hS.2.2 q hq)) ?_
      refine W.widen (k := 600000) (n := 7302250) (by omega) (by omega) ?_
      exact lw_ret hx hb hr hlocks dL_law_840
  · skip
    obtain rfl : r4091 = (-2) := hw
    refine lv_aload_n hx hb dL_law_322 rfl (lv_at hl 1 rfl) ?_
    refine lv_aload_n hx hb dL_law_323 rfl (lv_at hl 3 rfl) ?_
    refine lv_iload_n hx hb dL_law_324 rfl (lv_at hl 0 rfl) ?_
    refine lv_iconst (v := 1) hx hb dL_law_325 (by decide +kernel) ?_
    refine lv_iadd hx hb dL_law_326 ?_
    refine lv_topi (fun x4131 ex4131 => ?_)
    obtain rfl : x4131 = 1 := ex4131.trans (by decide +kernel)
    refine va_sld hx hb hX hbl hbA hS (by unfold vp_in; decide) dL_law_327 ?_
    refine lv_topi (fun x4132 ex4132 => ?_)
    obtain rfl : y1 = x4132 := (ex4132.trans ey1).symm
    have hPc := hP.sub (ws' := [(m0, .inr (12, (.ref q2712 :: .int 0 :: .int 0 :: .int 0 :: .int 0 :: .int 0 :: .int 0 :: .int 0 :: .int (-1) :: .int 0 :: .ref q2713 :: .ref q2714 :: .ref q2715 :: .ref q2716 :: .ref q2717 :: .ref q2718 :: .ref q2719 :: .ref q2720 :: .ref q2721 :: .ref q2722 :: .ref q2723 :: .ref q2724 :: .ref q2725 :: .int 0 :: .ref q2726 :: .ref q2727 :: .ref q2728 :: .int 0 :: .ref q2729 :: .ref q2730 :: .int 0 :: .ref q2731 :: .ref q2732 :: .ref q2733 :: .int 0 :: .int 0 :: .int 0 :: .ref q2734 :: .ref q2735 :: .int 0 :: .ref q2736 :: .ref q2737 :: .ref q2738 :: .ref q2739 :: .int 0 :: .ref q2740 :: .ref q2741 :: .int 0 :: .int 0 :: .ref q2742 :: .ref q2743 :: .int 0 :: .ref q2744 :: .ref q2745 :: .ref q2746 :: .ref q2747 :: .int 0 :: .ref q2748 :: .ref q2749 :: .int 0 :: .ref q2750 :: .ref q2751 :: .int 0 :: .ref q2752 :: .ref q2753 :: .int 0 :: .int 0 :: .ref q2754 :: .ref q2755 :: .ref q2756 :: .int 0 :: [])))]) [0] rfl
    have hDc := hD.sub (ws' := [(m0, .inr (12, (.ref q2712 :: .int 0 :: .int 0 :: .int 0 :: .int 0 :: .int 0 :: .int 0 :: .int 0 :: .int (-1) :: .int 0 :: .ref q2713 :: .ref q2714 :: .ref q2715 :: .ref q2716 :: .ref q2717 :: .ref q2718 :: .ref q2719 :: .ref q2720 :: .ref q2721 :: .ref q2722 :: .ref q2723 :: .ref q2724 :: .ref q2725 :: .int 0 :: .ref q2726 :: .ref q2727 :: .ref q2728 :: .int 0 :: .ref q2729 :: .ref q2730 :: .int 0 :: .ref q2731 :: .ref q2732 :: .ref q2733 :: .int 0 :: .int 0 :: .int 0 :: .ref q2734 :: .ref q2735 :: .int 0 :: .ref q2736 :: .ref q2737 :: .ref q2738 :: .ref q2739 :: .int 0 :: .ref q2740 :: .ref q2741 :: .int 0 :: .int 0 :: .ref q2742 :: .ref q2743 :: .int 0 :: .ref q2744 :: .ref q2745 :: .ref q2746 :: .ref q2747 :: .int 0 :: .ref q2748 :: .ref q2749 :: .int 0 :: .ref q2750 :: .ref q2751 :: .int 0 :: .ref q2752 :: .ref q2753 :: .int 0 :: .int 0 :: .ref q2754 :: .ref q2755 :: .ref q2756 :: .int 0 :: [])))]) [0] (by decide +kernel) rfl
    have hKc := hK.sub (tys' := []) [] rfl
    have hFc := va_free (wc := [(m0, .inr (12, (.ref q2712 :: .int 0 :: .int 0 :: .int 0 :: .int 0 :: .int 0 :: .int 0 :: .int 0 :: .int (-1) :: .int 0 :: .ref q2713 :: .ref q2714 :: .ref q2715 :: .ref q2716 :: .ref q2717 :: .ref q2718 :: .ref q2719 :: .ref q2720 :: .ref q2721 :: .ref q2722 :: .ref q2723 :: .ref q2724 :: .ref q2725 :: .int 0 :: .ref q2726 :: .ref q2727 :: .ref q2728 :: .int 0 :: .ref q2729 :: .ref q2730 :: .int 0 :: .ref q2731 :: .ref q2732 :: .ref q2733 :: .int 0 :: .int 0 :: .int 0 :: .ref q2734 :: .ref q2735 :: .int 0 :: .ref q2736 :: .ref q2737 :: .ref q2738 :: .ref q2739 :: .int 0 :: .ref q2740 :: .ref q2741 :: .int 0 :: .int 0 :: .ref q2742 :: .ref q2743 :: .int 0 :: .ref q2744 :: .ref q2745 :: .ref q2746 :: .ref q2747 :: .int 0 :: .ref q2748 :: .ref q2749 :: .int 0 :: .ref q2750 :: .ref q2751 :: .int 0 :: .ref q2752 :: .ref q2753 :: .int 0 :: .int 0 :: .ref q2754 :: .ref q2755 :: .ref q2756 :: .int 0 :: [])))]) hD hS hA [0] rfl
    refine va_calli (va_runV (As := [.int y1]) (rest := [.int (-2)]) ⟨hx, hb, hml, hown, hts⟩ (c_X12_stage_0 l dC dI H.size m0 q2712 q2713 q2714 q2715 q2716 q2717 q2718 q2719 q2720 q2721 q2722 q2723 q2724 q2725 q2726 q2727 q2728 q2729 q2730 q2731 q2732 q2733 q2734 q2735 q2736 q2737 q2738 q2739 q2740 q2741 q2742 q2743 q2744 q2745 q2746 q2747 q2748 q2749 q2750 q2751 q2752 q2753 q2754 q2755 q2756 y1) (cwV 1 hts gv_L_law_X12_stage_39 rfl rfl rfl (by decide +kernel) ⟨Nat.le_of_ble_eq_true rfl, Nat.le_of_ble_eq_true rfl⟩) ⟨fun a U g mk q => by obtain ⟨q0, q1, qP, qK, qD⟩ := q; exact ⟨q0, q1, qP, va_K.moved (u := U) (U := U.calling g mk a) (Vm.Alike.refl U.vm) qK, qD⟩, va_recv hKc hPc (ci := 12) (q0 := 0) rfl rfl, fun U hU hW => ⟨rfl, by rw [hU], by rw [hU]; exact hPc, va_K.moved hW.alike hKc, hDc.weaken (fun _ _ _ _ => trivial)⟩⟩ rfl rfl hl.1 rfl (lv_room (Nat.le_of_ble_eq_true rfl)) dL_law_328 ⟨Nat.le_of_ble_eq_true rfl, Nat.le_of_ble_eq_true rfl⟩) hS (fun q _ h => hFc q h) hFc (fun r4140 u t H1 locs ht hvm hw hB hz1 hk1 hS => ?_)
    obtain ⟨hP1, hK1, hD1⟩ := hB
    rw [ht] at hP1
    have hK1 := va_K.moved hvm.symm hK1
    obtain ⟨hP, hD⟩ := va_join (wr := []) (w1 := []) hP hD [0] [] rfl rfl (by decide +kernel) (by decide +kernel) hk1 hFc hP1 hD1
    have hK := (hK.sub (tys' := []) [] rfl).app hK1
    generalize H1 = H at hP hS ⊢
    have hK : va_K (dC, dI) vwCl [] s := hK
    have hP : va_P (dC, dI) vwCl [] H := hP
    have hD : va_D A [] := hD
    rcases hw with ⟨c4141, hw⟩ | ⟨c4142, c4143, hw⟩ | ⟨c4144, c4145, hw⟩
    · skip
      obtain rfl : r4140 = (-2) := hw
      exfalso
      simp only [z_lt, z_le, z_eqi, zl_m2, zl_m1, zl_0, zl_1, zl_2, zl_50, zl_100000] at c4095 c4096 c4141
      omega
    · skip
      obtain rfl : r4140 = (-2) := hw
      refine lv_icmp_eq (tgt := 833) hx hb dL_law_331 (by decide +kernel) (fun _ => ?_) (fun h => absurd (by decide +kernel) h)
      refine lv_iinc (v := 6) (lv' := [(3, .int 6), (2, .ref m0), (1, .ref x0), (0, .ref b)]) hx hb dL_law_833 hl (k := 0) rfl (by decide +kernel) (by decide +kernel) rfl (fun ls hl => ?_)
      refine lv_goto (tgt := 18) hx hb dL_law_836 (by decide +kernel) ?_
      refine lv_iload_n hx hb dL_law_18 rfl (lv_at hl 0 rfl) ?_
      refine lv_aload_n hx hb dL_law_19 rfl (lv_at hl 3 rfl) ?_
      refine va_slen hx hb hX hbl hbA hS dL_law_20 ?_
      refine lv_topi (fun x4146 ex4146 => ?_)
      obtain rfl : x4146 = 6 := ex4146.trans (by decide +kernel)
      refine lv_bipush (v := 6) hx hb dL_law_21 (by decide +kernel) ?_
      refine lv_isub hx hb dL_law_23 ?_
      refine lv_topi (fun x4147 ex4147 => ?_)
      obtain rfl : x4147 = 0 := ex4147.trans (by decide +kernel)
      refine lv_icmp_gt (tgt := 839) hx hb dL_law_24 (by decide +kernel) (fun _ => ?_) (fun h => absurd (by decide +kernel) h)
      refine lv_iconst (v := 1) hx hb dL_law_839 (by decide +kernel) ?_
      refine va_forget (fun q hq => hAl _ (hS.2.2 q hq)) ?_
      refine W.widen (k := 600000) (n := 7302250) (by omega) (by omega) ?_
      exact lw_ret hx hb hr hlocks dL_law_840
    · skip
      obtain rfl : r4140 = 0 := hw
      exfalso
      simp only [z_lt, z_le, z_eqi, zl_m2, zl_m1, zl_0, zl_1, zl_2, zl_50, zl_100000] at c4095 c4096 c4144 c4145
      omega
set_option maxHeartbeats 4000000 in
set_option maxRecDepth 100000 in
theorem law_6 {p : Program} {e : Env} {s : State} {m : MethodId} {below : List Frame} {meth : Method} {c : Code} (l : Launch) {b : Nat} {xs : Nat → Int32} {A : Nat → Prop} {dC : Nat → ClassId} {dI : Nat → Nat → Nat} (C0 : lw_At p s m meth c b 6 xs) (hA : ∀ q : Nat, s.heap.size ≤ q → A q) (hbA : ¬ A b) (hAl : ∀ q : Nat, A q → s.heap.size ≤ q) (hE : EnvOK s) {y1 : Int32} (ey1 : xs (Int32.toNatClampNeg 1) = y1) {y2 : Int32} (ey2 : xs (Int32.toNatClampNeg 2) = y2) {x0 : Nat} {q1111 : Nat} {q1112 : Nat} {q1113 : Nat} {q1114 : Nat} {q1115 : Nat} {q1116 : Nat} {q1117 : Nat} {q1118 : Nat} {q1119 : Nat} {q1120 : Nat} {q1121 : Nat} {q1122 : Nat} {q1123 : Nat} {q1124 : Nat} {m0 : Nat} {q2712 : Nat} {q2713 : Nat} {q2714 : Nat} {q2715 : Nat} {q2716 : Nat} {q2717 : Nat} {q2718 : Nat} {q2719 : Nat} {q2720 : Nat} {q2721 : Nat} {q2722 : Nat} {q2723 : Nat} {q2724 : Nat} {q2725 : Nat} {q2726 : Nat} {q2727 : Nat} {q2728 : Nat} {q2729 : Nat} {q2730 : Nat} {q2731 : Nat} {q2732 : Nat} {q2733 : Nat} {q2734 : Nat} {q2735 : Nat} {q2736 : Nat} {q2737 : Nat} {q2738 : Nat} {q2739 : Nat} {q2740 : Nat} {q2741 : Nat} {q2742 : Nat} {q2743 : Nat} {q2744 : Nat} {q2745 : Nat} {q2746 : Nat} {q2747 : Nat} {q2748 : Nat} {q2749 : Nat} {q2750 : Nat} {q2751 : Nat} {q2752 : Nat} {q2753 : Nat} {q2754 : Nat} {q2755 : Nat} {q2756 : Nat} {H : Heap} {locs : List Loc} {ls : Array Slot} (hK : va_K (dC, dI) vwCl [] s) (hP : va_P (dC, dI) vwCl [(x0, .inr (11, [.ref q1111, .ref q1112, .int 0, .int (-1), .ref q1113, .ref q1114, .ref q1115, .ref q1116, .ref q1117, .ref q1118, .ref q1119, .int 0, .ref q1120, .int 0, .ref q1121, .ref q1122, .ref q1123])), (q1111, .inr (7, [.ref q1124, .int 0])), (m0, .inr (12, (.ref q2712 :: .int 0 :: .int 0 :: .int 0 :: .int 0 :: .int 0 :: .int 0 :: .int 0 :: .int (-1) :: .int 0 :: .ref q2713 :: .ref q2714 :: .ref q2715 :: .ref q2716 :: .ref q2717 :: .ref q2718 :: .ref q2719 :: .ref q2720 :: .ref q2721 :: .ref q2722 :: .ref q2723 :: .ref q2724 :: .ref q2725 :: .int 0 :: .ref q2726 :: .ref q2727 :: .ref q2728 :: .int 0 :: .ref q2729 :: .ref q2730 :: .int 0 :: .ref q2731 :: .ref q2732 :: .ref q2733 :: .int 0 :: .int 0 :: .int 0 :: .ref q2734 :: .ref q2735 :: .int 0 :: .ref q2736 :: .ref q2737 :: .ref q2738 :: .ref q2739 :: .int 0 :: .ref q2740 :: .ref q2741 :: .int 0 :: .int 0 :: .ref q2742 :: .ref q2743 :: .int 0 :: .ref q2744 :: .ref q2745 :: .ref q2746 :: .ref q2747 :: .int 0 :: .ref q2748 :: .ref q2749 :: .int 0 :: .ref q2750 :: .ref q2751 :: .int 0 :: .ref q2752 :: .ref q2753 :: .int 0 :: .int 0 :: .ref q2754 :: .ref q2755 :: .ref q2756 :: .int 0 :: [])))] H) (hD : va_D A [(x0, .inr (11, [.ref q1111, .ref q1112, .int 0, .int (-1), .ref q1113, .ref q1114, .ref q1115, .ref q1116, .ref q1117, .ref q1118, .ref q1119, .int 0, .ref q1120, .int 0, .ref q1121, .ref q1122, .ref q1123])), (q1111, .inr (7, [.ref q1124, .int 0])), (m0, .inr (12, (.ref q2712 :: .int 0 :: .int 0 :: .int 0 :: .int 0 :: .int 0 :: .int 0 :: .int 0 :: .int (-1) :: .int 0 :: .ref q2713 :: .ref q2714 :: .ref q2715 :: .ref q2716 :: .ref q2717 :: .ref q2718 :: .ref q2719 :: .ref q2720 :: .ref q2721 :: .ref q2722 :: .ref q2723 :: .ref q2724 :: .ref q2725 :: .int 0 :: .ref q2726 :: .ref q2727 :: .ref q2728 :: .int 0 :: .ref q2729 :: .ref q2730 :: .int 0 :: .ref q2731 :: .ref q2732 :: .ref q2733 :: .int 0 :: .int 0 :: .int 0 :: .ref q2734 :: .ref q2735 :: .int 0 :: .ref q2736 :: .ref q2737 :: .ref q2738 :: .ref q2739 :: .int 0 :: .ref q2740 :: .ref q2741 :: .int 0 :: .int 0 :: .ref q2742 :: .ref q2743 :: .int 0 :: .ref q2744 :: .ref q2745 :: .ref q2746 :: .ref q2747 :: .int 0 :: .ref q2748 :: .ref q2749 :: .int 0 :: .ref q2750 :: .ref q2751 :: .int 0 :: .ref q2752 :: .ref q2753 :: .int 0 :: .int 0 :: .ref q2754 :: .ref q2755 :: .ref q2756 :: .int 0 :: [])))]) (hS : va_S A s.heap H locs) (hl : lv_has ls 4 [(3, .int 0), (2, .ref m0), (1, .ref x0), (0, .ref b)]) : W p l e room_1 s m #[Value.ref b] below meth c H locs 126 277922 (lw_Z below #[Value.ref b] s) (F0 m 336 ls []) := by
  obtain ⟨hx, hb, hr, hml, hown, hts, hX, hbl, hlocks, hgv⟩ := C0
  have hts := fun w h => hts w (wmL_law_in w h)
  have hS : va_S A s.heap H locs := hS
  refine lv_aload_n hx hb dL_law_336 rfl (lv_at hl 2 rfl) ?_
  refine lv_aload_n hx hb dL_law_337 rfl (lv_at hl 3 rfl) ?_
  refine lv_iload_n hx hb dL_law_338 rfl (lv_at hl 0 rfl) ?_
  refine lv_iconst (v := 1) hx hb dL_law_339 (by decide +kernel) ?_
  refine lv_iadd hx hb dL_law_340 ?_
  refine lv_topi (fun x4148 ex4148 => ?_)
  obtain rfl : x4148 = 1 := ex4148.trans (by decide +kernel)
  refine va_sld hx hb hX hbl hbA hS (by unfold vp_in; decide) dL_law_341 ?_
  refine lv_topi (fun x4149 ex4149 => ?_)
  obtain rfl : y1 = x4149 := (ex4149.trans ey1).symm
  refine lv_aload_n hx hb dL_law_342 rfl (lv_at hl 3 rfl) ?_
  refine lv_iload_n hx hb dL_law_343 rfl (lv_at hl 0 rfl) ?_
  refine lv_iconst (v := 2) hx hb dL_law_344 (by decide +kernel) ?_
  refine lv_iadd hx hb dL_law_345 ?_
  refine lv_topi (fun x4150 ex4150 => ?_)
  obtain rfl : x4150 = 2 := ex4150.trans (by decide +kernel)
  refine va_sld hx hb hX hbl hbA hS (by unfold vp_in; decide) dL_law_346 ?_
  refine lv_topi (fun x4151 ex4151 => ?_)
  obtain rfl : y2 = x4151 := (ex4151.trans ey2).symm
  have hPc := hP.sub (ws' := [(x0, .inr (11, [.ref q1111, .ref q1112, .int 0, .int (-1), .ref q1113, .ref q1114, .ref q1115, .ref q1116, .ref q1117, .ref q1118, .ref q1119, .int 0, .ref q1120, .int 0, .ref q1121, .ref q1122, .ref q1123])), (q1111, .inr (7, [.ref q1124, .int 0]))]) [0, 1] rfl
  have hDc := hD.sub (ws' := [(x0, .inr (11, [.ref q1111, .ref q1112, .int 0, .int (-1), .ref q1113, .ref q1114, .ref q1115, .ref q1116, .ref q1117, .ref q1118, .ref q1119, .int 0, .ref q1120, .int 0, .ref q1121, .ref q1122, .ref q1123])), (q1111, .inr (7, [.ref q1124, .int 0]))]) [0, 1] (by decide +kernel) rfl
  have hKc := hK.sub (tys' := []) [] rfl
  have hFc := va_free (wc := [(x0, .inr (11, [.ref q1111, .ref q1112, .int 0, .int (-1), .ref q1113, .ref q1114, .ref q1115, .ref q1116, .ref q1117, .ref q1118, .ref q1119, .int 0, .ref q1120, .int 0, .ref q1121, .ref q1122, .ref q1123])), (q1111, .inr (7, [.ref q1124, .int 0]))]) hD hS hA [0, 1] rfl
  refine va_calli (va_runV (As := [.int y1, .int y2]) (rest := []) ⟨hx, hb, hml, hown, hts⟩ (c_X11_turn_0 l dC dI H.size x0 q1111 q1112 q1113 q1114 q1115 q1116 q1117 q1118 q1119 q1120 q1121 q1122 q1123 q1124 y1 y2) (cwV 2 hts gv_L_law_X11_turn_40 rfl rfl rfl (by decide +kernel) ⟨Nat.le_of_ble_eq_true rfl, Nat.le_of_ble_eq_true rfl⟩) ⟨fun a U g mk q => by obtain ⟨q0, q1, qP, qK, qD⟩ := q; exact ⟨q0, q1, qP, va_K.moved (u := U) (U := U.calling g mk a) (Vm.Alike.refl U.vm) qK, qD⟩, va_recv hKc hPc (ci := 11) (q0 := 0) rfl rfl, fun U hU hW => ⟨rfl, by rw [hU], by rw [hU]; exact hPc, va_K.moved hW.alike hKc, hDc.weaken (fun _ _ _ _ => trivial)⟩⟩ rfl rfl hl.1 rfl (lv_room (Nat.le_of_ble_eq_true rfl)) dL_law_347 ⟨Nat.le_of_ble_eq_true rfl, Nat.le_of_ble_eq_true rfl⟩) hS (fun q _ h => hFc q h) hFc (fun r4180 u t H1 locs ht hvm hw hB hz1 hk1 hS => ?_)
  obtain ⟨hP1, hK1, hD1⟩ := hB
  rw [ht] at hP1
  have hK1 := va_K.moved hvm.symm hK1
  obtain ⟨hP, hD⟩ := va_join (wr := [(m0, .inr (12, (.ref q2712 :: .int 0 :: .int 0 :: .int 0 :: .int 0 :: .int 0 :: .int 0 :: .int 0 :: .int (-1) :: .int 0 :: .ref q2713 :: .ref q2714 :: .ref q2715 :: .ref q2716 :: .ref q2717 :: .ref q2718 :: .ref q2719 :: .ref q2720 :: .ref q2721 :: .ref q2722 :: .ref q2723 :: .ref q2724 :: .ref q2725 :: .int 0 :: .ref q2726 :: .ref q2727 :: .ref q2728 :: .int 0 :: .ref q2729 :: .ref q2730 :: .int 0 :: .ref q2731 :: .ref q2732 :: .ref q2733 :: .int 0 :: .int 0 :: .int 0 :: .ref q2734 :: .ref q2735 :: .int 0 :: .ref q2736 :: .ref q2737 :: .ref q2738 :: .ref q2739 :: .int 0 :: .ref q2740 :: .ref q2741 :: .int 0 :: .int 0 :: .ref q2742 :: .ref q2743 :: .int 0 :: .ref q2744 :: .ref q2745 :: .ref q2746 :: .ref q2747 :: .int 0 :: .ref q2748 :: .ref q2749 :: .int 0 :: .ref q2750 :: .ref q2751 :: .int 0 :: .ref q2752 :: .ref q2753 :: .int 0 :: .int 0 :: .ref q2754 :: .ref q2755 :: .ref q2756 :: .int 0 :: [])))]) (w1 := []) hP hD [0, 1] [2] rfl rfl (by decide +kernel) (by decide +kernel) hk1 hFc hP1 hD1
  have hK := (hK.sub (tys' := []) [] rfl).app hK1
  generalize H1 = H at hP hS ⊢
  have hK : va_K (dC, dI) vwCl [] s := hK
  have hP : va_P (dC, dI) vwCl [(m0, .inr (12, (.ref q2712 :: .int 0 :: .int 0 :: .int 0 :: .int 0 :: .int 0 :: .int 0 :: .int 0 :: .int (-1) :: .int 0 :: .ref q2713 :: .ref q2714 :: .ref q2715 :: .ref q2716 :: .ref q2717 :: .ref q2718 :: .ref q2719 :: .ref q2720 :: .ref q2721 :: .ref q2722 :: .ref q2723 :: .ref q2724 :: .ref q2725 :: .int 0 :: .ref q2726 :: .ref q2727 :: .ref q2728 :: .int 0 :: .ref q2729 :: .ref q2730 :: .int 0 :: .ref q2731 :: .ref q2732 :: .ref q2733 :: .int 0 :: .int 0 :: .int 0 :: .ref q2734 :: .ref q2735 :: .int 0 :: .ref q2736 :: .ref q2737 :: .ref q2738 :: .ref q2739 :: .int 0 :: .ref q2740 :: .ref q2741 :: .int 0 :: .int 0 :: .ref q2742 :: .ref q2743 :: .int 0 :: .ref q2744 :: .ref q2745 :: .ref q2746 :: .ref q2747 :: .int 0 :: .ref q2748 :: .ref q2749 :: .int 0 :: .ref q2750 :: .ref q2751 :: .int 0 :: .ref q2752 :: .ref q2753 :: .int 0 :: .int 0 :: .ref q2754 :: .ref q2755 :: .ref q2756 :: .int 0 :: [])))] H := hP
  have hD : va_D A [(m0, .inr (12, (.ref q2712 :: .int 0 :: .int 0 :: .int 0 :: .int 0 :: .int 0 :: .int 0 :: .int 0 :: .int (-1) :: .int 0 :: .ref q2713 :: .ref q2714 :: .ref q2715 :: .ref q2716 :: .ref q2717 :: .ref q2718 :: .ref q2719 :: .ref q2720 :: .ref q2721 :: .ref q2722 :: .ref q2723 :: .ref q2724 :: .ref q2725 :: .int 0 :: .ref q2726 :: .ref q2727 :: .ref q2728 :: .int 0 :: .ref q2729 :: .ref q2730 :: .int 0 :: .ref q2731 :: .ref q2732 :: .ref q2733 :: .int 0 :: .int 0 :: .int 0 :: .ref q2734 :: .ref q2735 :: .int 0 :: .ref q2736 :: .ref q2737 :: .ref q2738 :: .ref q2739 :: .int 0 :: .ref q2740 :: .ref q2741 :: .int 0 :: .int 0 :: .ref q2742 :: .ref q2743 :: .int 0 :: .ref q2744 :: .ref q2745 :: .ref q2746 :: .ref q2747 :: .int 0 :: .ref q2748 :: .ref q2749 :: .int 0 :: .ref q2750 :: .ref q2751 :: .int 0 :: .ref q2752 :: .ref q2753 :: .int 0 :: .int 0 :: .ref q2754 :: .ref q2755 :: .ref q2756 :: .int 0 :: [])))] := hD
  obtain rfl : r4180 = (-2) := hw
  refine lv_aload_n hx hb dL_law_350 rfl (lv_at hl 1 rfl) ?_
  refine lv_aload_n hx hb dL_law_351 rfl (lv_at hl 3 rfl) ?_
  refine lv_iload_n hx hb dL_law_352 rfl (lv_at hl 0 rfl) ?_
  refine lv_iconst (v := 1) hx hb dL_law_353 (by decide +kernel) ?_
  refine lv_iadd hx hb dL_law_354 ?_
  refine lv_topi (fun x4181 ex4181 => ?_)
  obtain rfl : x4181 = 1 := ex4181.trans (by decide +kernel)
  refine va_sld hx hb hX hbl hbA hS (by unfold vp_in; decide) dL_law_355 ?_
  refine lv_topi (fun x4182 ex4182 => ?_)
  obtain rfl : y1 = x4182 := (ex4182.trans ey1).symm
  refine lv_aload_n hx hb dL_law_356 rfl (lv_at hl 3 rfl) ?_
  refine lv_iload_n hx hb dL_law_357 rfl (lv_at hl 0 rfl) ?_
  refine lv_iconst (v := 2) hx hb dL_law_358 (by decide +kernel) ?_
  refine lv_iadd hx hb dL_law_359 ?_
  refine lv_topi (fun x4183 ex4183 => ?_)
  obtain rfl : x4183 = 2 := ex4183.trans (by decide +kernel)
  refine va_sld hx hb hX hbl hbA hS (by unfold vp_in; decide) dL_law_360 ?_
  refine lv_topi (fun x4184 ex4184 => ?_)
  obtain rfl : y2 = x4184 := (ex4184.trans ey2).symm
  have hPc := hP.sub (ws' := [(m0, .inr (12, (.ref q2712 :: .int 0 :: .int 0 :: .int 0 :: .int 0 :: .int 0 :: .int 0 :: .int 0 :: .int (-1) :: .int 0 :: .ref q2713 :: .ref q2714 :: .ref q2715 :: .ref q2716 :: .ref q2717 :: .ref q2718 :: .ref q2719 :: .ref q2720 :: .ref q2721 :: .ref q2722 :: .ref q2723 :: .ref q2724 :: .ref q2725 :: .int 0 :: .ref q2726 :: .ref q2727 :: .ref q2728 :: .int 0 :: .ref q2729 :: .ref q2730 :: .int 0 :: .ref q2731 :: .ref q2732 :: .ref q2733 :: .int 0 :: .int 0 :: .int 0 :: .ref q2734 :: .ref q2735 :: .int 0 :: .ref q2736 :: .ref q2737 :: .ref q2738 :: .ref q2739 :: .int 0 :: .ref q2740 :: .ref q2741 :: .int 0 :: .int 0 :: .ref q2742 :: .ref q2743 :: .int 0 :: .ref q2744 :: .ref q2745 :: .ref q2746 :: .ref q2747 :: .int 0 :: .ref q2748 :: .ref q2749 :: .int 0 :: .ref q2750 :: .ref q2751 :: .int 0 :: .ref q2752 :: .ref q2753 :: .int 0 :: .int 0 :: .ref q2754 :: .ref q2755 :: .ref q2756 :: .int 0 :: [])))]) [0] rfl
  have hDc := hD.sub (ws' := [(m0, .inr (12, (.ref q2712 :: .int 0 :: .int 0 :: .int 0 :: .int 0 :: .int 0 :: .int 0 :: .int 0 :: .int (-1) :: .int 0 :: .ref q2713 :: .ref q2714 :: .ref q2715 :: .ref q2716 :: .ref q2717 :: .ref q2718 :: .ref q2719 :: .ref q2720 :: .ref q2721 :: .ref q2722 :: .ref q2723 :: .ref q2724 :: .ref q2725 :: .int 0 :: .ref q2726 :: .ref q2727 :: .ref q2728 :: .int 0 :: .ref q2729 :: .ref q2730 :: .int 0 :: .ref q2731 :: .ref q2732 :: .ref q2733 :: .int 0 :: .int 0 :: .int 0 :: .ref q2734 :: .ref q2735 :: .int 0 :: .ref q2736 :: .ref q2737 :: .ref q2738 :: .ref q2739 :: .int 0 :: .ref q2740 :: .ref q2741 :: .int 0 :: .int 0 :: .ref q2742 :: .ref q2743 :: .int 0 :: .ref q2744 :: .ref q2745 :: .ref q2746 :: .ref q2747 :: .int 0 :: .ref q2748 :: .ref q2749 :: .int 0 :: .ref q2750 :: .ref q2751 :: .int 0 :: .ref q2752 :: .ref q2753 :: .int 0 :: .int 0 :: .ref q2754 :: .ref q2755 :: .ref q2756 :: .int 0 :: [])))]) [0] (by decide +kernel) rfl
  have hKc := hK.sub (tys' := []) [] rfl
  have hFc := va_free (wc := [(m0, .inr (12, (.ref q2712 :: .int 0 :: .int 0 :: .int 0 :: .int 0 :: .int 0 :: .int 0 :: .int 0 :: .int (-1) :: .int 0 :: .ref q2713 :: .ref q2714 :: .ref q2715 :: .ref q2716 :: .ref q2717 :: .ref q2718 :: .ref q2719 :: .ref q2720 :: .ref q2721 :: .ref q2722 :: .ref q2723 :: .ref q2724 :: .ref q2725 :: .int 0 :: .ref q2726 :: .ref q2727 :: .ref q2728 :: .int 0 :: .ref q2729 :: .ref q2730 :: .int 0 :: .ref q2731 :: .ref q2732 :: .ref q2733 :: .int 0 :: .int 0 :: .int 0 :: .ref q2734 :: .ref q2735 :: .int 0 :: .ref q2736 :: .ref q2737 :: .ref q2738 :: .ref q2739 :: .int 0 :: .ref q2740 :: .ref q2741 :: .int 0 :: .int 0 :: .ref q2742 :: .ref q2743 :: .int 0 :: .ref q2744 :: .ref q2745 :: .ref q2746 :: .ref q2747 :: .int 0 :: .ref q2748 :: .ref q2749 :: .int 0 :: .ref q2750 :: .ref q2751 :: .int 0 :: .ref q2752 :: .ref q2753 :: .int 0 :: .int 0 :: .ref q2754 :: .ref q2755 :: .ref q2756 :: .int 0 :: [])))]) hD hS hA [0] rfl
  refine va_calli (va_runV (As := [.int y1, .int y2]) (rest := [.int (-2)]) ⟨hx, hb, hml, hown, hts⟩ (c_X12_turn_0 l dC dI H.size m0 q2712 q2713 q2714 q2715 q2716 q2717 q2718 q2719 q2720 q2721 q2722 q2723 q2724 q2725 q2726 q2727 q2728 q2729 q2730 q2731 q2732 q2733 q2734 q2735 q2736 q2737 q2738 q2739 q2740 q2741 q2742 q2743 q2744 q2745 q2746 q2747 q2748 q2749 q2750 q2751 q2752 q2753 q2754 q2755 q2756 y1 y2) (cwV 2 hts gv_L_law_X12_turn_43 rfl rfl rfl (by decide +kernel) ⟨Nat.le_of_ble_eq_true rfl, Nat.le_of_ble_eq_true rfl⟩) ⟨fun a U g mk q => by obtain ⟨q0, q1, qP, qK, qD⟩ := q; exact ⟨q0, q1, qP, va_K.moved (u := U) (U := U.calling g mk a) (Vm.Alike.refl U.vm) qK, qD⟩, va_recv hKc hPc (ci := 12) (q0 := 0) rfl rfl, fun U hU hW => ⟨rfl, by rw [hU], by rw [hU]; exact hPc, va_K.moved hW.alike hKc, hDc.weaken (fun _ _ _ _ => trivial)⟩⟩ rfl rfl hl.1 rfl (lv_room (Nat.le_of_ble_eq_true rfl)) dL_law_361 ⟨Nat.le_of_ble_eq_true rfl, Nat.le_of_ble_eq_true rfl⟩) hS (fun q _ h => hFc q h) hFc (fun r4185 u t H1 locs ht hvm hw hB hz1 hk1 hS => ?_)
  obtain ⟨hP1, hK1, hD1⟩ := hB
  rw [ht] at hP1
  have hK1 := va_K.moved hvm.symm hK1
  obtain ⟨hP, hD⟩ := va_join (wr := []) (w1 := []) hP hD [0] [] rfl rfl (by decide +kernel) (by decide +kernel) hk1 hFc hP1 hD1
  have hK := (hK.sub (tys' := []) [] rfl).app hK1
  generalize H1 = H at hP hS ⊢
  have hK : va_K (dC, dI) vwCl [] s := hK
  have hP : va_P (dC, dI) vwCl [] H := hP
  have hD : va_D A [] := hD
  obtain rfl : r4185 = (-2) := hw
  refine lv_icmp_eq (tgt := 833) hx hb dL_law_364 (by decide +kernel) (fun _ => ?_) (fun h => absurd (by decide +kernel) h)
  refine lv_iinc (v := 6) (lv' := [(3, .int 6), (2, .ref m0), (1, .ref x0), (0, .ref b)]) hx hb dL_law_833 hl (k := 0) rfl (by decide +kernel) (by decide +kernel) rfl (fun ls hl => ?_)
  refine lv_goto (tgt := 18) hx hb dL_law_836 (by decide +kernel) ?_
  refine lv_iload_n hx hb dL_law_18 rfl (lv_at hl 0 rfl) ?_
  refine lv_aload_n hx hb dL_law_19 rfl (lv_at hl 3 rfl) ?_
  refine va_slen hx hb hX hbl hbA hS dL_law_20 ?_
  refine lv_topi (fun x4186 ex4186 => ?_)
  obtain rfl : x4186 = 6 := ex4186.trans (by decide +kernel)
  refine lv_bipush (v := 6) hx hb dL_law_21 (by decide +kernel) ?_
  refine lv_isub hx hb dL_law_23 ?_
  refine lv_topi (fun x4187 ex4187 => ?_)
  obtain rfl : x4187 = 0 := ex4187.trans (by decide +kernel)
  refine lv_icmp_gt (tgt := 839) hx hb dL_law_24 (by decide +kernel) (fun _ => ?_) (fun h => absurd (by decide +kernel) h)
  refine lv_iconst (v := 1) hx hb dL_law_839 (by decide +kernel) ?_
  refine va_forget (fun q hq => hAl _ (hS.2.2 q hq)) ?_
  refine W.widen (k := 600000) (n := 7302250) (by omega) (by omega) ?_
  exact lw_ret hx hb hr hlocks dL_law_840
set_option maxHeartbeats 4000000 in
set_option maxRecDepth 100000 in
theorem law_7 {p : Program} {e : Env} {s : State} {m : MethodId} {below : List Frame} {meth : Method} {c : Code} (l : Launch) {b : Nat} {xs : Nat → Int32} {A : Nat → Prop} {dC : Nat → ClassId} {dI : Nat → Nat → Nat} (C0 : lw_At p s m meth c b 6 xs) (hA : ∀ q : Nat, s.heap.size ≤ q → A q) (hbA : ¬ A b) (hAl : ∀ q : Nat, A q → s.heap.size ≤ q) (hE : EnvOK s) {y1 : Int32} (ey1 : xs (Int32.toNatClampNeg 1) = y1) {y2 : Int32} (ey2 : xs (Int32.toNatClampNeg 2) = y2) {x0 : Nat} {q1111 : Nat} {q1112 : Nat} {q1113 : Nat} {q1114 : Nat} {q1115 : Nat} {q1116 : Nat} {q1117 : Nat} {q1118 : Nat} {q1119 : Nat} {q1120 : Nat} {q1121 : Nat} {q1122 : Nat} {q1123 : Nat} {q1160 : Nat} {q1161 : Nat} {m0 : Nat} {q2712 : Nat} {q2713 : Nat} {q2714 : Nat} {q2715 : Nat} {q2716 : Nat} {q2717 : Nat} {q2718 : Nat} {q2719 : Nat} {q2720 : Nat} {q2721 : Nat} {q2722 : Nat} {q2723 : Nat} {q2724 : Nat} {q2725 : Nat} {q2726 : Nat} {q2727 : Nat} {q2728 : Nat} {q2729 : Nat} {q2730 : Nat} {q2731 : Nat} {q2732 : Nat} {q2733 : Nat} {q2734 : Nat} {q2735 : Nat} {q2736 : Nat} {q2737 : Nat} {q2738 : Nat} {q2739 : Nat} {q2740 : Nat} {q2741 : Nat} {q2742 : Nat} {q2743 : Nat} {q2744 : Nat} {q2745 : Nat} {q2746 : Nat} {q2747 : Nat} {q2748 : Nat} {q2749 : Nat} {q2750 : Nat} {q2751 : Nat} {q2752 : Nat} {q2753 : Nat} {q2754 : Nat} {q2755 : Nat} {q2756 : Nat} {H : Heap} {locs : List Loc} {ls : Array Slot} (hK : va_K (dC, dI) vwCl [] s) (hP : va_P (dC, dI) vwCl [(x0, .inr (11, [.ref q1111, .ref q1112, .int 0, .int (-1), .ref q1113, .ref q1114, .ref q1115, .ref q1116, .ref q1117, .ref q1118, .ref q1119, .int 0, .ref q1120, .int 0, .ref q1121, .ref q1122, .ref q1123])), (q1116, .inr (10, [.int 24, .ref q1160, .ref q1161, .int 0])), (m0, .inr (12, (.ref q2712 :: .int 0 :: .int 0 :: .int 0 :: .int 0 :: .int 0 :: .int 0 :: .int 0 :: .int (-1) :: .int 0 :: .ref q2713 :: .ref q2714 :: .ref q2715 :: .ref q2716 :: .ref q2717 :: .ref q2718 :: .ref q2719 :: .ref q2720 :: .ref q2721 :: .ref q2722 :: .ref q2723 :: .ref q2724 :: .ref q2725 :: .int 0 :: .ref q2726 :: .ref q2727 :: .ref q2728 :: .int 0 :: .ref q2729 :: .ref q2730 :: .int 0 :: .ref q2731 :: .ref q2732 :: .ref q2733 :: .int 0 :: .int 0 :: .int 0 :: .ref q2734 :: .ref q2735 :: .int 0 :: .ref q2736 :: .ref q2737 :: .ref q2738 :: .ref q2739 :: .int 0 :: .ref q2740 :: .ref q2741 :: .int 0 :: .int 0 :: .ref q2742 :: .ref q2743 :: .int 0 :: .ref q2744 :: .ref q2745 :: .ref q2746 :: .ref q2747 :: .int 0 :: .ref q2748 :: .ref q2749 :: .int 0 :: .ref q2750 :: .ref q2751 :: .int 0 :: .ref q2752 :: .ref q2753 :: .int 0 :: .int 0 :: .ref q2754 :: .ref q2755 :: .ref q2756 :: .int 0 :: [])))] H) (hD : va_D A [(x0, .inr (11, [.ref q1111, .ref q1112, .int 0, .int (-1), .ref q1113, .ref q1114, .ref q1115, .ref q1116, .ref q1117, .ref q1118, .ref q1119, .int 0, .ref q1120, .int 0, .ref q1121, .ref q1122, .ref q1123])), (q1116, .inr (10, [.int 24, .ref q1160, .ref q1161, .int 0])), (m0, .inr (12, (.ref q2712 :: .int 0 :: .int 0 :: .int 0 :: .int 0 :: .int 0 :: .int 0 :: .int 0 :: .int (-1) :: .int 0 :: .ref q2713 :: .ref q2714 :: .ref q2715 :: .ref q2716 :: .ref q2717 :: .ref q2718 :: .ref q2719 :: .ref q2720 :: .ref q2721 :: .ref q2722 :: .ref q2723 :: .ref q2724 :: .ref q2725 :: .int 0 :: .ref q2726 :: .ref q2727 :: .ref q2728 :: .int 0 :: .ref q2729 :: .ref q2730 :: .int 0 :: .ref q2731 :: .ref q2732 :: .ref q2733 :: .int 0 :: .int 0 :: .int 0 :: .ref q2734 :: .ref q2735 :: .int 0 :: .ref q2736 :: .ref q2737 :: .ref q2738 :: .ref q2739 :: .int 0 :: .ref q2740 :: .ref q2741 :: .int 0 :: .int 0 :: .ref q2742 :: .ref q2743 :: .int 0 :: .ref q2744 :: .ref q2745 :: .ref q2746 :: .ref q2747 :: .int 0 :: .ref q2748 :: .ref q2749 :: .int 0 :: .ref q2750 :: .ref q2751 :: .int 0 :: .ref q2752 :: .ref q2753 :: .int 0 :: .int 0 :: .ref q2754 :: .ref q2755 :: .ref q2756 :: .int 0 :: [])))]) (hS : va_S A s.heap H locs) (hl : lv_has ls 4 [(3, .int 0), (2, .ref m0), (1, .ref x0), (0, .ref b)]) : W p l e room_1 s m #[Value.ref b] below meth c H locs 126 277922 (lw_Z below #[Value.ref b] s) (F0 m 369 ls []) := by
  obtain ⟨hx, hb, hr, hml, hown, hts, hX, hbl, hlocks, hgv⟩ := C0
  have hts := fun w h => hts w (wmL_law_in w h)
  have hS : va_S A s.heap H locs := hS
  refine lv_aload_n hx hb dL_law_369 rfl (lv_at hl 2 rfl) ?_
  refine lv_aload_n hx hb dL_law_370 rfl (lv_at hl 3 rfl) ?_
  refine lv_iload_n hx hb dL_law_371 rfl (lv_at hl 0 rfl) ?_
  refine lv_iconst (v := 1) hx hb dL_law_372 (by decide +kernel) ?_
  refine lv_iadd hx hb dL_law_373 ?_
  refine lv_topi (fun x4188 ex4188 => ?_)
  obtain rfl : x4188 = 1 := ex4188.trans (by decide +kernel)
  refine va_sld hx hb hX hbl hbA hS (by unfold vp_in; decide) dL_law_374 ?_
  refine lv_topi (fun x4189 ex4189 => ?_)
  obtain rfl : y1 = x4189 := (ex4189.trans ey1).symm
  refine lv_aload_n hx hb dL_law_375 rfl (lv_at hl 3 rfl) ?_
  refine lv_iload_n hx hb dL_law_376 rfl (lv_at hl 0 rfl) ?_
  refine lv_iconst (v := 2) hx hb dL_law_377 (by decide +kernel) ?_
  refine lv_iadd hx hb dL_law_378 ?_
  refine lv_topi (fun x4190 ex4190 => ?_)
  obtain rfl : x4190 = 2 := ex4190.trans (by decide +kernel)
  refine va_sld hx hb hX hbl hbA hS (by unfold vp_in; decide) dL_law_379 ?_
  refine lv_topi (fun x4191 ex4191 => ?_)
  obtain rfl : y2 = x4191 := (ex4191.trans ey2).symm
  have hPc := hP.sub (ws' := [(x0, .inr (11, [.ref q1111, .ref q1112, .int 0, .int (-1), .ref q1113, .ref q1114, .ref q1115, .ref q1116, .ref q1117, .ref q1118, .ref q1119, .int 0, .ref q1120, .int 0, .ref q1121, .ref q1122, .ref q1123])), (q1116, .inr (10, [.int 24, .ref q1160, .ref q1161, .int 0]))]) [0, 1] rfl
  have hDc := hD.sub (ws' := [(x0, .inr (11, [.ref q1111, .ref q1112, .int 0, .int (-1), .ref q1113, .ref q1114, .ref q1115, .ref q1116, .ref q1117, .ref q1118, .ref q1119, .int 0, .ref q1120, .int 0, .ref q1121, .ref q1122, .ref q1123])), (q1116, .inr (10, [.int 24, .ref q1160, .ref q1161, .int 0]))]) [0, 1] (by decide +kernel) rfl
  have hKc := hK.sub (tys' := []) [] rfl
  have hFc := va_free (wc := [(x0, .inr (11, [.ref q1111, .ref q1112, .int 0, .int (-1), .ref q1113, .ref q1114, .ref q1115, .ref q1116, .ref q1117, .ref q1118, .ref q1119, .int 0, .ref q1120, .int 0, .ref q1121, .ref q1122, .ref q1123])), (q1116, .inr (10, [.int 24, .ref q1160, .ref q1161, .int 0]))]) hD hS hA [0, 1] rfl
  refine va_calli (va_runV (As := [.int y1, .int y2]) (rest := []) ⟨hx, hb, hml, hown, hts⟩ (c_X11_form_0 l dC dI H.size x0 q1111 q1112 q1113 q1114 q1115 q1116 q1117 q1118 q1119 q1120 q1121 q1122 q1123 q1160 q1161 y1 y2) (cwV 2 hts gv_L_law_X11_form_44 rfl rfl rfl (by decide +kernel) ⟨Nat.le_of_ble_eq_true rfl, Nat.le_of_ble_eq_true rfl⟩) ⟨fun a U g mk q => by obtain ⟨q0, q1, qP, qK, qD⟩ := q; exact ⟨q0, q1, qP, va_K.moved (u := U) (U := U.calling g mk a) (Vm.Alike.refl U.vm) qK, qD⟩, va_recv hKc hPc (ci := 11) (q0 := 0) rfl rfl, fun U hU hW => ⟨rfl, by rw [hU], by rw [hU]; exact hPc, va_K.moved hW.alike hKc, hDc.weaken (fun _ _ _ _ => trivial)⟩⟩ rfl rfl hl.1 rfl (lv_room (Nat.le_of_ble_eq_true rfl)) dL_law_380 ⟨Nat.le_of_ble_eq_true rfl, Nat.le_of_ble_eq_true rfl⟩) hS (fun q _ h => hFc q h) hFc (fun r4194 u t H1 locs ht hvm hw hB hz1 hk1 hS => ?_)
  obtain ⟨hP1, hK1, hD1⟩ := hB
  rw [ht] at hP1
  have hK1 := va_K.moved hvm.symm hK1
  obtain ⟨hP, hD⟩ := va_join (wr := [(m0, .inr (12, (.ref q2712 :: .int 0 :: .int 0 :: .int 0 :: .int 0 :: .int 0 :: .int 0 :: .int 0 :: .int (-1) :: .int 0 :: .ref q2713 :: .ref q2714 :: .ref q2715 :: .ref q2716 :: .ref q2717 :: .ref q2718 :: .ref q2719 :: .ref q2720 :: .ref q2721 :: .ref q2722 :: .ref q2723 :: .ref q2724 :: .ref q2725 :: .int 0 :: .ref q2726 :: .ref q2727 :: .ref q2728 :: .int 0 :: .ref q2729 :: .ref q2730 :: .int 0 :: .ref q2731 :: .ref q2732 :: .ref q2733 :: .int 0 :: .int 0 :: .int 0 :: .ref q2734 :: .ref q2735 :: .int 0 :: .ref q2736 :: .ref q2737 :: .ref q2738 :: .ref q2739 :: .int 0 :: .ref q2740 :: .ref q2741 :: .int 0 :: .int 0 :: .ref q2742 :: .ref q2743 :: .int 0 :: .ref q2744 :: .ref q2745 :: .ref q2746 :: .ref q2747 :: .int 0 :: .ref q2748 :: .ref q2749 :: .int 0 :: .ref q2750 :: .ref q2751 :: .int 0 :: .ref q2752 :: .ref q2753 :: .int 0 :: .int 0 :: .ref q2754 :: .ref q2755 :: .ref q2756 :: .int 0 :: [])))]) (w1 := []) hP hD [0, 1] [2] rfl rfl (by decide +kernel) (by decide +kernel) hk1 hFc hP1 hD1
  have hK := (hK.sub (tys' := []) [] rfl).app hK1
  generalize H1 = H at hP hS ⊢
  have hK : va_K (dC, dI) vwCl [] s := hK
  have hP : va_P (dC, dI) vwCl [(m0, .inr (12, (.ref q2712 :: .int 0 :: .int 0 :: .int 0 :: .int 0 :: .int 0 :: .int 0 :: .int 0 :: .int (-1) :: .int 0 :: .ref q2713 :: .ref q2714 :: .ref q2715 :: .ref q2716 :: .ref q2717 :: .ref q2718 :: .ref q2719 :: .ref q2720 :: .ref q2721 :: .ref q2722 :: .ref q2723 :: .ref q2724 :: .ref q2725 :: .int 0 :: .ref q2726 :: .ref q2727 :: .ref q2728 :: .int 0 :: .ref q2729 :: .ref q2730 :: .int 0 :: .ref q2731 :: .ref q2732 :: .ref q2733 :: .int 0 :: .int 0 :: .int 0 :: .ref q2734 :: .ref q2735 :: .int 0 :: .ref q2736 :: .ref q2737 :: .ref q2738 :: .ref q2739 :: .int 0 :: .ref q2740 :: .ref q2741 :: .int 0 :: .int 0 :: .ref q2742 :: .ref q2743 :: .int 0 :: .ref q2744 :: .ref q2745 :: .ref q2746 :: .ref q2747 :: .int 0 :: .ref q2748 :: .ref q2749 :: .int 0 :: .ref q2750 :: .ref q2751 :: .int 0 :: .ref q2752 :: .ref q2753 :: .int 0 :: .int 0 :: .ref q2754 :: .ref q2755 :: .ref q2756 :: .int 0 :: [])))] H := hP
  have hD : va_D A [(m0, .inr (12, (.ref q2712 :: .int 0 :: .int 0 :: .int 0 :: .int 0 :: .int 0 :: .int 0 :: .int 0 :: .int (-1) :: .int 0 :: .ref q2713 :: .ref q2714 :: .ref q2715 :: .ref q2716 :: .ref q2717 :: .ref q2718 :: .ref q2719 :: .ref q2720 :: .ref q2721 :: .ref q2722 :: .ref q2723 :: .ref q2724 :: .ref q2725 :: .int 0 :: .ref q2726 :: .ref q2727 :: .ref q2728 :: .int 0 :: .ref q2729 :: .ref q2730 :: .int 0 :: .ref q2731 :: .ref q2732 :: .ref q2733 :: .int 0 :: .int 0 :: .int 0 :: .ref q2734 :: .ref q2735 :: .int 0 :: .ref q2736 :: .ref q2737 :: .ref q2738 :: .ref q2739 :: .int 0 :: .ref q2740 :: .ref q2741 :: .int 0 :: .int 0 :: .ref q2742 :: .ref q2743 :: .int 0 :: .ref q2744 :: .ref q2745 :: .ref q2746 :: .ref q2747 :: .int 0 :: .ref q2748 :: .ref q2749 :: .int 0 :: .ref q2750 :: .ref q2751 :: .int 0 :: .ref q2752 :: .ref q2753 :: .int 0 :: .int 0 :: .ref q2754 :: .ref q2755 :: .ref q2756 :: .int 0 :: [])))] := hD
  obtain rfl : r4194 = (-1) := hw
  refine lv_aload_n hx hb dL_law_383 rfl (lv_at hl 1 rfl) ?_
  refine lv_aload_n hx hb dL_law_384 rfl (lv_at hl 3 rfl) ?_
  refine lv_iload_n hx hb dL_law_385 rfl (lv_at hl 0 rfl) ?_
  refine lv_iconst (v := 1) hx hb dL_law_386 (by decide +kernel) ?_
  refine lv_iadd hx hb dL_law_387 ?_
  refine lv_topi (fun x4195 ex4195 => ?_)
  obtain rfl : x4195 = 1 := ex4195.trans (by decide +kernel)
  refine va_sld hx hb hX hbl hbA hS (by unfold vp_in; decide) dL_law_388 ?_
  refine lv_topi (fun x4196 ex4196 => ?_)
  obtain rfl : y1 = x4196 := (ex4196.trans ey1).symm
  refine lv_aload_n hx hb dL_law_389 rfl (lv_at hl 3 rfl) ?_
  refine lv_iload_n hx hb dL_law_390 rfl (lv_at hl 0 rfl) ?_
  refine lv_iconst (v := 2) hx hb dL_law_391 (by decide +kernel) ?_
  refine lv_iadd hx hb dL_law_392 ?_
  refine lv_topi (fun x4197 ex4197 => ?_)
  obtain rfl : x4197 = 2 := ex4197.trans (by decide +kernel)
  refine va_sld hx hb hX hbl hbA hS (by unfold vp_in; decide) dL_law_393 ?_
  refine lv_topi (fun x4198 ex4198 => ?_)
  obtain rfl : y2 = x4198 := (ex4198.trans ey2).symm
  have hPc := hP.sub (ws' := [(m0, .inr (12, (.ref q2712 :: .int 0 :: .int 0 :: .int 0 :: .int 0 :: .int 0 :: .int 0 :: .int 0 :: .int (-1) :: .int 0 :: .ref q2713 :: .ref q2714 :: .ref q2715 :: .ref q2716 :: .ref q2717 :: .ref q2718 :: .ref q2719 :: .ref q2720 :: .ref q2721 :: .ref q2722 :: .ref q2723 :: .ref q2724 :: .ref q2725 :: .int 0 :: .ref q2726 :: .ref q2727 :: .ref q2728 :: .int 0 :: .ref q2729 :: .ref q2730 :: .int 0 :: .ref q2731 :: .ref q2732 :: .ref q2733 :: .int 0 :: .int 0 :: .int 0 :: .ref q2734 :: .ref q2735 :: .int 0 :: .ref q2736 :: .ref q2737 :: .ref q2738 :: .ref q2739 :: .int 0 :: .ref q2740 :: .ref q2741 :: .int 0 :: .int 0 :: .ref q2742 :: .ref q2743 :: .int 0 :: .ref q2744 :: .ref q2745 :: .ref q2746 :: .ref q2747 :: .int 0 :: .ref q2748 :: .ref q2749 :: .int 0 :: .ref q2750 :: .ref q2751 :: .int 0 :: .ref q2752 :: .ref q2753 :: .int 0 :: .int 0 :: .ref q2754 :: .ref q2755 :: .ref q2756 :: .int 0 :: [])))]) [0] rfl
  have hDc := hD.sub (ws' := [(m0, .inr (12, (.ref q2712 :: .int 0 :: .int 0 :: .int 0 :: .int 0 :: .int 0 :: .int 0 :: .int 0 :: .int (-1) :: .int 0 :: .ref q2713 :: .ref q2714 :: .ref q2715 :: .ref q2716 :: .ref q2717 :: .ref q2718 :: .ref q2719 :: .ref q2720 :: .ref q2721 :: .ref q2722 :: .ref q2723 :: .ref q2724 :: .ref q2725 :: .int 0 :: .ref q2726 :: .ref q2727 :: .ref q2728 :: .int 0 :: .ref q2729 :: .ref q2730 :: .int 0 :: .ref q2731 :: .ref q2732 :: .ref q2733 :: .int 0 :: .int 0 :: .int 0 :: .ref q2734 :: .ref q2735 :: .int 0 :: .ref q2736 :: .ref q2737 :: .ref q2738 :: .ref q2739 :: .int 0 :: .ref q2740 :: .ref q2741 :: .int 0 :: .int 0 :: .ref q2742 :: .ref q2743 :: .int 0 :: .ref q2744 :: .ref q2745 :: .ref q2746 :: .ref q2747 :: .int 0 :: .ref q2748 :: .ref q2749 :: .int 0 :: .ref q2750 :: .ref q2751 :: .int 0 :: .ref q2752 :: .ref q2753 :: .int 0 :: .int 0 :: .ref q2754 :: .ref q2755 :: .ref q2756 :: .int 0 :: [])))]) [0] (by decide +kernel) rfl
  have hKc := hK.sub (tys' := []) [] rfl
  have hFc := va_free (wc := [(m0, .inr (12, (.ref q2712 :: .int 0 :: .int 0 :: .int 0 :: .int 0 :: .int 0 :: .int 0 :: .int 0 :: .int (-1) :: .int 0 :: .ref q2713 :: .ref q2714 :: .ref q2715 :: .ref q2716 :: .ref q2717 :: .ref q2718 :: .ref q2719 :: .ref q2720 :: .ref q2721 :: .ref q2722 :: .ref q2723 :: .ref q2724 :: .ref q2725 :: .int 0 :: .ref q2726 :: .ref q2727 :: .ref q2728 :: .int 0 :: .ref q2729 :: .ref q2730 :: .int 0 :: .ref q2731 :: .ref q2732 :: .ref q2733 :: .int 0 :: .int 0 :: .int 0 :: .ref q2734 :: .ref q2735 :: .int 0 :: .ref q2736 :: .ref q2737 :: .ref q2738 :: .ref q2739 :: .int 0 :: .ref q2740 :: .ref q2741 :: .int 0 :: .int 0 :: .ref q2742 :: .ref q2743 :: .int 0 :: .ref q2744 :: .ref q2745 :: .ref q2746 :: .ref q2747 :: .int 0 :: .ref q2748 :: .ref q2749 :: .int 0 :: .ref q2750 :: .ref q2751 :: .int 0 :: .ref q2752 :: .ref q2753 :: .int 0 :: .int 0 :: .ref q2754 :: .ref q2755 :: .ref q2756 :: .int 0 :: [])))]) hD hS hA [0] rfl
  refine va_calli (va_runV (As := [.int y1, .int y2]) (rest := [.int (-1)]) ⟨hx, hb, hml, hown, hts⟩ (c_X12_form_0 l dC dI H.size m0 q2712 q2713 q2714 q2715 q2716 q2717 q2718 q2719 q2720 q2721 q2722 q2723 q2724 q2725 q2726 q2727 q2728 q2729 q2730 q2731 q2732 q2733 q2734 q2735 q2736 q2737 q2738 q2739 q2740 q2741 q2742 q2743 q2744 q2745 q2746 q2747 q2748 q2749 q2750 q2751 q2752 q2753 q2754 q2755 q2756 y1 y2) (cwV 2 hts gv_L_law_X12_form_47 rfl rfl rfl (by decide +kernel) ⟨Nat.le_of_ble_eq_true rfl, Nat.le_of_ble_eq_true rfl⟩) ⟨fun a U g mk q => by obtain ⟨q0, q1, qP, qK, qD⟩ := q; exact ⟨q0, q1, qP, va_K.moved (u := U) (U := U.calling g mk a) (Vm.Alike.refl U.vm) qK, qD⟩, va_recv hKc hPc (ci := 12) (q0 := 0) rfl rfl, fun U hU hW => ⟨rfl, by rw [hU], by rw [hU]; exact hPc, va_K.moved hW.alike hKc, hDc.weaken (fun _ _ _ _ => trivial)⟩⟩ rfl rfl hl.1 rfl (lv_room (Nat.le_of_ble_eq_true rfl)) dL_law_394 ⟨Nat.le_of_ble_eq_true rfl, Nat.le_of_ble_eq_true rfl⟩) hS (fun q _ h => hFc q h) hFc (fun r4202 u t H1 locs ht hvm hw hB hz1 hk1 hS => ?_)
  obtain ⟨hP1, hK1, hD1⟩ := hB
  rw [ht] at hP1
  have hK1 := va_K.moved hvm.symm hK1
  obtain ⟨hP, hD⟩ := va_join (wr := []) (w1 := []) hP hD [0] [] rfl rfl (by decide +kernel) (by decide +kernel) hk1 hFc hP1 hD1
  have hK := (hK.sub (tys' := []) [] rfl).app hK1
  generalize H1 = H at hP hS ⊢
  have hK : va_K (dC, dI) vwCl [] s := hK
  have hP : va_P (dC, dI) vwCl [] H := hP
  have hD : va_D A [] := hD
  obtain rfl : r4202 = (-1) := hw
  refine lv_icmp_eq (tgt := 833) hx hb dL_law_397 (by decide +kernel) (fun _ => ?_) (fun h => absurd (by decide +kernel) h)
  refine lv_iinc (v := 6) (lv' := [(3, .int 6), (2, .ref m0), (1, .ref x0), (0, .ref b)]) hx hb dL_law_833 hl (k := 0) rfl (by decide +kernel) (by decide +kernel) rfl (fun ls hl => ?_)
  refine lv_goto (tgt := 18) hx hb dL_law_836 (by decide +kernel) ?_
  refine lv_iload_n hx hb dL_law_18 rfl (lv_at hl 0 rfl) ?_
  refine lv_aload_n hx hb dL_law_19 rfl (lv_at hl 3 rfl) ?_
  refine va_slen hx hb hX hbl hbA hS dL_law_20 ?_
  refine lv_topi (fun x4203 ex4203 => ?_)
  obtain rfl : x4203 = 6 := ex4203.trans (by decide +kernel)
  refine lv_bipush (v := 6) hx hb dL_law_21 (by decide +kernel) ?_
  refine lv_isub hx hb dL_law_23 ?_
  refine lv_topi (fun x4204 ex4204 => ?_)
  obtain rfl : x4204 = 0 := ex4204.trans (by decide +kernel)
  refine lv_icmp_gt (tgt := 839) hx hb dL_law_24 (by decide +kernel) (fun _ => ?_) (fun h => absurd (by decide +kernel) h)
  refine lv_iconst (v := 1) hx hb dL_law_839 (by decide +kernel) ?_
  refine va_forget (fun q hq => hAl _ (hS.2.2 q hq)) ?_
  refine W.widen (k := 600000) (n := 7302250) (by omega) (by omega) ?_
  exact lw_ret hx hb hr hlocks dL_law_840
set_option maxHeartbeats 4000000 in
set_option maxRecDepth 100000 in
theorem law_8 {p : Program} {e : Env} {s : State} {m : MethodId} {below : List Frame} {meth : Method} {c : Code} (l : Launch) {b : Nat} {xs : Nat → Int32} {A : Nat → Prop} {dC : Nat → ClassId} {dI : Nat → Nat → Nat} (C0 : lw_At p s m meth c b 6 xs) (hA : ∀ q : Nat, s.heap.size ≤ q → A q) (hbA : ¬ A b) (hAl : ∀ q : Nat, A q → s.heap.size ≤ q) (hE : EnvOK s) {y1 : Int32} (ey1 : xs (Int32.toNatClampNeg 1) = y1) {x0 : Nat} {q1111 : Nat} {q1112 : Nat} {q1113 : Nat} {q1114 : Nat} {q1115 : Nat} {q1116 : Nat} {q1117 : Nat} {q1118 : Nat} {q1119 : Nat} {q1120 : Nat} {q1121 : Nat} {q1122 : Nat} {q1123 : Nat} {q1124 : Nat} {m0 : Nat} {q2712 : Nat} {q2713 : Nat} {q2714 : Nat} {q2715 : Nat} {q2716 : Nat} {q2717 : Nat} {q2718 : Nat} {q2719 : Nat} {q2720 : Nat} {q2721 : Nat} {q2722 : Nat} {q2723 : Nat} {q2724 : Nat} {q2725 : Nat} {q2726 : Nat} {q2727 : Nat} {q2728 : Nat} {q2729 : Nat} {q2730 : Nat} {q2731 : Nat} {q2732 : Nat} {q2733 : Nat} {q2734 : Nat} {q2735 : Nat} {q2736 : Nat} {q2737 : Nat} {q2738 : Nat} {q2739 : Nat} {q2740 : Nat} {q2741 : Nat} {q2742 : Nat} {q2743 : Nat} {q2744 : Nat} {q2745 : Nat} {q2746 : Nat} {q2747 : Nat} {q2748 : Nat} {q2749 : Nat} {q2750 : Nat} {q2751 : Nat} {q2752 : Nat} {q2753 : Nat} {q2754 : Nat} {q2755 : Nat} {q2756 : Nat} {H : Heap} {locs : List Loc} {ls : Array Slot} (hK : va_K (dC, dI) vwCl [] s) (hP : va_P (dC, dI) vwCl [(x0, .inr (11, [.ref q1111, .ref q1112, .int 0, .int (-1), .ref q1113, .ref q1114, .ref q1115, .ref q1116, .ref q1117, .ref q1118, .ref q1119, .int 0, .ref q1120, .int 0, .ref q1121, .ref q1122, .ref q1123])), (q1111, .inr (7, [.ref q1124, .int 0])), (m0, .inr (12, (.ref q2712 :: .int 0 :: .int 0 :: .int 0 :: .int 0 :: .int 0 :: .int 0 :: .int 0 :: .int (-1) :: .int 0 :: .ref q2713 :: .ref q2714 :: .ref q2715 :: .ref q2716 :: .ref q2717 :: .ref q2718 :: .ref q2719 :: .ref q2720 :: .ref q2721 :: .ref q2722 :: .ref q2723 :: .ref q2724 :: .ref q2725 :: .int 0 :: .ref q2726 :: .ref q2727 :: .ref q2728 :: .int 0 :: .ref q2729 :: .ref q2730 :: .int 0 :: .ref q2731 :: .ref q2732 :: .ref q2733 :: .int 0 :: .int 0 :: .int 0 :: .ref q2734 :: .ref q2735 :: .int 0 :: .ref q2736 :: .ref q2737 :: .ref q2738 :: .ref q2739 :: .int 0 :: .ref q2740 :: .ref q2741 :: .int 0 :: .int 0 :: .ref q2742 :: .ref q2743 :: .int 0 :: .ref q2744 :: .ref q2745 :: .ref q2746 :: .ref q2747 :: .int 0 :: .ref q2748 :: .ref q2749 :: .int 0 :: .ref q2750 :: .ref q2751 :: .int 0 :: .ref q2752 :: .ref q2753 :: .int 0 :: .int 0 :: .ref q2754 :: .ref q2755 :: .ref q2756 :: .int 0 :: [])))] H) (hD : va_D A [(x0, .inr (11, [.ref q1111, .ref q1112, .int 0, .int (-1), .ref q1113, .ref q1114, .ref q1115, .ref q1116, .ref q1117, .ref q1118, .ref q1119, .int 0, .ref q1120, .int 0, .ref q1121, .ref q1122, .ref q1123])), (q1111, .inr (7, [.ref q1124, .int 0])), (m0, .inr (12, (.ref q2712 :: .int 0 :: .int 0 :: .int 0 :: .int 0 :: .int 0 :: .int 0 :: .int 0 :: .int (-1) :: .int 0 :: .ref q2713 :: .ref q2714 :: .ref q2715 :: .ref q2716 :: .ref q2717 :: .ref q2718 :: .ref q2719 :: .ref q2720 :: .ref q2721 :: .ref q2722 :: .ref q2723 :: .ref q2724 :: .ref q2725 :: .int 0 :: .ref q2726 :: .ref q2727 :: .ref q2728 :: .int 0 :: .ref q2729 :: .ref q2730 :: .int 0 :: .ref q2731 :: .ref q2732 :: .ref q2733 :: .int 0 :: .int 0 :: .int 0 :: .ref q2734 :: .ref q2735 :: .int 0 :: .ref q2736 :: .ref q2737 :: .ref q2738 :: .ref q2739 :: .int 0 :: .ref q2740 :: .ref q2741 :: .int 0 :: .int 0 :: .ref q2742 :: .ref q2743 :: .int 0 :: .ref q2744 :: .ref q2745 :: .ref q2746 :: .ref q2747 :: .int 0 :: .ref q2748 :: .ref q2749 :: .int 0 :: .ref q2750 :: .ref q2751 :: .int 0 :: .ref q2752 :: .ref q2753 :: .int 0 :: .int 0 :: .ref q2754 :: .ref q2755 :: .ref q2756 :: .int 0 :: [])))]) (hS : va_S A s.heap H locs) (hl : lv_has ls 4 [(3, .int 0), (2, .ref m0), (1, .ref x0), (0, .ref b)]) : W p l e room_1 s m #[Value.ref b] below meth c H locs 126 277922 (lw_Z below #[Value.ref b] s) (F0 m 402 ls []) := by
  obtain ⟨hx, hb, hr, hml, hown, hts, hX, hbl, hlocks, hgv⟩ := C0
  have hts := fun w h => hts w (wmL_law_in w h)
  have hS : va_S A s.heap H locs := hS
  refine lv_aload_n hx hb dL_law_402 rfl (lv_at hl 2 rfl) ?_
  refine lv_aload_n hx hb dL_law_403 rfl (lv_at hl 3 rfl) ?_
  refine lv_iload_n hx hb dL_law_404 rfl (lv_at hl 0 rfl) ?_
  refine lv_iconst (v := 1) hx hb dL_law_405 (by decide +kernel) ?_
  refine lv_iadd hx hb dL_law_406 ?_
  refine lv_topi (fun x4205 ex4205 => ?_)
  obtain rfl : x4205 = 1 := ex4205.trans (by decide +kernel)
  refine va_sld hx hb hX hbl hbA hS (by unfold vp_in; decide) dL_law_407 ?_
  refine lv_topi (fun x4206 ex4206 => ?_)
  obtain rfl : y1 = x4206 := (ex4206.trans ey1).symm
  have hPc := hP.sub (ws' := [(x0, .inr (11, [.ref q1111, .ref q1112, .int 0, .int (-1), .ref q1113, .ref q1114, .ref q1115, .ref q1116, .ref q1117, .ref q1118, .ref q1119, .int 0, .ref q1120, .int 0, .ref q1121, .ref q1122, .ref q1123])), (q1111, .inr (7, [.ref q1124, .int 0]))]) [0, 1] rfl
  have hDc := hD.sub (ws' := [(x0, .inr (11, [.ref q1111, .ref q1112, .int 0, .int (-1), .ref q1113, .ref q1114, .ref q1115, .ref q1116, .ref q1117, .ref q1118, .ref q1119, .int 0, .ref q1120, .int 0, .ref q1121, .ref q1122, .ref q1123])), (q1111, .inr (7, [.ref q1124, .int 0]))]) [0, 1] (by decide +kernel) rfl
  have hKc := hK.sub (tys' := []) [] rfl
  have hFc := va_free (wc := [(x0, .inr (11, [.ref q1111, .ref q1112, .int 0, .int (-1), .ref q1113, .ref q1114, .ref q1115, .ref q1116, .ref q1117, .ref q1118, .ref q1119, .int 0, .ref q1120, .int 0, .ref q1121, .ref q1122, .ref q1123])), (q1111, .inr (7, [.ref q1124, .int 0]))]) hD hS hA [0, 1] rfl
  refine va_calli (va_runV (As := [.int y1]) (rest := []) ⟨hx, hb, hml, hown, hts⟩ (c_X11_partings_0 l dC dI H.size x0 q1111 q1112 q1113 q1114 q1115 q1116 q1117 q1118 q1119 q1120 q1121 q1122 q1123 q1124 y1) (cwV 1 hts gv_L_law_X11_partings_48 rfl rfl rfl (by decide +kernel) ⟨Nat.le_of_ble_eq_true rfl, Nat.le_of_ble_eq_true rfl⟩) ⟨fun a U g mk q => by obtain ⟨q0, q1, qP, qK, qD⟩ := q; exact ⟨q0, q1, qP, va_K.moved (u := U) (U := U.calling g mk a) (Vm.Alike.refl U.vm) qK, qD⟩, va_recv hKc hPc (ci := 11) (q0 := 0) rfl rfl, fun U hU hW => ⟨rfl, by rw [hU], by rw [hU]; exact hPc, va_K.moved hW.alike hKc, hDc.weaken (fun _ _ _ _ => trivial)⟩⟩ rfl rfl hl.1 rfl (lv_room (Nat.le_of_ble_eq_true rfl)) dL_law_408 ⟨Nat.le_of_ble_eq_true rfl, Nat.le_of_ble_eq_true rfl⟩) hS (fun q _ h => hFc q h) hFc (fun r4209 u t H1 locs ht hvm hw hB hz1 hk1 hS => ?_)
  obtain ⟨hP1, hK1, hD1⟩ := hB
  rw [ht] at hP1
  have hK1 := va_K.moved hvm.symm hK1
  obtain ⟨hP, hD⟩ := va_join (wr := [(m0, .inr (12, (.ref q2712 :: .int 0 :: .int 0 :: .int 0 :: .int 0 :: .int 0 :: .int 0 :: .int 0 :: .int (-1) :: .int 0 :: .ref q2713 :: .ref q2714 :: .ref q2715 :: .ref q2716 :: .ref q2717 :: .ref q2718 :: .ref q2719 :: .ref q2720 :: .ref q2721 :: .ref q2722 :: .ref q2723 :: .ref q2724 :: .ref q2725 :: .int 0 :: .ref q2726 :: .ref q2727 :: .ref q2728 :: .int 0 :: .ref q2729 :: .ref q2730 :: .int 0 :: .ref q2731 :: .ref q2732 :: .ref q2733 :: .int 0 :: .int 0 :: .int 0 :: .ref q2734 :: .ref q2735 :: .int 0 :: .ref q2736 :: .ref q2737 :: .ref q2738 :: .ref q2739 :: .int 0 :: .ref q2740 :: .ref q2741 :: .int 0 :: .int 0 :: .ref q2742 :: .ref q2743 :: .int 0 :: .ref q2744 :: .ref q2745 :: .ref q2746 :: .ref q2747 :: .int 0 :: .ref q2748 :: .ref q2749 :: .int 0 :: .ref q2750 :: .ref q2751 :: .int 0 :: .ref q2752 :: .ref q2753 :: .int 0 :: .int 0 :: .ref q2754 :: .ref q2755 :: .ref q2756 :: .int 0 :: [])))]) (w1 := []) hP hD [0, 1] [2] rfl rfl (by decide +kernel) (by decide +kernel) hk1 hFc hP1 hD1
  have hK := (hK.sub (tys' := []) [] rfl).app hK1
  generalize H1 = H at hP hS ⊢
  have hK : va_K (dC, dI) vwCl [] s := hK
  have hP : va_P (dC, dI) vwCl [(m0, .inr (12, (.ref q2712 :: .int 0 :: .int 0 :: .int 0 :: .int 0 :: .int 0 :: .int 0 :: .int 0 :: .int (-1) :: .int 0 :: .ref q2713 :: .ref q2714 :: .ref q2715 :: .ref q2716 :: .ref q2717 :: .ref q2718 :: .ref q2719 :: .ref q2720 :: .ref q2721 :: .ref q2722 :: .ref q2723 :: .ref q2724 :: .ref q2725 :: .int 0 :: .ref q2726 :: .ref q2727 :: .ref q2728 :: .int 0 :: .ref q2729 :: .ref q2730 :: .int 0 :: .ref q2731 :: .ref q2732 :: .ref q2733 :: .int 0 :: .int 0 :: .int 0 :: .ref q2734 :: .ref q2735 :: .int 0 :: .ref q2736 :: .ref q2737 :: .ref q2738 :: .ref q2739 :: .int 0 :: .ref q2740 :: .ref q2741 :: .int 0 :: .int 0 :: .ref q2742 :: .ref q2743 :: .int 0 :: .ref q2744 :: .ref q2745 :: .ref q2746 :: .ref q2747 :: .int 0 :: .ref q2748 :: .ref q2749 :: .int 0 :: .ref q2750 :: .ref q2751 :: .int 0 :: .ref q2752 :: .ref q2753 :: .int 0 :: .int 0 :: .ref q2754 :: .ref q2755 :: .ref q2756 :: .int 0 :: [])))] H := hP
  have hD : va_D A [(m0, .inr (12, (.ref q2712 :: .int 0 :: .int 0 :: .int 0 :: .int 0 :: .int 0 :: .int 0 :: .int 0 :: .int (-1) :: .int 0 :: .ref q2713 :: .ref q2714 :: .ref q2715 :: .ref q2716 :: .ref q2717 :: .ref q2718 :: .ref q2719 :: .ref q2720 :: .ref q2721 :: .ref q2722 :: .ref q2723 :: .ref q2724 :: .ref q2725 :: .int 0 :: .ref q2726 :: .ref q2727 :: .ref q2728 :: .int 0 :: .ref q2729 :: .ref q2730 :: .int 0 :: .ref q2731 :: .ref q2732 :: .ref q2733 :: .int 0 :: .int 0 :: .int 0 :: .ref q2734 :: .ref q2735 :: .int 0 :: .ref q2736 :: .ref q2737 :: .ref q2738 :: .ref q2739 :: .int 0 :: .ref q2740 :: .ref q2741 :: .int 0 :: .int 0 :: .ref q2742 :: .ref q2743 :: .int 0 :: .ref q2744 :: .ref q2745 :: .ref q2746 :: .ref q2747 :: .int 0 :: .ref q2748 :: .ref q2749 :: .int 0 :: .ref q2750 :: .ref q2751 :: .int 0 :: .ref q2752 :: .ref q2753 :: .int 0 :: .int 0 :: .ref q2754 :: .ref q2755 :: .ref q2756 :: .int 0 :: [])))] := hD
  obtain rfl : r4209 = (-2) := hw
  refine lv_aload_n hx hb dL_law_411 rfl (lv_at hl 1 rfl) ?_
  refine lv_aload_n hx hb dL_law_412 rfl (lv_at hl 3 rfl) ?_
  refine lv_iload_n hx hb dL_law_413 rfl (lv_at hl 0 rfl) ?_
  refine lv_iconst (v := 1) hx hb dL_law_414 (by decide +kernel) ?_
  refine lv_iadd hx hb dL_law_415 ?_
  refine lv_topi (fun x4210 ex4210 => ?_)
  obtain rfl : x4210 = 1 := ex4210.trans (by decide +kernel)
  refine va_sld hx hb hX hbl hbA hS (by unfold vp_in; decide) dL_law_416 ?_
  refine lv_topi (fun x4211 ex4211 => ?_)
  obtain rfl : y1 = x4211 := (ex4211.trans ey1).symm
  have hPc := hP.sub (ws' := [(m0, .inr (12, (.ref q2712 :: .int 0 :: .int 0 :: .int 0 :: .int 0 :: .int 0 :: .int 0 :: .int 0 :: .int (-1) :: .int 0 :: .ref q2713 :: .ref q2714 :: .ref q2715 :: .ref q2716 :: .ref q2717 :: .ref q2718 :: .ref q2719 :: .ref q2720 :: .ref q2721 :: .ref q2722 :: .ref q2723 :: .ref q2724 :: .ref q2725 :: .int 0 :: .ref q2726 :: .ref q2727 :: .ref q2728 :: .int 0 :: .ref q2729 :: .ref q2730 :: .int 0 :: .ref q2731 :: .ref q2732 :: .ref q2733 :: .int 0 :: .int 0 :: .int 0 :: .ref q2734 :: .ref q2735 :: .int 0 :: .ref q2736 :: .ref q2737 :: .ref q2738 :: .ref q2739 :: .int 0 :: .ref q2740 :: .ref q2741 :: .int 0 :: .int 0 :: .ref q2742 :: .ref q2743 :: .int 0 :: .ref q2744 :: .ref q2745 :: .ref q2746 :: .ref q2747 :: .int 0 :: .ref q2748 :: .ref q2749 :: .int 0 :: .ref q2750 :: .ref q2751 :: .int 0 :: .ref q2752 :: .ref q2753 :: .int 0 :: .int 0 :: .ref q2754 :: .ref q2755 :: .ref q2756 :: .int 0 :: [])))]) [0] rfl
  have hDc := hD.sub (ws' := [(m0, .inr (12, (.ref q2712 :: .int 0 :: .int 0 :: .int 0 :: .int 0 :: .int 0 :: .int 0 :: .int 0 :: .int (-1) :: .int 0 :: .ref q2713 :: .ref q2714 :: .ref q2715 :: .ref q2716 :: .ref q2717 :: .ref q2718 :: .ref q2719 :: .ref q2720 :: .ref q2721 :: .ref q2722 :: .ref q2723 :: .ref q2724 :: .ref q2725 :: .int 0 :: .ref q2726 :: .ref q2727 :: .ref q2728 :: .int 0 :: .ref q2729 :: .ref q2730 :: .int 0 :: .ref q2731 :: .ref q2732 :: .ref q2733 :: .int 0 :: .int 0 :: .int 0 :: .ref q2734 :: .ref q2735 :: .int 0 :: .ref q2736 :: .ref q2737 :: .ref q2738 :: .ref q2739 :: .int 0 :: .ref q2740 :: .ref q2741 :: .int 0 :: .int 0 :: .ref q2742 :: .ref q2743 :: .int 0 :: .ref q2744 :: .ref q2745 :: .ref q2746 :: .ref q2747 :: .int 0 :: .ref q2748 :: .ref q2749 :: .int 0 :: .ref q2750 :: .ref q2751 :: .int 0 :: .ref q2752 :: .ref q2753 :: .int 0 :: .int 0 :: .ref q2754 :: .ref q2755 :: .ref q2756 :: .int 0 :: [])))]) [0] (by decide +kernel) rfl
  have hKc := hK.sub (tys' := []) [] rfl
  have hFc := va_free (wc := [(m0, .inr (12, (.ref q2712 :: .int 0 :: .int 0 :: .int 0 :: .int 0 :: .int 0 :: .int 0 :: .int 0 :: .int (-1) :: .int 0 :: .ref q2713 :: .ref q2714 :: .ref q2715 :: .ref q2716 :: .ref q2717 :: .ref q2718 :: .ref q2719 :: .ref q2720 :: .ref q2721 :: .ref q2722 :: .ref q2723 :: .ref q2724 :: .ref q2725 :: .int 0 :: .ref q2726 :: .ref q2727 :: .ref q2728 :: .int 0 :: .ref q2729 :: .ref q2730 :: .int 0 :: .ref q2731 :: .ref q2732 :: .ref q2733 :: .int 0 :: .int 0 :: .int 0 :: .ref q2734 :: .ref q2735 :: .int 0 :: .ref q2736 :: .ref q2737 :: .ref q2738 :: .ref q2739 :: .int 0 :: .ref q2740 :: .ref q2741 :: .int 0 :: .int 0 :: .ref q2742 :: .ref q2743 :: .int 0 :: .ref q2744 :: .ref q2745 :: .ref q2746 :: .ref q2747 :: .int 0 :: .ref q2748 :: .ref q2749 :: .int 0 :: .ref q2750 :: .ref q2751 :: .int 0 :: .ref q2752 :: .ref q2753 :: .int 0 :: .int 0 :: .ref q2754 :: .ref q2755 :: .ref q2756 :: .int 0 :: [])))]) hD hS hA [0] rfl
  refine va_calli (va_runV (As := [.int y1]) (rest := [.int (-2)]) ⟨hx, hb, hml, hown, hts⟩ (c_X12_partings_0 l dC dI H.size m0 q2712 q2713 q2714 q2715 q2716 q2717 q2718 q2719 q2720 q2721 q2722 q2723 q2724 q2725 q2726 q2727 q2728 q2729 q2730 q2731 q2732 q2733 q2734 q2735 q2736 q2737 q2738 q2739 q2740 q2741 q2742 q2743 q2744 q2745 q2746 q2747 q2748 q2749 q2750 q2751 q2752 q2753 q2754 q2755 q2756 y1) (cwV 1 hts gv_L_law_X12_partings_51 rfl rfl rfl (by decide +kernel) ⟨Nat.le_of_ble_eq_true rfl, Nat.le_of_ble_eq_true rfl⟩) ⟨fun a U g mk q => by obtain ⟨q0, q1, qP, qK, qD⟩ := q; exact ⟨q0, q1, qP, va_K.moved (u := U) (U := U.calling g mk a) (Vm.Alike.refl U.vm) qK, qD⟩, va_recv hKc hPc (ci := 12) (q0 := 0) rfl rfl, fun U hU hW => ⟨rfl, by rw [hU], by rw [hU]; exact hPc, va_K.moved hW.alike hKc, hDc.weaken (fun _ _ _ _ => trivial)⟩⟩ rfl rfl hl.1 rfl (lv_room (Nat.le_of_ble_eq_true rfl)) dL_law_417 ⟨Nat.le_of_ble_eq_true rfl, Nat.le_of_ble_eq_true rfl⟩) hS (fun q _ h => hFc q h) hFc (fun r4212 u t H1 locs ht hvm hw hB hz1 hk1 hS => ?_)
  obtain ⟨hP1, hK1, hD1⟩ := hB
  rw [ht] at hP1
  have hK1 := va_K.moved hvm.symm hK1
  obtain ⟨hP, hD⟩ := va_join (wr := []) (w1 := []) hP hD [0] [] rfl rfl (by decide +kernel) (by decide +kernel) hk1 hFc hP1 hD1
  have hK := (hK.sub (tys' := []) [] rfl).app hK1
  generalize H1 = H at hP hS ⊢
  have hK : va_K (dC, dI) vwCl [] s := hK
  have hP : va_P (dC, dI) vwCl [] H := hP
  have hD : va_D A [] := hD
  obtain rfl : r4212 = (-2) := hw
  refine lv_icmp_eq (tgt := 833) hx hb dL_law_420 (by decide +kernel) (fun _ => ?_) (fun h => absurd (by decide +kernel) h)
  refine lv_iinc (v := 6) (lv' := [(3, .int 6), (2, .ref m0), (1, .ref x0), (0, .ref b)]) hx hb dL_law_833 hl (k := 0) rfl (by decide +kernel) (by decide +kernel) rfl (fun ls hl => ?_)
  refine lv_goto (tgt := 18) hx hb dL_law_836 (by decide +kernel) ?_
  refine lv_iload_n hx hb dL_law_18 rfl (lv_at hl 0 rfl) ?_
  refine lv_aload_n hx hb dL_law_19 rfl (lv_at hl 3 rfl) ?_
  refine va_slen hx hb hX hbl hbA hS dL_law_20 ?_
  refine lv_topi (fun x4213 ex4213 => ?_)
  obtain rfl : x4213 = 6 := ex4213.trans (by decide +kernel)
  refine lv_bipush (v := 6) hx hb dL_law_21 (by decide +kernel) ?_
  refine lv_isub hx hb dL_law_23 ?_
  refine lv_topi (fun x4214 ex4214 => ?_)
  obtain rfl : x4214 = 0 := ex4214.trans (by decide +kernel)
  refine lv_icmp_gt (tgt := 839) hx hb dL_law_24 (by decide +kernel) (fun _ => ?_) (fun h => absurd (by decide +kernel) h)
  refine lv_iconst (v := 1) hx hb dL_law_839 (by decide +kernel) ?_
  refine va_forget (fun q hq => hAl _ (hS.2.2 q hq)) ?_
  refine W.widen (k := 600000) (n := 7302250) (by omega) (by omega) ?_
  exact lw_ret hx hb hr hlocks dL_law_840
